theorem rExp_sh {pr pr2 : Nat → Int32} {pv pv2 : Nat → Int64} : ∀ {E : List xP} {b b2 : Nat}, (∀ i, i < E.length → pr2 (b2 + i) = pr (b + i) ∧ pv2 (b2 + i) = pv (b + i)) → rExp pr pv b E → rExp pr2 pv2 b2 E
  | [], _, _, _, _ => trivial
  | p :: E, b, b2, h, hx => by
    have h0 := h 0 (by show 0 < E.length + 1; omega)
    rw [Nat.add_zero, Nat.add_zero] at h0
    refine ⟨by rw [h0.1, h0.2]; exact hx.1, rExp_sh (b := b + 1) (b2 := b2 + 1) (fun i hi => ?_) hx.2⟩
    have h1 := h (i + 1) (by show i + 1 < E.length + 1; omega)
    rw [show b2 + 1 + i = b2 + (i + 1) by omega, show b + 1 + i = b + (i + 1) by omega]
    exact h1
theorem rExp_app {pr : Nat → Int32} {pv : Nat → Int64} : ∀ {E F : List xP} {b : Nat}, rExp pr pv b E → rExp pr pv (b + E.length) F → rExp pr pv b (E ++ F)
  | [], F, b, _, h2 => h2
  | p :: E, F, b, h1, h2 => ⟨h1.1, rExp_app h1.2 (by rw [show b + 1 + E.length = b + (E.length + 1) by omega]; exact h2)⟩
theorem beq_t {a b : Bool} (h : (a == b) = true) : a = b := by cases a <;> cases b <;> first | rfl | cases h
theorem rExp_two {h : qH} {j op : Nat} {E1 E2 : List xP} (ho : op < 10) (h1 : rExp (h.1 126) (h.2.1 127) (24 * j) E1) (h2 : rExp (h.1 126) (h.2.1 127) (24 * (j + 1)) E2) (hl : 1 + E1.length + E2.length ≤ 24) : rExp (va_up (va_cpy (h.1 126) (h.1 126) (24 * (j + 1)) (24 * j + E1.length) E2.length) (24 * j + (1 + E1.length + E2.length) - 1) (nI op)) (va_cpy (h.2.1 127) (h.2.1 127) (24 * (j + 1)) (24 * j + E1.length) E2.length) (24 * j) (E1 ++ E2 ++ [(op, 0)]) := by
  have a1 : ∀ x, 24 * j ≤ x → x < 24 * j + E1.length → va_up (va_cpy (h.1 126) (h.1 126) (24 * (j + 1)) (24 * j + E1.length) E2.length) (24 * j + (1 + E1.length + E2.length) - 1) (nI op) x = h.1 126 x ∧ va_cpy (h.2.1 127) (h.2.1 127) (24 * (j + 1)) (24 * j + E1.length) E2.length x = h.2.1 127 x := fun x x1 x2 => by
    rw [qun (by omega)]
    unfold va_cpy
    rw [if_neg (by omega), if_neg (by omega)]
    exact ⟨rfl, rfl⟩
  have a2 : ∀ i, i < E2.length → va_up (va_cpy (h.1 126) (h.1 126) (24 * (j + 1)) (24 * j + E1.length) E2.length) (24 * j + (1 + E1.length + E2.length) - 1) (nI op) (24 * j + E1.length + i) = h.1 126 (24 * (j + 1) + i) ∧ va_cpy (h.2.1 127) (h.2.1 127) (24 * (j + 1)) (24 * j + E1.length) E2.length (24 * j + E1.length + i) = h.2.1 127 (24 * (j + 1) + i) := fun i hi => by
    rw [qun (by omega)]
    unfold va_cpy
    rw [if_pos (by omega), if_pos (by omega), show 24 * (j + 1) + (24 * j + E1.length + i - (24 * j + E1.length)) = 24 * (j + 1) + i by omega]
    exact ⟨rfl, rfl⟩
  refine rExp_app (rExp_app (rExp_up a1 h1) (rExp_sh a2 h2)) ⟨?_, trivial⟩
  rw [List.length_append, show 24 * j + (E1.length + E2.length) = 24 * j + (1 + E1.length + E2.length) - 1 by omega, qus]
  exact Or.inl ⟨ho, rfl⟩
theorem cp_k {h : qH} {j n m x : Nat} (hn : 1 + n + m ≤ 24) (hx : x < 24 * j ∨ 24 * j + 24 ≤ x) {v : Int32} : va_up (va_cpy (h.1 126) (h.1 126) (24 * (j + 1)) (24 * j + n) m) (24 * j + (1 + n + m) - 1) v x = h.1 126 x ∧ va_cpy (h.2.1 127) (h.2.1 127) (24 * (j + 1)) (24 * j + n) m x = h.2.1 127 x := by
  rw [qun (by omega)]
  unfold va_cpy
  rw [if_neg (by omega), if_neg (by omega)]
  exact ⟨rfl, rfl⟩
theorem rExp_one {h : qH} {j op : Nat} {E1 : List xP} (ho : op < 10) (h1 : rExp (h.1 126) (h.2.1 127) (24 * j) E1) : rExp (va_up (h.1 126) (24 * j + (1 + E1.length) - 1) (nI op)) (h.2.1 127) (24 * j) (E1 ++ [(op, 0)]) := by
  refine rExp_app (rExp_up (fun x x1 x2 => ⟨qun (by omega), rfl⟩) h1) ⟨?_, trivial⟩
  rw [show 24 * j + E1.length = 24 * j + (1 + E1.length) - 1 by omega, qus]
  exact Or.inl ⟨ho, rfl⟩
set_option maxRecDepth 100000 in
set_option maxHeartbeats 4000000 in
theorem op_operate (op : Int32) : OpI mi_QF_operate mi_QM_operate [.int op] := by
  intro N h hN hI
  have hI0 := hI
  obtain ⟨pp, ti, tn, rt, bg, kd, fi, se, le, ri, dep, EE, tr, nc, no, ok, gr, ob, dw, lm, RES, rs, wd, cn, ps, p, on, wk, nt, kt, pt, tq, dn, tm, ig, s, Q, ud, s2, qn, qt, qa, hC, hM, hP⟩ := hI
  obtain ⟨hS, hT, h3, hE, hX, hRs, hJ⟩ := hC
  obtain ⟨mR, mT, m1, mE, mX, mRs, mJ⟩ := hM
  obtain ⟨gQ, gR, gJ⟩ := hP
  have gQ0 := gQ
  obtain ⟨q1, q2, q3, q4, q5, q6, q7, q8, q9, q10, q11, q12, q13⟩ := gQ
  have hC0 : CI h pp ti tn rt bg kd fi se le ri dep EE tr nc no ok gr ob dw lm RES rs wd cn ps p on wk nt kt pt tq dn tm ig s Q ud := ⟨hS, hT, h3, hE, hX, hRs, hJ⟩
  have hM0 : MI h ti tn rt bg kd fi se le ri dep EE tr nc no ok gr ob dw lm RES rs wd cn ps p on wk nt kt pt tq dn tm ig s2 qn qt qa := ⟨mR, mT, m1, mE, mX, mRs, mJ⟩
  have hl1 : ∀ i, i < dep → (EE i).length ≤ 24 := fun i hi => (hE.2.1 i hi).1.1
  have hl2 : ∀ c, c < nc → (EE (8 + c)).length ≤ 24 := fun c hc => (hE.2.2.1 c hc).1.1
  have hl3 : ∀ o, o < no → (EE (14 + o)).length ≤ 24 := fun o ho => by obtain ⟨t, ht⟩ := (hE.2.2.2 o ho).2; exact ht.1.1
  by_cases hg : ((bg && !on) && decide (0 ≤ op ∧ op < nI 10)) = true
  · rw [Bool.and_eq_true] at hg
    obtain ⟨g1, g2⟩ := hg
    have b1 : bg = true := by cases bg <;> first | rfl | cases g1
    have e1 : on = false := by cases on <;> first | rfl | (rw [b1] at g1; cases g1)
    have hb : h.1 3 0 = b2i true := by rw [← b1]; exact h3.1
    have ho : h.1 83 0 = b2i false := by rw [← e1]; exact hJ.1
    obtain ⟨k, hk, rfl⟩ := in_of (by omega) g2
    by_cases hk8 : k < 8
    · have kx := ct_QF_operate hS.1 hb ho k hk _ (fun v h1 n q => ⟨_, q.1⟩) (ct_Qu_apply_two k hk8 pp hE.1 dep q6 h3.2.2.2.2.2.2.1 EE tr hE.2.1)
      have ky := fun (h1 : qH) (hM1 : MI h1 ti tn rt bg kd fi se le ri dep EE tr nc no ok gr ob dw lm RES rs wd cn ps p on wk nt kt pt tq dn tm ig s2 qn qt qa) => ct_QM_operate_two (h := h1) k hk8 hM1.1 bg on hM1.2.2.1.1 hM1.2.2.2.2.2.2.1 g1 dep q6 hM1.2.2.1.2.2.2.2.2.2.2.1 tr (fun i => (EE i).length) (fun i hi => (hM1.2.2.2.1.1 i hi).2.2) (fun i hi => (hM1.2.2.2.1.1 i hi).1) hl1
      by_cases hc : (decide (2 ≤ dep) && ((tr (dep - 2) == decide (6 ≤ k)) && ((tr (dep - 1) == decide (6 ≤ k)) && decide (1 + (EE (dep - 2)).length + (EE (dep - 1)).length ≤ 24)))) = true
      · rw [hc] at kx
        have ky2 := ky
        rw [hc] at ky2
        have hc0 := hc
        rw [Bool.and_eq_true, Bool.and_eq_true, Bool.and_eq_true] at hc
        obtain ⟨c1, c2, c3, c4⟩ := hc
        have c1 := of_decide_eq_true c1
        have c4 := of_decide_eq_true c4
        refine op_mo (z := b2i true) (dy := 1) (by omega) (by omega) kx (fun h1 => CI h1 pp ti tn rt bg kd fi se le ri ((dep - 2) + 1) (va_up EE (dep - 2) (EE (dep - 2) ++ EE (dep - 1) ++ [(k, 0)])) (va_up tr (dep - 2) (decide (4 ≤ k))) nc no ok gr ob dw lm RES rs wd cn ps p on wk nt kt pt tq dn tm ig s Q ud ∧ MI h1 ti tn rt bg kd fi se le ri dep EE tr nc no ok gr ob dw lm RES rs wd cn ps p on wk nt kt pt tq dn tm ig s2 qn qt qa) ?_ ?_
        · rintro v h1 n ⟨e1, e2, e3⟩
          rcases e2 with ⟨e2, _⟩ | ⟨_, s2, e2, hs2⟩
          · cases e2
          · subst e2
            have he := hE.1.1 (dep - 2) (by omega)
            exact ⟨e1, ⟨CI_q (fun a ha _ => xr_fr he ha) (fun a _ _ _ => rfl) (by
              have e7 : ∀ f, f ≠ 7 → (qpI (xR h (pp (dep - 2)) s2) 3 7 (nI ((dep - 2) + 1))).1 3 f = h.1 3 f := fun f hf => (qI_ne hf).trans (congrFun (xR_3 he) f)
              unfold cQ3
              rw [e7 0 (by omega), e7 1 (by omega), e7 2 (by omega), e7 3 (by omega), e7 4 (by omega), e7 5 (by omega), e7 9 (by omega), e7 12 (by omega), e7 13 (by omega), e7 14 (by omega), e7 15 (by omega), e7 16 (by omega)]
              exact ⟨h3.1, h3.2.1, h3.2.2.1, h3.2.2.2.1, h3.2.2.2.2.1, h3.2.2.2.2.2.1, rfl, h3.2.2.2.2.2.2.2.1, h3.2.2.2.2.2.2.2.2.1, h3.2.2.2.2.2.2.2.2.2.1, h3.2.2.2.2.2.2.2.2.2.2.1, h3.2.2.2.2.2.2.2.2.2.2.2.1, h3.2.2.2.2.2.2.2.2.2.2.2.2⟩) (cQe_push q6 q7 q8 (by omega) (by omega) (fun a _ _ => (qpI_o _ 3 7 _ a (by omega)).1) (xR58 he) rfl hs2 hE) hC0, MI_ag (fun a ha => ⟨(xr_fr he (by omega)).1, rfl, rfl⟩) hM0⟩, e3⟩
        · rintro h1 ⟨hC1, hM1⟩
          refine qT.imp ?_ (ky2 h1 hM1)
          rintro v h2 n ⟨e1, e2, e3⟩
          have e2 : h2 = (qpI (qpI (qpI (qpI (cpH h1 ((dep - 2) + 1) (dep - 2) ((EE (dep - 2)).length) ((EE (dep - 1)).length)) 126 (24 * (dep - 2) + (1 + (EE (dep - 2)).length + (EE (dep - 1)).length) - 1) (nI k)) 128 (dep - 2) (nI (1 + (EE (dep - 2)).length + (EE (dep - 1)).length))) 129 (dep - 2) (b2i (decide (3 < k)))) 122 13 (nI ((dep - 2) + 1))) := e2
          subst e2
          obtain ⟨mR, mT, m1, mE, mX, mRs, mJ⟩ := hM1
          have eL : (EE (dep - 2) ++ EE (dep - 1) ++ [(k, 0)]).length = (1 + (EE (dep - 2)).length + (EE (dep - 1)).length) := by rw [List.length_append, List.length_append]; show _ + _ + 1 = _; omega
          exact ⟨e1, ⟨pp, ti, tn, rt, bg, kd, fi, se, le, ri, ((dep - 2) + 1), (va_up EE (dep - 2) (EE (dep - 2) ++ EE (dep - 1) ++ [(k, 0)])), (va_up tr (dep - 2) (decide (4 ≤ k))), nc, no, ok, gr, ob, dw, lm, RES, rs, wd, cn, ps, p, on, wk, nt, kt, pt, tq, dn, tm, ig, s, Q, ud, s2, qn, qt, qa, CI_ag (h := h1) ⟨by omega, q7, q8⟩ (fun a ha => ⟨(qpI_o _ 122 _ _ a (by omega)).1.trans ((qpI_o _ 129 _ _ a (by omega)).1.trans ((qpI_o _ 128 _ _ a (by omega)).1.trans ((qpI_o _ 126 _ _ a (by omega)).1.trans (show (va_up h1.1 126 _) a = h1.1 a from qun (by omega))))), (show (va_up h1.2.1 127 _) a = h1.2.1 a from qun (by omega))⟩) rfl hC1, ⟨mR, mT, ⟨m1.1, m1.2.1, m1.2.2.1, m1.2.2.2.1, m1.2.2.2.2.1, m1.2.2.2.2.2.1, m1.2.2.2.2.2.2.1, rfl, m1.2.2.2.2.2.2.2.2.1, m1.2.2.2.2.2.2.2.2.2⟩, mQe_push (h := h1) (E := (EE (dep - 2) ++ EE (dep - 1) ++ [(k, 0)])) (t := (decide (4 ≤ k))) q7 q8 (by omega) (by omega) hl1 hl2 hl3 (by rw [eL]; rfl) rfl rfl (fun i hi => cp_k (h := h1) c4 hi) (rExp_two (h := h1) (by omega) (mE.1 (dep - 2) (by omega)).2.1 (by rw [show dep - 2 + 1 = dep - 1 by omega]; exact (mE.1 (dep - 1) (by omega)).2.1) c4) mE, mX, mRs, mJ⟩, gQ_push (by omega) (by omega) (by rw [show 8 - (dep - 2) = (8 - (dep - 1)) + 1 by omega]; exact xT_two (by rw [show (8 - (dep - 1)) + 1 = 8 - (dep - 2) by omega]; exact q11 (dep - 2) (by omega)) (q11 (dep - 1) (by omega)) hk8 (beq_t c2) (beq_t c3)) gQ0, gR, gJb_up gJ⟩, e3⟩
      · rw [bf hc] at kx
        have ky2 := ky h hM0
        rw [bf hc] at ky2
        exact op_ro (by omega) (by omega) hI0 (qT.imp (fun v h1 n q => ⟨q.1, (by rcases q.2.1 with ⟨_, z⟩ | ⟨z, _⟩; exact z.symm; cases z), q.2.2⟩) kx) (qT.imp (fun v h1 n q => ⟨q.1, q.2.1.symm, q.2.2⟩) ky2)
    · have kx := ct_QF_operate hS.1 hb ho k hk _ (fun v h1 n q => ⟨_, q.1⟩) (ct_Qu_apply_one k (by omega) (by omega) pp hE.1 dep q6 h3.2.2.2.2.2.2.1 EE tr hE.2.1)
      have ky := fun (h1 : qH) (hM1 : MI h1 ti tn rt bg kd fi se le ri dep EE tr nc no ok gr ob dw lm RES rs wd cn ps p on wk nt kt pt tq dn tm ig s2 qn qt qa) => ct_QM_operate_one (h := h1) k (by omega) (by omega) hM1.1 bg on hM1.2.2.1.1 hM1.2.2.2.2.2.2.1 g1 dep q6 hM1.2.2.1.2.2.2.2.2.2.2.1 tr (fun i => (EE i).length) (fun i hi => (hM1.2.2.2.1.1 i hi).2.2) (fun i hi => (hM1.2.2.2.1.1 i hi).1) hl1
      by_cases hc : (decide (1 ≤ dep) && ((tr (dep - 1) == decide (k = 8)) && decide (1 + (EE (dep - 1)).length ≤ 24))) = true
      · rw [hc] at kx
        have ky2 := ky
        rw [hc] at ky2
        have hc0 := hc
        rw [Bool.and_eq_true, Bool.and_eq_true] at hc
        obtain ⟨c1, c2, c4⟩ := hc
        have c1 := of_decide_eq_true c1
        have c4 := of_decide_eq_true c4
        refine op_mo (z := b2i true) (dy := 1) (by omega) (by omega) kx (fun h1 => CI h1 pp ti tn rt bg kd fi se le ri ((dep - 1) + 1) (va_up EE (dep - 1) (EE (dep - 1) ++ [(k, 0)])) (va_up tr (dep - 1) true) nc no ok gr ob dw lm RES rs wd cn ps p on wk nt kt pt tq dn tm ig s Q ud ∧ MI h1 ti tn rt bg kd fi se le ri dep EE tr nc no ok gr ob dw lm RES rs wd cn ps p on wk nt kt pt tq dn tm ig s2 qn qt qa) ?_ ?_
        · rintro v h1 n ⟨e1, e2, e3⟩
          rcases e2 with ⟨e2, _⟩ | ⟨_, s2, e2, hs2⟩
          · cases e2
          · subst e2
            have he := hE.1.1 (dep - 1) (by omega)
            exact ⟨e1, ⟨CI_q (fun a ha _ => xr_fr he ha) (fun a _ _ _ => rfl) (by
              have e7 : ∀ f, f ≠ 7 → (qpI (xR h (pp (dep - 1)) s2) 3 7 (nI ((dep - 1) + 1))).1 3 f = h.1 3 f := fun f hf => (qI_ne hf).trans (congrFun (xR_3 he) f)
              unfold cQ3
              rw [e7 0 (by omega), e7 1 (by omega), e7 2 (by omega), e7 3 (by omega), e7 4 (by omega), e7 5 (by omega), e7 9 (by omega), e7 12 (by omega), e7 13 (by omega), e7 14 (by omega), e7 15 (by omega), e7 16 (by omega)]
              exact ⟨h3.1, h3.2.1, h3.2.2.1, h3.2.2.2.1, h3.2.2.2.2.1, h3.2.2.2.2.2.1, rfl, h3.2.2.2.2.2.2.2.1, h3.2.2.2.2.2.2.2.2.1, h3.2.2.2.2.2.2.2.2.2.1, h3.2.2.2.2.2.2.2.2.2.2.1, h3.2.2.2.2.2.2.2.2.2.2.2.1, h3.2.2.2.2.2.2.2.2.2.2.2.2⟩) (cQe_push q6 q7 q8 (by omega) (by omega) (fun a _ _ => (qpI_o _ 3 7 _ a (by omega)).1) (xR58 he) rfl hs2 hE) hC0, MI_ag (fun a ha => ⟨(xr_fr he (by omega)).1, rfl, rfl⟩) hM0⟩, e3⟩
        · rintro h1 ⟨hC1, hM1⟩
          refine qT.imp ?_ (ky2 h1 hM1)
          rintro v h2 n ⟨e1, e2, e3⟩
          have e2 : h2 = (qpI (qpI (qpI (qpI h1 126 (24 * (dep - 1) + (1 + (EE (dep - 1)).length) - 1) (nI k)) 128 (dep - 1) (nI (1 + (EE (dep - 1)).length))) 129 (dep - 1) (nI 1)) 122 13 (nI ((dep - 1) + 1))) := e2
          subst e2
          obtain ⟨mR, mT, m1, mE, mX, mRs, mJ⟩ := hM1
          have eL : (EE (dep - 1) ++ [(k, 0)]).length = (1 + (EE (dep - 1)).length) := by rw [List.length_append]; show _ + 1 = _; omega
          exact ⟨e1, ⟨pp, ti, tn, rt, bg, kd, fi, se, le, ri, ((dep - 1) + 1), (va_up EE (dep - 1) (EE (dep - 1) ++ [(k, 0)])), (va_up tr (dep - 1) true), nc, no, ok, gr, ob, dw, lm, RES, rs, wd, cn, ps, p, on, wk, nt, kt, pt, tq, dn, tm, ig, s, Q, ud, s2, qn, qt, qa, CI_ag (h := h1) ⟨by omega, q7, q8⟩ (fun a ha => ⟨(qpI_o _ 122 _ _ a (by omega)).1.trans ((qpI_o _ 129 _ _ a (by omega)).1.trans ((qpI_o _ 128 _ _ a (by omega)).1.trans (qpI_o h1 126 _ _ a (by omega)).1)), rfl⟩) rfl hC1, ⟨mR, mT, ⟨m1.1, m1.2.1, m1.2.2.1, m1.2.2.2.1, m1.2.2.2.2.1, m1.2.2.2.2.2.1, m1.2.2.2.2.2.2.1, rfl, m1.2.2.2.2.2.2.2.2.1, m1.2.2.2.2.2.2.2.2.2⟩, mQe_push (h := h1) (E := (EE (dep - 1) ++ [(k, 0)])) (t := true) q7 q8 (by omega) (by omega) hl1 hl2 hl3 (by rw [eL]; rfl) rfl rfl (fun i hi => ⟨(show (va_up (h1.1 126) _ _) i = h1.1 126 i from qun (by omega)), rfl⟩) (rExp_one (h := h1) (by omega) (mE.1 (dep - 1) (by omega)).2.1) mE, mX, mRs, mJ⟩, gQ_push (by omega) (by omega) (xT_one (q11 (dep - 1) (by omega)) (by omega) (beq_t c2)) gQ0, gR, gJb_up gJ⟩, e3⟩
      · rw [bf hc] at kx
        have ky2 := ky h hM0
        rw [bf hc] at ky2
        exact op_ro (by omega) (by omega) hI0 (qT.imp (fun v h1 n q => ⟨q.1, (by rcases q.2.1 with ⟨_, z⟩ | ⟨z, _⟩; exact z.symm; cases z), q.2.2⟩) kx) (qT.imp (fun v h1 n q => ⟨q.1, q.2.1.symm, q.2.2⟩) ky2)
  · exact op_ro (by omega) (by omega) hI0 (ct_QF_operate_no hS.1 bg on h3.1 hJ.1 op (bf hg)) (ct_QM_operate_no op bg on m1.1 mJ.1 (by rw [← in_10]; exact bf hg))
