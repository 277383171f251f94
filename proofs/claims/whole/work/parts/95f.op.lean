theorem rExp_up {pr pr2 : Nat → Int32} {pv pv2 : Nat → Int64} : ∀ {E : List xP} {b : Nat}, (∀ i, b ≤ i → i < b + E.length → pr2 i = pr i ∧ pv2 i = pv i) → rExp pr pv b E → rExp pr2 pv2 b E
  | [], _, _, _ => trivial
  | p :: E, b, h, hx => by
    have h0 := h b (Nat.le_refl _) (by show b < b + (E.length + 1); omega)
    exact ⟨by rw [h0.1, h0.2]; exact hx.1, rExp_up (fun i h1 h2 => h i (by omega) (by show i < b + (E.length + 1); omega)) hx.2⟩
theorem ex_keep {h h1 : qH} {pp : Nat → Nat} {i j : Nat} {s2 : sX} {E : List xP} {t : Bool} (hP : plP h pp) (hi : i < 17) (hj : j < 17) (hne : i ≠ j) (ha : ∀ a, 5 ≤ a → a < 58 → h1.1 a = (xR h (pp j) s2).1 a) (hx : exA h.1 (pp i) E t) : exA h1.1 (pp i) E t := by
  have g5 := ex_ge (hP.1 i hi)
  have g58 := (ex_pl (hP.1 i hi)).2.2.2.2.2.2
  have hn : pp i ≠ pp j := fun q => hne (hP.2.1 i hi j hj q)
  exact exA_c ((ha _ g5 (by omega)).trans (xR_b (i := 0) (hP.1 j hj) (hP.1 i hi) hn (by omega))) ((ha _ (by omega) (by omega)).trans (xR_b (i := 1) (hP.1 j hj) (hP.1 i hi) hn (by omega))) ((ha _ (by omega) (by omega)).trans (xR_b (i := 2) (hP.1 j hj) (hP.1 i hi) hn (by omega))) hx
theorem ex_new {h h1 : qH} {pp : Nat → Nat} {j : Nat} {s2 : sX} {E : List xP} {t : Bool} (hP : plP h pp) (hj : j < 17) (ha : ∀ a, 5 ≤ a → a < 58 → h1.1 a = (xR h (pp j) s2).1 a) (hx : exS s2 E t) : exA h1.1 (pp j) E t := by
  have g5 := ex_ge (hP.1 j hj)
  have g58 := (ex_pl (hP.1 j hj)).2.2.2.2.2.2
  exact exA_c (ha _ g5 (by omega)) (ha _ (by omega) (by omega)) (ha _ (by omega) (by omega)) (exS_a hx)
theorem xr_fr {h : qH} {e i a : Nat} {s2 : sX} {v : Int32} (he : exOk e) (ha : a < 3 ∨ 58 < a) : (qpI (xR h e s2) 3 i v).1 a = h.1 a ∧ (qpI (xR h e s2) 3 i v).2.1 a = h.2.1 a := by
  have g5 := ex_ge he
  have g58 := (ex_pl he).2.2.2.2.2.2
  exact ⟨(qpI_o _ 3 i v a (by omega)).1.trans (xR_o (by omega) (by omega) (by omega)), rfl⟩
theorem cQe_push {h h1 : qH} {pp : Nat → Nat} {dep : Nat} {EE : Nat → List xP} {tr : Nat → Bool} {nc no : Nat} {ok : Nat → Nat} {s2 : sX} {E : List xP} {j : Nat} {t : Bool} (h8 : dep ≤ 8) (hn6 : nc ≤ 6) (hn3 : no ≤ 3) (hj : j ≤ dep) (hj8 : j < 8) (ha : ∀ a, 5 ≤ a → a < 58 → h1.1 a = (xR h (pp j) s2).1 a) (h58 : h1.1 58 = h.1 58) (hr : h1.2.2 = h.2.2) (hs : exS s2 E t) (h0 : cQe h pp dep EE tr nc no ok) : cQe h1 pp (j + 1) (va_up EE j E) (va_up tr j t) nc no ok := by
  obtain ⟨q1, q2, q3, q4⟩ := h0
  refine ⟨by unfold plP; rw [hr]; exact q1, fun i hi => ?_, fun c hc => ?_, fun o ho => ?_⟩
  · by_cases e : i = j
    · subst e; rw [qus, qus]; exact ex_new q1 (by omega) ha hs
    · rw [qun e, qun e]; exact ex_keep q1 (by omega) (by omega) e ha (q2 i (by omega))
  · rw [qun (by omega)]; exact ex_keep q1 (by omega) (by omega) (by omega) ha (q3 c hc)
  · rw [qun (by omega), h58]
    obtain ⟨t2, ht⟩ := (q4 o ho).2
    exact ⟨(q4 o ho).1, t2, ex_keep q1 (by omega) (by omega) (by omega) ha ht⟩
theorem xR58 {h : qH} {e i : Nat} {s2 : sX} {v : Int32} (he : exOk e) : (qpI (xR h e s2) 3 i v).1 58 = h.1 58 := by
  have g58 := (ex_pl he).2.2.2.2.2.2
  exact (qpI_o _ 3 i v 58 (by omega)).1.trans (xR_o (by omega) (by omega) (by omega))
/-- the reference's stack with one expression set at j -/
theorem mQe_push {h h1 : qH} {dep : Nat} {EE : Nat → List xP} {tr : Nat → Bool} {nc no : Nat} {ok : Nat → Nat} {E : List xP} {j : Nat} {t : Bool} (hn6 : nc ≤ 6) (hn3 : no ≤ 3) (hj : j ≤ dep) (hj8 : j < 8) (hl : ∀ i, i < dep → (EE i).length ≤ 24) (hl2 : ∀ c, c < nc → (EE (8 + c)).length ≤ 24) (hl3 : ∀ o, o < no → (EE (14 + o)).length ≤ 24) (h128 : h1.1 128 = va_up (h.1 128) j (nI E.length)) (h129 : h1.1 129 = va_up (h.1 129) j (b2i t)) (h130 : h1.1 130 = h.1 130) (hk : ∀ i, i < 24 * j ∨ 24 * j + 24 ≤ i → h1.1 126 i = h.1 126 i ∧ h1.2.1 127 i = h.2.1 127 i) (hE : rExp (h1.1 126) (h1.2.1 127) (24 * j) E) (h0 : mQe h dep EE tr nc no ok) : mQe h1 (j + 1) (va_up EE j E) (va_up tr j t) nc no ok := by
  obtain ⟨q1, q2, q3⟩ := h0
  refine ⟨fun i hi => ?_, fun c hc => ?_, fun o ho => ?_⟩
  · rw [h128, h129]
    by_cases e : i = j
    · subst e; rw [qus, qus, qus, qus]; exact ⟨rfl, hE, rfl⟩
    · rw [qun e, qun e, qun e, qun e]
      have q := q1 i (by omega)
      have l := hl i (by omega)
      exact ⟨q.1, rExp_up (fun x h1 h2 => hk x (by omega)) q.2.1, q.2.2⟩
  · rw [h128, qun (by omega), qun (by omega)]
    have q := q2 c hc
    have l := hl2 c hc
    exact ⟨q.1, rExp_up (fun x h1 h2 => hk x (by omega)) q.2⟩
  · rw [h130, h128, qun (by omega), qun (by omega)]
    have q := q3 o ho
    have l := hl3 o ho
    exact ⟨q.1, fun w => ⟨(q.2 w).1, rExp_up (fun x h1 h2 => hk x (by omega)) (q.2 w).2⟩⟩
theorem gQ_push {bg : Bool} {kd fi se le ri dep : Nat} {EE : Nat → List xP} {tr : Nat → Bool} {nc no : Nat} {ok : Nat → Nat} {gr : Option Nat} {ob : Nat} {dw : Bool} {lm : Int32} {E : List xP} {j : Nat} {t : Bool} (hj : j ≤ dep) (hj8 : j < 8) (hx : xT (8 - j) [] E = some [t]) (h0 : gQy bg kd fi se le ri dep EE tr nc no ok gr ob dw lm) : gQy bg kd fi se le ri (j + 1) (va_up EE j E) (va_up tr j t) nc no ok gr ob dw lm := by
  obtain ⟨q1, q2, q3, q4, q5, q6, q7, q8, q9, q10, q11, q12, q13⟩ := h0
  refine ⟨q1, q2, q3, q4, q5, by omega, q7, q8, q9, q10, fun i hi => ?_, fun c hc => ?_, fun o ho => ?_⟩
  · by_cases e : i = j
    · subst e; rw [qus, qus]; exact hx
    · rw [qun e, qun e]; exact q11 i (by omega)
  · rw [qun (by omega)]; exact q12 c hc
  · rw [qun (by omega)]; exact q13 o ho
theorem xT_c1 {m c : Nat} (hm : 1 ≤ m) (hc : c < 4) : xT m [] [(10, lN c)] = some [false] := by
  have e : (lN c).toInt = c := lN_toInt (by omega)
  show (xT1 m [] (10, lN c)).bind _ = _
  unfold xT1
  rw [if_pos rfl, if_pos ⟨by rw [e]; omega, by rw [e]; omega, by show 0 < m; omega⟩]
  rfl
theorem xT_n1 {m : Nat} {v : Int64} (hm : 1 ≤ m) : xT m [] [(11, v)] = some [false] := by
  show (xT1 m [] (11, v)).bind _ = _
  unfold xT1
  rw [if_neg (show ¬ (11 : Nat) = 10 by decide), if_pos rfl, if_pos (show ([] : List Bool).length < m by show 0 < m; omega)]
  rfl
set_option maxRecDepth 100000 in
set_option maxHeartbeats 4000000 in
theorem op_column (c : Int32) : OpI mi_QF_column mi_QM_column [.int c] := by
  intro N h hN hI
  have hI0 := hI
  obtain ⟨pp, ti, tn, rt, bg, kd, fi, se, le, ri, dep, EE, tr, nc, no, ok, gr, ob, dw, lm, RES, rs, wd, cn, ps, p, on, wk, nt, kt, pt, tq, dn, tm, ig, s, Q, ud, s2, qn, qt, qa, hC, hM, hP⟩ := hI
  obtain ⟨hS, hT, h3, hE, hX, hRs, hJ⟩ := hC
  obtain ⟨mR, mT, m1, mE, mX, mRs, mJ⟩ := hM
  obtain ⟨gQ, gR, gJ⟩ := hP
  have gQ0 := gQ
  obtain ⟨q1, q2, q3, q4, q5, q6, q7, q8, q9, q10, q11, q12, q13⟩ := gQ
  have hC0 : CI h pp ti tn rt bg kd fi se le ri dep EE tr nc no ok gr ob dw lm RES rs wd cn ps p on wk nt kt pt tq dn tm ig s Q ud := ⟨hS, hT, h3, hE, hX, hRs, hJ⟩
  have hM0 : MI h ti tn rt bg kd fi se le ri dep EE tr nc no ok gr ob dw lm RES rs wd cn ps p on wk nt kt pt tq dn tm ig s2 qn qt qa := ⟨mR, mT, m1, mE, mX, mRs, mJ⟩
  have hl1 : ∀ i, i < dep → (EE i).length ≤ 24 := fun i hi => (hE.2.1 i hi).1.1
  have hl2 : ∀ c, c < nc → (EE (8 + c)).length ≤ 24 := fun c hc => (hE.2.2.1 c hc).1.1
  have hl3 : ∀ o, o < no → (EE (14 + o)).length ≤ 24 := fun o ho => by obtain ⟨t, ht⟩ := (hE.2.2.2 o ho).2; exact ht.1.1
  have ky0 := fun (h1 : qH) (hM1 : MI h1 ti tn rt bg kd fi se le ri dep EE tr nc no ok gr ob dw lm RES rs wd cn ps p on wk nt kt pt tq dn tm ig s2 qn qt qa) => ct_QM_column (h := h1) c hM1.1 bg on hM1.2.2.1.1 hM1.2.2.2.2.2.2.1 kd q1 hM1.2.2.1.2.1 dep q6 hM1.2.2.1.2.2.2.2.2.2.2.1
  rw [← in_k] at ky0
  by_cases hg : ((bg && !on) && decide (0 ≤ c ∧ c < nI (if kd = 0 then 2 else 4))) = true
  · have hg0 := hg
    rw [Bool.and_eq_true] at hg
    obtain ⟨g1, g2⟩ := hg
    have b1 : bg = true := by cases bg <;> first | rfl | cases g1
    have e1 : on = false := by cases on <;> first | rfl | (rw [b1] at g1; cases g1)
    have hb : h.1 3 0 = b2i true := by rw [← b1]; exact h3.1
    have ho : h.1 83 0 = b2i false := by rw [← e1]; exact hJ.1
    obtain ⟨k, hk, rfl⟩ := in_of (by split <;> omega) g2
    have hk4 : k < 4 := by split at hk <;> omega
    by_cases hd8 : dep < 8
    · have kx := ct_QF_column_ok hS.1 hb ho kd q1 h3.2.1 k hk pp hE.1 dep q6 h3.2.2.2.2.2.2.1 hd8
      have ky := ky0
      rw [g1, g2, decide_eq_true (show dep ≠ 8 by omega)] at ky
      refine op_mo (z := b2i true) (dy := 2) (by omega) (by omega) kx (fun h1 => CI h1 pp ti tn rt bg kd fi se le ri (dep + 1) (va_up EE dep [(10, lN k)]) (va_up tr dep false) nc no ok gr ob dw lm RES rs wd cn ps p on wk nt kt pt tq dn tm ig s Q ud ∧ MI h1 ti tn rt bg kd fi se le ri dep EE tr nc no ok gr ob dw lm RES rs wd cn ps p on wk nt kt pt tq dn tm ig s2 qn qt qa) ?_ ?_
      · rintro v h1 n ⟨e1, ⟨s2, e2, hs2⟩, e3⟩
        subst e2
        have he := hE.1.1 dep (by omega)
        exact ⟨e1, ⟨CI_q (fun a ha _ => xr_fr he ha) (fun a _ _ _ => rfl) (by
          have e7 : ∀ f, f ≠ 7 → (qpI (xR h (pp dep) s2) 3 7 (nI (dep + 1))).1 3 f = h.1 3 f := fun f hf => (qI_ne hf).trans (congrFun (xR_3 he) f)
          unfold cQ3
          rw [e7 0 (by omega), e7 1 (by omega), e7 2 (by omega), e7 3 (by omega), e7 4 (by omega), e7 5 (by omega), e7 9 (by omega), e7 12 (by omega), e7 13 (by omega), e7 14 (by omega), e7 15 (by omega), e7 16 (by omega)]
          exact ⟨h3.1, h3.2.1, h3.2.2.1, h3.2.2.2.1, h3.2.2.2.2.1, h3.2.2.2.2.2.1, rfl, h3.2.2.2.2.2.2.2.1, h3.2.2.2.2.2.2.2.2.1, h3.2.2.2.2.2.2.2.2.2.1, h3.2.2.2.2.2.2.2.2.2.2.1, h3.2.2.2.2.2.2.2.2.2.2.2.1, h3.2.2.2.2.2.2.2.2.2.2.2.2⟩) (cQe_push q6 q7 q8 (Nat.le_refl _) hd8 (fun a _ _ => (qpI_o _ 3 7 _ a (by omega)).1) (xR58 he) rfl hs2 hE) hC0, MI_ag (fun a ha => ⟨(xr_fr he (by omega)).1, rfl, rfl⟩) hM0⟩, e3⟩
      · rintro h1 ⟨hC1, hM1⟩
        refine qT.imp ?_ (ky h1 hM1)
        rintro v h2 n ⟨e1, e2, e3⟩
        have e2 : h2 = (qpI (qpI (qpI (qpL (qpI h1 126 (24 * dep) (nI 20 + nI k)) 127 (24 * dep) 0) 128 dep (nI 1)) 129 dep (nI 0)) 122 13 (nI (dep + 1))) := e2
        subst e2
        obtain ⟨mR, mT, m1, mE, mX, mRs, mJ⟩ := hM1
        exact ⟨e1, ⟨pp, ti, tn, rt, bg, kd, fi, se, le, ri, (dep + 1), (va_up EE dep [(10, lN k)]), (va_up tr dep false), nc, no, ok, gr, ob, dw, lm, RES, rs, wd, cn, ps, p, on, wk, nt, kt, pt, tq, dn, tm, ig, s, Q, ud, s2, qn, qt, qa, CI_ag (h := h1) ⟨by omega, q7, q8⟩ (fun a ha => ⟨(qpI_o _ 122 _ _ a (by omega)).1.trans ((qpI_o _ 129 _ _ a (by omega)).1.trans ((qpI_o _ 128 _ _ a (by omega)).1.trans (qpI_o h1 126 _ _ a (by omega)).1)), (show (va_up h1.2.1 127 _) a = h1.2.1 a from qun (by omega))⟩) rfl hC1, ⟨mR, mT, ⟨m1.1, m1.2.1, m1.2.2.1, m1.2.2.2.1, m1.2.2.2.2.1, m1.2.2.2.2.2.1, m1.2.2.2.2.2.2.1, rfl, m1.2.2.2.2.2.2.2.2.1, m1.2.2.2.2.2.2.2.2.2⟩, mQe_push (h := h1) (E := [(10, lN k)]) (t := false) q7 q8 (Nat.le_refl _) hd8 hl1 hl2 hl3 rfl rfl rfl (fun i hi => ⟨(show (va_up (h1.1 126) (24 * dep) _) i = h1.1 126 i from qun (by omega)), (show (va_up (h1.2.1 127) (24 * dep) _) i = h1.2.1 127 i from qun (by omega))⟩) ⟨by rw [show (qpI (qpI (qpI (qpL (qpI h1 126 (24 * dep) (nI 20 + nI k)) 127 (24 * dep) 0) 128 dep (nI 1)) 129 dep (nI 0)) 122 13 (nI (dep + 1))).1 126 = va_up (h1.1 126) (24 * dep) (nI 20 + nI k) from rfl, show (qpI (qpI (qpI (qpL (qpI h1 126 (24 * dep) (nI 20 + nI k)) 127 (24 * dep) 0) 128 dep (nI 1)) 129 dep (nI 0)) 122 13 (nI (dep + 1))).2.1 127 = va_up (h1.2.1 127) (24 * dep) 0 from rfl, qus, qus]; exact Or.inr (Or.inl ⟨rfl, k, hk4, rfl, nI_add 20 k⟩), trivial⟩ mE, mX, mRs, mJ⟩, gQ_push (Nat.le_refl _) hd8 (xT_c1 (by omega) hk4) gQ0, gR, gJb_up gJ⟩, e3⟩
    · have ky := ky0 h hM0
      rw [g1, g2, decide_eq_false (show ¬ dep ≠ 8 by omega)] at ky
      exact op_ro (by omega) (by omega) hI0 (ct_QF_column_full hS.1 hb ho kd q1 h3.2.1 k hk dep q6 h3.2.2.2.2.2.2.1 (by omega)) (qT.imp (fun v h1 n q => ⟨q.1, q.2.1.symm, q.2.2⟩) ky)
  · have ky := ky0 h hM0
    rw [show ((bg && !on) && (decide (0 ≤ c ∧ c < nI (if kd = 0 then 2 else 4)) && decide (dep ≠ 8))) = false by rw [← Bool.and_assoc, bf hg]; rfl] at ky
    exact op_ro (by omega) (by omega) hI0 (ct_QF_column_no hS.1 bg on h3.1 hJ.1 kd q1 h3.2.1 c (bf hg)) (qT.imp (fun v h1 n q => ⟨q.1, q.2.1.symm, q.2.2⟩) ky)
set_option maxRecDepth 100000 in
set_option maxHeartbeats 4000000 in
theorem op_number (x : Int32) : OpI mi_QF_number mi_QM_number [.int x] := by
  intro N h hN hI
  have hI0 := hI
  obtain ⟨pp, ti, tn, rt, bg, kd, fi, se, le, ri, dep, EE, tr, nc, no, ok, gr, ob, dw, lm, RES, rs, wd, cn, ps, p, on, wk, nt, kt, pt, tq, dn, tm, ig, s, Q, ud, s2, qn, qt, qa, hC, hM, hP⟩ := hI
  obtain ⟨hS, hT, h3, hE, hX, hRs, hJ⟩ := hC
  obtain ⟨mR, mT, m1, mE, mX, mRs, mJ⟩ := hM
  obtain ⟨gQ, gR, gJ⟩ := hP
  have gQ0 := gQ
  obtain ⟨q1, q2, q3, q4, q5, q6, q7, q8, q9, q10, q11, q12, q13⟩ := gQ
  have hC0 : CI h pp ti tn rt bg kd fi se le ri dep EE tr nc no ok gr ob dw lm RES rs wd cn ps p on wk nt kt pt tq dn tm ig s Q ud := ⟨hS, hT, h3, hE, hX, hRs, hJ⟩
  have hM0 : MI h ti tn rt bg kd fi se le ri dep EE tr nc no ok gr ob dw lm RES rs wd cn ps p on wk nt kt pt tq dn tm ig s2 qn qt qa := ⟨mR, mT, m1, mE, mX, mRs, mJ⟩
  have hl1 : ∀ i, i < dep → (EE i).length ≤ 24 := fun i hi => (hE.2.1 i hi).1.1
  have hl2 : ∀ c, c < nc → (EE (8 + c)).length ≤ 24 := fun c hc => (hE.2.2.1 c hc).1.1
  have hl3 : ∀ o, o < no → (EE (14 + o)).length ≤ 24 := fun o ho => by obtain ⟨t, ht⟩ := (hE.2.2.2 o ho).2; exact ht.1.1
  have ky0 := fun (h1 : qH) (hM1 : MI h1 ti tn rt bg kd fi se le ri dep EE tr nc no ok gr ob dw lm RES rs wd cn ps p on wk nt kt pt tq dn tm ig s2 qn qt qa) => ct_QM_number (h := h1) x hM1.1 bg on hM1.2.2.1.1 hM1.2.2.2.2.2.2.1 dep q6 hM1.2.2.1.2.2.2.2.2.2.2.1
  by_cases g1 : (bg && !on) = true
  · have b1 : bg = true := by cases bg <;> first | rfl | cases g1
    have e1 : on = false := by cases on <;> first | rfl | (rw [b1] at g1; cases g1)
    have hb : h.1 3 0 = b2i true := by rw [← b1]; exact h3.1
    have ho : h.1 83 0 = b2i false := by rw [← e1]; exact hJ.1
    by_cases hd8 : dep < 8
    · have kx := ct_QF_number_ok hS.1 hb ho x pp hE.1 dep q6 h3.2.2.2.2.2.2.1 hd8
      have ky := ky0
      rw [g1, decide_eq_true (show dep ≠ 8 by omega)] at ky
      refine op_mo (z := b2i true) (dy := 2) (by omega) (by omega) kx (fun h1 => CI h1 pp ti tn rt bg kd fi se le ri (dep + 1) (va_up EE dep [(11, x.toInt64)]) (va_up tr dep false) nc no ok gr ob dw lm RES rs wd cn ps p on wk nt kt pt tq dn tm ig s Q ud ∧ MI h1 ti tn rt bg kd fi se le ri dep EE tr nc no ok gr ob dw lm RES rs wd cn ps p on wk nt kt pt tq dn tm ig s2 qn qt qa) ?_ ?_
      · rintro v h1 n ⟨e1, ⟨s2, e2, hs2⟩, e3⟩
        subst e2
        have he := hE.1.1 dep (by omega)
        exact ⟨e1, ⟨CI_q (fun a ha _ => xr_fr he ha) (fun a _ _ _ => rfl) (by
          have e7 : ∀ f, f ≠ 7 → (qpI (xR h (pp dep) s2) 3 7 (nI (dep + 1))).1 3 f = h.1 3 f := fun f hf => (qI_ne hf).trans (congrFun (xR_3 he) f)
          unfold cQ3
          rw [e7 0 (by omega), e7 1 (by omega), e7 2 (by omega), e7 3 (by omega), e7 4 (by omega), e7 5 (by omega), e7 9 (by omega), e7 12 (by omega), e7 13 (by omega), e7 14 (by omega), e7 15 (by omega), e7 16 (by omega)]
          exact ⟨h3.1, h3.2.1, h3.2.2.1, h3.2.2.2.1, h3.2.2.2.2.1, h3.2.2.2.2.2.1, rfl, h3.2.2.2.2.2.2.2.1, h3.2.2.2.2.2.2.2.2.1, h3.2.2.2.2.2.2.2.2.2.1, h3.2.2.2.2.2.2.2.2.2.2.1, h3.2.2.2.2.2.2.2.2.2.2.2.1, h3.2.2.2.2.2.2.2.2.2.2.2.2⟩) (cQe_push q6 q7 q8 (Nat.le_refl _) hd8 (fun a _ _ => (qpI_o _ 3 7 _ a (by omega)).1) (xR58 he) rfl hs2 hE) hC0, MI_ag (fun a ha => ⟨(xr_fr he (by omega)).1, rfl, rfl⟩) hM0⟩, e3⟩
      · rintro h1 ⟨hC1, hM1⟩
        refine qT.imp ?_ (ky h1 hM1)
        rintro v h2 n ⟨e1, e2, e3⟩
        have e2 : h2 = (qpI (qpI (qpI (qpL (qpI h1 126 (24 * dep) (nI 30)) 127 (24 * dep) x.toInt64) 128 dep (nI 1)) 129 dep (nI 0)) 122 13 (nI (dep + 1))) := e2
        subst e2
        obtain ⟨mR, mT, m1, mE, mX, mRs, mJ⟩ := hM1
        exact ⟨e1, ⟨pp, ti, tn, rt, bg, kd, fi, se, le, ri, (dep + 1), (va_up EE dep [(11, x.toInt64)]), (va_up tr dep false), nc, no, ok, gr, ob, dw, lm, RES, rs, wd, cn, ps, p, on, wk, nt, kt, pt, tq, dn, tm, ig, s, Q, ud, s2, qn, qt, qa, CI_ag (h := h1) ⟨by omega, q7, q8⟩ (fun a ha => ⟨(qpI_o _ 122 _ _ a (by omega)).1.trans ((qpI_o _ 129 _ _ a (by omega)).1.trans ((qpI_o _ 128 _ _ a (by omega)).1.trans (qpI_o h1 126 _ _ a (by omega)).1)), (show (va_up h1.2.1 127 _) a = h1.2.1 a from qun (by omega))⟩) rfl hC1, ⟨mR, mT, ⟨m1.1, m1.2.1, m1.2.2.1, m1.2.2.2.1, m1.2.2.2.2.1, m1.2.2.2.2.2.1, m1.2.2.2.2.2.2.1, rfl, m1.2.2.2.2.2.2.2.2.1, m1.2.2.2.2.2.2.2.2.2⟩, mQe_push (h := h1) (E := [(11, x.toInt64)]) (t := false) q7 q8 (Nat.le_refl _) hd8 hl1 hl2 hl3 rfl rfl rfl (fun i hi => ⟨(show (va_up (h1.1 126) (24 * dep) _) i = h1.1 126 i from qun (by omega)), (show (va_up (h1.2.1 127) (24 * dep) _) i = h1.2.1 127 i from qun (by omega))⟩) ⟨by rw [show (qpI (qpI (qpI (qpL (qpI h1 126 (24 * dep) (nI 30)) 127 (24 * dep) x.toInt64) 128 dep (nI 1)) 129 dep (nI 0)) 122 13 (nI (dep + 1))).1 126 = va_up (h1.1 126) (24 * dep) (nI 30) from rfl, show (qpI (qpI (qpI (qpL (qpI h1 126 (24 * dep) (nI 30)) 127 (24 * dep) x.toInt64) 128 dep (nI 1)) 129 dep (nI 0)) 122 13 (nI (dep + 1))).2.1 127 = va_up (h1.2.1 127) (24 * dep) x.toInt64 from rfl, qus, qus]; exact Or.inr (Or.inr ⟨rfl, rfl, rfl⟩), trivial⟩ mE, mX, mRs, mJ⟩, gQ_push (Nat.le_refl _) hd8 (xT_n1 (by omega)) gQ0, gR, gJb_up gJ⟩, e3⟩
    · have ky := ky0 h hM0
      rw [g1, decide_eq_false (show ¬ dep ≠ 8 by omega)] at ky
      exact op_ro (by omega) (by omega) hI0 (ct_QF_number_full hS.1 hb ho x dep q6 h3.2.2.2.2.2.2.1 (by omega)) (qT.imp (fun v h1 n q => ⟨q.1, q.2.1.symm, q.2.2⟩) ky)
  · have ky := ky0 h hM0
    rw [bf g1] at ky
    exact op_ro (by omega) (by omega) hI0 (ct_QF_number_no hS.1 bg on h3.1 hJ.1 x (bf g1)) (qT.imp (fun v h1 n q => ⟨q.1, q.2.1.symm, q.2.2⟩) ky)
