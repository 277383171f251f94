set_option maxRecDepth 100000 in
set_option maxHeartbeats 4000000 in
theorem op_where  : OpI mi_QF_where mi_QM_where [] := by
  intro N h hN hI
  have hI0 := hI
  obtain ⟨pp, ti, tn, rt, bg, kd, fi, se, le, ri, dep, EE, tr, nc, no, ok, gr, ob, dw, lm, RES, rs, wd, cn, ps, p, on, wk, nt, kt, pt, tq, dn, tm, ig, s, Q, ud, s2, qn, qt, qa, hC, hM, hP⟩ := hI
  obtain ⟨hS, hT, h3, hE, hX, hRs, hJ⟩ := hC
  obtain ⟨mR, mT, m1, mE, mX, mRs, mJ⟩ := hM
  obtain ⟨gQ, gR, gJ⟩ := hP
  have gQ0 := gQ
  obtain ⟨q1, q2, q3, q4, q5, q6, q7, q8, q9, q10, q11, q12, q13⟩ := gQ
  have hC0 : CI h pp ti tn rt bg kd fi se le ri dep EE tr nc no ok gr ob dw lm RES rs wd cn ps p on wk nt kt pt tq dn tm ig s Q ud := ⟨hS, hT, h3, hE, hX, hRs, hJ⟩
  have hM0 : MI h ti tn rt bg kd fi se le ri dep EE tr nc no ok gr ob dw lm RES rs wd cn ps p on wk nt kt pt tq dn tm ig s2 qn qt qa := ⟨mR, mT, m1, mE, mX, mRs, mJ⟩
  have hl1 : ∀ i, i < dep → (EE i).length ≤ 24 := fun i hi => (hE.2.1 i hi).1.1
  have hl2 : ∀ c, c < nc → (EE (8 + c)).length ≤ 24 := fun c hc => (hE.2.2.1 c hc).1.1
  have hl3 : ∀ o, o < no → (EE (14 + o)).length ≤ 24 := fun o ho => by obtain ⟨t, ht⟩ := (hE.2.2.2 o ho).2; exact ht.1.1
  by_cases g1 : (bg && !on) = true
  · have b1 : bg = true := by cases bg <;> first | rfl | cases g1
    have e1 : on = false := by cases on <;> first | rfl | (rw [b1] at g1; cases g1)
    have hb : h.1 3 0 = b2i true := by rw [← b1]; exact h3.1
    have ho : h.1 83 0 = b2i false := by rw [← e1]; exact hJ.1
    have kx := ct_QF_where hS.1 hb ho _ (fun v h1 n q => ⟨_, q.1⟩) (ct_Qu_takeCondition pp hE.1 dep q6 h3.2.2.2.2.2.2.1 nc q7 h3.2.2.2.2.2.2.2.1 (tr 0) (fun e => (hE.2.1 0 (by omega)).2.1))
    by_cases hd : dep = 1
    · subst hd
      have ky := fun (h1 : qH) (hM1 : MI h1 ti tn rt bg kd fi se le ri 1 EE tr nc no ok gr ob dw lm RES rs wd cn ps p on wk nt kt pt tq dn tm ig s2 qn qt qa) => ct_QM_where (h := h1) hM1.1 bg on hM1.2.2.1.1 hM1.2.2.2.2.2.2.1 1 q6 hM1.2.2.1.2.2.2.2.2.2.2.1 nc q7 hM1.2.2.1.2.2.2.2.2.2.2.2.1 (tr 0) (hM1.2.2.2.1.1 0 (by omega)).2.2 (EE 0).length (hl1 0 (by omega)) (hM1.2.2.2.1.1 0 (by omega)).1
      rw [g1, Bool.true_and] at ky
      by_cases hcx : (decide (1 = 1) && (tr 0 && decide (nc ≠ 6))) = true
      · rw [hcx] at kx ky
        rw [Bool.and_eq_true, Bool.and_eq_true] at hcx
        obtain ⟨_, t0, n6⟩ := hcx
        have n6 : nc ≠ 6 := of_decide_eq_true n6
        refine op_mo (z := b2i true) (dy := 1) (by omega) (by omega) kx (fun h1 => CI h1 (swp pp (8 + nc)) ti tn rt bg kd fi se le ri 0 (va_up EE (8 + nc) (EE 0)) tr (nc + 1) no ok gr ob dw lm RES rs wd cn ps p on wk nt kt pt tq dn tm ig s Q ud ∧ MI h1 ti tn rt bg kd fi se le ri 1 EE tr nc no ok gr ob dw lm RES rs wd cn ps p on wk nt kt pt tq dn tm ig s2 qn qt qa) ?_ ?_
        · rintro v h1 n ⟨e1, e2, e3⟩
          have e2 : h1 = (qpI (qpI (qpR (qpR h 29 nc (some (pp 0))) 4 0 (some (pp (8 + nc)))) 3 7 (nI 0)) 3 9 (nI (nc + 1))) := e2
          subst e2
          exact ⟨e1, ⟨CI_q (h := h) (fun a ha _ => rtr (r3 a (by omega)) (r3 a (by omega))) (fun a z1 z2 _ => (show (va_up (va_up h.2.2 29 _) 4 _) a = h.2.2 a from (qun z1).trans (qun z2))) ⟨h3.1, h3.2.1, h3.2.2.1, h3.2.2.2.1, h3.2.2.2.2.1, h3.2.2.2.2.2.1, rfl, rfl, h3.2.2.2.2.2.2.2.2.1, h3.2.2.2.2.2.2.2.2.2.1, h3.2.2.2.2.2.2.2.2.2.2.1, h3.2.2.2.2.2.2.2.2.2.2.2.1, h3.2.2.2.2.2.2.2.2.2.2.2.2⟩ (cQe_take_c (h := h) (by omega) q8 rfl (fun a _ _ => (rtr (r3 a (by omega)) (r3 a (by omega))).1) t0 hE) hC0, MI_ag (h := h) (fun a ha => ⟨(rtr (r3 a (by omega)) (r3 a (by omega))).1, rfl, (show (va_up (va_up h.2.2 29 _) 4 _) a = h.2.2 a from (qun (by omega)).trans (qun (by omega)))⟩) hM0⟩, e3⟩
        · rintro h1 ⟨hC1, hM1⟩
          refine qT.imp ?_ (ky h1 hM1)
          rintro v h2 n ⟨e1, e2, e3⟩
          have e2 : h2 = (qpI (qpI (qpI (cpH h1 0 (8 + nc) 0 (EE 0).length) 128 (8 + nc) (nI (EE 0).length)) 122 14 (nI (nc + 1))) 122 13 (nI 0)) := e2
          subst e2
          obtain ⟨mR, mT, m1, mE, mX, mRs, mJ⟩ := hM1
          exact ⟨e1, ⟨(swp pp (8 + nc)), ti, tn, rt, bg, kd, fi, se, le, ri, 0, (va_up EE (8 + nc) (EE 0)), tr, (nc + 1), no, ok, gr, ob, dw, lm, RES, rs, wd, cn, ps, p, on, wk, nt, kt, pt, tq, dn, tm, ig, s, Q, ud, s2, qn, qt, qa, CI_ag (h := h1) ⟨by omega, by omega, q8⟩ (fun a ha => ⟨(qpI_o _ 122 _ _ a (by omega)).1.trans ((qpI_o _ 122 _ _ a (by omega)).1.trans ((qpI_o _ 128 _ _ a (by omega)).1.trans (show (va_up h1.1 126 _) a = h1.1 a from qun (by omega)))), (show (va_up h1.2.1 127 _) a = h1.2.1 a from qun (by omega))⟩) rfl hC1, ⟨mR, mT, ⟨m1.1, m1.2.1, m1.2.2.1, m1.2.2.2.1, m1.2.2.2.2.1, m1.2.2.2.2.2.1, m1.2.2.2.2.2.2.1, rfl, rfl, m1.2.2.2.2.2.2.2.2.2⟩, mQe_take_c (h := h1) (by omega) q8 (hl1 0 (by omega)) hl2 hl3 rfl rfl rfl rfl mE, mX, mRs, mJ⟩, ⟨q1, q2, q3, q4, q5, by omega, by omega, q8, q9, q10, fun i hi => absurd hi (Nat.not_lt_zero _), fun c hc => (by
            by_cases e : c = nc
            · subst e; rw [qus]; have z := q11 0 (by omega); rw [t0] at z; exact z
            · rw [qun (by omega)]; exact q12 c (by omega)), fun o ho => (by rw [qun (by omega)]; exact q13 o ho)⟩, gR, gJb_up gJ⟩, e3⟩
      · rw [bf hcx] at kx
        have ky2 := ky h hM0
        rw [bf hcx] at ky2
        exact op_ro (by omega) (by omega) hI0 (qT.imp (fun v h1 n q => ⟨q.1, q.2.1.symm, q.2.2⟩) kx) (qT.imp (fun v h1 n q => ⟨q.1, q.2.1.symm, q.2.2⟩) ky2)
    · rw [decide_eq_false hd, Bool.false_and] at kx
      exact op_ro (by omega) (by omega) hI0 (qT.imp (fun v h1 n q => ⟨q.1, q.2.1.symm, q.2.2⟩) kx) (ct_QM_where_no mR bg on m1.1 mJ.1 dep q6 m1.2.2.2.2.2.2.2.1 (by rw [decide_eq_false hd, Bool.and_false]))
  · exact op_ro (by omega) (by omega) hI0 (ct_QF_where_no hS.1 bg on h3.1 hJ.1 (bf g1)) (ct_QM_where_no mR bg on m1.1 mJ.1 dep q6 m1.2.2.2.2.2.2.2.1 (by rw [bf g1]; rfl))
set_option maxRecDepth 100000 in
set_option maxHeartbeats 4000000 in
theorem op_output (k0 : Int32) : OpI mi_QF_output mi_QM_output [.int k0] := by
  intro N h hN hI
  have hI0 := hI
  obtain ⟨pp, ti, tn, rt, bg, kd, fi, se, le, ri, dep, EE, tr, nc, no, ok, gr, ob, dw, lm, RES, rs, wd, cn, ps, p, on, wk, nt, kt, pt, tq, dn, tm, ig, s, Q, ud, s2, qn, qt, qa, hC, hM, hP⟩ := hI
  obtain ⟨hS, hT, h3, hE, hX, hRs, hJ⟩ := hC
  obtain ⟨mR, mT, m1, mE, mX, mRs, mJ⟩ := hM
  obtain ⟨gQ, gR, gJ⟩ := hP
  have gQ0 := gQ
  obtain ⟨q1, q2, q3, q4, q5, q6, q7, q8, q9, q10, q11, q12, q13⟩ := gQ
  have hC0 : CI h pp ti tn rt bg kd fi se le ri dep EE tr nc no ok gr ob dw lm RES rs wd cn ps p on wk nt kt pt tq dn tm ig s Q ud := ⟨hS, hT, h3, hE, hX, hRs, hJ⟩
  have hM0 : MI h ti tn rt bg kd fi se le ri dep EE tr nc no ok gr ob dw lm RES rs wd cn ps p on wk nt kt pt tq dn tm ig s2 qn qt qa := ⟨mR, mT, m1, mE, mX, mRs, mJ⟩
  have hl1 : ∀ i, i < dep → (EE i).length ≤ 24 := fun i hi => (hE.2.1 i hi).1.1
  have hl2 : ∀ c, c < nc → (EE (8 + c)).length ≤ 24 := fun c hc => (hE.2.2.1 c hc).1.1
  have hl3 : ∀ o, o < no → (EE (14 + o)).length ≤ 24 := fun o ho => by obtain ⟨t, ht⟩ := (hE.2.2.2 o ho).2; exact ht.1.1
  by_cases hg : ((bg && !on) && decide (0 ≤ k0 ∧ k0 < nI 6)) = true
  · rw [Bool.and_eq_true] at hg
    obtain ⟨g1, g2⟩ := hg
    have b1 : bg = true := by cases bg <;> first | rfl | cases g1
    have e1 : on = false := by cases on <;> first | rfl | (rw [b1] at g1; cases g1)
    have hb : h.1 3 0 = b2i true := by rw [← b1]; exact h3.1
    have ho : h.1 83 0 = b2i false := by rw [← e1]; exact hJ.1
    obtain ⟨k, hk, rfl⟩ := in_of (by omega) g2
    by_cases hk1 : k = 1
    · subst hk1
      have kx := ct_QF_output hS.1 hb ho 1 hk _ (fun v h1 n q => ⟨_, q.1⟩) (ct_Qu_takeOutput_rows pp hE.1 dep q6 h3.2.2.2.2.2.2.1 no q8 h3.2.2.2.2.2.2.2.2.1)
      have ky := fun (h1 : qH) (hM1 : MI h1 ti tn rt bg kd fi se le ri dep EE tr nc no ok gr ob dw lm RES rs wd cn ps p on wk nt kt pt tq dn tm ig s2 qn qt qa) => ct_QM_output_rows (h := h1) hM1.1 bg on hM1.2.2.1.1 hM1.2.2.2.2.2.2.1 dep q6 hM1.2.2.1.2.2.2.2.2.2.2.1 no q8 hM1.2.2.1.2.2.2.2.2.2.2.2.2
      rw [g1, Bool.true_and] at ky
      by_cases hcx : (decide (no ≠ 3) && decide (dep = 0)) = true
      · rw [hcx] at kx ky
        rw [Bool.and_eq_true] at hcx
        have n3 : no ≠ 3 := of_decide_eq_true hcx.1
        have d0 : dep = 0 := of_decide_eq_true hcx.2
        subst d0
        have he := hE.1.1 (14 + no) (by omega)
        have g5 := ex_ge he
        have g58 := (ex_pl he).2.2.2.2.2.2
        refine op_mo (z := b2i true) (dy := 1) (by omega) (by omega) kx (fun h1 => CI h1 pp ti tn rt bg kd fi se le ri 0 (va_up EE (14 + no) []) tr nc (no + 1) (va_up ok no 1) gr ob dw lm RES rs wd cn ps p on wk nt kt pt tq dn tm ig s Q ud ∧ MI h1 ti tn rt bg kd fi se le ri 0 EE tr nc no ok gr ob dw lm RES rs wd cn ps p on wk nt kt pt tq dn tm ig s2 qn qt qa) ?_ ?_
        · rintro v h1 n ⟨e1, e2, e3⟩
          have e2 : h1 = (qpI (qpI (xR h (pp (14 + no)) ((sOf h.1 (pp (14 + no))).1, (sOf h.1 (pp (14 + no))).2.1, nI 0, nI 0, nI 0)) 58 no (nI 1)) 3 12 (nI (no + 1))) := e2
          subst e2
          exact ⟨e1, ⟨CI_q (h := h) (fun a ha _ => rtr (r3 a (by omega)) (rtr (qo (by omega)) ⟨xR_o (by omega) (by omega) (by omega), rfl⟩)) (fun a _ _ _ => rfl) (by
            have e7 : ∀ f, f ≠ 12 → (qpI (qpI (xR h (pp (14 + no)) ((sOf h.1 (pp (14 + no))).1, (sOf h.1 (pp (14 + no))).2.1, nI 0, nI 0, nI 0)) 58 no (nI 1)) 3 12 (nI (no + 1))).1 3 f = h.1 3 f := fun f hf => (qI_ne hf).trans ((congrFun (qpI_o _ 58 _ _ 3 (by omega)).1 f).trans (congrFun (xR_3 he) f))
            unfold cQ3
            rw [e7 0 (by omega), e7 1 (by omega), e7 2 (by omega), e7 3 (by omega), e7 4 (by omega), e7 5 (by omega), e7 7 (by omega), e7 9 (by omega), e7 13 (by omega), e7 14 (by omega), e7 15 (by omega), e7 16 (by omega)]
            exact ⟨h3.1, h3.2.1, h3.2.2.1, h3.2.2.2.1, h3.2.2.2.2.1, h3.2.2.2.2.2.1, h3.2.2.2.2.2.2.1, h3.2.2.2.2.2.2.2.1, rfl, h3.2.2.2.2.2.2.2.2.2.1, h3.2.2.2.2.2.2.2.2.2.2.1, h3.2.2.2.2.2.2.2.2.2.2.2.1, h3.2.2.2.2.2.2.2.2.2.2.2.2⟩) (cQe_rows (h := h) (s2 := ((sOf h.1 (pp (14 + no))).1, (sOf h.1 (pp (14 + no))).2.1, nI 0, nI 0, nI 0)) q7 (by omega) rfl (fun a _ _ => (qpI_o _ 3 _ _ a (by omega)).1.trans (qpI_o _ 58 _ _ a (by omega)).1) ((qpI_o _ 3 _ _ 58 (by omega)).1.trans ((qpI_1 _ 58 _ _).trans (by rw [xR_o (by omega) (by omega) (by omega)]))) ⟨by decide, rfl, trivial, rfl, nmOk_nil⟩ hE) hC0, MI_ag (h := h) (fun a ha => ⟨(rtr (r3 a (by omega)) (rtr (qo (by omega)) (⟨xR_o (by omega) (by omega) (by omega), rfl⟩ : (xR h (pp (14 + no)) ((sOf h.1 (pp (14 + no))).1, (sOf h.1 (pp (14 + no))).2.1, nI 0, nI 0, nI 0)).1 a = h.1 a ∧ (xR h (pp (14 + no)) ((sOf h.1 (pp (14 + no))).1, (sOf h.1 (pp (14 + no))).2.1, nI 0, nI 0, nI 0)).2.1 a = h.2.1 a))).1, rfl, rfl⟩) hM0⟩, e3⟩
        · rintro h1 ⟨hC1, hM1⟩
          refine qT.imp ?_ (ky h1 hM1)
          rintro v h2 n ⟨e1, e2, e3⟩
          have e2 : h2 = (qpI (qpI (qpI (qpI h1 128 (14 + no) (nI 0)) 130 no (nI 1)) 122 15 (nI (no + 1))) 122 13 (nI 0)) := e2
          subst e2
          obtain ⟨mR, mT, m1, mE, mX, mRs, mJ⟩ := hM1
          exact ⟨e1, ⟨pp, ti, tn, rt, bg, kd, fi, se, le, ri, 0, (va_up EE (14 + no) []), tr, nc, (no + 1), (va_up ok no 1), gr, ob, dw, lm, RES, rs, wd, cn, ps, p, on, wk, nt, kt, pt, tq, dn, tm, ig, s, Q, ud, s2, qn, qt, qa, CI_ag (h := h1) ⟨by omega, q7, by omega⟩ (fun a ha => rtr (r122 a ha) (rtr (r122 a ha) (rtr (qo (by omega)) (qo (by omega))))) rfl hC1, ⟨mR, mT, ⟨m1.1, m1.2.1, m1.2.2.1, m1.2.2.2.1, m1.2.2.2.2.1, m1.2.2.2.2.2.1, m1.2.2.2.2.2.2.1, rfl, m1.2.2.2.2.2.2.2.2.1, rfl⟩, mQe_rows (h := h1) q7 rfl rfl rfl rfl mE, mX, mRs, mJ⟩, ⟨q1, q2, q3, q4, q5, by omega, q7, by omega, q9, q10, fun i hi => absurd hi (Nat.not_lt_zero _), fun c hc => (by rw [qun (by omega)]; exact q12 c hc), fun o ho => (by
            by_cases z : o = no
            · subst z; rw [qus, qus]; exact ⟨by omega, fun w => absurd rfl w, fun _ => rfl⟩
            · rw [qun z, qun (by omega)]; exact q13 o (by omega))⟩, gR, gJb_up gJ⟩, e3⟩
      · rw [bf hcx] at kx
        have ky2 := ky h hM0
        rw [bf hcx] at ky2
        exact op_ro (by omega) (by omega) hI0 (qT.imp (fun v h1 n q => ⟨q.1, q.2.1.symm, q.2.2⟩) kx) (qT.imp (fun v h1 n q => ⟨q.1, q.2.1.symm, q.2.2⟩) ky2)
    · have kx := ct_QF_output hS.1 hb ho k hk _ (fun v h1 n q => ⟨_, q.1⟩) (ct_Qu_takeOutput_of pp hE.1 dep q6 h3.2.2.2.2.2.2.1 no q8 h3.2.2.2.2.2.2.2.2.1 (tr 0) (fun e => (hE.2.1 0 (by omega)).2.1) k hk1 hk)
      have hki : ¬ nI k = nI 1 := fun q => hk1 ((nI_eq (by omega) (by omega)).mp q)
      by_cases hd : dep = 1
      · subst hd
        have ky := fun (h1 : qH) (hM1 : MI h1 ti tn rt bg kd fi se le ri 1 EE tr nc no ok gr ob dw lm RES rs wd cn ps p on wk nt kt pt tq dn tm ig s2 qn qt qa) => ct_QM_output_of (h := h1) (nI k) hki hM1.1 bg on hM1.2.2.1.1 hM1.2.2.2.2.2.2.1 1 q6 hM1.2.2.1.2.2.2.2.2.2.2.1 no q8 hM1.2.2.1.2.2.2.2.2.2.2.2.2 (tr 0) (hM1.2.2.2.1.1 0 (by omega)).2.2 (EE 0).length (hl1 0 (by omega)) (hM1.2.2.2.1.1 0 (by omega)).1
        rw [← in_6, g1, g2, Bool.true_and, Bool.true_and] at ky
        by_cases hcx : (decide (no ≠ 3) && (decide (1 = 1) && !tr 0)) = true
        · rw [hcx] at kx ky
          rw [Bool.and_eq_true, Bool.and_eq_true] at hcx
          have n3 : no ≠ 3 := of_decide_eq_true hcx.1
          have t0 : tr 0 = false := by have z := hcx.2.2; cases w : tr 0 <;> rw [w] at z <;> first | rfl | cases z
          refine op_mo (z := b2i true) (dy := 1) (by omega) (by omega) kx (fun h1 => CI h1 (swp pp (14 + no)) ti tn rt bg kd fi se le ri 0 (va_up EE (14 + no) (EE 0)) tr nc (no + 1) (va_up ok no k) gr ob dw lm RES rs wd cn ps p on wk nt kt pt tq dn tm ig s Q ud ∧ MI h1 ti tn rt bg kd fi se le ri 1 EE tr nc no ok gr ob dw lm RES rs wd cn ps p on wk nt kt pt tq dn tm ig s2 qn qt qa) ?_ ?_
          · rintro v h1 n ⟨e1, e2, e3⟩
            have e2 : h1 = (qpI (qpI (qpI (qpR (qpR h 48 no (some (pp 0))) 4 0 (some (pp (14 + no)))) 3 7 (nI 0)) 58 no (nI k)) 3 12 (nI (no + 1))) := e2
            subst e2
            exact ⟨e1, ⟨CI_q (h := h) (fun a ha _ => rtr (r3 a (by omega)) (rtr (qo (by omega)) (r3 a (by omega)))) (fun a z1 _ z2 => (show (va_up (va_up h.2.2 48 _) 4 _) a = h.2.2 a from (qun z1).trans (qun z2))) ⟨h3.1, h3.2.1, h3.2.2.1, h3.2.2.2.1, h3.2.2.2.2.1, h3.2.2.2.2.2.1, rfl, h3.2.2.2.2.2.2.2.1, rfl, h3.2.2.2.2.2.2.2.2.2.1, h3.2.2.2.2.2.2.2.2.2.2.1, h3.2.2.2.2.2.2.2.2.2.2.2.1, h3.2.2.2.2.2.2.2.2.2.2.2.2⟩ (cQe_take_o (h := h) q7 (by omega) rfl (fun a _ _ => (rtr (r3 a (by omega)) (rtr (qo (by omega)) (r3 a (by omega)))).1) rfl hE) hC0, MI_ag (h := h) (fun a ha => ⟨(rtr (r3 a (by omega)) (rtr (qo (by omega)) (r3 a (by omega)))).1, rfl, (show (va_up (va_up h.2.2 48 _) 4 _) a = h.2.2 a from (qun (by omega)).trans (qun (by omega)))⟩) hM0⟩, e3⟩
          · rintro h1 ⟨hC1, hM1⟩
            refine qT.imp ?_ (ky h1 hM1)
            rintro v h2 n ⟨e1, e2, e3⟩
            have e2 : h2 = (qpI (qpI (qpI (qpI (cpH h1 0 (14 + no) 0 (EE 0).length) 128 (14 + no) (nI (EE 0).length)) 130 no (nI k)) 122 15 (nI (no + 1))) 122 13 (nI 0)) := e2
            subst e2
            obtain ⟨mR, mT, m1, mE, mX, mRs, mJ⟩ := hM1
            exact ⟨e1, ⟨(swp pp (14 + no)), ti, tn, rt, bg, kd, fi, se, le, ri, 0, (va_up EE (14 + no) (EE 0)), tr, nc, (no + 1), (va_up ok no k), gr, ob, dw, lm, RES, rs, wd, cn, ps, p, on, wk, nt, kt, pt, tq, dn, tm, ig, s, Q, ud, s2, qn, qt, qa, CI_ag (h := h1) ⟨by omega, q7, by omega⟩ (fun a ha => ⟨(qpI_o _ 122 _ _ a (by omega)).1.trans ((qpI_o _ 122 _ _ a (by omega)).1.trans ((qpI_o _ 130 _ _ a (by omega)).1.trans ((qpI_o _ 128 _ _ a (by omega)).1.trans (show (va_up h1.1 126 _) a = h1.1 a from qun (by omega))))), (show (va_up h1.2.1 127 _) a = h1.2.1 a from qun (by omega))⟩) rfl hC1, ⟨mR, mT, ⟨m1.1, m1.2.1, m1.2.2.1, m1.2.2.2.1, m1.2.2.2.2.1, m1.2.2.2.2.2.1, m1.2.2.2.2.2.2.1, rfl, m1.2.2.2.2.2.2.2.2.1, rfl⟩, mQe_take_o (h := h1) q7 (by omega) (hl1 0 (by omega)) hl2 hl3 rfl rfl rfl rfl mE, mX, mRs, mJ⟩, ⟨q1, q2, q3, q4, q5, by omega, q7, by omega, q9, q10, fun i hi => absurd hi (Nat.not_lt_zero _), fun c hc => (by rw [qun (by omega)]; exact q12 c hc), fun o ho => (by
              by_cases z : o = no
              · subst z; rw [qus, qus]; exact ⟨hk, fun _ => by have z := q11 0 (by omega); rw [t0] at z; exact z, fun w => absurd w hk1⟩
              · rw [qun z, qun (by omega)]; exact q13 o (by omega))⟩, gR, gJb_up gJ⟩, e3⟩
        · rw [bf hcx] at kx
          have ky2 := ky h hM0
          rw [bf hcx] at ky2
          exact op_ro (by omega) (by omega) hI0 (qT.imp (fun v h1 n q => ⟨q.1, q.2.1.symm, q.2.2⟩) kx) (qT.imp (fun v h1 n q => ⟨q.1, q.2.1.symm, q.2.2⟩) ky2)
      · rw [decide_eq_false hd, Bool.false_and, Bool.and_false] at kx
        exact op_ro (by omega) (by omega) hI0 (qT.imp (fun v h1 n q => ⟨q.1, q.2.1.symm, q.2.2⟩) kx) (ct_QM_output_of_no (nI k) hki mR bg on m1.1 mJ.1 dep q6 m1.2.2.2.2.2.2.2.1 no q8 m1.2.2.2.2.2.2.2.2.2 (by rw [decide_eq_false hd, Bool.and_false, Bool.and_false]))
  · by_cases hk1 : k0 = nI 1
    · subst hk1
      have g1 : (bg && !on) = false := by
        cases w : (bg && !on)
        · rfl
        · exact absurd (by rw [w]; decide) hg
      have ky2 := ct_QM_output_rows mR bg on m1.1 mJ.1 dep q6 m1.2.2.2.2.2.2.2.1 no q8 m1.2.2.2.2.2.2.2.2.2
      rw [g1] at ky2
      exact op_ro (by omega) (by omega) hI0 (ct_QF_output_no hS.1 bg on h3.1 hJ.1 (nI 1) (bf hg)) (qT.imp (fun v h1 n q => ⟨q.1, q.2.1.symm, q.2.2⟩) ky2)
    · exact op_ro (by omega) (by omega) hI0 (ct_QF_output_no hS.1 bg on h3.1 hJ.1 k0 (bf hg)) (ct_QM_output_of_no k0 hk1 mR bg on m1.1 mJ.1 dep q6 m1.2.2.2.2.2.2.2.1 no q8 m1.2.2.2.2.2.2.2.2.2 (by rw [← in_6, ← Bool.and_assoc, bf hg]; rfl))
