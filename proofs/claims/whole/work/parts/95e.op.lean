theorem plTab_put {g g1 : Nat → Nat → Int32} {ti : Nat → Int32} {tn : Nat → Bool} {rt : Nat → Nat} {t sz : Nat} {x y : Int32} {a b : Bool} (ht : t < 3) (hs : sz < 12) (h0 : plTab g ti tn rt) (e1 : g1 (70 + 3 * t + 1) = va_up (va_up (g (70 + 3 * t + 1)) (sz * 2) x) (sz * 2 + 1) y) (e2 : g1 (70 + 3 * t + 2) = va_up (va_up (g (70 + 3 * t + 2)) (sz * 2) (b2i a)) (sz * 2 + 1) (b2i b)) (e3 : g1 (70 + 3 * t) 2 = nI (sz + 1)) (e4 : ∀ c, 70 ≤ c → c ≤ 78 → c ≠ 70 + 3 * t → c ≠ 70 + 3 * t + 1 → c ≠ 70 + 3 * t + 2 → g1 c = g c) : plTab g1 (va_up (va_up ti (24 * t + 2 * sz) x) (24 * t + 2 * sz + 1) y) (va_up (va_up tn (24 * t + 2 * sz) a) (24 * t + 2 * sz + 1) b) (va_up rt t (sz + 1)) := by
  intro t2 ht2
  obtain ⟨q1, q2, q3, q4⟩ := h0 t2 ht2
  by_cases e : t2 = t
  · subst e
    refine ⟨fun k hk => ?_, fun k hk => ?_, by rw [e3, qus], by rw [qus]; omega⟩
    · rw [e1]
      by_cases k1 : k = sz * 2 + 1
      · rw [k1, qus, show 24 * t2 + (sz * 2 + 1) = 24 * t2 + 2 * sz + 1 by omega, qus]
      · rw [qun k1, qun (show 24 * t2 + k ≠ 24 * t2 + 2 * sz + 1 by omega)]
        by_cases k0 : k = sz * 2
        · rw [k0, qus, show 24 * t2 + sz * 2 = 24 * t2 + 2 * sz by omega, qus]
        · rw [qun k0, qun (show 24 * t2 + k ≠ 24 * t2 + 2 * sz by omega)]
          exact q1 k hk
    · rw [e2]
      by_cases k1 : k = sz * 2 + 1
      · rw [k1, qus, show 24 * t2 + (sz * 2 + 1) = 24 * t2 + 2 * sz + 1 by omega, qus]
      · rw [qun k1, qun (show 24 * t2 + k ≠ 24 * t2 + 2 * sz + 1 by omega)]
        by_cases k0 : k = sz * 2
        · rw [k0, qus, show 24 * t2 + sz * 2 = 24 * t2 + 2 * sz by omega, qus]
        · rw [qun k0, qun (show 24 * t2 + k ≠ 24 * t2 + 2 * sz by omega)]
          exact q2 k hk
  · rw [e4 (70 + 3 * t2 + 1) (by omega) (by omega) (by omega) (by omega) (by omega), e4 (70 + 3 * t2 + 2) (by omega) (by omega) (by omega) (by omega) (by omega), e4 (70 + 3 * t2) (by omega) (by omega) (by omega) (by omega) (by omega), qun e]
    refine ⟨fun k hk => ?_, fun k hk => ?_, q3, q4⟩
    · rw [qun (by omega), qun (by omega)]; exact q1 k hk
    · rw [qun (by omega), qun (by omega)]; exact q2 k hk
theorem mTb_put {h h1 : qH} {ti : Nat → Int32} {tn : Nat → Bool} {rt : Nat → Nat} {t i r : Nat} {x y : Int32} {a b : Bool} (h0 : mTb h ti tn rt) (e1 : h1.1 123 = va_up (h.1 123) t (nI r)) (e2 : h1.2.1 124 = va_up (va_up (h.2.1 124) i x.toInt64) (i + 1) y.toInt64) (e3 : h1.1 125 = va_up (va_up (h.1 125) i (b2i a)) (i + 1) (b2i b)) : mTb h1 (va_up (va_up ti i x) (i + 1) y) (va_up (va_up tn i a) (i + 1) b) (va_up rt t r) := by
  refine ⟨fun t2 ht2 => ?_, fun k hk => ?_⟩
  · rw [e1]
    by_cases e : t2 = t
    · rw [e, qus, qus]
    · rw [qun e, qun e]; exact h0.1 t2 ht2
  · rw [e2, e3]
    by_cases k1 : k = i + 1
    · rw [k1, qus, qus, qus, qus]; exact ⟨rfl, rfl⟩
    · rw [qun k1, qun k1, qun k1, qun k1]
      by_cases k0 : k = i
      · rw [k0, qus, qus, qus, qus]; exact ⟨rfl, rfl⟩
      · rw [qun k0, qun k0, qun k0, qun k0]; exact h0.2 k hk
theorem nl_b : ∀ m, m < 4 → decide (¬ nI m &&& nI 1 = 0) = decide (nI m &&& nI 1 = nI 1) ∧ decide (¬ nI m &&& nI 2 = 0) = decide (nI m &&& nI 2 = nI 2) := by decide
theorem qo {h : qH} {b i a : Nat} {v : Int32} (ha : a ≠ b) : (qpI h b i v).1 a = h.1 a ∧ (qpI h b i v).2.1 a = h.2.1 a := ⟨(qpI_o h b i v a ha).1, rfl⟩
set_option maxRecDepth 100000 in
set_option maxHeartbeats 4000000 in
theorem op_row (t x y nl : Int32) : OpI mi_QF_row mi_QM_row [.int t, .int x, .int y, .int nl] := by
  intro N h hN hI
  have hI0 := hI
  obtain ⟨pp, ti, tn, rt, bg, kd, fi, se, le, ri, dep, EE, tr, nc, no, ok, gr, ob, dw, lm, RES, rs, wd, cn, ps, p, on, wk, nt, kt, pt, tq, dn, tm, ig, s, Q, ud, s2, qn, qt, qa, hC, hM, hP⟩ := hI
  obtain ⟨hS, hT, h3, hE, hX, hRs, hJ⟩ := hC
  obtain ⟨mR, mT, m1, mE, mX, mRs, mJ⟩ := hM
  obtain ⟨gQ, gR, gJ⟩ := hP
  have gQ0 := gQ
  obtain ⟨q1, q2, q3, q4, q5, q6, q7, q8, q9, q10, q11, q12, q13⟩ := gQ
  have hC0 : CI h pp ti tn rt bg kd fi se le ri dep EE tr nc no ok gr ob dw lm RES rs wd cn ps p on wk nt kt pt tq dn tm ig s Q ud := ⟨hS, hT, h3, hE, hX, hRs, hJ⟩
  have hM0 : MI h ti tn rt bg kd fi se le ri dep EE tr nc no ok gr ob dw lm RES rs wd cn ps p on wk nt kt pt tq dn tm ig s2 qn qt qa := ⟨mR, mT, m1, mE, mX, mRs, mJ⟩
  by_cases hg : (!on && (decide (0 ≤ t ∧ t < nI 3) && decide (0 ≤ nl ∧ nl < nI 4))) = true
  · rw [Bool.and_eq_true, Bool.and_eq_true] at hg
    obtain ⟨g1, g2, g3⟩ := hg
    have e1 : on = false := by cases on <;> first | rfl | cases g1
    have j1 : h.1 83 0 = b2i false := by rw [← e1]; exact hJ.1
    obtain ⟨m, hm, rfl⟩ := in_of (by omega) g3
    obtain ⟨k, hk, rfl⟩ := in_of (by omega) g2
    have ek : k = 0 ∨ k = 1 ∨ k = 2 := by omega
    rcases ek with rfl | rfl | rfl
    · have hsz := (hT 0 (by omega)).2.2
      have kx := ct_QF_row_0 hS.1 j1 (hS.2.1.2.1 0 (by omega)) (hS.2.1.2.2.2.1 0 (by omega)) x y (nI m) g3 (rt 0) hsz.2 hsz.1
      rw [(nl_b m hm).1, (nl_b m hm).2] at kx
      by_cases hf : rt 0 < 12
      · rw [if_pos hf, if_pos hf] at kx
        refine op_mo (z := nI (rt 0 + 1)) (dy := 1) (by omega) (by omega) kx (fun h1 => CI h1 pp (va_up (va_up ti (24 * 0 + 2 * rt 0) x) ((24 * 0 + 2 * rt 0) + 1) y) (va_up (va_up tn (24 * 0 + 2 * rt 0) (decide (nI m &&& nI 1 = nI 1))) ((24 * 0 + 2 * rt 0) + 1) (decide (nI m &&& nI 2 = nI 2))) (va_up rt 0 (rt 0 + 1)) bg kd fi se le ri dep EE tr nc no ok gr ob dw lm RES rs wd cn ps p on wk nt kt pt tq dn tm ig s Q ud ∧ MI h1 ti tn rt bg kd fi se le ri dep EE tr nc no ok gr ob dw lm RES rs wd cn ps p on wk nt kt pt tq dn tm ig s2 qn qt qa) ?_ ?_
        · rintro v h1 n ⟨e1, e2, e3⟩
          have e2 : h1 = (qpI (qpI (qpI (qpI (qpI h 71 (rt 0 * 2) x) 72 (rt 0 * 2) (b2i (decide (nI m &&& nI 1 = nI 1)))) 71 (rt 0 * 2 + 1) y) 72 (rt 0 * 2 + 1) (b2i (decide (nI m &&& nI 2 = nI 2)))) 70 2 (nI (rt 0 + 1))) := e2
          subst e2
          exact ⟨e1, ⟨⟨cSt_ag (fun a _ _ _ => rfl) hS, plTab_put (t := 0) (by omega) hf hT rfl rfl rfl (fun c _ _ _ _ _ => ((rtr (qo (by omega)) (rtr (qo (by omega)) (rtr (qo (by omega)) (rtr (qo (by omega)) (qo (by omega))))))).1), h3, cQe_ag q6 q7 q8 (fun a _ _ => ((rtr (qo (by omega)) (rtr (qo (by omega)) (rtr (qo (by omega)) (rtr (qo (by omega)) (qo (by omega))))))).1) rfl hE, cScr_ag (fun a _ => ((rtr (qo (by omega)) (rtr (qo (by omega)) (rtr (qo (by omega)) (rtr (qo (by omega)) (qo (by omega))))))).1) hX, cRs_ag (fun a _ _ => (rtr (qo (by omega)) (rtr (qo (by omega)) (rtr (qo (by omega)) (rtr (qo (by omega)) (qo (by omega))))))) hRs, cJb_ag (fun a _ _ => ((rtr (qo (by omega)) (rtr (qo (by omega)) (rtr (qo (by omega)) (rtr (qo (by omega)) (qo (by omega))))))).1) hJ⟩, MI_ag (fun a ha => ⟨((rtr (qo (by omega)) (rtr (qo (by omega)) (rtr (qo (by omega)) (rtr (qo (by omega)) (qo (by omega))))))).1, rfl, rfl⟩) hM0⟩, e3⟩
        · rintro h1 ⟨hC1, hM1⟩
          refine qT.imp ?_ (ct_QM_row_ok (h := h1) 0 x y (nI m) hM1.1 (by rw [← e1]; exact hM1.2.2.2.2.2.2.1) (by omega) (by rw [← in_4]; exact g3) (rt 0) hf (hM1.2.1.1 0 (by omega)))
          rintro v h2 n ⟨e1, e2, e3⟩
          have e2 : h2 = (qpI (qpI (qpI (qpL (qpL h1 124 (24 * 0 + 2 * rt 0) x.toInt64) 124 ((24 * 0 + 2 * rt 0) + 1) y.toInt64) 125 (24 * 0 + 2 * rt 0) (b2i (decide (nI m &&& nI 1 = nI 1)))) 125 ((24 * 0 + 2 * rt 0) + 1) (b2i (decide (nI m &&& nI 2 = nI 2)))) 123 0 (nI (rt 0 + 1))) := e2
          subst e2
          obtain ⟨mR, mT, m1, mE, mX, mRs, mJ⟩ := hM1
          exact ⟨e1, ⟨pp, (va_up (va_up ti (24 * 0 + 2 * rt 0) x) ((24 * 0 + 2 * rt 0) + 1) y), (va_up (va_up tn (24 * 0 + 2 * rt 0) (decide (nI m &&& nI 1 = nI 1))) ((24 * 0 + 2 * rt 0) + 1) (decide (nI m &&& nI 2 = nI 2))), (va_up rt 0 (rt 0 + 1)), bg, kd, fi, se, le, ri, dep, EE, tr, nc, no, ok, gr, ob, dw, lm, RES, rs, wd, cn, ps, p, on, wk, nt, kt, pt, tq, dn, tm, ig, s, Q, ud, s2, qn, qt, qa, CI_ag (h := h1) ⟨q6, q7, q8⟩ (fun a ha => ⟨(qpI_o _ 123 _ _ a (by omega)).1.trans ((qpI_o _ 125 _ _ a (by omega)).1.trans (qpI_o _ 125 _ _ a (by omega)).1), (show (va_up (va_up h1.2.1 124 _) 124 _) a = h1.2.1 a from (qun (by omega)).trans (qun (by omega)))⟩) rfl hC1, ⟨mR, mTb_put mT rfl rfl rfl, m1, mE, mX, mRs, mJ⟩, gQ0, gR, gJb_up gJ⟩, e3⟩
      · rw [if_neg hf, if_neg hf] at kx
        exact op_ro (by omega) (by omega) hI0 (qT.imp (fun v h1 n q => ⟨q.1, q.2.1.symm, q.2.2⟩) kx) (ct_QM_row_full 0 x y (nI m) mR (by rw [← e1]; exact mJ.1) (by omega) (by rw [← in_4]; exact g3) (by rw [mT.1 0 (by omega), show rt 0 = 12 by omega]))
    · have hsz := (hT 1 (by omega)).2.2
      have kx := ct_QF_row_1 hS.1 j1 (hS.2.1.2.1 1 (by omega)) (hS.2.1.2.2.2.1 1 (by omega)) x y (nI m) g3 (rt 1) hsz.2 hsz.1
      rw [(nl_b m hm).1, (nl_b m hm).2] at kx
      by_cases hf : rt 1 < 12
      · rw [if_pos hf, if_pos hf] at kx
        refine op_mo (z := nI (rt 1 + 1)) (dy := 1) (by omega) (by omega) kx (fun h1 => CI h1 pp (va_up (va_up ti (24 * 1 + 2 * rt 1) x) ((24 * 1 + 2 * rt 1) + 1) y) (va_up (va_up tn (24 * 1 + 2 * rt 1) (decide (nI m &&& nI 1 = nI 1))) ((24 * 1 + 2 * rt 1) + 1) (decide (nI m &&& nI 2 = nI 2))) (va_up rt 1 (rt 1 + 1)) bg kd fi se le ri dep EE tr nc no ok gr ob dw lm RES rs wd cn ps p on wk nt kt pt tq dn tm ig s Q ud ∧ MI h1 ti tn rt bg kd fi se le ri dep EE tr nc no ok gr ob dw lm RES rs wd cn ps p on wk nt kt pt tq dn tm ig s2 qn qt qa) ?_ ?_
        · rintro v h1 n ⟨e1, e2, e3⟩
          have e2 : h1 = (qpI (qpI (qpI (qpI (qpI h 74 (rt 1 * 2) x) 75 (rt 1 * 2) (b2i (decide (nI m &&& nI 1 = nI 1)))) 74 (rt 1 * 2 + 1) y) 75 (rt 1 * 2 + 1) (b2i (decide (nI m &&& nI 2 = nI 2)))) 73 2 (nI (rt 1 + 1))) := e2
          subst e2
          exact ⟨e1, ⟨⟨cSt_ag (fun a _ _ _ => rfl) hS, plTab_put (t := 1) (by omega) hf hT rfl rfl rfl (fun c _ _ _ _ _ => ((rtr (qo (by omega)) (rtr (qo (by omega)) (rtr (qo (by omega)) (rtr (qo (by omega)) (qo (by omega))))))).1), h3, cQe_ag q6 q7 q8 (fun a _ _ => ((rtr (qo (by omega)) (rtr (qo (by omega)) (rtr (qo (by omega)) (rtr (qo (by omega)) (qo (by omega))))))).1) rfl hE, cScr_ag (fun a _ => ((rtr (qo (by omega)) (rtr (qo (by omega)) (rtr (qo (by omega)) (rtr (qo (by omega)) (qo (by omega))))))).1) hX, cRs_ag (fun a _ _ => (rtr (qo (by omega)) (rtr (qo (by omega)) (rtr (qo (by omega)) (rtr (qo (by omega)) (qo (by omega))))))) hRs, cJb_ag (fun a _ _ => ((rtr (qo (by omega)) (rtr (qo (by omega)) (rtr (qo (by omega)) (rtr (qo (by omega)) (qo (by omega))))))).1) hJ⟩, MI_ag (fun a ha => ⟨((rtr (qo (by omega)) (rtr (qo (by omega)) (rtr (qo (by omega)) (rtr (qo (by omega)) (qo (by omega))))))).1, rfl, rfl⟩) hM0⟩, e3⟩
        · rintro h1 ⟨hC1, hM1⟩
          refine qT.imp ?_ (ct_QM_row_ok (h := h1) 1 x y (nI m) hM1.1 (by rw [← e1]; exact hM1.2.2.2.2.2.2.1) (by omega) (by rw [← in_4]; exact g3) (rt 1) hf (hM1.2.1.1 1 (by omega)))
          rintro v h2 n ⟨e1, e2, e3⟩
          have e2 : h2 = (qpI (qpI (qpI (qpL (qpL h1 124 (24 * 1 + 2 * rt 1) x.toInt64) 124 ((24 * 1 + 2 * rt 1) + 1) y.toInt64) 125 (24 * 1 + 2 * rt 1) (b2i (decide (nI m &&& nI 1 = nI 1)))) 125 ((24 * 1 + 2 * rt 1) + 1) (b2i (decide (nI m &&& nI 2 = nI 2)))) 123 1 (nI (rt 1 + 1))) := e2
          subst e2
          obtain ⟨mR, mT, m1, mE, mX, mRs, mJ⟩ := hM1
          exact ⟨e1, ⟨pp, (va_up (va_up ti (24 * 1 + 2 * rt 1) x) ((24 * 1 + 2 * rt 1) + 1) y), (va_up (va_up tn (24 * 1 + 2 * rt 1) (decide (nI m &&& nI 1 = nI 1))) ((24 * 1 + 2 * rt 1) + 1) (decide (nI m &&& nI 2 = nI 2))), (va_up rt 1 (rt 1 + 1)), bg, kd, fi, se, le, ri, dep, EE, tr, nc, no, ok, gr, ob, dw, lm, RES, rs, wd, cn, ps, p, on, wk, nt, kt, pt, tq, dn, tm, ig, s, Q, ud, s2, qn, qt, qa, CI_ag (h := h1) ⟨q6, q7, q8⟩ (fun a ha => ⟨(qpI_o _ 123 _ _ a (by omega)).1.trans ((qpI_o _ 125 _ _ a (by omega)).1.trans (qpI_o _ 125 _ _ a (by omega)).1), (show (va_up (va_up h1.2.1 124 _) 124 _) a = h1.2.1 a from (qun (by omega)).trans (qun (by omega)))⟩) rfl hC1, ⟨mR, mTb_put mT rfl rfl rfl, m1, mE, mX, mRs, mJ⟩, gQ0, gR, gJb_up gJ⟩, e3⟩
      · rw [if_neg hf, if_neg hf] at kx
        exact op_ro (by omega) (by omega) hI0 (qT.imp (fun v h1 n q => ⟨q.1, q.2.1.symm, q.2.2⟩) kx) (ct_QM_row_full 1 x y (nI m) mR (by rw [← e1]; exact mJ.1) (by omega) (by rw [← in_4]; exact g3) (by rw [mT.1 1 (by omega), show rt 1 = 12 by omega]))
    · have hsz := (hT 2 (by omega)).2.2
      have kx := ct_QF_row_2 hS.1 j1 (hS.2.1.2.1 2 (by omega)) (hS.2.1.2.2.2.1 2 (by omega)) x y (nI m) g3 (rt 2) hsz.2 hsz.1
      rw [(nl_b m hm).1, (nl_b m hm).2] at kx
      by_cases hf : rt 2 < 12
      · rw [if_pos hf, if_pos hf] at kx
        refine op_mo (z := nI (rt 2 + 1)) (dy := 1) (by omega) (by omega) kx (fun h1 => CI h1 pp (va_up (va_up ti (24 * 2 + 2 * rt 2) x) ((24 * 2 + 2 * rt 2) + 1) y) (va_up (va_up tn (24 * 2 + 2 * rt 2) (decide (nI m &&& nI 1 = nI 1))) ((24 * 2 + 2 * rt 2) + 1) (decide (nI m &&& nI 2 = nI 2))) (va_up rt 2 (rt 2 + 1)) bg kd fi se le ri dep EE tr nc no ok gr ob dw lm RES rs wd cn ps p on wk nt kt pt tq dn tm ig s Q ud ∧ MI h1 ti tn rt bg kd fi se le ri dep EE tr nc no ok gr ob dw lm RES rs wd cn ps p on wk nt kt pt tq dn tm ig s2 qn qt qa) ?_ ?_
        · rintro v h1 n ⟨e1, e2, e3⟩
          have e2 : h1 = (qpI (qpI (qpI (qpI (qpI h 77 (rt 2 * 2) x) 78 (rt 2 * 2) (b2i (decide (nI m &&& nI 1 = nI 1)))) 77 (rt 2 * 2 + 1) y) 78 (rt 2 * 2 + 1) (b2i (decide (nI m &&& nI 2 = nI 2)))) 76 2 (nI (rt 2 + 1))) := e2
          subst e2
          exact ⟨e1, ⟨⟨cSt_ag (fun a _ _ _ => rfl) hS, plTab_put (t := 2) (by omega) hf hT rfl rfl rfl (fun c _ _ _ _ _ => ((rtr (qo (by omega)) (rtr (qo (by omega)) (rtr (qo (by omega)) (rtr (qo (by omega)) (qo (by omega))))))).1), h3, cQe_ag q6 q7 q8 (fun a _ _ => ((rtr (qo (by omega)) (rtr (qo (by omega)) (rtr (qo (by omega)) (rtr (qo (by omega)) (qo (by omega))))))).1) rfl hE, cScr_ag (fun a _ => ((rtr (qo (by omega)) (rtr (qo (by omega)) (rtr (qo (by omega)) (rtr (qo (by omega)) (qo (by omega))))))).1) hX, cRs_ag (fun a _ _ => (rtr (qo (by omega)) (rtr (qo (by omega)) (rtr (qo (by omega)) (rtr (qo (by omega)) (qo (by omega))))))) hRs, cJb_ag (fun a _ _ => ((rtr (qo (by omega)) (rtr (qo (by omega)) (rtr (qo (by omega)) (rtr (qo (by omega)) (qo (by omega))))))).1) hJ⟩, MI_ag (fun a ha => ⟨((rtr (qo (by omega)) (rtr (qo (by omega)) (rtr (qo (by omega)) (rtr (qo (by omega)) (qo (by omega))))))).1, rfl, rfl⟩) hM0⟩, e3⟩
        · rintro h1 ⟨hC1, hM1⟩
          refine qT.imp ?_ (ct_QM_row_ok (h := h1) 2 x y (nI m) hM1.1 (by rw [← e1]; exact hM1.2.2.2.2.2.2.1) (by omega) (by rw [← in_4]; exact g3) (rt 2) hf (hM1.2.1.1 2 (by omega)))
          rintro v h2 n ⟨e1, e2, e3⟩
          have e2 : h2 = (qpI (qpI (qpI (qpL (qpL h1 124 (24 * 2 + 2 * rt 2) x.toInt64) 124 ((24 * 2 + 2 * rt 2) + 1) y.toInt64) 125 (24 * 2 + 2 * rt 2) (b2i (decide (nI m &&& nI 1 = nI 1)))) 125 ((24 * 2 + 2 * rt 2) + 1) (b2i (decide (nI m &&& nI 2 = nI 2)))) 123 2 (nI (rt 2 + 1))) := e2
          subst e2
          obtain ⟨mR, mT, m1, mE, mX, mRs, mJ⟩ := hM1
          exact ⟨e1, ⟨pp, (va_up (va_up ti (24 * 2 + 2 * rt 2) x) ((24 * 2 + 2 * rt 2) + 1) y), (va_up (va_up tn (24 * 2 + 2 * rt 2) (decide (nI m &&& nI 1 = nI 1))) ((24 * 2 + 2 * rt 2) + 1) (decide (nI m &&& nI 2 = nI 2))), (va_up rt 2 (rt 2 + 1)), bg, kd, fi, se, le, ri, dep, EE, tr, nc, no, ok, gr, ob, dw, lm, RES, rs, wd, cn, ps, p, on, wk, nt, kt, pt, tq, dn, tm, ig, s, Q, ud, s2, qn, qt, qa, CI_ag (h := h1) ⟨q6, q7, q8⟩ (fun a ha => ⟨(qpI_o _ 123 _ _ a (by omega)).1.trans ((qpI_o _ 125 _ _ a (by omega)).1.trans (qpI_o _ 125 _ _ a (by omega)).1), (show (va_up (va_up h1.2.1 124 _) 124 _) a = h1.2.1 a from (qun (by omega)).trans (qun (by omega)))⟩) rfl hC1, ⟨mR, mTb_put mT rfl rfl rfl, m1, mE, mX, mRs, mJ⟩, gQ0, gR, gJb_up gJ⟩, e3⟩
      · rw [if_neg hf, if_neg hf] at kx
        exact op_ro (by omega) (by omega) hI0 (qT.imp (fun v h1 n q => ⟨q.1, q.2.1.symm, q.2.2⟩) kx) (ct_QM_row_full 2 x y (nI m) mR (by rw [← e1]; exact mJ.1) (by omega) (by rw [← in_4]; exact g3) (by rw [mT.1 2 (by omega), show rt 2 = 12 by omega]))
  · exact op_ro (by omega) (by omega) hI0 (ct_QF_row_no hS.1 on hJ.1 t x y nl (bf hg)) (ct_QM_row_no t x y nl on mJ.1 (by rw [← in_3, ← in_4]; exact bf hg))
