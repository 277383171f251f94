set_option maxRecDepth 100000 in
set_option maxHeartbeats 4000000 in
theorem op_from (k f s0 l r : Int32) : OpI mi_QF_from mi_QM_from [.int k, .int f, .int s0, .int l, .int r] := by
  intro N h hN hI
  have hI0 := hI
  obtain ⟨pp, ti, tn, rt, bg, kd, fi, se, le, ri, dep, EE, tr, nc, no, ok, gr, ob, dw, lm, RES, rs, wd, cn, ps, p, on, wk, nt, kt, pt, tq, dn, tm, ig, s, Q, ud, s2, qn, qt, qa, hC, hM, hP⟩ := hI
  obtain ⟨hS, hT, h3, hE, hX, hRs, hJ⟩ := hC
  obtain ⟨mR, mT, m1, mE, mX, mRs, mJ⟩ := hM
  obtain ⟨gQ, gR, gJ⟩ := hP
  have gQ0 := gQ
  obtain ⟨q1, q2, q3, q4, q5, q6, q7, q8, q9, q10, q11, q12, q13⟩ := gQ
  have hC0 : CI h pp ti tn rt bg kd fi se le ri dep EE tr nc no ok gr ob dw lm RES rs wd cn ps p on wk nt kt pt tq dn tm ig s Q ud := ⟨hS, hT, h3, hE, hX, hRs, hJ⟩
  have hM0 : MI h ti tn rt bg kd fi se le ri dep EE tr nc no ok gr ob dw lm RES rs wd cn ps p on wk nt kt pt tq dn tm ig s2 qn qt qa := ⟨mR, mT, m1, mE, mX, mRs, mJ⟩
  have ky0 := fun (h1 : qH) (hM1 : MI h1 ti tn rt bg kd fi se le ri dep EE tr nc no ok gr ob dw lm RES rs wd cn ps p on wk nt kt pt tq dn tm ig s2 qn qt qa) => ct_QM_from (h := h1) k f s0 l r on hM1.2.2.2.2.2.2.1
  rw [← in_3, ← in_3, ← in_3, ← in_2, ← in_2] at ky0
  have ek : decide (0 ≤ k ∧ k < nI 3) = true → decide (k ≤ 0) = decide (k = 0) := by
    intro q
    obtain ⟨a, ha, rfl⟩ := in_of (by omega) q
    have e : a = 0 ∨ a = 1 ∨ a = 2 := by omega
    rcases e with rfl | rfl | rfl <;> decide
  have eg : ((!on && (decide (0 ≤ k ∧ k < nI 3) && decide (0 ≤ f ∧ f < nI 3))) && (decide (k ≤ 0) || (decide (0 ≤ s0 ∧ s0 < nI 3) && (decide (0 ≤ l ∧ l < nI 2) && decide (0 ≤ r ∧ r < nI 2))))) = ((!on && (decide (0 ≤ k ∧ k < nI 3) && decide (0 ≤ f ∧ f < nI 3))) && (decide (k = 0) || (decide (0 ≤ s0 ∧ s0 < nI 3) && (decide (0 ≤ l ∧ l < nI 2) && decide (0 ≤ r ∧ r < nI 2))))) := by
    by_cases q : decide (0 ≤ k ∧ k < nI 3) = true
    · rw [ek q]
    · rw [bf q, Bool.false_and, Bool.and_false, Bool.false_and, Bool.false_and]
  by_cases hg : ((!on && (decide (0 ≤ k ∧ k < nI 3) && decide (0 ≤ f ∧ f < nI 3))) && (decide (k = 0) || (decide (0 ≤ s0 ∧ s0 < nI 3) && (decide (0 ≤ l ∧ l < nI 2) && decide (0 ≤ r ∧ r < nI 2))))) = true
  · have ky := fun (h1 : qH) (hM1 : MI h1 ti tn rt bg kd fi se le ri dep EE tr nc no ok gr ob dw lm RES rs wd cn ps p on wk nt kt pt tq dn tm ig s2 qn qt qa) => ky0 h1 hM1
    rw [eg, hg] at ky
    rw [Bool.and_eq_true, Bool.and_eq_true, Bool.and_eq_true, Bool.or_eq_true] at hg
    obtain ⟨⟨g1, g2, g3⟩, g4⟩ := hg
    have e1 : on = false := by cases on <;> first | rfl | cases g1
    have j1 : h.1 83 0 = b2i false := by rw [← e1]; exact hJ.1
    by_cases k0 : k = 0
    · subst k0
      obtain ⟨b, hb, rfl⟩ := in_of (by omega) g3
      have kx := ct_QF_from_0 hS.1 j1 (nI b) s0 l r g3
      refine op_mo (z := b2i true) (dy := 1) (by omega) (by omega) kx (fun h1 => CI h1 pp ti tn rt true 0 b b 0 0 0 EE tr 0 0 ok none 0 false (-1) RES rs wd cn ps p on wk nt kt pt tq dn tm ig s Q ud ∧ MI h1 ti tn rt bg kd fi se le ri dep EE tr nc no ok gr ob dw lm RES rs wd cn ps p on wk nt kt pt tq dn tm ig s2 qn qt qa) ?_ ?_
      · rintro v h1 n ⟨e1, e2, e3⟩
        have e2 : h1 = (qpI (qpI (qpI (qpI (qpI (qpI (qpI (qpI (qpI (qpI (qpI (qpI (qpI h 3 0 (nI 1)) 3 1 (nI 0)) 3 2 (nI b)) 3 3 (nI b)) 3 4 (nI 0)) 3 5 (nI 0)) 3 7 (nI 0)) 3 9 (nI 0)) 3 12 (nI 0)) 3 13 (-1)) 3 14 (nI 0)) 3 15 (nI 0)) 3 16 (-1)) := e2
        subst e2
        exact ⟨e1, ⟨CI_q (fun a ha _ => (rtr (r3 a (by omega)) (rtr (r3 a (by omega)) (rtr (r3 a (by omega)) (rtr (r3 a (by omega)) (rtr (r3 a (by omega)) (rtr (r3 a (by omega)) (rtr (r3 a (by omega)) (rtr (r3 a (by omega)) (rtr (r3 a (by omega)) (rtr (r3 a (by omega)) (rtr (r3 a (by omega)) (rtr (r3 a (by omega)) (r3 a (by omega))))))))))))))) (fun a _ _ _ => rfl) ⟨rfl, rfl, rfl, rfl, rfl, rfl, rfl, rfl, rfl, rfl, rfl, rfl, rfl⟩ ⟨hE.1, fun i hi => absurd hi (Nat.not_lt_zero _), fun i hi => absurd hi (Nat.not_lt_zero _), fun i hi => absurd hi (Nat.not_lt_zero _)⟩ hC0, MI_ag (fun a ha => ⟨((rtr (r3 a (by omega)) (rtr (r3 a (by omega)) (rtr (r3 a (by omega)) (rtr (r3 a (by omega)) (rtr (r3 a (by omega)) (rtr (r3 a (by omega)) (rtr (r3 a (by omega)) (rtr (r3 a (by omega)) (rtr (r3 a (by omega)) (rtr (r3 a (by omega)) (rtr (r3 a (by omega)) (rtr (r3 a (by omega)) (r3 a (by omega))))))))))))))).1, rfl, rfl⟩) hM0⟩, e3⟩
      · rintro h1 ⟨hC1, hM1⟩
        refine qT.imp ?_ (ky h1 hM1)
        rintro v h2 n ⟨e1, e2, e3⟩
        have e2 : h2 = (qpI (qpI (qpI (qpI (qpI (qpI (qpI (qpI (qpI (qpI (qpI (qpI (qpI h1 122 3 (nI 1)) 122 4 0) 122 5 (nI b)) 122 6 s0) 122 7 l) 122 8 r) 122 9 (-1)) 122 10 (nI 0)) 122 11 (nI 0)) 122 12 (-1)) 122 13 (nI 0)) 122 14 (nI 0)) 122 15 (nI 0)) := e2
        subst e2
        obtain ⟨mR, mT, m1, mE, mX, mRs, mJ⟩ := hM1
        exact ⟨e1, ⟨pp, ti, tn, rt, true, 0, b, b, 0, 0, 0, EE, tr, 0, 0, ok, none, 0, false, (-1), RES, rs, wd, cn, ps, p, on, wk, nt, kt, pt, tq, dn, tm, ig, s, Q, ud, s2, qn, qt, qa, CI_ag ⟨by omega, by omega, by omega⟩ (fun a ha => (rtr (r122 a ha) (rtr (r122 a ha) (rtr (r122 a ha) (rtr (r122 a ha) (rtr (r122 a ha) (rtr (r122 a ha) (rtr (r122 a ha) (rtr (r122 a ha) (rtr (r122 a ha) (rtr (r122 a ha) (rtr (r122 a ha) (rtr (r122 a ha) (r122 a ha)))))))))))))) rfl hC1, ⟨mR, mT, ⟨rfl, rfl, rfl, fun z => absurd rfl z, fun _ => ⟨rfl, rfl⟩, rfl, rfl, rfl, rfl, rfl⟩, ⟨fun i hi => absurd hi (Nat.not_lt_zero _), fun i hi => absurd hi (Nat.not_lt_zero _), fun i hi => absurd hi (Nat.not_lt_zero _)⟩, mX, mRs, mJ⟩, ⟨by omega, by omega, by omega, by omega, by omega, by omega, by omega, by omega, by omega, (fun g e => by cases e), fun i hi => absurd hi (Nat.not_lt_zero _), fun i hi => absurd hi (Nat.not_lt_zero _), fun i hi => absurd hi (Nat.not_lt_zero _)⟩, gR, gJb_up gJ⟩, e3⟩
    · rcases g4 with g4 | g4
      · exact absurd (of_decide_eq_true g4) k0
      · rw [Bool.and_eq_true, Bool.and_eq_true] at g4
        obtain ⟨g5, g6, g7⟩ := g4
        have kx := ct_QF_from_1 hS.1 j1 k f s0 l r g2 k0 g3 g5 g6 g7
        obtain ⟨a, ha, rfl⟩ := in_of (by omega) g2
        obtain ⟨b, hb, rfl⟩ := in_of (by omega) g3
        obtain ⟨c, hc, rfl⟩ := in_of (by omega) g5
        obtain ⟨d, hd, rfl⟩ := in_of (by omega) g6
        obtain ⟨e, he, rfl⟩ := in_of (by omega) g7
        refine op_mo (z := b2i true) (dy := 1) (by omega) (by omega) kx (fun h1 => CI h1 pp ti tn rt true a b c d e 0 EE tr 0 0 ok none 0 false (-1) RES rs wd cn ps p on wk nt kt pt tq dn tm ig s Q ud ∧ MI h1 ti tn rt bg kd fi se le ri dep EE tr nc no ok gr ob dw lm RES rs wd cn ps p on wk nt kt pt tq dn tm ig s2 qn qt qa) ?_ ?_
        · rintro v h1 n ⟨e1, e2, e3⟩
          have e2 : h1 = (qpI (qpI (qpI (qpI (qpI (qpI (qpI (qpI (qpI (qpI (qpI (qpI (qpI h 3 0 (nI 1)) 3 1 (nI a)) 3 2 (nI b)) 3 3 (nI c)) 3 4 (nI d)) 3 5 (nI e)) 3 7 (nI 0)) 3 9 (nI 0)) 3 12 (nI 0)) 3 13 (-1)) 3 14 (nI 0)) 3 15 (nI 0)) 3 16 (-1)) := e2
          subst e2
          exact ⟨e1, ⟨CI_q (fun a ha _ => (rtr (r3 a (by omega)) (rtr (r3 a (by omega)) (rtr (r3 a (by omega)) (rtr (r3 a (by omega)) (rtr (r3 a (by omega)) (rtr (r3 a (by omega)) (rtr (r3 a (by omega)) (rtr (r3 a (by omega)) (rtr (r3 a (by omega)) (rtr (r3 a (by omega)) (rtr (r3 a (by omega)) (rtr (r3 a (by omega)) (r3 a (by omega))))))))))))))) (fun a _ _ _ => rfl) ⟨rfl, rfl, rfl, rfl, rfl, rfl, rfl, rfl, rfl, rfl, rfl, rfl, rfl⟩ ⟨hE.1, fun i hi => absurd hi (Nat.not_lt_zero _), fun i hi => absurd hi (Nat.not_lt_zero _), fun i hi => absurd hi (Nat.not_lt_zero _)⟩ hC0, MI_ag (fun a ha => ⟨((rtr (r3 a (by omega)) (rtr (r3 a (by omega)) (rtr (r3 a (by omega)) (rtr (r3 a (by omega)) (rtr (r3 a (by omega)) (rtr (r3 a (by omega)) (rtr (r3 a (by omega)) (rtr (r3 a (by omega)) (rtr (r3 a (by omega)) (rtr (r3 a (by omega)) (rtr (r3 a (by omega)) (rtr (r3 a (by omega)) (r3 a (by omega))))))))))))))).1, rfl, rfl⟩) hM0⟩, e3⟩
        · rintro h1 ⟨hC1, hM1⟩
          refine qT.imp ?_ (ky h1 hM1)
          rintro v h2 n ⟨e1, e2, e3⟩
          have e2 : h2 = (qpI (qpI (qpI (qpI (qpI (qpI (qpI (qpI (qpI (qpI (qpI (qpI (qpI h1 122 3 (nI 1)) 122 4 (nI a)) 122 5 (nI b)) 122 6 (nI c)) 122 7 (nI d)) 122 8 (nI e)) 122 9 (-1)) 122 10 (nI 0)) 122 11 (nI 0)) 122 12 (-1)) 122 13 (nI 0)) 122 14 (nI 0)) 122 15 (nI 0)) := e2
          subst e2
          obtain ⟨mR, mT, m1, mE, mX, mRs, mJ⟩ := hM1
          exact ⟨e1, ⟨pp, ti, tn, rt, true, a, b, c, d, e, 0, EE, tr, 0, 0, ok, none, 0, false, (-1), RES, rs, wd, cn, ps, p, on, wk, nt, kt, pt, tq, dn, tm, ig, s, Q, ud, s2, qn, qt, qa, CI_ag ⟨by omega, by omega, by omega⟩ (fun a ha => (rtr (r122 a ha) (rtr (r122 a ha) (rtr (r122 a ha) (rtr (r122 a ha) (rtr (r122 a ha) (rtr (r122 a ha) (rtr (r122 a ha) (rtr (r122 a ha) (rtr (r122 a ha) (rtr (r122 a ha) (rtr (r122 a ha) (rtr (r122 a ha) (r122 a ha)))))))))))))) rfl hC1, ⟨mR, mT, ⟨rfl, rfl, rfl, fun _ => ⟨rfl, rfl, rfl⟩, fun _ => ⟨rfl, rfl⟩, rfl, rfl, rfl, rfl, rfl⟩, ⟨fun i hi => absurd hi (Nat.not_lt_zero _), fun i hi => absurd hi (Nat.not_lt_zero _), fun i hi => absurd hi (Nat.not_lt_zero _)⟩, mX, mRs, mJ⟩, ⟨by omega, by omega, by omega, by omega, by omega, by omega, by omega, by omega, by omega, (fun g e => by cases e), fun i hi => absurd hi (Nat.not_lt_zero _), fun i hi => absurd hi (Nat.not_lt_zero _), fun i hi => absurd hi (Nat.not_lt_zero _)⟩, gR, gJb_up gJ⟩, e3⟩
  · have ky := ky0 h hM0
    rw [eg, bf hg] at ky
    exact op_ro (by omega) (by omega) hI0 (ct_QF_from_no hS.1 on hJ.1 k f s0 l r (bf hg)) (qT.imp (fun v h1 n q => ⟨q.1, q.2.1.symm, q.2.2⟩) ky)
