theorem in_z {x : Int32} {n : Nat} (hn : n < 2 ^ 31) : decide (0 ≤ x ∧ x < nI n) = decide (nI 0 ≤ x ∧ x ≤ nI n - nI 1) := by
  by_cases h1 : 1 ≤ n
  · exact in_eq h1 hn
  · rw [show n = 0 by omega]
    rw [decide_eq_false (fun q => absurd (Int32.lt_of_le_of_lt q.1 q.2) (by decide)), decide_eq_false (fun q => absurd (Int32.le_trans q.1 q.2) (by decide))]
def OpL (mx my : qMi) (av : List Value) : Prop := ∀ (N : Nat) (h : qH), N < 1000 → Inv N h → ∃ (z : Int64) (dx dy : Nat), dx ≤ 9 ∧ dy ≤ 9 ∧ qT mx dx 0 0 (.ref 0 :: av) h NN (fun v1 h1 n1 => v1 = some (.long z) ∧ h = h1 ∧ n1 = NN) ∧ qT my dy 0 0 (.ref 122 :: av) h NN (fun v1 h1 n1 => v1 = some (.long z) ∧ h = h1 ∧ n1 = NN)
set_option maxRecDepth 100000 in
set_option maxHeartbeats 4000000 in
theorem op_cell (i c : Int32) : OpL mi_QF_cell mi_QM_cell [.int i, .int c] := by
  intro N h hN hI
  have hI0 := hI
  obtain ⟨pp, ti, tn, rt, bg, kd, fi, se, le, ri, dep, EE, tr, nc, no, ok, gr, ob, dw, lm, RES, rs, wd, cn, ps, p, on, wk, nt, kt, pt, tq, dn, tm, ig, s, Q, ud, s2, qn, qt, qa, hC, hM, hP⟩ := hI
  obtain ⟨hS, hT, h3, hE, hX, hRs, hJ⟩ := hC
  obtain ⟨mR, mT, m1, mE, mX, mRs, mJ⟩ := hM
  obtain ⟨gQ, gR, gJ⟩ := hP
  obtain ⟨j1, j2, j3, j4, j5, j6, j7, j8, j9, j10, j11, j12⟩ := hJ
  obtain ⟨n1, n2, n3, n4, n5, n6, n7, n8, n9, n10, n11, n12, n13, n14, n15, n16, n17, n18, n19⟩ := mJ
  have hn16 := gJ.1
  obtain ⟨r1, r2, r3, r4, r5, r6⟩ := hRs
  obtain ⟨u1, u2, u3, u4, u5, u6⟩ := mRs
  obtain ⟨w1, w2, w3, w4⟩ := gR
  have hge : (decide (0 < nt) && (!on && (decide (nI 0 ≤ i ∧ i ≤ nI cn - nI 1) && decide (nI 0 ≤ c ∧ c ≤ nI wd - nI 1)))) = ((!on && decide (0 < nt)) && (decide (0 ≤ i ∧ i < nI cn) && decide (0 ≤ c ∧ c < nI wd))) := by
    rw [in_z (show cn < 2 ^ 31 by omega), in_z (show wd < 2 ^ 31 by omega)]
    cases on <;> cases decide (0 < nt) <;> rfl
  by_cases hg : ((!on && decide (0 < nt)) && (decide (0 ≤ i ∧ i < nI cn) && decide (0 ≤ c ∧ c < nI wd))) = true
  · rw [Bool.and_eq_true, Bool.and_eq_true, Bool.and_eq_true] at hg
    obtain ⟨⟨g1, g2⟩, g3, g4⟩ := hg
    have e1 : on = false := by cases on <;> first | rfl | cases g1
    have e2 : 0 < nt := of_decide_eq_true g2
    subst e1
    have hwas : h.1 122 36 = b2i true := by rw [n2, decide_eq_true e2]
    obtain ⟨a, ha, rfl⟩ := in_of (show cn < 2 ^ 31 by omega) g3
    obtain ⟨b, hb, rfl⟩ := in_of (show wd < 2 ^ 31 by omega) g4
    have hp := w4 a ha
    have q1 := r6 (p a) hp b hb
    have q2 := u6 (p a) hp b hb
    have k := ct_QM_cell mR hwas n1 cn wd u4 u3 (by omega) w2 a b ha hb (p a) (by omega) (congrFun u2 a)
    rw [q2.1] at k
    exact ⟨_, _, _, (by omega : 2 ≤ 9), (by omega : 2 ≤ 9), ct_QF_cell hS.1 hS.2.1.2.2.2.2.2.2 j1 nt hn16 j3 e2 cn wd r4 r3 (by omega) w2 a b ha hb (p a) (by omega) (congrFun r2 a) (RES (p a) b) q1.1 q1.2, k⟩
  · exact ⟨_, _, _, (by omega : 2 ≤ 9), (by omega : 2 ≤ 9), ct_QF_cell_no hS.1 on j1 nt hn16 j3 cn wd r4 r3 i c (bf hg), ct_QM_cell_no i c _ on n2 n1 cn wd u4 u3 (by rw [hge]; exact bf hg)⟩
set_option maxRecDepth 100000 in
set_option maxHeartbeats 4000000 in
theorem op_missing (i c : Int32) : OpI mi_QF_missing mi_QM_missing [.int i, .int c] := by
  intro N h hN hI
  have hI0 := hI
  obtain ⟨pp, ti, tn, rt, bg, kd, fi, se, le, ri, dep, EE, tr, nc, no, ok, gr, ob, dw, lm, RES, rs, wd, cn, ps, p, on, wk, nt, kt, pt, tq, dn, tm, ig, s, Q, ud, s2, qn, qt, qa, hC, hM, hP⟩ := hI
  obtain ⟨hS, hT, h3, hE, hX, hRs, hJ⟩ := hC
  obtain ⟨mR, mT, m1, mE, mX, mRs, mJ⟩ := hM
  obtain ⟨gQ, gR, gJ⟩ := hP
  obtain ⟨j1, j2, j3, j4, j5, j6, j7, j8, j9, j10, j11, j12⟩ := hJ
  obtain ⟨n1, n2, n3, n4, n5, n6, n7, n8, n9, n10, n11, n12, n13, n14, n15, n16, n17, n18, n19⟩ := mJ
  have hn16 := gJ.1
  obtain ⟨r1, r2, r3, r4, r5, r6⟩ := hRs
  obtain ⟨u1, u2, u3, u4, u5, u6⟩ := mRs
  obtain ⟨w1, w2, w3, w4⟩ := gR
  have hge : (decide (0 < nt) && (!on && (decide (nI 0 ≤ i ∧ i ≤ nI cn - nI 1) && decide (nI 0 ≤ c ∧ c ≤ nI wd - nI 1)))) = ((!on && decide (0 < nt)) && (decide (0 ≤ i ∧ i < nI cn) && decide (0 ≤ c ∧ c < nI wd))) := by
    rw [in_z (show cn < 2 ^ 31 by omega), in_z (show wd < 2 ^ 31 by omega)]
    cases on <;> cases decide (0 < nt) <;> rfl
  by_cases hg : ((!on && decide (0 < nt)) && (decide (0 ≤ i ∧ i < nI cn) && decide (0 ≤ c ∧ c < nI wd))) = true
  · rw [Bool.and_eq_true, Bool.and_eq_true, Bool.and_eq_true] at hg
    obtain ⟨⟨g1, g2⟩, g3, g4⟩ := hg
    have e1 : on = false := by cases on <;> first | rfl | cases g1
    have e2 : 0 < nt := of_decide_eq_true g2
    subst e1
    have hwas : h.1 122 36 = b2i true := by rw [n2, decide_eq_true e2]
    obtain ⟨a, ha, rfl⟩ := in_of (show cn < 2 ^ 31 by omega) g3
    obtain ⟨b, hb, rfl⟩ := in_of (show wd < 2 ^ 31 by omega) g4
    have hp := w4 a ha
    have q1 := r6 (p a) hp b hb
    have q2 := u6 (p a) hp b hb
    exact op_ro (by omega) (by omega) hI0 (ct_QF_missing hS.1 hS.2.1.2.2.2.2.2.2 j1 nt hn16 j3 e2 cn wd r4 r3 (by omega) w2 a b ha hb (p a) (by omega) (congrFun r2 a) (RES (p a) b) q1.1 q1.2) (ct_QM_missing mR hwas n1 cn wd u4 u3 (by omega) w2 a b ha hb (p a) (by omega) (congrFun u2 a) _ q2.2)
  · exact op_ro (by omega) (by omega) hI0 (ct_QF_missing_no hS.1 on j1 nt hn16 j3 cn wd r4 r3 i c (bf hg)) (ct_QM_missing_no i c _ on n2 n1 cn wd u4 u3 (by rw [hge]; exact bf hg))
theorem cntB_m {f g : Nat → Bool} : ∀ n, (∀ k, k < n → f k = true → g k = true) → cntB f n ≤ cntB g n
  | 0, _ => Nat.le_refl _
  | n + 1, h => by
    have ih := cntB_m n (fun k hk => h k (by omega))
    show (if f n = true then cntB f n + 1 else cntB f n) ≤ (if g n = true then cntB g n + 1 else cntB g n)
    by_cases e : f n = true
    · rw [if_pos e, if_pos (h n (by omega) e)]; omega
    · rw [if_neg e]; split <;> omega
theorem big_8 {kt : Nat → Nat} {s : sJ} {nt : Nat} (h : cntB (fun t => decide (2 ≤ kt t)) nt ≤ 8) : cntB (big kt s) nt ≤ 8 := Nat.le_trans (cntB_m nt (fun k _ q => by unfold big at q; cases e : decide (2 ≤ kt k) <;> rw [e] at q <;> first | rfl | cases q)) h
set_option maxRecDepth 100000 in
set_option maxHeartbeats 4000000 in
theorem op_message (k x : Int32) : OpI mi_QF_message mi_QM_message [.int k, .int x] := by
  intro N h hN hI
  have hI0 := hI
  obtain ⟨pp, ti, tn, rt, bg, kd, fi, se, le, ri, dep, EE, tr, nc, no, ok, gr, ob, dw, lm, RES, rs, wd, cn, ps, p, on, wk, nt, kt, pt, tq, dn, tm, ig, s, Q, ud, s2, qn, qt, qa, hC, hM, hP⟩ := hI
  obtain ⟨hS, hT, h3, hE, hX, hRs, hJ⟩ := hC
  obtain ⟨mR, mT, m1, mE, mX, mRs, mJ⟩ := hM
  obtain ⟨gQ, gR, gJ⟩ := hP
  obtain ⟨j1, j2, j3, j4, j5, j6, j7, j8, j9, j10, j11, j12⟩ := hJ
  obtain ⟨n1, n2, n3, n4, n5, n6, n7, n8, n9, n10, n11, n12, n13, n14, n15, n16, n17, n18, n19⟩ := mJ
  have hn16 := gJ.1
  have eC : cJ h s = h := cJ_of (fun t ht => ⟨(j7 t ht).2.2.2.1, (j7 t ht).2.2.2.2.1⟩) j8 j9 j10 j11
  have eM : jR h s2 = h := jR_of n9 n10 n13 n14 n15 n16
  cases hon : on with
  | false =>
    rw [hon] at j1 n1
    exact op_ro (by omega) (by omega) hI0 (ct_QF_message_off hS.1 j1 k x) (ct_QM_message_off k x n1)
  | true =>
    rw [hon] at j1 n1
    obtain ⟨a1, a2, a3, a4, a5, a6, a7, a8, a9, a10, a11⟩ := gJ.2.2.2 hon
    have hb8 := big_8 (s := s) a6
    by_cases hk1 : k = -1
    · subst hk1
      have kx := ct_QF_message_size hS.1 hS.2.2 s j1 x
      have ky := ct_QM_message_size mR s2 n1 x
      rw [eC] at kx
      rw [eM, ← a4] at ky
      exact op_ro (by omega) (by omega) hI0 kx ky
    · by_cases hg : decide (0 ≤ k ∧ k < nI (sW s)) = true
      · obtain ⟨i, hi, rfl⟩ := in_of (by omega) hg
        obtain ⟨b1, b2, b3, b4⟩ := a10 i hi
        have ri : ∀ z : Int32, ∀ (v : Option Value) (h1 : qH) (n : Nat), (v = some (.int z) ∧ cJ h s = h1 ∧ n = NN) → ∃ z : Int32, v = some (.int z) := fun z v h1 n q => ⟨z, q.1⟩
        have hi2 : i < sW s2 := by rw [← a4]; exact hi
        have e1 : sMk s2 i = sMk s i := by rw [gJ.2.2.1.2.1]
        have e2 : sMt s2 i = sMt s i := by rw [gJ.2.2.1.2.2.1]
        have e3 : sMa s2 i = sMa s i := by rw [gJ.2.2.1.2.2.2.1]
        rcases q_sw3 x with rfl | rfl | rfl | rfl | hx
        · have kx := ct_QF_message hS.1 hS.2.2 s j1 i hi (by omega) _ _ (ri _) (ct_Jo_tell_0 hS.2.2 s i hi (by omega))
          have ky := ct_QM_message_0 mR s2 n1 i hi2 (by omega)
          rw [eC] at kx
          rw [eM, e1] at ky
          exact op_ro (by omega) (by omega) hI0 kx ky
        · have kx := ct_QF_message hS.1 hS.2.2 s j1 i hi (by omega) _ _ (ri _) (ct_Jo_tell_1 hS.2.2 s i hi (by omega))
          have ky := ct_QM_message_1 mR s2 n1 i hi2 (by omega)
          rw [eC] at kx
          rw [eM, e2] at ky
          exact op_ro (by omega) (by omega) hI0 kx ky
        · have kx := ct_QF_message hS.1 hS.2.2 s j1 i hi (by omega) _ _ (ri _) (ct_Jo_tell_2 hS.2.2 s i hi (by omega))
          have ky := ct_QM_message_2 mR s2 n1 i hi2 (by omega)
          rw [eC] at kx
          rw [eM, e3] at ky
          exact op_ro (by omega) (by omega) hI0 kx ky
        · have ht16 : sMt s i < 16 := by omega
          by_cases h0 : sMk s i = 0
          · have kx := ct_QF_message hS.1 hS.2.2 s j1 i hi (by omega) _ _ (ri _) (ct_Jo_tell_3r hS.2.2 s i hi (by omega) h0 pt wk a2 a3 j2 ht16 (j7 _ ht16).2.1 (gJ.2.1 _ b2).2.1 (by omega))
            have ky := ct_QM_message_3r mR s2 n1 i hi2 (by omega) (by rw [e1]; exact h0) pt wk a2 a3 n3 (by rw [e2]; exact ht16) (congrFun n8 _) (by rw [e2]; exact (gJ.2.1 _ b2).2.1) (by rw [e3]; omega)
            rw [eC] at kx
            rw [eM, e2, e3] at ky
            exact op_ro (by omega) (by omega) hI0 kx ky
          · have kx := ct_QF_message hS.1 hS.2.2 s j1 i hi (by omega) _ _ (ri _) (ct_Jo_tell_3d hS.2.2 s i hi (by omega) (by omega) ht16 _ (j7 _ ht16).2.2.1)
            have ky := ct_QM_message_3d mR s2 n1 i hi2 (by omega) (by rw [e1]; omega) (by rw [e2]; exact ht16) _ (congrFun n12 _)
            rw [eC] at kx
            rw [eM, e2] at ky
            exact op_ro (by omega) (by omega) hI0 kx ky
        · have kx := ct_QF_message hS.1 hS.2.2 s j1 i hi (by omega) _ _ (ri _) (ct_Jo_tell_out hS.2.2 s i hi (by omega) x hx)
          have ky := ct_QM_message_out mR s2 n1 i hi2 (by omega) x hx
          rw [eC] at kx
          rw [eM] at ky
          exact op_ro (by omega) (by omega) hI0 kx ky
      · have kx := ct_QF_message_no hS.1 hS.2.2 s j1 k x hk1 (bf hg)
        have ky := ct_QM_message_no mR s2 n1 k x hk1 (by rw [← a4, ← in_z (show sW s < 2 ^ 31 by omega)]; exact bf hg)
        rw [eC] at kx
        rw [eM] at ky
        exact op_ro (by omega) (by omega) hI0 kx ky
