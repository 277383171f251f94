/-! an operation: both sides answer the same and keep the invariant -/
def OpI (mx my : qMi) (av : List Value) : Prop := ∀ (N : Nat) (h : qH), N < 1000 → Inv N h → ∃ (z : Int32) (P : qH → Prop) (dx dy : Nat), dx ≤ 9 ∧ dy ≤ 9 ∧ qT mx dx 0 0 (.ref 0 :: av) h NN (fun v1 h1 n1 => v1 = some (.int z) ∧ P h1 ∧ n1 = NN) ∧ ∀ h1, P h1 → qT my dy 0 0 (.ref 122 :: av) h1 NN (fun v1 h2 n1 => v1 = some (.int z) ∧ Inv (N + 1) h2 ∧ n1 = NN)
theorem gJb_up {N : Nat} {on : Bool} {wk nt : Nat} {kt pt tq : Nat → Nat} {dn : Nat → Bool} {tm ig : Int32} {s : sJ} {Q : sQ} {ud : Nat} {s2 : sJ} {qn qt qa : Nat → Nat} (h : gJb N on wk nt kt pt tq dn tm ig s Q ud s2 qn qt qa) : gJb (N + 1) on wk nt kt pt tq dn tm ig s Q ud s2 qn qt qa := by
  obtain ⟨h1, h2, h3, h4⟩ := h
  refine ⟨h1, fun t ht => ⟨(h2 t ht).1, (h2 t ht).2.1, by have := (h2 t ht).2.2; omega⟩, h3, fun q => ?_⟩
  obtain ⟨a1, a2, a3, a4, a5, a6, a7, a8, a9, a10, a11⟩ := h4 q
  refine ⟨a1, a2, a3, a4, a5, a6, a7, a8, a9, fun k hk => ?_, fun w hw => ?_⟩
  · obtain ⟨b1, b2, b3, b4⟩ := a10 k hk
    exact ⟨b1, b2, b3, by omega⟩
  · obtain ⟨b1, b2, b3⟩ := a11 w hw
    refine ⟨b1, b2, fun j hj => ?_⟩
    obtain ⟨d1, d2, d3, d4, d5⟩ := b3 j hj
    exact ⟨d1, d2, d3, d4, by omega⟩
theorem Inv_up {N : Nat} {h : qH} (hI : Inv N h) : Inv (N + 1) h := by
  obtain ⟨pp, ti, tn, rt, bg, kd, fi, se, le, ri, dep, EE, tr, nc, no, ok, gr, ob, dw, lm, RES, rs, wd, cn, ps, p, on, wk, nt, kt, pt, tq, dn, tm, ig, s, Q, ud, s2, qn, qt, qa, hC, hM, hP⟩ := hI
  exact ⟨pp, ti, tn, rt, bg, kd, fi, se, le, ri, dep, EE, tr, nc, no, ok, gr, ob, dw, lm, RES, rs, wd, cn, ps, p, on, wk, nt, kt, pt, tq, dn, tm, ig, s, Q, ud, s2, qn, qt, qa, hC, hM, hP.1, hP.2.1, gJb_up hP.2.2⟩
theorem op_ro {mx my : qMi} {av : List Value} {N : Nat} {h : qH} {z : Int32} {dx dy : Nat} (hx : dx ≤ 9) (hy : dy ≤ 9) (hI : Inv N h) (kx : qT mx dx 0 0 (.ref 0 :: av) h NN (fun v1 h1 n1 => v1 = some (.int z) ∧ h = h1 ∧ n1 = NN)) (ky : qT my dy 0 0 (.ref 122 :: av) h NN (fun v1 h1 n1 => v1 = some (.int z) ∧ h = h1 ∧ n1 = NN)) : ∃ (z : Int32) (P : qH → Prop) (dx dy : Nat), dx ≤ 9 ∧ dy ≤ 9 ∧ qT mx dx 0 0 (.ref 0 :: av) h NN (fun v1 h1 n1 => v1 = some (.int z) ∧ P h1 ∧ n1 = NN) ∧ ∀ h1, P h1 → qT my dy 0 0 (.ref 122 :: av) h1 NN (fun v1 h2 n1 => v1 = some (.int z) ∧ Inv (N + 1) h2 ∧ n1 = NN) := by
  refine ⟨z, fun h1 => h1 = h, dx, dy, hx, hy, qT.imp (fun v h1 n q => ⟨q.1, q.2.1.symm, q.2.2⟩) kx, fun h1 e => ?_⟩
  subst e
  exact qT.imp (fun v h1 n q => ⟨q.1, by rw [← q.2.1]; exact Inv_up hI, q.2.2⟩) ky
theorem op_mo {mx my : qMi} {av : List Value} {N : Nat} {h : qH} {z : Int32} {dx dy : Nat} (hx : dx ≤ 9) (hy : dy ≤ 9) {Px : Option Value → qH → Nat → Prop} (kx : qT mx dx 0 0 (.ref 0 :: av) h NN Px) (P : qH → Prop) (hp : ∀ v h1 n, Px v h1 n → v = some (.int z) ∧ P h1 ∧ n = NN) (ky : ∀ h1, P h1 → qT my dy 0 0 (.ref 122 :: av) h1 NN (fun v1 h2 n1 => v1 = some (.int z) ∧ Inv (N + 1) h2 ∧ n1 = NN)) : ∃ (z : Int32) (P : qH → Prop) (dx dy : Nat), dx ≤ 9 ∧ dy ≤ 9 ∧ qT mx dx 0 0 (.ref 0 :: av) h NN (fun v1 h1 n1 => v1 = some (.int z) ∧ P h1 ∧ n1 = NN) ∧ ∀ h1, P h1 → qT my dy 0 0 (.ref 122 :: av) h1 NN (fun v1 h2 n1 => v1 = some (.int z) ∧ Inv (N + 1) h2 ∧ n1 = NN) := ⟨z, P, dx, dy, hx, hy, qT.imp hp kx, ky⟩
theorem in_2 {x : Int32} : decide (0 ≤ x ∧ x < nI 2) = decide (nI 0 ≤ x ∧ x ≤ nI 1) := (in_eq (by omega) (by omega)).trans (by rw [show nI 2 - nI 1 = nI 1 by decide])
theorem in_3 {x : Int32} : decide (0 ≤ x ∧ x < nI 3) = decide (nI 0 ≤ x ∧ x ≤ nI 2) := (in_eq (by omega) (by omega)).trans (by rw [show nI 3 - nI 1 = nI 2 by decide])
theorem in_4 {x : Int32} : decide (0 ≤ x ∧ x < nI 4) = decide (nI 0 ≤ x ∧ x ≤ nI 3) := (in_eq (by omega) (by omega)).trans (by rw [show nI 4 - nI 1 = nI 3 by decide])
theorem in_6 {x : Int32} : decide (0 ≤ x ∧ x < nI 6) = decide (nI 0 ≤ x ∧ x ≤ nI 5) := (in_eq (by omega) (by omega)).trans (by rw [show nI 6 - nI 1 = nI 5 by decide])
theorem in_10 {x : Int32} : decide (0 ≤ x ∧ x < nI 10) = decide (nI 0 ≤ x ∧ x ≤ nI 9) := (in_eq (by omega) (by omega)).trans (by rw [show nI 10 - nI 1 = nI 9 by decide])
theorem in_k {x : Int32} {kd : Nat} : decide (0 ≤ x ∧ x < nI (if kd = 0 then 2 else 4)) = decide (nI 0 ≤ x ∧ x ≤ nI (if kd = 0 then 1 else 3)) := by
  by_cases e : kd = 0
  · rw [if_pos e, if_pos e]; exact in_2
  · rw [if_neg e, if_neg e]; exact in_4
theorem bf {b : Bool} (h : ¬ b = true) : b = false := by cases b <;> first | rfl | exact absurd rfl h
set_option maxRecDepth 100000 in
set_option maxHeartbeats 4000000 in
theorem op_task (t x : Int32) : OpI mi_QF_task mi_QM_task [.int t, .int x] := by
  intro N h hN hI
  have hI0 := hI
  obtain ⟨pp, ti, tn, rt, bg, kd, fi, se, le, ri, dep, EE, tr, nc, no, ok, gr, ob, dw, lm, RES, rs, wd, cn, ps, p, on, wk, nt, kt, pt, tq, dn, tm, ig, s, Q, ud, s2, qn, qt, qa, hC, hM, hP⟩ := hI
  obtain ⟨hS, hT, h3, hE, hX, hRs, hJ⟩ := hC
  obtain ⟨mR, mT, m1, mE, mX, mRs, mJ⟩ := hM
  obtain ⟨gQ, gR, gJ⟩ := hP
  obtain ⟨j1, j2, j3, j4, j5, j6, j7, j8, j9, j10, j11, j12⟩ := hJ
  obtain ⟨n1, n2, n3, n4, n5, n6, n7, n8, n9, n10, n11, n12, n13, n14, n15, n16, n17, n18, n19⟩ := mJ
  have hn16 := gJ.1
  have hw : (decide (0 < nt) && decide (nI 0 ≤ t ∧ t ≤ nI nt - nI 1)) = decide (0 ≤ t ∧ t < nI nt) := by
    by_cases e : 0 < nt
    · rw [decide_eq_true e, Bool.true_and, in_eq (by omega) (by omega)]
    · rw [decide_eq_false e, Bool.false_and]
      exact (decide_eq_false (fun q => by
        have q2 := Int32.lt_of_le_of_lt q.1 q.2
        rw [show nt = 0 by omega] at q2
        exact absurd q2 (by decide))).symm
  by_cases hg : decide (0 ≤ t ∧ t < nI nt) = true
  · obtain ⟨k, hk, rfl⟩ := in_of (by omega) hg
    obtain ⟨t0, t1, t2, t3, t4, t5⟩ := j7 k (by omega)
    have hwas : h.1 122 36 = b2i true := by rw [n2, decide_eq_true (show 0 < nt by omega)]
    have ri : ∀ z : Int32, ∀ (v : Option Value) (h1 : qH) (n : Nat), (v = some (.int z) ∧ h = h1 ∧ n = NN) → ∃ z : Int32, v = some (.int z) := fun z v h1 n q => ⟨z, q.1⟩
    rcases q_sw4 x with rfl | rfl | rfl | rfl | rfl | hx
    · exact op_ro (by omega) (by omega) hI0 (ct_QF_task hS.1 hS.2.2 nt hn16 j3 k hk _ _ (ri _) (ct_Ta_tell_0 k (by omega) _ t0)) (ct_QM_task_0 mR hwas nt n4 hn16 k hk _ (congrFun n7 k))
    · exact op_ro (by omega) (by omega) hI0 (ct_QF_task hS.1 hS.2.2 nt hn16 j3 k hk _ _ (ri _) (ct_Ta_tell_1 k (by omega) _ t1)) (ct_QM_task_1 mR hwas nt n4 hn16 k hk _ (congrFun n8 k))
    · exact op_ro (by omega) (by omega) hI0 (ct_QF_task hS.1 hS.2.2 nt hn16 j3 k hk _ _ (ri _) (ct_Ta_tell_2 k (by omega) _ t3)) (ct_QM_task_2 mR hwas nt n4 hn16 k hk _ ((congrFun n9 k).trans (by rw [← gJ.2.2.1.1]; rfl)))
    · exact op_ro (by omega) (by omega) hI0 (ct_QF_task hS.1 hS.2.2 nt hn16 j3 k hk _ _ (ri _) (ct_Ta_tell_3 k (by omega) _ t5)) (ct_QM_task_3 mR hwas nt n4 hn16 k hk _ (congrFun n11 k))
    · exact op_ro (by omega) (by omega) hI0 (ct_QF_task hS.1 hS.2.2 nt hn16 j3 k hk _ _ (ri _) (ct_Ta_tell_4 k (by omega) _ t5 _ t2)) (ct_QM_task_4 mR hwas nt n4 hn16 k hk _ (congrFun n11 k) _ (congrFun n12 k))
    · exact op_ro (by omega) (by omega) hI0 (ct_QF_task hS.1 hS.2.2 nt hn16 j3 k hk _ _ (ri _) (ct_Ta_tell_out k (by omega) x hx)) (ct_QM_task_out mR hwas nt n4 hn16 k hk x hx)
  · exact op_ro (by omega) (by omega) hI0 (ct_QF_task_no hS.1 hS.2.2 nt hn16 j3 t x (bf hg)) (ct_QM_task_no t x _ n2 nt n4 (by rw [hw]; exact bf hg))
set_option maxRecDepth 100000 in
set_option maxHeartbeats 4000000 in
theorem op_ended (x : Int32) : OpI mi_QF_ended mi_QM_ended [.int x] := by
  intro N h hN hI
  have hI0 := hI
  obtain ⟨pp, ti, tn, rt, bg, kd, fi, se, le, ri, dep, EE, tr, nc, no, ok, gr, ob, dw, lm, RES, rs, wd, cn, ps, p, on, wk, nt, kt, pt, tq, dn, tm, ig, s, Q, ud, s2, qn, qt, qa, hC, hM, hP⟩ := hI
  obtain ⟨hS, hT, h3, hE, hX, hRs, hJ⟩ := hC
  obtain ⟨mR, mT, m1, mE, mX, mRs, mJ⟩ := hM
  obtain ⟨gQ, gR, gJ⟩ := hP
  obtain ⟨j1, j2, j3, j4, j5, j6, j7, j8, j9, j10, j11, j12⟩ := hJ
  obtain ⟨n1, n2, n3, n4, n5, n6, n7, n8, n9, n10, n11, n12, n13, n14, n15, n16, n17, n18, n19⟩ := mJ
  have hn16 := gJ.1
  obtain ⟨r1, r2, r3, r4, r5, r6⟩ := hRs
  obtain ⟨u1, u2, u3, u4, u5, u6⟩ := mRs
  by_cases hg : (!on && decide (0 < nt)) = true
  · have e1 : on = false := by cases on <;> first | rfl | cases hg
    have e2 : 0 < nt := by rw [e1] at hg; exact of_decide_eq_true hg
    subst e1
    have hwas : h.1 122 36 = b2i true := by rw [n2, decide_eq_true e2]
    rcases q_sw3 x with rfl | rfl | rfl | rfl | hx
    · exact op_ro (by omega) (by omega) hI0 (ct_QF_ended_0 hS.1 j1 nt hn16 j3 e2 _ r4) (ct_QM_ended_0 hwas n1 _ u4)
    · exact op_ro (by omega) (by omega) hI0 (ct_QF_ended_1 hS.1 j1 nt hn16 j3 e2 _ r3) (ct_QM_ended_1 hwas n1 _ u3)
    · exact op_ro (by omega) (by omega) hI0 (ct_QF_ended_2 hS.1 j1 nt hn16 j3 e2 _ r5) (ct_QM_ended_2 hwas n1 _ u5)
    · exact op_ro (by omega) (by omega) hI0 (ct_QF_ended_3 hS.1 j1 nt hn16 j3 e2 _ j5) (ct_QM_ended_3 hwas n1 _ n6)
    · exact op_ro (by omega) (by omega) hI0 (ct_QF_ended_out hS.1 j1 nt hn16 j3 e2 x hx) (ct_QM_ended_out hwas n1 x hx)
  · exact op_ro (by omega) (by omega) hI0 (ct_QF_ended_no hS.1 on j1 nt hn16 j3 x (bf hg)) (ct_QM_ended_no x _ on n2 n1 (by rw [Bool.and_comm]; exact bf hg))
