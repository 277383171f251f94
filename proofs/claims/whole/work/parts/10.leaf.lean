/-! lcmp and a branch -/
theorem q_cgt {a x : Int64} : 0 < lg_cmp a x ↔ x < a := by
  unfold lg_cmp
  split
  · next h => exact ⟨fun _ => h, fun _ => by decide⟩
  · next h =>
    split
    · exact ⟨fun q => absurd q (by decide), fun q => absurd q h⟩
    · exact ⟨fun q => absurd q (by decide), fun q => absurd q h⟩
theorem q_ceq {a x : Int64} : lg_cmp a x = 0 ↔ a = x := by
  unfold lg_cmp
  split
  · next h => exact ⟨fun q => absurd q (by decide), fun q => absurd h (by rw [q]; exact Int64.lt_irrefl)⟩
  · next h =>
    split
    · next e => exact ⟨fun _ => e, fun _ => rfl⟩
    · next e => exact ⟨fun q => absurd q (by decide), fun q => absurd q e⟩
theorem q_clt {a x : Int64} : lg_cmp a x < 0 ↔ a < x := by
  have h1 := @lg_cmp_ge a x
  rw [← Int32.not_le, h1, Int64.not_le]
theorem q_cmp3 (a x : Int64) : lg_cmp a x = 1 ∨ lg_cmp a x = 0 ∨ lg_cmp a x = -1 := by
  unfold lg_cmp
  split
  · exact Or.inl rfl
  · split
    · exact Or.inr (Or.inl rfl)
    · exact Or.inr (Or.inr rfl)
section QLC
variable {y : qMi} {d : Nat} {z : Option (Nat × (Nat → Int32))} {cT sT pc : Nat} {lv st : List Value} {h : qH} {n ce sl : Nat} {Rp : Option Value → qH → Nat → Prop}
theorem qx_if_eqC {a x : Int64} {off : Int} {t : Nat} (hd : decode y.2.1 pc = .ok (.ifCond .eq off, 3)) (ht : (pc : Int) + off = (t : Int)) (kt : a = x → qX y d z cT sT t lv st h n ce sl Rp) (kf : ¬ a = x → qX y d z cT sT (pc + 3) lv st h n ce sl Rp) : qX y d z cT sT pc lv (.int (lg_cmp a x) :: st) h n ce sl Rp := qx_if_eq hd ht (fun q => kt (q_ceq.mp q)) (fun q => kf (fun e => q (q_ceq.mpr e)))
theorem qx_if_neC {a x : Int64} {off : Int} {t : Nat} (hd : decode y.2.1 pc = .ok (.ifCond .ne off, 3)) (ht : (pc : Int) + off = (t : Int)) (kt : ¬ a = x → qX y d z cT sT t lv st h n ce sl Rp) (kf : a = x → qX y d z cT sT (pc + 3) lv st h n ce sl Rp) : qX y d z cT sT pc lv (.int (lg_cmp a x) :: st) h n ce sl Rp := qx_if_ne hd ht (fun q => kt ((fun e => q (q_ceq.mpr e)))) (fun q => kf (q_ceq.mp q))
theorem qx_if_ltC {a x : Int64} {off : Int} {t : Nat} (hd : decode y.2.1 pc = .ok (.ifCond .lt off, 3)) (ht : (pc : Int) + off = (t : Int)) (kt : a < x → qX y d z cT sT t lv st h n ce sl Rp) (kf : x ≤ a → qX y d z cT sT (pc + 3) lv st h n ce sl Rp) : qX y d z cT sT pc lv (.int (lg_cmp a x) :: st) h n ce sl Rp := qx_if_lt hd ht (fun q => kt (q_clt.mp q)) (fun q => kf (Int64.not_lt.mp (fun e => q (q_clt.mpr e))))
theorem qx_if_geC {a x : Int64} {off : Int} {t : Nat} (hd : decode y.2.1 pc = .ok (.ifCond .ge off, 3)) (ht : (pc : Int) + off = (t : Int)) (kt : x ≤ a → qX y d z cT sT t lv st h n ce sl Rp) (kf : a < x → qX y d z cT sT (pc + 3) lv st h n ce sl Rp) : qX y d z cT sT pc lv (.int (lg_cmp a x) :: st) h n ce sl Rp := qx_if_ge hd ht (fun q => kt ((lg_cmp_ge a x).mp q)) (fun q => kf (Int64.not_le.mp (fun e => q ((lg_cmp_ge a x).mpr e))))
theorem qx_if_gtC {a x : Int64} {off : Int} {t : Nat} (hd : decode y.2.1 pc = .ok (.ifCond .gt off, 3)) (ht : (pc : Int) + off = (t : Int)) (kt : x < a → qX y d z cT sT t lv st h n ce sl Rp) (kf : a ≤ x → qX y d z cT sT (pc + 3) lv st h n ce sl Rp) : qX y d z cT sT pc lv (.int (lg_cmp a x) :: st) h n ce sl Rp := qx_if_gt hd ht (fun q => kt (q_cgt.mp q)) (fun q => kf (Int64.not_lt.mp (fun e => q (q_cgt.mpr e))))
theorem qx_if_leC {a x : Int64} {off : Int} {t : Nat} (hd : decode y.2.1 pc = .ok (.ifCond .le off, 3)) (ht : (pc : Int) + off = (t : Int)) (kt : a ≤ x → qX y d z cT sT t lv st h n ce sl Rp) (kf : x < a → qX y d z cT sT (pc + 3) lv st h n ce sl Rp) : qX y d z cT sT pc lv (.int (lg_cmp a x) :: st) h n ce sl Rp := qx_if_le hd ht (fun q => kt ((lg_cmp_le a x).mp q)) (fun q => kf (Int64.not_le.mp (fun e => q ((lg_cmp_le a x).mpr e))))
end QLC
/-! the library's own small methods -/
set_option maxRecDepth 100000 in
set_option maxHeartbeats 4000000 in
theorem ct_JL_compare {h : qH} {n : Nat} (a x : Int64) : qT mi_JL_compare 0 0 0 [.long a, .long x] h n (fun v1 h1 n1 => v1 = some (.int (lg_cmp a x)) ∧ h = h1 ∧ n1 = n) := by
  refine qT.of (lv0 := [_, _, _, _]) (by decide +kernel) (fun _ _ => Nat.le_of_ble_eq_true rfl) rfl ?_
  refine qx_lload_n d_JL_compare_0 rfl rfl ?_
  refine qx_lload_n d_JL_compare_1 rfl rfl ?_
  refine qx_lcmp d_JL_compare_2 ?_
  refine qx_if_ge (t := 10) d_JL_compare_3 rfl (fun c3 => ?_) (fun c3 => ?_)
  · refine qx_lload_n d_JL_compare_10 rfl rfl ?_
    refine qx_lload_n d_JL_compare_11 rfl rfl ?_
    refine qx_lcmp d_JL_compare_12 ?_
    refine qx_if_ne (t := 20) d_JL_compare_13 rfl (fun c13 => ?_) (fun c13 => ?_)
    · refine qx_iconstN (v := 1) d_JL_compare_20 rfl ?_
      exact qx_iret d_JL_compare_21 rfl rfl (by omega) (by omega) (by refine ⟨?_, rfl, rfl⟩; rcases q_cmp3 a x with e | e | e <;> simp_all <;> first | rfl | contradiction)
    · refine qx_iconstN (v := 0) d_JL_compare_16 rfl ?_
      refine qx_goto (t := 21) d_JL_compare_17 rfl ?_
      exact qx_iret d_JL_compare_21 rfl rfl (by omega) (by omega) (by refine ⟨?_, rfl, rfl⟩; rcases q_cmp3 a x with e | e | e <;> simp_all <;> first | rfl | contradiction)
  · refine qx_iconst (v := (-1)) d_JL_compare_6 rfl ?_
    refine qx_goto (t := 21) d_JL_compare_7 rfl ?_
    exact qx_iret d_JL_compare_21 rfl rfl (by omega) (by omega) (by refine ⟨?_, rfl, rfl⟩; rcases q_cmp3 a x with e | e | e <;> simp_all <;> first | rfl | contradiction)
set_option maxRecDepth 100000 in
set_option maxHeartbeats 4000000 in
theorem ct_JM_minI {h : qH} {n : Nat} (a x : Int32) : qT mi_JM_minI 0 0 0 [.int a, .int x] h n (fun v1 h1 n1 => v1 = some (.int (if a ≤ x then a else x)) ∧ h = h1 ∧ n1 = n) := by
  refine qT.of (lv0 := [_, _]) (by decide +kernel) (fun _ _ => Nat.le_of_ble_eq_true rfl) rfl ?_
  refine qx_iload_n d_JM_minI_0 rfl rfl ?_
  refine qx_iload_n d_JM_minI_1 rfl rfl ?_
  refine qx_icmp_gt (t := 9) d_JM_minI_2 rfl (fun c2 => ?_) (fun c2 => ?_)
  · refine qx_iload_n d_JM_minI_9 rfl rfl ?_
    exact qx_iret d_JM_minI_10 rfl rfl (by omega) (by omega) ⟨by first | rw [if_pos (Int32.not_lt.mp c2)] | rw [if_neg (Int32.not_le.mpr c2)], rfl, rfl⟩
  · refine qx_iload_n d_JM_minI_5 rfl rfl ?_
    refine qx_goto (t := 10) d_JM_minI_6 rfl ?_
    exact qx_iret d_JM_minI_10 rfl rfl (by omega) (by omega) ⟨by first | rw [if_pos (Int32.not_lt.mp c2)] | rw [if_neg (Int32.not_le.mpr c2)], rfl, rfl⟩
set_option maxRecDepth 100000 in
set_option maxHeartbeats 4000000 in
theorem ct_JM_minJ {h : qH} {n : Nat} (a x : Int64) : qT mi_JM_minJ 0 0 0 [.long a, .long x] h n (fun v1 h1 n1 => v1 = some (.long (if a ≤ x then a else x)) ∧ h = h1 ∧ n1 = n) := by
  refine qT.of (lv0 := [_, _, _, _]) (by decide +kernel) (fun _ _ => Nat.le_of_ble_eq_true rfl) rfl ?_
  refine qx_lload_n d_JM_minJ_0 rfl rfl ?_
  refine qx_lload_n d_JM_minJ_1 rfl rfl ?_
  refine qx_lcmp d_JM_minJ_2 ?_
  refine qx_if_gtC (t := 10) d_JM_minJ_3 rfl (fun c3 => ?_) (fun c3 => ?_)
  · refine qx_lload_n d_JM_minJ_10 rfl rfl ?_
    exact qx_lret d_JM_minJ_11 rfl (by omega) (by omega) ⟨by first | rw [if_pos c3] | rw [if_neg (Int64.not_le.mpr c3)], rfl, rfl⟩
  · refine qx_lload_n d_JM_minJ_6 rfl rfl ?_
    refine qx_goto (t := 11) d_JM_minJ_7 rfl ?_
    exact qx_lret d_JM_minJ_11 rfl (by omega) (by omega) ⟨by first | rw [if_pos c3] | rw [if_neg (Int64.not_le.mpr c3)], rfl, rfl⟩
set_option maxRecDepth 100000 in
set_option maxHeartbeats 4000000 in
theorem ct_JM_maxJ {h : qH} {n : Nat} (a x : Int64) : qT mi_JM_maxJ 0 0 0 [.long a, .long x] h n (fun v1 h1 n1 => v1 = some (.long (if a < x then x else a)) ∧ h = h1 ∧ n1 = n) := by
  refine qT.of (lv0 := [_, _, _, _]) (by decide +kernel) (fun _ _ => Nat.le_of_ble_eq_true rfl) rfl ?_
  refine qx_lload_n d_JM_maxJ_0 rfl rfl ?_
  refine qx_lload_n d_JM_maxJ_1 rfl rfl ?_
  refine qx_lcmp d_JM_maxJ_2 ?_
  refine qx_if_ltC (t := 10) d_JM_maxJ_3 rfl (fun c3 => ?_) (fun c3 => ?_)
  · refine qx_lload_n d_JM_maxJ_10 rfl rfl ?_
    exact qx_lret d_JM_maxJ_11 rfl (by omega) (by omega) ⟨by first | rw [if_pos c3] | rw [if_neg (Int64.not_lt.mpr c3)], rfl, rfl⟩
  · refine qx_lload_n d_JM_maxJ_6 rfl rfl ?_
    refine qx_goto (t := 11) d_JM_maxJ_7 rfl ?_
    exact qx_lret d_JM_maxJ_11 rfl (by omega) (by omega) ⟨by first | rw [if_pos c3] | rw [if_neg (Int64.not_lt.mpr c3)], rfl, rfl⟩
/-! the reference: small methods -/
set_option maxRecDepth 100000 in
set_option maxHeartbeats 4000000 in
theorem ct_QM_within {h : qH} {n : Nat} (a lo hi : Int32) : qT mi_QM_within 0 0 0 [.int a, .int lo, .int hi] h n (fun v1 h1 n1 => v1 = some (.int (b2i (decide (lo ≤ a ∧ a ≤ hi)))) ∧ h = h1 ∧ n1 = n) := by
  refine qT.of (lv0 := [_, _, _]) (by decide +kernel) (fun _ _ => Nat.le_of_ble_eq_true rfl) rfl ?_
  refine qx_iload_n d_QM_within_0 rfl rfl ?_
  refine qx_iload_n d_QM_within_1 rfl rfl ?_
  refine qx_icmp_lt (t := 14) d_QM_within_2 rfl (fun c2 => ?_) (fun c2 => ?_)
  · refine qx_iconstN (v := 0) d_QM_within_14 rfl ?_
    exact qx_iret d_QM_within_15 rfl rfl (by omega) (by omega) (by refine ⟨?_, rfl, rfl⟩; first | (rw [decide_eq_false (fun q => absurd q.1 (Int32.not_le.mpr c2))]; rfl) | (rw [decide_eq_false (fun q => absurd q.2 (Int32.not_le.mpr c7))]; rfl) | (rw [decide_eq_true ⟨Int32.not_lt.mp c2, Int32.not_lt.mp c7⟩]; rfl))
  · refine qx_iload_n d_QM_within_5 rfl rfl ?_
    refine qx_iload_n d_QM_within_6 rfl rfl ?_
    refine qx_icmp_gt (t := 14) d_QM_within_7 rfl (fun c7 => ?_) (fun c7 => ?_)
    · refine qx_iconstN (v := 0) d_QM_within_14 rfl ?_
      exact qx_iret d_QM_within_15 rfl rfl (by omega) (by omega) (by refine ⟨?_, rfl, rfl⟩; first | (rw [decide_eq_false (fun q => absurd q.1 (Int32.not_le.mpr c2))]; rfl) | (rw [decide_eq_false (fun q => absurd q.2 (Int32.not_le.mpr c7))]; rfl) | (rw [decide_eq_true ⟨Int32.not_lt.mp c2, Int32.not_lt.mp c7⟩]; rfl))
    · refine qx_iconstN (v := 1) d_QM_within_10 rfl ?_
      refine qx_goto (t := 15) d_QM_within_11 rfl ?_
      exact qx_iret d_QM_within_15 rfl rfl (by omega) (by omega) (by refine ⟨?_, rfl, rfl⟩; first | (rw [decide_eq_false (fun q => absurd q.1 (Int32.not_le.mpr c2))]; rfl) | (rw [decide_eq_false (fun q => absurd q.2 (Int32.not_le.mpr c7))]; rfl) | (rw [decide_eq_true ⟨Int32.not_lt.mp c2, Int32.not_lt.mp c7⟩]; rfl))
