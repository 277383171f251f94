/-! the class's tasks: task t lies at 90 + t -/
theorem ta_pl {t : Nat} (h : t < 16) : qPl (90 + t) = (10, 0) ∧ Nat.blt (90 + t) NN = true := by
  have e : t = 0 ∨ t = 1 ∨ t = 2 ∨ t = 3 ∨ t = 4 ∨ t = 5 ∨ t = 6 ∨ t = 7 ∨ t = 8 ∨ t = 9 ∨ t = 10 ∨ t = 11 ∨ t = 12 ∨ t = 13 ∨ t = 14 ∨ t = 15 := by omega
  rcases e with rfl | rfl | rfl | rfl | rfl | rfl | rfl | rfl | rfl | rfl | rfl | rfl | rfl | rfl | rfl | rfl <;> exact ⟨rfl, rfl⟩
set_option maxRecDepth 100000 in
set_option maxHeartbeats 4000000 in
theorem ct_Ta_tell_0 {h : qH} (t : Nat) (ht : t < 16) (v : Int32) (hv : h.1 (90 + t) 0 = v) : qT mi_Ta_tell 0 0 0 [.ref (90 + t), .int (nI 0)] h NN (fun v1 h1 n1 => v1 = some (.int v) ∧ h = h1 ∧ n1 = NN) := by
  refine qT.of (lv0 := [_, _]) (by decide +kernel) (fun _ _ => Nat.le_of_ble_eq_true rfl) rfl ?_
  refine qx_iload_n d_Ta_tell_0 rfl rfl ?_
  refine qx_tabIn (t := 36) d_Ta_tell_1 (by decide) (by decide) rfl rfl ?_
  refine qx_aload_n d_Ta_tell_36 rfl rfl ?_
  refine qx_getI d_Ta_tell_37 fI_Ta_9 (ta_pl ht).1 (ta_pl ht).2 hv ?_
  exact qx_iret d_Ta_tell_40 rfl rfl (by omega) (by omega) ⟨rfl, rfl, rfl⟩
set_option maxRecDepth 100000 in
set_option maxHeartbeats 4000000 in
theorem ct_Ta_tell_1 {h : qH} (t : Nat) (ht : t < 16) (v : Int32) (hv : h.1 (90 + t) 1 = v) : qT mi_Ta_tell 0 0 0 [.ref (90 + t), .int (nI 1)] h NN (fun v1 h1 n1 => v1 = some (.int v) ∧ h = h1 ∧ n1 = NN) := by
  refine qT.of (lv0 := [_, _]) (by decide +kernel) (fun _ _ => Nat.le_of_ble_eq_true rfl) rfl ?_
  refine qx_iload_n d_Ta_tell_0 rfl rfl ?_
  refine qx_tabIn (t := 41) d_Ta_tell_1 (by decide) (by decide) rfl rfl ?_
  refine qx_aload_n d_Ta_tell_41 rfl rfl ?_
  refine qx_getI d_Ta_tell_42 fI_Ta_15 (ta_pl ht).1 (ta_pl ht).2 hv ?_
  exact qx_iret d_Ta_tell_45 rfl rfl (by omega) (by omega) ⟨rfl, rfl, rfl⟩
set_option maxRecDepth 100000 in
set_option maxHeartbeats 4000000 in
theorem ct_Ta_tell_2 {h : qH} (t : Nat) (ht : t < 16) (v : Int32) (hv : h.1 (90 + t) 3 = v) : qT mi_Ta_tell 0 0 0 [.ref (90 + t), .int (nI 2)] h NN (fun v1 h1 n1 => v1 = some (.int v) ∧ h = h1 ∧ n1 = NN) := by
  refine qT.of (lv0 := [_, _]) (by decide +kernel) (fun _ _ => Nat.le_of_ble_eq_true rfl) rfl ?_
  refine qx_iload_n d_Ta_tell_0 rfl rfl ?_
  refine qx_tabIn (t := 46) d_Ta_tell_1 (by decide) (by decide) rfl rfl ?_
  refine qx_aload_n d_Ta_tell_46 rfl rfl ?_
  refine qx_getI d_Ta_tell_47 fI_Ta_21 (ta_pl ht).1 (ta_pl ht).2 hv ?_
  exact qx_iret d_Ta_tell_50 rfl rfl (by omega) (by omega) ⟨rfl, rfl, rfl⟩
set_option maxRecDepth 100000 in
set_option maxHeartbeats 4000000 in
theorem ct_Ta_tell_3 {h : qH} (t : Nat) (ht : t < 16) (d : Bool) (hd : h.1 (90 + t) 5 = b2i d) : qT mi_Ta_tell 0 0 0 [.ref (90 + t), .int (nI 3)] h NN (fun v1 h1 n1 => v1 = some (.int (b2i d)) ∧ h = h1 ∧ n1 = NN) := by
  refine qT.of (lv0 := [_, _]) (by decide +kernel) (fun _ _ => Nat.le_of_ble_eq_true rfl) rfl ?_
  refine qx_iload_n d_Ta_tell_0 rfl rfl ?_
  refine qx_tabIn (t := 51) d_Ta_tell_1 (by decide) (by decide) rfl rfl ?_
  refine qx_aload_n d_Ta_tell_51 rfl rfl ?_
  refine qx_getI d_Ta_tell_52 fI_Ta_27 (ta_pl ht).1 (ta_pl ht).2 hd ?_
  refine qx_if_eqB (t := 62) d_Ta_tell_55 rfl (fun c55 => ?_) (fun c55 => ?_)
  · refine qx_iconstN (v := 0) d_Ta_tell_62 rfl ?_
    exact qx_iret d_Ta_tell_63 rfl rfl (by omega) (by omega) (by rw [c55]; exact ⟨rfl, rfl, rfl⟩)
  · refine qx_iconstN (v := 1) d_Ta_tell_58 rfl ?_
    refine qx_goto (t := 63) d_Ta_tell_59 rfl ?_
    exact qx_iret d_Ta_tell_63 rfl rfl (by omega) (by omega) (by rw [c55]; exact ⟨rfl, rfl, rfl⟩)
set_option maxRecDepth 100000 in
set_option maxHeartbeats 4000000 in
theorem ct_Ta_tell_4 {h : qH} (t : Nat) (ht : t < 16) (d : Bool) (hd : h.1 (90 + t) 5 = b2i d) (v : Int32) (hv : h.1 (90 + t) 2 = v) : qT mi_Ta_tell 0 0 0 [.ref (90 + t), .int (nI 4)] h NN (fun v1 h1 n1 => v1 = some (.int (if d = true then v else -1)) ∧ h = h1 ∧ n1 = NN) := by
  refine qT.of (lv0 := [_, _]) (by decide +kernel) (fun _ _ => Nat.le_of_ble_eq_true rfl) rfl ?_
  refine qx_iload_n d_Ta_tell_0 rfl rfl ?_
  refine qx_tabIn (t := 64) d_Ta_tell_1 (by decide) (by decide) rfl rfl ?_
  refine qx_aload_n d_Ta_tell_64 rfl rfl ?_
  refine qx_getI d_Ta_tell_65 fI_Ta_27 (ta_pl ht).1 (ta_pl ht).2 hd ?_
  refine qx_if_eqB (t := 78) d_Ta_tell_68 rfl (fun c68 => ?_) (fun c68 => ?_)
  · refine qx_iconst (v := (-1)) d_Ta_tell_78 rfl ?_
    exact qx_iret d_Ta_tell_79 rfl rfl (by omega) (by omega) (by rw [c68]; exact ⟨rfl, rfl, rfl⟩)
  · refine qx_aload_n d_Ta_tell_71 rfl rfl ?_
    refine qx_getI d_Ta_tell_72 fI_Ta_18 (ta_pl ht).1 (ta_pl ht).2 hv ?_
    refine qx_goto (t := 79) d_Ta_tell_75 rfl ?_
    exact qx_iret d_Ta_tell_79 rfl rfl (by omega) (by omega) (by rw [c68]; exact ⟨rfl, rfl, rfl⟩)
set_option maxRecDepth 100000 in
set_option maxHeartbeats 4000000 in
theorem ct_Ta_tell_out {h : qH} (t : Nat) (ht : t < 16) (x : Int32) (hx : x.toInt < 0 ∨ 4 < x.toInt) : qT mi_Ta_tell 0 0 0 [.ref (90 + t), .int x] h NN (fun v1 h1 n1 => v1 = some (.int (-1)) ∧ h = h1 ∧ n1 = NN) := by
  refine qT.of (lv0 := [_, _]) (by decide +kernel) (fun _ _ => Nat.le_of_ble_eq_true rfl) rfl ?_
  refine qx_iload_n d_Ta_tell_0 rfl rfl ?_
  refine qx_tabOut (t := 80) d_Ta_tell_1 hx rfl ?_
  refine qx_iconst (v := (-1)) d_Ta_tell_80 rfl ?_
  exact qx_iret d_Ta_tell_81 rfl rfl (by omega) (by omega) ⟨rfl, rfl, rfl⟩
set_option maxRecDepth 100000 in
set_option maxHeartbeats 4000000 in
theorem ct_Ta_clear {h : qH} (t : Nat) (ht : t < 16) (k p q : Int32) : qT mi_Ta_clear 0 0 0 [.ref (90 + t), .int k, .int p, .int q] h NN (fun v1 h1 n1 => v1 = none ∧ h1 = (qpI (qpI (qpI (qpI (qpI (qpI h (90 + t) 0 k) (90 + t) 1 p) (90 + t) 2 q) (90 + t) 3 (nI 0)) (90 + t) 4 (nI 0)) (90 + t) 5 (nI 0)) ∧ n1 = NN) := by
  refine qT.of (lv0 := [_, _, _, _]) (by decide +kernel) (fun _ _ => Nat.le_of_ble_eq_true rfl) rfl ?_
  refine qx_aload_n d_Ta_clear_0 rfl rfl ?_
  refine qx_iload_n d_Ta_clear_1 rfl rfl ?_
  refine qx_putI d_Ta_clear_2 fI_Ta_9 (ta_pl ht).1 (ta_pl ht).2 ⟨rfl, rfl⟩ ?_
  refine qx_aload_n d_Ta_clear_5 rfl rfl ?_
  refine qx_iload_n d_Ta_clear_6 rfl rfl ?_
  refine qx_putI d_Ta_clear_7 fI_Ta_15 (ta_pl ht).1 (ta_pl ht).2 ⟨rfl, rfl⟩ ?_
  refine qx_aload_n d_Ta_clear_10 rfl rfl ?_
  refine qx_iload_n d_Ta_clear_11 rfl rfl ?_
  refine qx_putI d_Ta_clear_12 fI_Ta_18 (ta_pl ht).1 (ta_pl ht).2 ⟨rfl, rfl⟩ ?_
  refine qx_aload_n d_Ta_clear_15 rfl rfl ?_
  refine qx_iconstN (v := 0) d_Ta_clear_16 rfl ?_
  refine qx_putI d_Ta_clear_17 fI_Ta_21 (ta_pl ht).1 (ta_pl ht).2 ⟨rfl, rfl⟩ ?_
  refine qx_aload_n d_Ta_clear_20 rfl rfl ?_
  refine qx_iconstN (v := 0) d_Ta_clear_21 rfl ?_
  refine qx_putI d_Ta_clear_22 fI_Ta_24 (ta_pl ht).1 (ta_pl ht).2 ⟨rfl, rfl⟩ ?_
  refine qx_aload_n d_Ta_clear_25 rfl rfl ?_
  refine qx_iconstN (v := 0) d_Ta_clear_26 rfl ?_
  refine qx_putI d_Ta_clear_27 fI_Ta_27 (ta_pl ht).1 (ta_pl ht).2 ⟨rfl, rfl⟩ ?_
  exact qx_ret d_Ta_clear_30 rfl (by omega) (by omega) ⟨rfl, rfl, rfl⟩
