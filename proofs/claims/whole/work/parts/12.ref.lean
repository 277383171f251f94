set_option maxRecDepth 100000 in
set_option maxHeartbeats 4000000 in
theorem ct_QM_column {h : qH} (c : Int32) (hR : h.2.2 122 = qRQM) (bg on : Bool) (hbeg : h.1 122 3 = b2i bg) (hon : h.1 122 37 = b2i on) (kd : Nat) (hk3 : kd < 3) (hkd : h.1 122 4 = nI kd) (dep : Nat) (h8 : dep ≤ 8) (hdep : h.1 122 13 = nI dep) : qT mi_QM_column 2 0 0 [.ref 122, .int c] h NN (fun v1 h1 n1 => v1 = some (.int (b2i ((bg && !on) && (decide (nI 0 ≤ c ∧ c ≤ nI (if kd = 0 then 1 else 3)) && decide (dep ≠ 8))))) ∧ h1 = cond ((bg && !on) && (decide (nI 0 ≤ c ∧ c ≤ nI (if kd = 0 then 1 else 3)) && decide (dep ≠ 8))) (qpI (qpI (qpI (qpL (qpI h 126 (24 * dep) (nI 20 + c)) 127 (24 * dep) 0) 128 dep (nI 1)) 129 dep (nI 0)) 122 13 (nI (dep + 1))) h ∧ n1 = NN) := by
  refine qT.of (lv0 := [_, _]) (by decide +kernel) (fun _ _ => Nat.le_of_ble_eq_true rfl) rfl ?_
  refine qx_aload_n d_QM_column_0 rfl rfl ?_
  refine qx_callV (As := []) (rest := _) d_QM_column_1 lk_QM_147 y_QM_open v_QM_open rfl rfl rfl (by decide) rfl rfl rfl rfl (by decide) (by decide) (ct_QM_open bg on hbeg hon) ?_
  rintro _ _ _ ⟨rfl, rfl, rfl⟩
  refine qx_if_eqB (t := 24) d_QM_column_4 rfl (fun c4 => ?_) (fun c4 => ?_)
  · refine qx_iconstN (v := 0) d_QM_column_24 rfl ?_
    exact qx_iret d_QM_column_25 rfl rfl (by omega) (by omega) (by first | (rw [c4]; exact ⟨rfl, rfl, rfl⟩) | (rw [c4, c12]; exact ⟨rfl, rfl, rfl⟩) | (rw [c4, c12, decide_eq_true c21]; exact ⟨rfl, rfl, rfl⟩) | (rw [c4, c12, decide_eq_false (fun q => q c21)]; exact ⟨rfl, rfl, rfl⟩))
  · refine qx_aload_n d_QM_column_7 rfl rfl ?_
    refine qx_iload_n d_QM_column_8 rfl rfl ?_
    refine qx_callV (As := [_]) (rest := _) d_QM_column_9 lk_QM_151 y_QM_isColumn v_QM_isColumn rfl rfl rfl (by decide) rfl rfl rfl rfl (by decide) (by decide) (ct_QM_isColumn _ kd hk3 hkd) ?_
    rintro _ _ _ ⟨rfl, rfl, rfl⟩
    refine qx_if_eqB (t := 24) d_QM_column_12 rfl (fun c12 => ?_) (fun c12 => ?_)
    · refine qx_iconstN (v := 0) d_QM_column_24 rfl ?_
      exact qx_iret d_QM_column_25 rfl rfl (by omega) (by omega) (by first | (rw [c4]; exact ⟨rfl, rfl, rfl⟩) | (rw [c4, c12]; exact ⟨rfl, rfl, rfl⟩) | (rw [c4, c12, decide_eq_true c21]; exact ⟨rfl, rfl, rfl⟩) | (rw [c4, c12, decide_eq_false (fun q => q c21)]; exact ⟨rfl, rfl, rfl⟩))
    · refine qx_aload_n d_QM_column_15 rfl rfl ?_
      refine qx_getI d_QM_column_16 fI_QM_138 rfl rfl hdep ?_
      refine qx_bipushN (v := 8) d_QM_column_19 rfl ?_
      refine qx_icmp_neN (t := 26) d_QM_column_21 rfl (by omega) (by omega) (fun c21 => ?_) (fun c21 => ?_)
      · refine qx_aload_n d_QM_column_26 rfl rfl ?_
        refine qx_bipushN (v := 20) d_QM_column_27 rfl ?_
        refine qx_iload_n d_QM_column_29 rfl rfl ?_
        refine qx_iadd d_QM_column_30 ?_
        refine qx_lconst (v := 0) d_QM_column_31 rfl ?_
        refine qx_callV (As := [_, _]) (rest := _) d_QM_column_32 lk_QM_155 y_QM_push v_QM_push rfl rfl rfl (by decide) rfl rfl rfl rfl (by decide) (by decide) (ct_QM_push _ _ dep (by omega) hR hdep) ?_
        rintro _ _ _ ⟨rfl, rfl, rfl⟩
        refine qx_iconstN (v := 1) d_QM_column_35 rfl ?_
        exact qx_iret d_QM_column_36 rfl rfl (by omega) (by omega) (by first | (rw [c4]; exact ⟨rfl, rfl, rfl⟩) | (rw [c4, c12]; exact ⟨rfl, rfl, rfl⟩) | (rw [c4, c12, decide_eq_true c21]; exact ⟨rfl, rfl, rfl⟩) | (rw [c4, c12, decide_eq_false (fun q => q c21)]; exact ⟨rfl, rfl, rfl⟩))
      · refine qx_iconstN (v := 0) d_QM_column_24 rfl ?_
        exact qx_iret d_QM_column_25 rfl rfl (by omega) (by omega) (by first | (rw [c4]; exact ⟨rfl, rfl, rfl⟩) | (rw [c4, c12]; exact ⟨rfl, rfl, rfl⟩) | (rw [c4, c12, decide_eq_true c21]; exact ⟨rfl, rfl, rfl⟩) | (rw [c4, c12, decide_eq_false (fun q => q c21)]; exact ⟨rfl, rfl, rfl⟩))
set_option maxRecDepth 100000 in
set_option maxHeartbeats 4000000 in
theorem ct_QM_number {h : qH} (x : Int32) (hR : h.2.2 122 = qRQM) (bg on : Bool) (hbeg : h.1 122 3 = b2i bg) (hon : h.1 122 37 = b2i on) (dep : Nat) (h8 : dep ≤ 8) (hdep : h.1 122 13 = nI dep) : qT mi_QM_number 2 0 0 [.ref 122, .int x] h NN (fun v1 h1 n1 => v1 = some (.int (b2i ((bg && !on) && decide (dep ≠ 8)))) ∧ h1 = cond ((bg && !on) && decide (dep ≠ 8)) (qpI (qpI (qpI (qpL (qpI h 126 (24 * dep) (nI 30)) 127 (24 * dep) x.toInt64) 128 dep (nI 1)) 129 dep (nI 0)) 122 13 (nI (dep + 1))) h ∧ n1 = NN) := by
  refine qT.of (lv0 := [_, _]) (by decide +kernel) (fun _ _ => Nat.le_of_ble_eq_true rfl) rfl ?_
  refine qx_aload_n d_QM_number_0 rfl rfl ?_
  refine qx_callV (As := []) (rest := _) d_QM_number_1 lk_QM_147 y_QM_open v_QM_open rfl rfl rfl (by decide) rfl rfl rfl rfl (by decide) (by decide) (ct_QM_open bg on hbeg hon) ?_
  rintro _ _ _ ⟨rfl, rfl, rfl⟩
  refine qx_if_eqB (t := 16) d_QM_number_4 rfl (fun c4 => ?_) (fun c4 => ?_)
  · refine qx_iconstN (v := 0) d_QM_number_16 rfl ?_
    exact qx_iret d_QM_number_17 rfl rfl (by omega) (by omega) (by first | (rw [c4]; exact ⟨rfl, rfl, rfl⟩) | (rw [c4, decide_eq_true c13]; exact ⟨rfl, rfl, rfl⟩) | (rw [c4, decide_eq_false (fun q => q c13)]; exact ⟨rfl, rfl, rfl⟩))
  · refine qx_aload_n d_QM_number_7 rfl rfl ?_
    refine qx_getI d_QM_number_8 fI_QM_138 rfl rfl hdep ?_
    refine qx_bipushN (v := 8) d_QM_number_11 rfl ?_
    refine qx_icmp_neN (t := 18) d_QM_number_13 rfl (by omega) (by omega) (fun c13 => ?_) (fun c13 => ?_)
    · refine qx_aload_n d_QM_number_18 rfl rfl ?_
      refine qx_bipushN (v := 30) d_QM_number_19 rfl ?_
      refine qx_iload_n d_QM_number_21 rfl rfl ?_
      refine qx_i2l d_QM_number_22 ?_
      refine qx_callV (As := [_, _]) (rest := _) d_QM_number_23 lk_QM_155 y_QM_push v_QM_push rfl rfl rfl (by decide) rfl rfl rfl rfl (by decide) (by decide) (ct_QM_push _ _ dep (by omega) hR hdep) ?_
      rintro _ _ _ ⟨rfl, rfl, rfl⟩
      refine qx_iconstN (v := 1) d_QM_number_26 rfl ?_
      exact qx_iret d_QM_number_27 rfl rfl (by omega) (by omega) (by first | (rw [c4]; exact ⟨rfl, rfl, rfl⟩) | (rw [c4, decide_eq_true c13]; exact ⟨rfl, rfl, rfl⟩) | (rw [c4, decide_eq_false (fun q => q c13)]; exact ⟨rfl, rfl, rfl⟩))
    · refine qx_iconstN (v := 0) d_QM_number_16 rfl ?_
      exact qx_iret d_QM_number_17 rfl rfl (by omega) (by omega) (by first | (rw [c4]; exact ⟨rfl, rfl, rfl⟩) | (rw [c4, decide_eq_true c13]; exact ⟨rfl, rfl, rfl⟩) | (rw [c4, decide_eq_false (fun q => q c13)]; exact ⟨rfl, rfl, rfl⟩))
set_option maxRecDepth 100000 in
set_option maxHeartbeats 4000000 in
theorem ct_QM_group {h : qH} (c : Int32) (bg on : Bool) (hbeg : h.1 122 3 = b2i bg) (hon : h.1 122 37 = b2i on) (kd : Nat) (hk3 : kd < 3) (hkd : h.1 122 4 = nI kd) : qT mi_QM_group 2 0 0 [.ref 122, .int c] h NN (fun v1 h1 n1 => v1 = some (.int (b2i ((bg && !on) && decide (nI 0 ≤ c ∧ c ≤ nI (if kd = 0 then 1 else 3))))) ∧ h1 = cond ((bg && !on) && decide (nI 0 ≤ c ∧ c ≤ nI (if kd = 0 then 1 else 3))) (qpI h 122 9 c) h ∧ n1 = NN) := by
  refine qT.of (lv0 := [_, _]) (by decide +kernel) (fun _ _ => Nat.le_of_ble_eq_true rfl) rfl ?_
  refine qx_aload_n d_QM_group_0 rfl rfl ?_
  refine qx_callV (As := []) (rest := _) d_QM_group_1 lk_QM_147 y_QM_open v_QM_open rfl rfl rfl (by decide) rfl rfl rfl rfl (by decide) (by decide) (ct_QM_open bg on hbeg hon) ?_
  rintro _ _ _ ⟨rfl, rfl, rfl⟩
  refine qx_if_eqB (t := 15) d_QM_group_4 rfl (fun c4 => ?_) (fun c4 => ?_)
  · refine qx_iconstN (v := 0) d_QM_group_15 rfl ?_
    exact qx_iret d_QM_group_16 rfl rfl (by omega) (by omega) (by first | (rw [c4, c12]; exact ⟨rfl, rfl, rfl⟩) | (rw [c4]; exact ⟨rfl, rfl, rfl⟩))
  · refine qx_aload_n d_QM_group_7 rfl rfl ?_
    refine qx_iload_n d_QM_group_8 rfl rfl ?_
    refine qx_callV (As := [_]) (rest := _) d_QM_group_9 lk_QM_151 y_QM_isColumn v_QM_isColumn rfl rfl rfl (by decide) rfl rfl rfl rfl (by decide) (by decide) (ct_QM_isColumn _ kd hk3 hkd) ?_
    rintro _ _ _ ⟨rfl, rfl, rfl⟩
    refine qx_if_neB (t := 17) d_QM_group_12 rfl (fun c12 => ?_) (fun c12 => ?_)
    · refine qx_aload_n d_QM_group_17 rfl rfl ?_
      refine qx_iload_n d_QM_group_18 rfl rfl ?_
      refine qx_putI d_QM_group_19 fI_QM_126 rfl rfl ⟨rfl, rfl⟩ ?_
      refine qx_iconstN (v := 1) d_QM_group_22 rfl ?_
      exact qx_iret d_QM_group_23 rfl rfl (by omega) (by omega) (by first | (rw [c4, c12]; exact ⟨rfl, rfl, rfl⟩) | (rw [c4]; exact ⟨rfl, rfl, rfl⟩))
    · refine qx_iconstN (v := 0) d_QM_group_15 rfl ?_
      exact qx_iret d_QM_group_16 rfl rfl (by omega) (by omega) (by first | (rw [c4, c12]; exact ⟨rfl, rfl, rfl⟩) | (rw [c4]; exact ⟨rfl, rfl, rfl⟩))
set_option maxRecDepth 100000 in
set_option maxHeartbeats 4000000 in
theorem ct_QM_order {h : qH} (c x : Int32) (dn : Bool) (bg on : Bool) (hbeg : h.1 122 3 = b2i bg) (hon : h.1 122 37 = b2i on) : qT mi_QM_order 2 0 0 [.ref 122, .int c, .int (b2i dn), .int x] h NN (fun v1 h1 n1 => v1 = some (.int (b2i ((bg && !on) && decide (nI 0 ≤ c ∧ c ≤ nI 3)))) ∧ h1 = cond ((bg && !on) && decide (nI 0 ≤ c ∧ c ≤ nI 3)) (qpI (qpI (qpI h 122 10 c) 122 11 (b2i dn)) 122 12 x) h ∧ n1 = NN) := by
  refine qT.of (lv0 := [_, _, _, _]) (by decide +kernel) (fun _ _ => Nat.le_of_ble_eq_true rfl) rfl ?_
  refine qx_aload_n d_QM_order_0 rfl rfl ?_
  refine qx_callV (As := []) (rest := _) d_QM_order_1 lk_QM_147 y_QM_open v_QM_open rfl rfl rfl (by decide) rfl rfl rfl rfl (by decide) (by decide) (ct_QM_open bg on hbeg hon) ?_
  rintro _ _ _ ⟨rfl, rfl, rfl⟩
  refine qx_if_eqB (t := 16) d_QM_order_4 rfl (fun c4 => ?_) (fun c4 => ?_)
  · refine qx_iconstN (v := 0) d_QM_order_16 rfl ?_
    exact qx_iret d_QM_order_17 rfl rfl (by omega) (by omega) (by first | (rw [c4, c13]; exact ⟨rfl, rfl, rfl⟩) | (rw [c4]; exact ⟨rfl, rfl, rfl⟩))
  · refine qx_iload_n d_QM_order_7 rfl rfl ?_
    refine qx_iconstN (v := 0) d_QM_order_8 rfl ?_
    refine qx_iconstN (v := 3) d_QM_order_9 rfl ?_
    refine qx_callS (As := [_, _, _]) (rest := _) d_QM_order_10 lk_QM_103 y_QM_within s_QM_within rfl rfl rfl rfl (by decide) (by decide) (ct_QM_within _ _ _) ?_
    rintro _ _ _ ⟨rfl, rfl, rfl⟩
    refine qx_if_neB (t := 18) d_QM_order_13 rfl (fun c13 => ?_) (fun c13 => ?_)
    · refine qx_aload_n d_QM_order_18 rfl rfl ?_
      refine qx_iload_n d_QM_order_19 rfl rfl ?_
      refine qx_putI d_QM_order_20 fI_QM_129 rfl rfl ⟨rfl, rfl⟩ ?_
      refine qx_aload_n d_QM_order_23 rfl rfl ?_
      refine qx_iload_n d_QM_order_24 rfl rfl ?_
      refine qx_putI d_QM_order_25 fI_QM_132 rfl rfl (b2i_fit dn) ?_
      refine qx_aload_n d_QM_order_28 rfl rfl ?_
      refine qx_iload_n d_QM_order_29 rfl rfl ?_
      refine qx_putI d_QM_order_30 fI_QM_135 rfl rfl ⟨rfl, rfl⟩ ?_
      refine qx_iconstN (v := 1) d_QM_order_33 rfl ?_
      exact qx_iret d_QM_order_34 rfl rfl (by omega) (by omega) (by first | (rw [c4, c13]; exact ⟨rfl, rfl, rfl⟩) | (rw [c4]; exact ⟨rfl, rfl, rfl⟩))
    · refine qx_iconstN (v := 0) d_QM_order_16 rfl ?_
      exact qx_iret d_QM_order_17 rfl rfl (by omega) (by omega) (by first | (rw [c4, c13]; exact ⟨rfl, rfl, rfl⟩) | (rw [c4]; exact ⟨rfl, rfl, rfl⟩))
set_option maxRecDepth 100000 in
set_option maxHeartbeats 4000000 in
theorem ct_QM_from {h : qH} (k f s l r : Int32) (on : Bool) (hon : h.1 122 37 = b2i on) : qT mi_QM_from 1 0 0 [.ref 122, .int k, .int f, .int s, .int l, .int r] h NN (fun v1 h1 n1 => v1 = some (.int (b2i ((!on && (decide (nI 0 ≤ k ∧ k ≤ nI 2) && decide (nI 0 ≤ f ∧ f ≤ nI 2))) && (decide (k ≤ 0) || (decide (nI 0 ≤ s ∧ s ≤ nI 2) && (decide (nI 0 ≤ l ∧ l ≤ nI 1) && decide (nI 0 ≤ r ∧ r ≤ nI 1))))))) ∧ h1 = cond ((!on && (decide (nI 0 ≤ k ∧ k ≤ nI 2) && decide (nI 0 ≤ f ∧ f ≤ nI 2))) && (decide (k ≤ 0) || (decide (nI 0 ≤ s ∧ s ≤ nI 2) && (decide (nI 0 ≤ l ∧ l ≤ nI 1) && decide (nI 0 ≤ r ∧ r ≤ nI 1))))) (qpI (qpI (qpI (qpI (qpI (qpI (qpI (qpI (qpI (qpI (qpI (qpI (qpI h 122 3 (nI 1)) 122 4 k) 122 5 f) 122 6 s) 122 7 l) 122 8 r) 122 9 (-1)) 122 10 (nI 0)) 122 11 (nI 0)) 122 12 (-1)) 122 13 (nI 0)) 122 14 (nI 0)) 122 15 (nI 0)) h ∧ n1 = NN) := by
  refine qT.of (lv0 := [_, _, _, _, _, _]) (by decide +kernel) (fun _ _ => Nat.le_of_ble_eq_true rfl) rfl ?_
  refine qx_aload_n d_QM_from_0 rfl rfl ?_
  refine qx_getI d_QM_from_1 fI_QM_99 rfl rfl hon ?_
  refine qx_if_neB (t := 25) d_QM_from_4 rfl (fun c4 => ?_) (fun c4 => ?_)
  · refine qx_iconstN (v := 0) d_QM_from_25 rfl ?_
    exact qx_iret d_QM_from_26 rfl rfl (by omega) (by omega) (by first | (rw [c4, c13, c22, decide_eq_false c28, c37, c47, c57]; exact ⟨rfl, rfl, rfl⟩) | (rw [c4, c13, c22, decide_eq_false c28, c37, c47]; exact ⟨rfl, rfl, rfl⟩) | (rw [c4, c13, c22, decide_eq_false c28, c37]; exact ⟨rfl, rfl, rfl⟩) | (rw [c4, c13, c22, decide_eq_true c28]; exact ⟨rfl, rfl, rfl⟩) | (rw [c4, c13, c22]; exact ⟨rfl, rfl, rfl⟩) | (rw [c4, c13]; exact ⟨rfl, rfl, rfl⟩) | (rw [c4]; exact ⟨rfl, rfl, rfl⟩))
  · refine qx_iload_n d_QM_from_7 rfl rfl ?_
    refine qx_iconstN (v := 0) d_QM_from_8 rfl ?_
    refine qx_iconstN (v := 2) d_QM_from_9 rfl ?_
    refine qx_callS (As := [_, _, _]) (rest := _) d_QM_from_10 lk_QM_103 y_QM_within s_QM_within rfl rfl rfl rfl (by decide) (by decide) (ct_QM_within _ _ _) ?_
    rintro _ _ _ ⟨rfl, rfl, rfl⟩
    refine qx_if_eqB (t := 25) d_QM_from_13 rfl (fun c13 => ?_) (fun c13 => ?_)
    · refine qx_iconstN (v := 0) d_QM_from_25 rfl ?_
      exact qx_iret d_QM_from_26 rfl rfl (by omega) (by omega) (by first | (rw [c4, c13, c22, decide_eq_false c28, c37, c47, c57]; exact ⟨rfl, rfl, rfl⟩) | (rw [c4, c13, c22, decide_eq_false c28, c37, c47]; exact ⟨rfl, rfl, rfl⟩) | (rw [c4, c13, c22, decide_eq_false c28, c37]; exact ⟨rfl, rfl, rfl⟩) | (rw [c4, c13, c22, decide_eq_true c28]; exact ⟨rfl, rfl, rfl⟩) | (rw [c4, c13, c22]; exact ⟨rfl, rfl, rfl⟩) | (rw [c4, c13]; exact ⟨rfl, rfl, rfl⟩) | (rw [c4]; exact ⟨rfl, rfl, rfl⟩))
    · refine qx_iload_n d_QM_from_16 rfl rfl ?_
      refine qx_iconstN (v := 0) d_QM_from_17 rfl ?_
      refine qx_iconstN (v := 2) d_QM_from_18 rfl ?_
      refine qx_callS (As := [_, _, _]) (rest := _) d_QM_from_19 lk_QM_103 y_QM_within s_QM_within rfl rfl rfl rfl (by decide) (by decide) (ct_QM_within _ _ _) ?_
      rintro _ _ _ ⟨rfl, rfl, rfl⟩
      refine qx_if_neB (t := 27) d_QM_from_22 rfl (fun c22 => ?_) (fun c22 => ?_)
      · refine qx_iload_n d_QM_from_27 rfl rfl ?_
        refine qx_if_le (t := 62) d_QM_from_28 rfl (fun c28 => ?_) (fun c28 => ?_)
        · refine qx_aload_n d_QM_from_62 rfl rfl ?_
          refine qx_iconstN (v := 1) d_QM_from_63 rfl ?_
          refine qx_putI d_QM_from_64 fI_QM_107 rfl rfl ⟨rfl, rfl⟩ ?_
          refine qx_aload_n d_QM_from_67 rfl rfl ?_
          refine qx_iload_n d_QM_from_68 rfl rfl ?_
          refine qx_putI d_QM_from_69 fI_QM_110 rfl rfl ⟨rfl, rfl⟩ ?_
          refine qx_aload_n d_QM_from_72 rfl rfl ?_
          refine qx_iload_n d_QM_from_73 rfl rfl ?_
          refine qx_putI d_QM_from_74 fI_QM_114 rfl rfl ⟨rfl, rfl⟩ ?_
          refine qx_aload_n d_QM_from_77 rfl rfl ?_
          refine qx_iload_n d_QM_from_78 rfl rfl ?_
          refine qx_putI d_QM_from_79 fI_QM_117 rfl rfl ⟨rfl, rfl⟩ ?_
          refine qx_aload_n d_QM_from_82 rfl rfl ?_
          refine qx_iload d_QM_from_83 rfl ?_
          refine qx_putI d_QM_from_85 fI_QM_120 rfl rfl ⟨rfl, rfl⟩ ?_
          refine qx_aload_n d_QM_from_88 rfl rfl ?_
          refine qx_iload d_QM_from_89 rfl ?_
          refine qx_putI d_QM_from_91 fI_QM_123 rfl rfl ⟨rfl, rfl⟩ ?_
          refine qx_aload_n d_QM_from_94 rfl rfl ?_
          refine qx_iconst (v := (-1)) d_QM_from_95 rfl ?_
          refine qx_putI d_QM_from_96 fI_QM_126 rfl rfl ⟨rfl, rfl⟩ ?_
          refine qx_aload_n d_QM_from_99 rfl rfl ?_
          refine qx_iconstN (v := 0) d_QM_from_100 rfl ?_
          refine qx_putI d_QM_from_101 fI_QM_129 rfl rfl ⟨rfl, rfl⟩ ?_
          refine qx_aload_n d_QM_from_104 rfl rfl ?_
          refine qx_iconstN (v := 0) d_QM_from_105 rfl ?_
          refine qx_putI d_QM_from_106 fI_QM_132 rfl rfl ⟨rfl, rfl⟩ ?_
          refine qx_aload_n d_QM_from_109 rfl rfl ?_
          refine qx_iconst (v := (-1)) d_QM_from_110 rfl ?_
          refine qx_putI d_QM_from_111 fI_QM_135 rfl rfl ⟨rfl, rfl⟩ ?_
          refine qx_aload_n d_QM_from_114 rfl rfl ?_
          refine qx_iconstN (v := 0) d_QM_from_115 rfl ?_
          refine qx_putI d_QM_from_116 fI_QM_138 rfl rfl ⟨rfl, rfl⟩ ?_
          refine qx_aload_n d_QM_from_119 rfl rfl ?_
          refine qx_iconstN (v := 0) d_QM_from_120 rfl ?_
          refine qx_putI d_QM_from_121 fI_QM_141 rfl rfl ⟨rfl, rfl⟩ ?_
          refine qx_aload_n d_QM_from_124 rfl rfl ?_
          refine qx_iconstN (v := 0) d_QM_from_125 rfl ?_
          refine qx_putI d_QM_from_126 fI_QM_144 rfl rfl ⟨rfl, rfl⟩ ?_
          refine qx_iconstN (v := 1) d_QM_from_129 rfl ?_
          exact qx_iret d_QM_from_130 rfl rfl (by omega) (by omega) (by first | (rw [c4, c13, c22, decide_eq_false c28, c37, c47, c57]; exact ⟨rfl, rfl, rfl⟩) | (rw [c4, c13, c22, decide_eq_false c28, c37, c47]; exact ⟨rfl, rfl, rfl⟩) | (rw [c4, c13, c22, decide_eq_false c28, c37]; exact ⟨rfl, rfl, rfl⟩) | (rw [c4, c13, c22, decide_eq_true c28]; exact ⟨rfl, rfl, rfl⟩) | (rw [c4, c13, c22]; exact ⟨rfl, rfl, rfl⟩) | (rw [c4, c13]; exact ⟨rfl, rfl, rfl⟩) | (rw [c4]; exact ⟨rfl, rfl, rfl⟩))
        · refine qx_iload_n d_QM_from_31 rfl rfl ?_
          refine qx_iconstN (v := 0) d_QM_from_32 rfl ?_
          refine qx_iconstN (v := 2) d_QM_from_33 rfl ?_
          refine qx_callS (As := [_, _, _]) (rest := _) d_QM_from_34 lk_QM_103 y_QM_within s_QM_within rfl rfl rfl rfl (by decide) (by decide) (ct_QM_within _ _ _) ?_
          rintro _ _ _ ⟨rfl, rfl, rfl⟩
          refine qx_if_eqB (t := 60) d_QM_from_37 rfl (fun c37 => ?_) (fun c37 => ?_)
          · refine qx_iconstN (v := 0) d_QM_from_60 rfl ?_
            exact qx_iret d_QM_from_61 rfl rfl (by omega) (by omega) (by first | (rw [c4, c13, c22, decide_eq_false c28, c37, c47, c57]; exact ⟨rfl, rfl, rfl⟩) | (rw [c4, c13, c22, decide_eq_false c28, c37, c47]; exact ⟨rfl, rfl, rfl⟩) | (rw [c4, c13, c22, decide_eq_false c28, c37]; exact ⟨rfl, rfl, rfl⟩) | (rw [c4, c13, c22, decide_eq_true c28]; exact ⟨rfl, rfl, rfl⟩) | (rw [c4, c13, c22]; exact ⟨rfl, rfl, rfl⟩) | (rw [c4, c13]; exact ⟨rfl, rfl, rfl⟩) | (rw [c4]; exact ⟨rfl, rfl, rfl⟩))
          · refine qx_iload d_QM_from_40 rfl ?_
            refine qx_iconstN (v := 0) d_QM_from_42 rfl ?_
            refine qx_iconstN (v := 1) d_QM_from_43 rfl ?_
            refine qx_callS (As := [_, _, _]) (rest := _) d_QM_from_44 lk_QM_103 y_QM_within s_QM_within rfl rfl rfl rfl (by decide) (by decide) (ct_QM_within _ _ _) ?_
            rintro _ _ _ ⟨rfl, rfl, rfl⟩
            refine qx_if_eqB (t := 60) d_QM_from_47 rfl (fun c47 => ?_) (fun c47 => ?_)
            · refine qx_iconstN (v := 0) d_QM_from_60 rfl ?_
              exact qx_iret d_QM_from_61 rfl rfl (by omega) (by omega) (by first | (rw [c4, c13, c22, decide_eq_false c28, c37, c47, c57]; exact ⟨rfl, rfl, rfl⟩) | (rw [c4, c13, c22, decide_eq_false c28, c37, c47]; exact ⟨rfl, rfl, rfl⟩) | (rw [c4, c13, c22, decide_eq_false c28, c37]; exact ⟨rfl, rfl, rfl⟩) | (rw [c4, c13, c22, decide_eq_true c28]; exact ⟨rfl, rfl, rfl⟩) | (rw [c4, c13, c22]; exact ⟨rfl, rfl, rfl⟩) | (rw [c4, c13]; exact ⟨rfl, rfl, rfl⟩) | (rw [c4]; exact ⟨rfl, rfl, rfl⟩))
            · refine qx_iload d_QM_from_50 rfl ?_
              refine qx_iconstN (v := 0) d_QM_from_52 rfl ?_
              refine qx_iconstN (v := 1) d_QM_from_53 rfl ?_
              refine qx_callS (As := [_, _, _]) (rest := _) d_QM_from_54 lk_QM_103 y_QM_within s_QM_within rfl rfl rfl rfl (by decide) (by decide) (ct_QM_within _ _ _) ?_
              rintro _ _ _ ⟨rfl, rfl, rfl⟩
              refine qx_if_neB (t := 62) d_QM_from_57 rfl (fun c57 => ?_) (fun c57 => ?_)
              · refine qx_aload_n d_QM_from_62 rfl rfl ?_
                refine qx_iconstN (v := 1) d_QM_from_63 rfl ?_
                refine qx_putI d_QM_from_64 fI_QM_107 rfl rfl ⟨rfl, rfl⟩ ?_
                refine qx_aload_n d_QM_from_67 rfl rfl ?_
                refine qx_iload_n d_QM_from_68 rfl rfl ?_
                refine qx_putI d_QM_from_69 fI_QM_110 rfl rfl ⟨rfl, rfl⟩ ?_
                refine qx_aload_n d_QM_from_72 rfl rfl ?_
                refine qx_iload_n d_QM_from_73 rfl rfl ?_
                refine qx_putI d_QM_from_74 fI_QM_114 rfl rfl ⟨rfl, rfl⟩ ?_
                refine qx_aload_n d_QM_from_77 rfl rfl ?_
                refine qx_iload_n d_QM_from_78 rfl rfl ?_
                refine qx_putI d_QM_from_79 fI_QM_117 rfl rfl ⟨rfl, rfl⟩ ?_
                refine qx_aload_n d_QM_from_82 rfl rfl ?_
                refine qx_iload d_QM_from_83 rfl ?_
                refine qx_putI d_QM_from_85 fI_QM_120 rfl rfl ⟨rfl, rfl⟩ ?_
                refine qx_aload_n d_QM_from_88 rfl rfl ?_
                refine qx_iload d_QM_from_89 rfl ?_
                refine qx_putI d_QM_from_91 fI_QM_123 rfl rfl ⟨rfl, rfl⟩ ?_
                refine qx_aload_n d_QM_from_94 rfl rfl ?_
                refine qx_iconst (v := (-1)) d_QM_from_95 rfl ?_
                refine qx_putI d_QM_from_96 fI_QM_126 rfl rfl ⟨rfl, rfl⟩ ?_
                refine qx_aload_n d_QM_from_99 rfl rfl ?_
                refine qx_iconstN (v := 0) d_QM_from_100 rfl ?_
                refine qx_putI d_QM_from_101 fI_QM_129 rfl rfl ⟨rfl, rfl⟩ ?_
                refine qx_aload_n d_QM_from_104 rfl rfl ?_
                refine qx_iconstN (v := 0) d_QM_from_105 rfl ?_
                refine qx_putI d_QM_from_106 fI_QM_132 rfl rfl ⟨rfl, rfl⟩ ?_
                refine qx_aload_n d_QM_from_109 rfl rfl ?_
                refine qx_iconst (v := (-1)) d_QM_from_110 rfl ?_
                refine qx_putI d_QM_from_111 fI_QM_135 rfl rfl ⟨rfl, rfl⟩ ?_
                refine qx_aload_n d_QM_from_114 rfl rfl ?_
                refine qx_iconstN (v := 0) d_QM_from_115 rfl ?_
                refine qx_putI d_QM_from_116 fI_QM_138 rfl rfl ⟨rfl, rfl⟩ ?_
                refine qx_aload_n d_QM_from_119 rfl rfl ?_
                refine qx_iconstN (v := 0) d_QM_from_120 rfl ?_
                refine qx_putI d_QM_from_121 fI_QM_141 rfl rfl ⟨rfl, rfl⟩ ?_
                refine qx_aload_n d_QM_from_124 rfl rfl ?_
                refine qx_iconstN (v := 0) d_QM_from_125 rfl ?_
                refine qx_putI d_QM_from_126 fI_QM_144 rfl rfl ⟨rfl, rfl⟩ ?_
                refine qx_iconstN (v := 1) d_QM_from_129 rfl ?_
                exact qx_iret d_QM_from_130 rfl rfl (by omega) (by omega) (by first | (rw [c4, c13, c22, decide_eq_false c28, c37, c47, c57]; exact ⟨rfl, rfl, rfl⟩) | (rw [c4, c13, c22, decide_eq_false c28, c37, c47]; exact ⟨rfl, rfl, rfl⟩) | (rw [c4, c13, c22, decide_eq_false c28, c37]; exact ⟨rfl, rfl, rfl⟩) | (rw [c4, c13, c22, decide_eq_true c28]; exact ⟨rfl, rfl, rfl⟩) | (rw [c4, c13, c22]; exact ⟨rfl, rfl, rfl⟩) | (rw [c4, c13]; exact ⟨rfl, rfl, rfl⟩) | (rw [c4]; exact ⟨rfl, rfl, rfl⟩))
              · refine qx_iconstN (v := 0) d_QM_from_60 rfl ?_
                exact qx_iret d_QM_from_61 rfl rfl (by omega) (by omega) (by first | (rw [c4, c13, c22, decide_eq_false c28, c37, c47, c57]; exact ⟨rfl, rfl, rfl⟩) | (rw [c4, c13, c22, decide_eq_false c28, c37, c47]; exact ⟨rfl, rfl, rfl⟩) | (rw [c4, c13, c22, decide_eq_false c28, c37]; exact ⟨rfl, rfl, rfl⟩) | (rw [c4, c13, c22, decide_eq_true c28]; exact ⟨rfl, rfl, rfl⟩) | (rw [c4, c13, c22]; exact ⟨rfl, rfl, rfl⟩) | (rw [c4, c13]; exact ⟨rfl, rfl, rfl⟩) | (rw [c4]; exact ⟨rfl, rfl, rfl⟩))
      · refine qx_iconstN (v := 0) d_QM_from_25 rfl ?_
        exact qx_iret d_QM_from_26 rfl rfl (by omega) (by omega) (by first | (rw [c4, c13, c22, decide_eq_false c28, c37, c47, c57]; exact ⟨rfl, rfl, rfl⟩) | (rw [c4, c13, c22, decide_eq_false c28, c37, c47]; exact ⟨rfl, rfl, rfl⟩) | (rw [c4, c13, c22, decide_eq_false c28, c37]; exact ⟨rfl, rfl, rfl⟩) | (rw [c4, c13, c22, decide_eq_true c28]; exact ⟨rfl, rfl, rfl⟩) | (rw [c4, c13, c22]; exact ⟨rfl, rfl, rfl⟩) | (rw [c4, c13]; exact ⟨rfl, rfl, rfl⟩) | (rw [c4]; exact ⟨rfl, rfl, rfl⟩))
