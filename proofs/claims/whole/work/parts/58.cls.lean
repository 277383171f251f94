theorem gr_s {gr : Option Nat} (h : gr.isSome = true) : grS gr = 1 := by
  cases gr with
  | none => cases h
  | some g => rfl
theorem gr_n {gr : Option Nat} (h : gr.isSome = false) : grS gr = 0 := by
  cases gr with
  | none => rfl
  | some g => cases h
set_option maxRecDepth 100000 in
set_option maxHeartbeats 4000000 in
theorem ct_Qu_resultColumns {h : qH} (gr : Option Nat) (hgr4 : ∀ g, gr = some g → g < 4) (hgr : h.1 3 13 = grI gr) (no : Nat) (hno : h.1 3 12 = nI no) : qT mi_Qu_resultColumns 1 0 0 [.ref 3] h NN (fun v1 h1 n1 => v1 = some (.int (nI (grS gr + no))) ∧ h = h1 ∧ n1 = NN) := by
  refine qT.of (lv0 := [_]) (by decide +kernel) (fun _ _ => Nat.le_of_ble_eq_true rfl) rfl ?_
  refine qx_aload_n d_Qu_resultColumns_0 rfl rfl ?_
  refine qx_callV (As := []) (rest := _) d_Qu_resultColumns_1 lk_Qu_77 y_Qu_isGrouped v_Qu_isGrouped rfl rfl rfl (by decide) rfl rfl rfl rfl (by decide) (by decide) (ct_Qu_isGrouped gr hgr4 hgr) ?_
  rintro _ _ _ ⟨rfl, rfl, rfl⟩
  refine qx_if_eqB (t := 16) d_Qu_resultColumns_4 rfl (fun c4 => ?_) (fun c4 => ?_)
  · refine qx_aload_n d_Qu_resultColumns_16 rfl rfl ?_
    refine qx_getI d_Qu_resultColumns_17 fI_Qu_64 rfl rfl hno ?_
    exact qx_iret d_Qu_resultColumns_20 rfl rfl (by omega) (by omega) (by refine ⟨?_, rfl, rfl⟩; first | (rw [gr_s c4, Nat.add_comm]; done) | (rw [gr_n c4, Nat.zero_add]; done))
  · refine qx_aload_n d_Qu_resultColumns_7 rfl rfl ?_
    refine qx_getI d_Qu_resultColumns_8 fI_Qu_64 rfl rfl hno ?_
    refine qx_iconstN (v := 1) d_Qu_resultColumns_11 rfl ?_
    refine qx_iaddN d_Qu_resultColumns_12 ?_
    refine qx_goto (t := 20) d_Qu_resultColumns_13 rfl ?_
    exact qx_iret d_Qu_resultColumns_20 rfl rfl (by omega) (by omega) (by refine ⟨?_, rfl, rfl⟩; first | (rw [gr_s c4, Nat.add_comm]; done) | (rw [gr_n c4, Nat.zero_add]; done))
set_option maxRecDepth 100000 in
set_option maxHeartbeats 4000000 in
theorem ct_Qu_begin {h : qH} (k f s l r : Int32) : qT mi_Qu_begin 0 0 0 [.ref 3, .int k, .int f, .int s, .int l, .int r] h NN (fun v1 h1 n1 => v1 = none ∧ h1 = (qpI (qpI (qpI (qpI (qpI (qpI (qpI (qpI (qpI (qpI (qpI (qpI (qpI h 3 0 (nI 1)) 3 1 k) 3 2 f) 3 3 s) 3 4 l) 3 5 r) 3 7 (nI 0)) 3 9 (nI 0)) 3 12 (nI 0)) 3 13 (-1)) 3 14 (nI 0)) 3 15 (nI 0)) 3 16 (-1)) ∧ n1 = NN) := by
  refine qT.of (lv0 := [_, _, _, _, _, _]) (by decide +kernel) (fun _ _ => Nat.le_of_ble_eq_true rfl) rfl ?_
  refine qx_aload_n d_Qu_begin_0 rfl rfl ?_
  refine qx_iconstN (v := 1) d_Qu_begin_1 rfl ?_
  refine qx_putI d_Qu_begin_2 fI_Qu_39 rfl rfl ⟨rfl, rfl⟩ ?_
  refine qx_aload_n d_Qu_begin_5 rfl rfl ?_
  refine qx_iload_n d_Qu_begin_6 rfl rfl ?_
  refine qx_putI d_Qu_begin_7 fI_Qu_43 rfl rfl ⟨rfl, rfl⟩ ?_
  refine qx_aload_n d_Qu_begin_10 rfl rfl ?_
  refine qx_iload_n d_Qu_begin_11 rfl rfl ?_
  refine qx_putI d_Qu_begin_12 fI_Qu_46 rfl rfl ⟨rfl, rfl⟩ ?_
  refine qx_aload_n d_Qu_begin_15 rfl rfl ?_
  refine qx_iload_n d_Qu_begin_16 rfl rfl ?_
  refine qx_putI d_Qu_begin_17 fI_Qu_49 rfl rfl ⟨rfl, rfl⟩ ?_
  refine qx_aload_n d_Qu_begin_20 rfl rfl ?_
  refine qx_iload d_Qu_begin_21 rfl ?_
  refine qx_putI d_Qu_begin_23 fI_Qu_52 rfl rfl ⟨rfl, rfl⟩ ?_
  refine qx_aload_n d_Qu_begin_26 rfl rfl ?_
  refine qx_iload d_Qu_begin_27 rfl ?_
  refine qx_putI d_Qu_begin_29 fI_Qu_55 rfl rfl ⟨rfl, rfl⟩ ?_
  refine qx_aload_n d_Qu_begin_32 rfl rfl ?_
  refine qx_iconstN (v := 0) d_Qu_begin_33 rfl ?_
  refine qx_putI d_Qu_begin_34 fI_Qu_58 rfl rfl ⟨rfl, rfl⟩ ?_
  refine qx_aload_n d_Qu_begin_37 rfl rfl ?_
  refine qx_iconstN (v := 0) d_Qu_begin_38 rfl ?_
  refine qx_putI d_Qu_begin_39 fI_Qu_61 rfl rfl ⟨rfl, rfl⟩ ?_
  refine qx_aload_n d_Qu_begin_42 rfl rfl ?_
  refine qx_iconstN (v := 0) d_Qu_begin_43 rfl ?_
  refine qx_putI d_Qu_begin_44 fI_Qu_64 rfl rfl ⟨rfl, rfl⟩ ?_
  refine qx_aload_n d_Qu_begin_47 rfl rfl ?_
  refine qx_iconst (v := (-1)) d_Qu_begin_48 rfl ?_
  refine qx_putI d_Qu_begin_49 fI_Qu_29 rfl rfl ⟨rfl, rfl⟩ ?_
  refine qx_aload_n d_Qu_begin_52 rfl rfl ?_
  refine qx_iconstN (v := 0) d_Qu_begin_53 rfl ?_
  refine qx_putI d_Qu_begin_54 fI_Qu_67 rfl rfl ⟨rfl, rfl⟩ ?_
  refine qx_aload_n d_Qu_begin_57 rfl rfl ?_
  refine qx_iconstN (v := 0) d_Qu_begin_58 rfl ?_
  refine qx_putI d_Qu_begin_59 fI_Qu_70 rfl rfl ⟨rfl, rfl⟩ ?_
  refine qx_aload_n d_Qu_begin_62 rfl rfl ?_
  refine qx_iconst (v := (-1)) d_Qu_begin_63 rfl ?_
  refine qx_putI d_Qu_begin_64 fI_Qu_33 rfl rfl ⟨rfl, rfl⟩ ?_
  exact qx_ret d_Qu_begin_67 rfl (by omega) (by omega) ⟨rfl, rfl, rfl⟩
