/-! the class's tables -/
theorem tb_pl {t : Nat} (h : t < 3) : qPl (70 + 3 * t) = (6, 0) ∧ qPl (70 + 3 * t + 1) = (20, 24) ∧ qPl (70 + 3 * t + 2) = (22, 24) ∧ Nat.blt (70 + 3 * t) NN = true ∧ Nat.blt (70 + 3 * t + 1) NN = true ∧ Nat.blt (70 + 3 * t + 2) NN = true := by
  have h : t = 0 ∨ t = 1 ∨ t = 2 := by omega
  rcases h with rfl | rfl | rfl <;> exact ⟨rfl, rfl, rfl, rfl, rfl, rfl⟩
def qRTb (t : Nat) : Nat → Option Nat := fun f => (([some (70 + 3 * t + 1), some (70 + 3 * t + 2)] : List (Option Nat))[f]?).getD none
set_option maxRecDepth 100000 in
set_option maxHeartbeats 4000000 in
theorem ct_Tb_value {h : qH} (t : Nat) (ht : t < 3) (hT : h.2.2 (70 + 3 * t) = qRTb t) (q c : Nat) (hq : q < 12) (hc : c < 2) (v : Int32) (hv : h.1 (70 + 3 * t + 1) (q * 2 + c) = v) : qT mi_Tb_value 0 0 0 [.ref (70 + 3 * t), .int (nI q), .int (nI c)] h NN (fun v1 h1 n1 => v1 = some (.int v) ∧ h = h1 ∧ n1 = NN) := by
  refine qT.of (lv0 := [_, _, _]) (by decide +kernel) (fun _ _ => Nat.le_of_ble_eq_true rfl) rfl ?_
  refine qx_aload_n d_Tb_value_0 rfl rfl ?_
  refine qx_getR d_Tb_value_1 fR_Tb_9 (tb_pl ht).1 (tb_pl ht).2.2.2.1 (congrFun hT 0) ?_
  refine qx_iload_n d_Tb_value_4 rfl rfl ?_
  refine qx_iconstN (v := 2) d_Tb_value_5 rfl ?_
  refine qx_imulN d_Tb_value_6 ?_
  refine qx_iload_n d_Tb_value_7 rfl rfl ?_
  refine qx_iaddN d_Tb_value_8 ?_
  refine qx_iald d_Tb_value_9 (tb_pl ht).2.1 (tb_pl ht).2.2.2.2.1 rfl rfl (by omega) hv ?_
  exact qx_iret d_Tb_value_10 rfl rfl (by omega) (by omega) ⟨rfl, rfl, rfl⟩
set_option maxRecDepth 100000 in
set_option maxHeartbeats 4000000 in
theorem ct_Tb_isNull {h : qH} (t : Nat) (ht : t < 3) (hT : h.2.2 (70 + 3 * t) = qRTb t) (q c : Nat) (hq : q < 12) (hc : c < 2) (b : Bool) (hb : h.1 (70 + 3 * t + 2) (q * 2 + c) = b2i b) : qT mi_Tb_isNull 0 0 0 [.ref (70 + 3 * t), .int (nI q), .int (nI c)] h NN (fun v1 h1 n1 => v1 = some (.int (b2i b)) ∧ h = h1 ∧ n1 = NN) := by
  refine qT.of (lv0 := [_, _, _]) (by decide +kernel) (fun _ _ => Nat.le_of_ble_eq_true rfl) rfl ?_
  refine qx_aload_n d_Tb_isNull_0 rfl rfl ?_
  refine qx_getR d_Tb_isNull_1 fR_Tb_15 (tb_pl ht).1 (tb_pl ht).2.2.2.1 (congrFun hT 1) ?_
  refine qx_iload_n d_Tb_isNull_4 rfl rfl ?_
  refine qx_iconstN (v := 2) d_Tb_isNull_5 rfl ?_
  refine qx_imulN d_Tb_isNull_6 ?_
  refine qx_iload_n d_Tb_isNull_7 rfl rfl ?_
  refine qx_iaddN d_Tb_isNull_8 ?_
  refine qx_zald d_Tb_isNull_9 (tb_pl ht).2.2.1 (tb_pl ht).2.2.2.2.2 rfl rfl (by omega) hb ?_
  exact qx_iret d_Tb_isNull_10 rfl (b2i_nar _) (by omega) (by omega) ⟨rfl, rfl, rfl⟩
set_option maxRecDepth 100000 in
set_option maxHeartbeats 4000000 in
theorem ct_Tb_add_0 {h : qH} (hT : h.2.2 70 = qRTb 0) (x y nb : Int32) (sz : Nat) (hs12 : sz ≤ 12) (hsz : h.1 70 2 = nI sz) : qT mi_Tb_add 0 0 0 [.ref 70, .int x, .int y, .int nb] h NN (fun v1 h1 n1 => v1 = some (.int (if sz < 12 then nI (sz + 1) else -2)) ∧ h1 = (if sz < 12 then (qpI (qpI (qpI (qpI (qpI h 71 (sz * 2) x) 72 (sz * 2) (b2i (decide (¬ nb &&& nI 1 = 0)))) 71 (sz * 2 + 1) y) 72 (sz * 2 + 1) (b2i (decide (¬ nb &&& nI 2 = 0)))) 70 2 (nI (sz + 1))) else h) ∧ n1 = NN) := by
  refine qT.of (lv0 := [_, _, _, _, _]) (by decide +kernel) (fun _ _ => Nat.le_of_ble_eq_true rfl) rfl ?_
  refine qx_aload_n d_Tb_add_0 rfl rfl ?_
  refine qx_getI d_Tb_add_1 fI_Tb_19 rfl rfl hsz ?_
  refine qx_bipushN (v := 12) d_Tb_add_4 rfl ?_
  refine qx_icmp_ltN (t := 12) d_Tb_add_6 rfl (by omega) (by omega) (fun c6 => ?_) (fun c6 => ?_)
  · refine qx_aload_n d_Tb_add_12 rfl rfl ?_
    refine qx_getI d_Tb_add_13 fI_Tb_19 rfl rfl hsz ?_
    refine qx_iconstN (v := 2) d_Tb_add_16 rfl ?_
    refine qx_imulN d_Tb_add_17 ?_
    refine qx_istore (lv1 := [_, _, _, _, _]) d_Tb_add_18 (by decide) rfl ?_
    refine qx_aload_n d_Tb_add_20 rfl rfl ?_
    refine qx_getR d_Tb_add_21 fR_Tb_9 rfl rfl (congrFun hT 0) ?_
    refine qx_iload d_Tb_add_24 rfl ?_
    refine qx_iload_n d_Tb_add_26 rfl rfl ?_
    refine qx_iast d_Tb_add_27 rfl rfl rfl rfl (by omega) ?_
    refine qx_aload_n d_Tb_add_28 rfl rfl ?_
    refine qx_getR d_Tb_add_29 fR_Tb_15 rfl rfl (congrFun hT 1) ?_
    refine qx_iload d_Tb_add_32 rfl ?_
    refine qx_iload_n d_Tb_add_34 rfl rfl ?_
    refine qx_iconstN (v := 1) d_Tb_add_35 rfl ?_
    refine qx_iand d_Tb_add_36 ?_
    refine qx_if_eq (t := 44) d_Tb_add_37 rfl (fun c37 => ?_) (fun c37 => ?_)
    · refine qx_iconst (v := b2i false) d_Tb_add_44 rfl ?_
      refine qx_zast d_Tb_add_45 rfl rfl rfl rfl (by omega) rfl ?_
      refine qx_aload_n d_Tb_add_46 rfl rfl ?_
      refine qx_getR d_Tb_add_47 fR_Tb_9 rfl rfl (congrFun hT 0) ?_
      refine qx_iload d_Tb_add_50 rfl ?_
      refine qx_iconstN (v := 1) d_Tb_add_52 rfl ?_
      refine qx_iaddN d_Tb_add_53 ?_
      refine qx_iload_n d_Tb_add_54 rfl rfl ?_
      refine qx_iast d_Tb_add_55 rfl rfl rfl rfl (by omega) ?_
      refine qx_aload_n d_Tb_add_56 rfl rfl ?_
      refine qx_getR d_Tb_add_57 fR_Tb_15 rfl rfl (congrFun hT 1) ?_
      refine qx_iload d_Tb_add_60 rfl ?_
      refine qx_iconstN (v := 1) d_Tb_add_62 rfl ?_
      refine qx_iaddN d_Tb_add_63 ?_
      refine qx_iload_n d_Tb_add_64 rfl rfl ?_
      refine qx_iconstN (v := 2) d_Tb_add_65 rfl ?_
      refine qx_iand d_Tb_add_66 ?_
      refine qx_if_eq (t := 74) d_Tb_add_67 rfl (fun c67 => ?_) (fun c67 => ?_)
      · refine qx_iconst (v := b2i false) d_Tb_add_74 rfl ?_
        refine qx_zast d_Tb_add_75 rfl rfl rfl rfl (by omega) rfl ?_
        refine qx_aload_n d_Tb_add_76 rfl rfl ?_
        refine qx_dup d_Tb_add_77 rfl ?_
        refine qx_getI d_Tb_add_78 fI_Tb_19 rfl rfl hsz ?_
        refine qx_iconstN (v := 1) d_Tb_add_81 rfl ?_
        refine qx_iaddN d_Tb_add_82 ?_
        refine qx_putI d_Tb_add_83 fI_Tb_19 rfl rfl ⟨rfl, rfl⟩ ?_
        refine qx_aload_n d_Tb_add_86 rfl rfl ?_
        refine qx_getI d_Tb_add_87 fI_Tb_19 rfl rfl rfl ?_
        exact qx_iret d_Tb_add_90 rfl rfl (by omega) (by omega) (by first | (rw [if_neg (by omega), if_neg (by omega)]; exact ⟨rfl, rfl, rfl⟩) | (rw [if_pos c6, if_pos c6]; refine ⟨rfl, ?_, rfl⟩; simp [c37, c67]))
      · refine qx_iconst (v := b2i true) d_Tb_add_70 rfl ?_
        refine qx_goto (t := 75) d_Tb_add_71 rfl ?_
        refine qx_zast d_Tb_add_75 rfl rfl rfl rfl (by omega) rfl ?_
        refine qx_aload_n d_Tb_add_76 rfl rfl ?_
        refine qx_dup d_Tb_add_77 rfl ?_
        refine qx_getI d_Tb_add_78 fI_Tb_19 rfl rfl hsz ?_
        refine qx_iconstN (v := 1) d_Tb_add_81 rfl ?_
        refine qx_iaddN d_Tb_add_82 ?_
        refine qx_putI d_Tb_add_83 fI_Tb_19 rfl rfl ⟨rfl, rfl⟩ ?_
        refine qx_aload_n d_Tb_add_86 rfl rfl ?_
        refine qx_getI d_Tb_add_87 fI_Tb_19 rfl rfl rfl ?_
        exact qx_iret d_Tb_add_90 rfl rfl (by omega) (by omega) (by first | (rw [if_neg (by omega), if_neg (by omega)]; exact ⟨rfl, rfl, rfl⟩) | (rw [if_pos c6, if_pos c6]; refine ⟨rfl, ?_, rfl⟩; simp [c37, c67]))
    · refine qx_iconst (v := b2i true) d_Tb_add_40 rfl ?_
      refine qx_goto (t := 45) d_Tb_add_41 rfl ?_
      refine qx_zast d_Tb_add_45 rfl rfl rfl rfl (by omega) rfl ?_
      refine qx_aload_n d_Tb_add_46 rfl rfl ?_
      refine qx_getR d_Tb_add_47 fR_Tb_9 rfl rfl (congrFun hT 0) ?_
      refine qx_iload d_Tb_add_50 rfl ?_
      refine qx_iconstN (v := 1) d_Tb_add_52 rfl ?_
      refine qx_iaddN d_Tb_add_53 ?_
      refine qx_iload_n d_Tb_add_54 rfl rfl ?_
      refine qx_iast d_Tb_add_55 rfl rfl rfl rfl (by omega) ?_
      refine qx_aload_n d_Tb_add_56 rfl rfl ?_
      refine qx_getR d_Tb_add_57 fR_Tb_15 rfl rfl (congrFun hT 1) ?_
      refine qx_iload d_Tb_add_60 rfl ?_
      refine qx_iconstN (v := 1) d_Tb_add_62 rfl ?_
      refine qx_iaddN d_Tb_add_63 ?_
      refine qx_iload_n d_Tb_add_64 rfl rfl ?_
      refine qx_iconstN (v := 2) d_Tb_add_65 rfl ?_
      refine qx_iand d_Tb_add_66 ?_
      refine qx_if_eq (t := 74) d_Tb_add_67 rfl (fun c67 => ?_) (fun c67 => ?_)
      · refine qx_iconst (v := b2i false) d_Tb_add_74 rfl ?_
        refine qx_zast d_Tb_add_75 rfl rfl rfl rfl (by omega) rfl ?_
        refine qx_aload_n d_Tb_add_76 rfl rfl ?_
        refine qx_dup d_Tb_add_77 rfl ?_
        refine qx_getI d_Tb_add_78 fI_Tb_19 rfl rfl hsz ?_
        refine qx_iconstN (v := 1) d_Tb_add_81 rfl ?_
        refine qx_iaddN d_Tb_add_82 ?_
        refine qx_putI d_Tb_add_83 fI_Tb_19 rfl rfl ⟨rfl, rfl⟩ ?_
        refine qx_aload_n d_Tb_add_86 rfl rfl ?_
        refine qx_getI d_Tb_add_87 fI_Tb_19 rfl rfl rfl ?_
        exact qx_iret d_Tb_add_90 rfl rfl (by omega) (by omega) (by first | (rw [if_neg (by omega), if_neg (by omega)]; exact ⟨rfl, rfl, rfl⟩) | (rw [if_pos c6, if_pos c6]; refine ⟨rfl, ?_, rfl⟩; simp [c37, c67]))
      · refine qx_iconst (v := b2i true) d_Tb_add_70 rfl ?_
        refine qx_goto (t := 75) d_Tb_add_71 rfl ?_
        refine qx_zast d_Tb_add_75 rfl rfl rfl rfl (by omega) rfl ?_
        refine qx_aload_n d_Tb_add_76 rfl rfl ?_
        refine qx_dup d_Tb_add_77 rfl ?_
        refine qx_getI d_Tb_add_78 fI_Tb_19 rfl rfl hsz ?_
        refine qx_iconstN (v := 1) d_Tb_add_81 rfl ?_
        refine qx_iaddN d_Tb_add_82 ?_
        refine qx_putI d_Tb_add_83 fI_Tb_19 rfl rfl ⟨rfl, rfl⟩ ?_
        refine qx_aload_n d_Tb_add_86 rfl rfl ?_
        refine qx_getI d_Tb_add_87 fI_Tb_19 rfl rfl rfl ?_
        exact qx_iret d_Tb_add_90 rfl rfl (by omega) (by omega) (by first | (rw [if_neg (by omega), if_neg (by omega)]; exact ⟨rfl, rfl, rfl⟩) | (rw [if_pos c6, if_pos c6]; refine ⟨rfl, ?_, rfl⟩; simp [c37, c67]))
  · refine qx_bipush (v := (-2)) d_Tb_add_9 rfl ?_
    exact qx_iret d_Tb_add_11 rfl rfl (by omega) (by omega) (by first | (rw [if_neg (by omega), if_neg (by omega)]; exact ⟨rfl, rfl, rfl⟩) | (rw [if_pos c6, if_pos c6]; refine ⟨rfl, ?_, rfl⟩; simp [c37, c67]))
set_option maxRecDepth 100000 in
set_option maxHeartbeats 4000000 in
theorem ct_Tb_add_1 {h : qH} (hT : h.2.2 73 = qRTb 1) (x y nb : Int32) (sz : Nat) (hs12 : sz ≤ 12) (hsz : h.1 73 2 = nI sz) : qT mi_Tb_add 0 0 0 [.ref 73, .int x, .int y, .int nb] h NN (fun v1 h1 n1 => v1 = some (.int (if sz < 12 then nI (sz + 1) else -2)) ∧ h1 = (if sz < 12 then (qpI (qpI (qpI (qpI (qpI h 74 (sz * 2) x) 75 (sz * 2) (b2i (decide (¬ nb &&& nI 1 = 0)))) 74 (sz * 2 + 1) y) 75 (sz * 2 + 1) (b2i (decide (¬ nb &&& nI 2 = 0)))) 73 2 (nI (sz + 1))) else h) ∧ n1 = NN) := by
  refine qT.of (lv0 := [_, _, _, _, _]) (by decide +kernel) (fun _ _ => Nat.le_of_ble_eq_true rfl) rfl ?_
  refine qx_aload_n d_Tb_add_0 rfl rfl ?_
  refine qx_getI d_Tb_add_1 fI_Tb_19 rfl rfl hsz ?_
  refine qx_bipushN (v := 12) d_Tb_add_4 rfl ?_
  refine qx_icmp_ltN (t := 12) d_Tb_add_6 rfl (by omega) (by omega) (fun c6 => ?_) (fun c6 => ?_)
  · refine qx_aload_n d_Tb_add_12 rfl rfl ?_
    refine qx_getI d_Tb_add_13 fI_Tb_19 rfl rfl hsz ?_
    refine qx_iconstN (v := 2) d_Tb_add_16 rfl ?_
    refine qx_imulN d_Tb_add_17 ?_
    refine qx_istore (lv1 := [_, _, _, _, _]) d_Tb_add_18 (by decide) rfl ?_
    refine qx_aload_n d_Tb_add_20 rfl rfl ?_
    refine qx_getR d_Tb_add_21 fR_Tb_9 rfl rfl (congrFun hT 0) ?_
    refine qx_iload d_Tb_add_24 rfl ?_
    refine qx_iload_n d_Tb_add_26 rfl rfl ?_
    refine qx_iast d_Tb_add_27 rfl rfl rfl rfl (by omega) ?_
    refine qx_aload_n d_Tb_add_28 rfl rfl ?_
    refine qx_getR d_Tb_add_29 fR_Tb_15 rfl rfl (congrFun hT 1) ?_
    refine qx_iload d_Tb_add_32 rfl ?_
    refine qx_iload_n d_Tb_add_34 rfl rfl ?_
    refine qx_iconstN (v := 1) d_Tb_add_35 rfl ?_
    refine qx_iand d_Tb_add_36 ?_
    refine qx_if_eq (t := 44) d_Tb_add_37 rfl (fun c37 => ?_) (fun c37 => ?_)
    · refine qx_iconst (v := b2i false) d_Tb_add_44 rfl ?_
      refine qx_zast d_Tb_add_45 rfl rfl rfl rfl (by omega) rfl ?_
      refine qx_aload_n d_Tb_add_46 rfl rfl ?_
      refine qx_getR d_Tb_add_47 fR_Tb_9 rfl rfl (congrFun hT 0) ?_
      refine qx_iload d_Tb_add_50 rfl ?_
      refine qx_iconstN (v := 1) d_Tb_add_52 rfl ?_
      refine qx_iaddN d_Tb_add_53 ?_
      refine qx_iload_n d_Tb_add_54 rfl rfl ?_
      refine qx_iast d_Tb_add_55 rfl rfl rfl rfl (by omega) ?_
      refine qx_aload_n d_Tb_add_56 rfl rfl ?_
      refine qx_getR d_Tb_add_57 fR_Tb_15 rfl rfl (congrFun hT 1) ?_
      refine qx_iload d_Tb_add_60 rfl ?_
      refine qx_iconstN (v := 1) d_Tb_add_62 rfl ?_
      refine qx_iaddN d_Tb_add_63 ?_
      refine qx_iload_n d_Tb_add_64 rfl rfl ?_
      refine qx_iconstN (v := 2) d_Tb_add_65 rfl ?_
      refine qx_iand d_Tb_add_66 ?_
      refine qx_if_eq (t := 74) d_Tb_add_67 rfl (fun c67 => ?_) (fun c67 => ?_)
      · refine qx_iconst (v := b2i false) d_Tb_add_74 rfl ?_
        refine qx_zast d_Tb_add_75 rfl rfl rfl rfl (by omega) rfl ?_
        refine qx_aload_n d_Tb_add_76 rfl rfl ?_
        refine qx_dup d_Tb_add_77 rfl ?_
        refine qx_getI d_Tb_add_78 fI_Tb_19 rfl rfl hsz ?_
        refine qx_iconstN (v := 1) d_Tb_add_81 rfl ?_
        refine qx_iaddN d_Tb_add_82 ?_
        refine qx_putI d_Tb_add_83 fI_Tb_19 rfl rfl ⟨rfl, rfl⟩ ?_
        refine qx_aload_n d_Tb_add_86 rfl rfl ?_
        refine qx_getI d_Tb_add_87 fI_Tb_19 rfl rfl rfl ?_
        exact qx_iret d_Tb_add_90 rfl rfl (by omega) (by omega) (by first | (rw [if_neg (by omega), if_neg (by omega)]; exact ⟨rfl, rfl, rfl⟩) | (rw [if_pos c6, if_pos c6]; refine ⟨rfl, ?_, rfl⟩; simp [c37, c67]))
      · refine qx_iconst (v := b2i true) d_Tb_add_70 rfl ?_
        refine qx_goto (t := 75) d_Tb_add_71 rfl ?_
        refine qx_zast d_Tb_add_75 rfl rfl rfl rfl (by omega) rfl ?_
        refine qx_aload_n d_Tb_add_76 rfl rfl ?_
        refine qx_dup d_Tb_add_77 rfl ?_
        refine qx_getI d_Tb_add_78 fI_Tb_19 rfl rfl hsz ?_
        refine qx_iconstN (v := 1) d_Tb_add_81 rfl ?_
        refine qx_iaddN d_Tb_add_82 ?_
        refine qx_putI d_Tb_add_83 fI_Tb_19 rfl rfl ⟨rfl, rfl⟩ ?_
        refine qx_aload_n d_Tb_add_86 rfl rfl ?_
        refine qx_getI d_Tb_add_87 fI_Tb_19 rfl rfl rfl ?_
        exact qx_iret d_Tb_add_90 rfl rfl (by omega) (by omega) (by first | (rw [if_neg (by omega), if_neg (by omega)]; exact ⟨rfl, rfl, rfl⟩) | (rw [if_pos c6, if_pos c6]; refine ⟨rfl, ?_, rfl⟩; simp [c37, c67]))
    · refine qx_iconst (v := b2i true) d_Tb_add_40 rfl ?_
      refine qx_goto (t := 45) d_Tb_add_41 rfl ?_
      refine qx_zast d_Tb_add_45 rfl rfl rfl rfl (by omega) rfl ?_
      refine qx_aload_n d_Tb_add_46 rfl rfl ?_
      refine qx_getR d_Tb_add_47 fR_Tb_9 rfl rfl (congrFun hT 0) ?_
      refine qx_iload d_Tb_add_50 rfl ?_
      refine qx_iconstN (v := 1) d_Tb_add_52 rfl ?_
      refine qx_iaddN d_Tb_add_53 ?_
      refine qx_iload_n d_Tb_add_54 rfl rfl ?_
      refine qx_iast d_Tb_add_55 rfl rfl rfl rfl (by omega) ?_
      refine qx_aload_n d_Tb_add_56 rfl rfl ?_
      refine qx_getR d_Tb_add_57 fR_Tb_15 rfl rfl (congrFun hT 1) ?_
      refine qx_iload d_Tb_add_60 rfl ?_
      refine qx_iconstN (v := 1) d_Tb_add_62 rfl ?_
      refine qx_iaddN d_Tb_add_63 ?_
      refine qx_iload_n d_Tb_add_64 rfl rfl ?_
      refine qx_iconstN (v := 2) d_Tb_add_65 rfl ?_
      refine qx_iand d_Tb_add_66 ?_
      refine qx_if_eq (t := 74) d_Tb_add_67 rfl (fun c67 => ?_) (fun c67 => ?_)
      · refine qx_iconst (v := b2i false) d_Tb_add_74 rfl ?_
        refine qx_zast d_Tb_add_75 rfl rfl rfl rfl (by omega) rfl ?_
        refine qx_aload_n d_Tb_add_76 rfl rfl ?_
        refine qx_dup d_Tb_add_77 rfl ?_
        refine qx_getI d_Tb_add_78 fI_Tb_19 rfl rfl hsz ?_
        refine qx_iconstN (v := 1) d_Tb_add_81 rfl ?_
        refine qx_iaddN d_Tb_add_82 ?_
        refine qx_putI d_Tb_add_83 fI_Tb_19 rfl rfl ⟨rfl, rfl⟩ ?_
        refine qx_aload_n d_Tb_add_86 rfl rfl ?_
        refine qx_getI d_Tb_add_87 fI_Tb_19 rfl rfl rfl ?_
        exact qx_iret d_Tb_add_90 rfl rfl (by omega) (by omega) (by first | (rw [if_neg (by omega), if_neg (by omega)]; exact ⟨rfl, rfl, rfl⟩) | (rw [if_pos c6, if_pos c6]; refine ⟨rfl, ?_, rfl⟩; simp [c37, c67]))
      · refine qx_iconst (v := b2i true) d_Tb_add_70 rfl ?_
        refine qx_goto (t := 75) d_Tb_add_71 rfl ?_
        refine qx_zast d_Tb_add_75 rfl rfl rfl rfl (by omega) rfl ?_
        refine qx_aload_n d_Tb_add_76 rfl rfl ?_
        refine qx_dup d_Tb_add_77 rfl ?_
        refine qx_getI d_Tb_add_78 fI_Tb_19 rfl rfl hsz ?_
        refine qx_iconstN (v := 1) d_Tb_add_81 rfl ?_
        refine qx_iaddN d_Tb_add_82 ?_
        refine qx_putI d_Tb_add_83 fI_Tb_19 rfl rfl ⟨rfl, rfl⟩ ?_
        refine qx_aload_n d_Tb_add_86 rfl rfl ?_
        refine qx_getI d_Tb_add_87 fI_Tb_19 rfl rfl rfl ?_
        exact qx_iret d_Tb_add_90 rfl rfl (by omega) (by omega) (by first | (rw [if_neg (by omega), if_neg (by omega)]; exact ⟨rfl, rfl, rfl⟩) | (rw [if_pos c6, if_pos c6]; refine ⟨rfl, ?_, rfl⟩; simp [c37, c67]))
  · refine qx_bipush (v := (-2)) d_Tb_add_9 rfl ?_
    exact qx_iret d_Tb_add_11 rfl rfl (by omega) (by omega) (by first | (rw [if_neg (by omega), if_neg (by omega)]; exact ⟨rfl, rfl, rfl⟩) | (rw [if_pos c6, if_pos c6]; refine ⟨rfl, ?_, rfl⟩; simp [c37, c67]))
set_option maxRecDepth 100000 in
set_option maxHeartbeats 4000000 in
theorem ct_Tb_add_2 {h : qH} (hT : h.2.2 76 = qRTb 2) (x y nb : Int32) (sz : Nat) (hs12 : sz ≤ 12) (hsz : h.1 76 2 = nI sz) : qT mi_Tb_add 0 0 0 [.ref 76, .int x, .int y, .int nb] h NN (fun v1 h1 n1 => v1 = some (.int (if sz < 12 then nI (sz + 1) else -2)) ∧ h1 = (if sz < 12 then (qpI (qpI (qpI (qpI (qpI h 77 (sz * 2) x) 78 (sz * 2) (b2i (decide (¬ nb &&& nI 1 = 0)))) 77 (sz * 2 + 1) y) 78 (sz * 2 + 1) (b2i (decide (¬ nb &&& nI 2 = 0)))) 76 2 (nI (sz + 1))) else h) ∧ n1 = NN) := by
  refine qT.of (lv0 := [_, _, _, _, _]) (by decide +kernel) (fun _ _ => Nat.le_of_ble_eq_true rfl) rfl ?_
  refine qx_aload_n d_Tb_add_0 rfl rfl ?_
  refine qx_getI d_Tb_add_1 fI_Tb_19 rfl rfl hsz ?_
  refine qx_bipushN (v := 12) d_Tb_add_4 rfl ?_
  refine qx_icmp_ltN (t := 12) d_Tb_add_6 rfl (by omega) (by omega) (fun c6 => ?_) (fun c6 => ?_)
  · refine qx_aload_n d_Tb_add_12 rfl rfl ?_
    refine qx_getI d_Tb_add_13 fI_Tb_19 rfl rfl hsz ?_
    refine qx_iconstN (v := 2) d_Tb_add_16 rfl ?_
    refine qx_imulN d_Tb_add_17 ?_
    refine qx_istore (lv1 := [_, _, _, _, _]) d_Tb_add_18 (by decide) rfl ?_
    refine qx_aload_n d_Tb_add_20 rfl rfl ?_
    refine qx_getR d_Tb_add_21 fR_Tb_9 rfl rfl (congrFun hT 0) ?_
    refine qx_iload d_Tb_add_24 rfl ?_
    refine qx_iload_n d_Tb_add_26 rfl rfl ?_
    refine qx_iast d_Tb_add_27 rfl rfl rfl rfl (by omega) ?_
    refine qx_aload_n d_Tb_add_28 rfl rfl ?_
    refine qx_getR d_Tb_add_29 fR_Tb_15 rfl rfl (congrFun hT 1) ?_
    refine qx_iload d_Tb_add_32 rfl ?_
    refine qx_iload_n d_Tb_add_34 rfl rfl ?_
    refine qx_iconstN (v := 1) d_Tb_add_35 rfl ?_
    refine qx_iand d_Tb_add_36 ?_
    refine qx_if_eq (t := 44) d_Tb_add_37 rfl (fun c37 => ?_) (fun c37 => ?_)
    · refine qx_iconst (v := b2i false) d_Tb_add_44 rfl ?_
      refine qx_zast d_Tb_add_45 rfl rfl rfl rfl (by omega) rfl ?_
      refine qx_aload_n d_Tb_add_46 rfl rfl ?_
      refine qx_getR d_Tb_add_47 fR_Tb_9 rfl rfl (congrFun hT 0) ?_
      refine qx_iload d_Tb_add_50 rfl ?_
      refine qx_iconstN (v := 1) d_Tb_add_52 rfl ?_
      refine qx_iaddN d_Tb_add_53 ?_
      refine qx_iload_n d_Tb_add_54 rfl rfl ?_
      refine qx_iast d_Tb_add_55 rfl rfl rfl rfl (by omega) ?_
      refine qx_aload_n d_Tb_add_56 rfl rfl ?_
      refine qx_getR d_Tb_add_57 fR_Tb_15 rfl rfl (congrFun hT 1) ?_
      refine qx_iload d_Tb_add_60 rfl ?_
      refine qx_iconstN (v := 1) d_Tb_add_62 rfl ?_
      refine qx_iaddN d_Tb_add_63 ?_
      refine qx_iload_n d_Tb_add_64 rfl rfl ?_
      refine qx_iconstN (v := 2) d_Tb_add_65 rfl ?_
      refine qx_iand d_Tb_add_66 ?_
      refine qx_if_eq (t := 74) d_Tb_add_67 rfl (fun c67 => ?_) (fun c67 => ?_)
      · refine qx_iconst (v := b2i false) d_Tb_add_74 rfl ?_
        refine qx_zast d_Tb_add_75 rfl rfl rfl rfl (by omega) rfl ?_
        refine qx_aload_n d_Tb_add_76 rfl rfl ?_
        refine qx_dup d_Tb_add_77 rfl ?_
        refine qx_getI d_Tb_add_78 fI_Tb_19 rfl rfl hsz ?_
        refine qx_iconstN (v := 1) d_Tb_add_81 rfl ?_
        refine qx_iaddN d_Tb_add_82 ?_
        refine qx_putI d_Tb_add_83 fI_Tb_19 rfl rfl ⟨rfl, rfl⟩ ?_
        refine qx_aload_n d_Tb_add_86 rfl rfl ?_
        refine qx_getI d_Tb_add_87 fI_Tb_19 rfl rfl rfl ?_
        exact qx_iret d_Tb_add_90 rfl rfl (by omega) (by omega) (by first | (rw [if_neg (by omega), if_neg (by omega)]; exact ⟨rfl, rfl, rfl⟩) | (rw [if_pos c6, if_pos c6]; refine ⟨rfl, ?_, rfl⟩; simp [c37, c67]))
      · refine qx_iconst (v := b2i true) d_Tb_add_70 rfl ?_
        refine qx_goto (t := 75) d_Tb_add_71 rfl ?_
        refine qx_zast d_Tb_add_75 rfl rfl rfl rfl (by omega) rfl ?_
        refine qx_aload_n d_Tb_add_76 rfl rfl ?_
        refine qx_dup d_Tb_add_77 rfl ?_
        refine qx_getI d_Tb_add_78 fI_Tb_19 rfl rfl hsz ?_
        refine qx_iconstN (v := 1) d_Tb_add_81 rfl ?_
        refine qx_iaddN d_Tb_add_82 ?_
        refine qx_putI d_Tb_add_83 fI_Tb_19 rfl rfl ⟨rfl, rfl⟩ ?_
        refine qx_aload_n d_Tb_add_86 rfl rfl ?_
        refine qx_getI d_Tb_add_87 fI_Tb_19 rfl rfl rfl ?_
        exact qx_iret d_Tb_add_90 rfl rfl (by omega) (by omega) (by first | (rw [if_neg (by omega), if_neg (by omega)]; exact ⟨rfl, rfl, rfl⟩) | (rw [if_pos c6, if_pos c6]; refine ⟨rfl, ?_, rfl⟩; simp [c37, c67]))
    · refine qx_iconst (v := b2i true) d_Tb_add_40 rfl ?_
      refine qx_goto (t := 45) d_Tb_add_41 rfl ?_
      refine qx_zast d_Tb_add_45 rfl rfl rfl rfl (by omega) rfl ?_
      refine qx_aload_n d_Tb_add_46 rfl rfl ?_
      refine qx_getR d_Tb_add_47 fR_Tb_9 rfl rfl (congrFun hT 0) ?_
      refine qx_iload d_Tb_add_50 rfl ?_
      refine qx_iconstN (v := 1) d_Tb_add_52 rfl ?_
      refine qx_iaddN d_Tb_add_53 ?_
      refine qx_iload_n d_Tb_add_54 rfl rfl ?_
      refine qx_iast d_Tb_add_55 rfl rfl rfl rfl (by omega) ?_
      refine qx_aload_n d_Tb_add_56 rfl rfl ?_
      refine qx_getR d_Tb_add_57 fR_Tb_15 rfl rfl (congrFun hT 1) ?_
      refine qx_iload d_Tb_add_60 rfl ?_
      refine qx_iconstN (v := 1) d_Tb_add_62 rfl ?_
      refine qx_iaddN d_Tb_add_63 ?_
      refine qx_iload_n d_Tb_add_64 rfl rfl ?_
      refine qx_iconstN (v := 2) d_Tb_add_65 rfl ?_
      refine qx_iand d_Tb_add_66 ?_
      refine qx_if_eq (t := 74) d_Tb_add_67 rfl (fun c67 => ?_) (fun c67 => ?_)
      · refine qx_iconst (v := b2i false) d_Tb_add_74 rfl ?_
        refine qx_zast d_Tb_add_75 rfl rfl rfl rfl (by omega) rfl ?_
        refine qx_aload_n d_Tb_add_76 rfl rfl ?_
        refine qx_dup d_Tb_add_77 rfl ?_
        refine qx_getI d_Tb_add_78 fI_Tb_19 rfl rfl hsz ?_
        refine qx_iconstN (v := 1) d_Tb_add_81 rfl ?_
        refine qx_iaddN d_Tb_add_82 ?_
        refine qx_putI d_Tb_add_83 fI_Tb_19 rfl rfl ⟨rfl, rfl⟩ ?_
        refine qx_aload_n d_Tb_add_86 rfl rfl ?_
        refine qx_getI d_Tb_add_87 fI_Tb_19 rfl rfl rfl ?_
        exact qx_iret d_Tb_add_90 rfl rfl (by omega) (by omega) (by first | (rw [if_neg (by omega), if_neg (by omega)]; exact ⟨rfl, rfl, rfl⟩) | (rw [if_pos c6, if_pos c6]; refine ⟨rfl, ?_, rfl⟩; simp [c37, c67]))
      · refine qx_iconst (v := b2i true) d_Tb_add_70 rfl ?_
        refine qx_goto (t := 75) d_Tb_add_71 rfl ?_
        refine qx_zast d_Tb_add_75 rfl rfl rfl rfl (by omega) rfl ?_
        refine qx_aload_n d_Tb_add_76 rfl rfl ?_
        refine qx_dup d_Tb_add_77 rfl ?_
        refine qx_getI d_Tb_add_78 fI_Tb_19 rfl rfl hsz ?_
        refine qx_iconstN (v := 1) d_Tb_add_81 rfl ?_
        refine qx_iaddN d_Tb_add_82 ?_
        refine qx_putI d_Tb_add_83 fI_Tb_19 rfl rfl ⟨rfl, rfl⟩ ?_
        refine qx_aload_n d_Tb_add_86 rfl rfl ?_
        refine qx_getI d_Tb_add_87 fI_Tb_19 rfl rfl rfl ?_
        exact qx_iret d_Tb_add_90 rfl rfl (by omega) (by omega) (by first | (rw [if_neg (by omega), if_neg (by omega)]; exact ⟨rfl, rfl, rfl⟩) | (rw [if_pos c6, if_pos c6]; refine ⟨rfl, ?_, rfl⟩; simp [c37, c67]))
  · refine qx_bipush (v := (-2)) d_Tb_add_9 rfl ?_
    exact qx_iret d_Tb_add_11 rfl rfl (by omega) (by omega) (by first | (rw [if_neg (by omega), if_neg (by omega)]; exact ⟨rfl, rfl, rfl⟩) | (rw [if_pos c6, if_pos c6]; refine ⟨rfl, ?_, rfl⟩; simp [c37, c67]))
/-! the machine's row at hand, over a heap -/
def lR (h : qH) (cv : Nat → Int64) (cb : Nat → Bool) : qH := (va_up h.1 61 (iB cb), va_up h.2.1 60 cv, h.2.2)
theorem lR_of {h : qH} {cb : Nat → Bool} (e : h.1 61 = iB cb) : lR h (h.2.1 60) cb = h := by
  unfold lR
  rw [← e, qv_self, qv_self]
theorem load_eq {h : qH} {cv : Nat → Int64} {cb : Nat → Bool} {vs : Nat → Int64} {ns : Nat → Bool} {i : Nat} {b : Bool} {x : Int64} : qpL (qpI (nR (lR h cv cb) vs ns) 61 i (b2i b)) 60 i x = nR (lR h (va_up cv i x) (va_up cb i b)) vs ns := by
  unfold nR lR qpI qpL
  dsimp only
  refine Prod.ext ?_ (Prod.ext ?_ rfl)
  · funext a
    dsimp only
    by_cases h1 : a = 61
    · subst h1
      rw [qus, qun (show (61 : Nat) ≠ 63 by decide), qus, qun (show (61 : Nat) ≠ 63 by decide), qus]
      exact iB_up
    · rw [qun h1]
      by_cases h2 : a = 63
      · subst h2; rw [qus, qus]
      · rw [qun h2, qun h2, qun h1, qun h1]
  · funext a
    dsimp only
    by_cases h1 : a = 60
    · subst h1
      rw [qus, qun (show (60 : Nat) ≠ 62 by decide), qus, qun (show (60 : Nat) ≠ 62 by decide), qus]
    · rw [qun h1]
      by_cases h2 : a = 62
      · subst h2; rw [qus, qus]
      · rw [qun h2, qun h2, qun h1, qun h1]
theorem nI_m1 : ∀ q, q < 12 → ¬ nI q = -1 := by decide
set_option maxRecDepth 100000 in
set_option maxHeartbeats 4000000 in
theorem ct_Ma_value {h : qH} (hM : h.2.2 59 = qRMa) (vs : Nat → Int64) (ns : Nat → Bool) : qT mi_Ma_value 0 0 0 [.ref 59] (nR h vs ns) NN (fun v1 h1 n1 => v1 = some (.long (vs 0)) ∧ h1 = nR h vs ns ∧ n1 = NN) := by
  refine qT.of (lv0 := [_]) (by decide +kernel) (fun _ _ => Nat.le_of_ble_eq_true rfl) rfl ?_
  refine qx_aload_n d_Ma_value_0 rfl rfl ?_
  refine qx_getR d_Ma_value_1 fR_Ma_19 rfl rfl (congrFun hM 2) ?_
  refine qx_iconstN (v := 0) d_Ma_value_4 rfl ?_
  refine qx_lald d_Ma_value_5 rfl rfl rfl rfl (by omega) (show _ = vs 0 from rfl) ?_
  exact qx_lret d_Ma_value_6 rfl (by omega) (by omega) ⟨rfl, rfl, rfl⟩
set_option maxRecDepth 100000 in
set_option maxHeartbeats 4000000 in
theorem ct_Ma_isNull {h : qH} (hM : h.2.2 59 = qRMa) (vs : Nat → Int64) (ns : Nat → Bool) : qT mi_Ma_isNull 0 0 0 [.ref 59] (nR h vs ns) NN (fun v1 h1 n1 => v1 = some (.int (b2i (ns 0))) ∧ h1 = nR h vs ns ∧ n1 = NN) := by
  refine qT.of (lv0 := [_]) (by decide +kernel) (fun _ _ => Nat.le_of_ble_eq_true rfl) rfl ?_
  refine qx_aload_n d_Ma_isNull_0 rfl rfl ?_
  refine qx_getR d_Ma_isNull_1 fR_Ma_22 rfl rfl (congrFun hM 3) ?_
  refine qx_iconstN (v := 0) d_Ma_isNull_4 rfl ?_
  refine qx_zald d_Ma_isNull_5 rfl rfl rfl rfl (by omega) (show _ = b2i (ns 0) from rfl) ?_
  exact qx_iret d_Ma_isNull_6 rfl (b2i_nar _) (by omega) (by omega) ⟨rfl, rfl, rfl⟩
set_option maxRecDepth 100000 in
set_option maxHeartbeats 4000000 in
theorem ct_Ma_isTrue {h : qH} (hM : h.2.2 59 = qRMa) (vs : Nat → Int64) (ns : Nat → Bool) : qT mi_Ma_isTrue 0 0 0 [.ref 59] (nR h vs ns) NN (fun v1 h1 n1 => v1 = some (.int (b2i (!ns 0 && decide (vs 0 = 1)))) ∧ h1 = nR h vs ns ∧ n1 = NN) := by
  refine qT.of (lv0 := [_]) (by decide +kernel) (fun _ _ => Nat.le_of_ble_eq_true rfl) rfl ?_
  refine qx_aload_n d_Ma_isTrue_0 rfl rfl ?_
  refine qx_getR d_Ma_isTrue_1 fR_Ma_22 rfl rfl (congrFun hM 3) ?_
  refine qx_iconstN (v := 0) d_Ma_isTrue_4 rfl ?_
  refine qx_zald d_Ma_isTrue_5 rfl rfl rfl rfl (by omega) (show _ = b2i (ns 0) from rfl) ?_
  refine qx_if_neB (t := 24) d_Ma_isTrue_6 rfl (fun c6 => ?_) (fun c6 => ?_)
  · refine qx_iconstN (v := 0) d_Ma_isTrue_24 rfl ?_
    exact qx_iret d_Ma_isTrue_25 rfl rfl (by omega) (by omega) (by first | (rw [c6]; exact ⟨rfl, rfl, rfl⟩) | (rw [c6, decide_eq_true c17]; exact ⟨rfl, rfl, rfl⟩) | (rw [c6, decide_eq_false c17]; exact ⟨rfl, rfl, rfl⟩))
  · refine qx_aload_n d_Ma_isTrue_9 rfl rfl ?_
    refine qx_getR d_Ma_isTrue_10 fR_Ma_19 rfl rfl (congrFun hM 2) ?_
    refine qx_iconstN (v := 0) d_Ma_isTrue_13 rfl ?_
    refine qx_lald d_Ma_isTrue_14 rfl rfl rfl rfl (by omega) (show _ = vs 0 from rfl) ?_
    refine qx_lconst (v := 1) d_Ma_isTrue_15 rfl ?_
    refine qx_lcmp d_Ma_isTrue_16 ?_
    refine qx_if_neC (t := 24) d_Ma_isTrue_17 rfl (fun c17 => ?_) (fun c17 => ?_)
    · refine qx_iconstN (v := 0) d_Ma_isTrue_24 rfl ?_
      exact qx_iret d_Ma_isTrue_25 rfl rfl (by omega) (by omega) (by first | (rw [c6]; exact ⟨rfl, rfl, rfl⟩) | (rw [c6, decide_eq_true c17]; exact ⟨rfl, rfl, rfl⟩) | (rw [c6, decide_eq_false c17]; exact ⟨rfl, rfl, rfl⟩))
    · refine qx_iconstN (v := 1) d_Ma_isTrue_20 rfl ?_
      refine qx_goto (t := 25) d_Ma_isTrue_21 rfl ?_
      exact qx_iret d_Ma_isTrue_25 rfl rfl (by omega) (by omega) (by first | (rw [c6]; exact ⟨rfl, rfl, rfl⟩) | (rw [c6, decide_eq_true c17]; exact ⟨rfl, rfl, rfl⟩) | (rw [c6, decide_eq_false c17]; exact ⟨rfl, rfl, rfl⟩))
