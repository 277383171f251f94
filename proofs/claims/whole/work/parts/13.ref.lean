theorem qI_get {h : qH} {a i : Nat} {v : Int32} : (qpI h a i v).1 a i = v := (congrFun (qpI_1 h a i v) i).trans qus
theorem qL_get {h : qH} {a i : Nat} {v : Int64} : (qpL h a i v).2.1 a i = v := (congrFun (qpL_1 h a i v) i).trans qus
theorem qR_get {h : qH} {a i : Nat} {v : Option Nat} : (qpR h a i v).2.2 a i = v := (congrFun (qpR_1 h a i v) i).trans qus
theorem qI_ne {h : qH} {a i j : Nat} {v : Int32} (e : j ≠ i) : (qpI h a i v).1 a j = h.1 a j := (congrFun (qpI_1 h a i v) j).trans (qun e)
theorem qL_ne {h : qH} {a i j : Nat} {v : Int64} (e : j ≠ i) : (qpL h a i v).2.1 a j = h.2.1 a j := (congrFun (qpL_1 h a i v) j).trans (qun e)
theorem qv_up {α : Type} {f : Nat → α} {k : Nat} {a b : α} : va_up (va_up f k a) k b = va_up f k b := by
  funext j
  by_cases h : j = k
  · subst h; rw [qus, qus]
  · rw [qun h, qun h, qun h]
theorem qv_self {α : Type} {f : Nat → α} {k : Nat} : va_up f k (f k) = f := by
  funext j
  by_cases h : j = k
  · subst h; rw [qus]
  · rw [qun h]
theorem va_cpy0 {α : Type} {f : Nat → α} {sp dp : Nat} : va_cpy f f sp dp 0 = f := by
  funext j
  unfold va_cpy
  rw [if_neg (by omega)]
theorem va_cpyS {α : Type} {f : Nat → α} {sp dp i : Nat} (h : sp + i < dp ∨ dp + i ≤ sp + i) : va_up (va_cpy f f sp dp i) (dp + i) (va_cpy f f sp dp i (sp + i)) = va_cpy f f sp dp (i + 1) := by
  funext j
  by_cases hj : j = dp + i
  · subst hj
    rw [qus]
    unfold va_cpy
    rw [if_neg (by omega), if_pos (by omega), show dp + i - dp = i by omega]
  · rw [qun hj]
    unfold va_cpy
    by_cases h1 : dp ≤ j ∧ j < dp + i
    · rw [if_pos h1, if_pos (by omega)]
    · rw [if_neg h1, if_neg (by omega)]
set_option maxRecDepth 100000 in
set_option maxHeartbeats 4000000 in
theorem ct_QM_row_no {h : qH} (t x y nl : Int32) (on : Bool) (hon : h.1 122 37 = b2i on) (hg : (!on && (decide (nI 0 ≤ t ∧ t ≤ nI 2) && decide (nI 0 ≤ nl ∧ nl ≤ nI 3))) = false) : qT mi_QM_row 1 0 0 [.ref 122, .int t, .int x, .int y, .int nl] h NN (fun v1 h1 n1 => v1 = some (.int (-1)) ∧ h = h1 ∧ n1 = NN) := by
  refine qT.of (lv0 := [_, _, _, _, _, _]) (by decide +kernel) (fun _ _ => Nat.le_of_ble_eq_true rfl) rfl ?_
  refine qx_aload_n d_QM_row_0 rfl rfl ?_
  refine qx_getI d_QM_row_1 fI_QM_99 rfl rfl hon ?_
  refine qx_if_neB (t := 26) d_QM_row_4 rfl (fun c4 => ?_) (fun c4 => ?_)
  · refine qx_iconst (v := (-1)) d_QM_row_26 rfl ?_
    exact qx_iret d_QM_row_27 rfl rfl (by omega) (by omega) ⟨rfl, rfl, rfl⟩
  · refine qx_iload_n d_QM_row_7 rfl rfl ?_
    refine qx_iconstN (v := 0) d_QM_row_8 rfl ?_
    refine qx_iconstN (v := 2) d_QM_row_9 rfl ?_
    refine qx_callS (As := [_, _, _]) (rest := _) d_QM_row_10 lk_QM_103 y_QM_within s_QM_within rfl rfl rfl rfl (by decide) (by decide) (ct_QM_within _ _ _) ?_
    rintro _ _ _ ⟨rfl, rfl, rfl⟩
    refine qx_if_eqB (t := 26) d_QM_row_13 rfl (fun c13 => ?_) (fun c13 => ?_)
    · refine qx_iconst (v := (-1)) d_QM_row_26 rfl ?_
      exact qx_iret d_QM_row_27 rfl rfl (by omega) (by omega) ⟨rfl, rfl, rfl⟩
    · refine qx_iload d_QM_row_16 rfl ?_
      refine qx_iconstN (v := 0) d_QM_row_18 rfl ?_
      refine qx_iconstN (v := 3) d_QM_row_19 rfl ?_
      refine qx_callS (As := [_, _, _]) (rest := _) d_QM_row_20 lk_QM_103 y_QM_within s_QM_within rfl rfl rfl rfl (by decide) (by decide) (ct_QM_within _ _ _) ?_
      rintro _ _ _ ⟨rfl, rfl, rfl⟩
      refine qx_if_neB (t := 28) d_QM_row_23 rfl (fun c23 => absurd hg (by rw [c4, c13, c23]; decide)) (fun c23 => ?_)
      refine qx_iconst (v := (-1)) d_QM_row_26 rfl ?_
      exact qx_iret d_QM_row_27 rfl rfl (by omega) (by omega) ⟨rfl, rfl, rfl⟩
set_option maxRecDepth 100000 in
set_option maxHeartbeats 4000000 in
theorem ct_QM_row_full {h : qH} (t : Nat) (x y nl : Int32) (hR : h.2.2 122 = qRQM) (hon : h.1 122 37 = b2i false) (ht : t < 3) (hnl : decide (nI 0 ≤ nl ∧ nl ≤ nI 3) = true) (hr : h.1 123 t = nI 12) : qT mi_QM_row 1 0 0 [.ref 122, .int (nI t), .int x, .int y, .int nl] h NN (fun v1 h1 n1 => v1 = some (.int (-2)) ∧ h = h1 ∧ n1 = NN) := by
  refine qT.of (lv0 := [_, _, _, _, _, _]) (by decide +kernel) (fun _ _ => Nat.le_of_ble_eq_true rfl) rfl ?_
  refine qx_aload_n d_QM_row_0 rfl rfl ?_
  refine qx_getI d_QM_row_1 fI_QM_99 rfl rfl hon ?_
  refine qx_if_neB (t := 26) d_QM_row_4 rfl (fun c4 => by cases c4) (fun c4 => ?_)
  refine qx_iload_n d_QM_row_7 rfl rfl ?_
  refine qx_iconstN (v := 0) d_QM_row_8 rfl ?_
  refine qx_iconstN (v := 2) d_QM_row_9 rfl ?_
  refine qx_callS (As := [_, _, _]) (rest := _) d_QM_row_10 lk_QM_103 y_QM_within s_QM_within rfl rfl rfl rfl (by decide) (by decide) (ct_QM_within _ _ _) ?_
  rintro _ _ _ ⟨rfl, rfl, rfl⟩
  refine qx_if_eqB (t := 26) d_QM_row_13 rfl (fun c13 => absurd (⟨nI_le (by omega) (by omega), nI_le (by omega) (by omega)⟩ : nI 0 ≤ nI t ∧ nI t ≤ nI 2) (of_decide_eq_false c13)) (fun c13 => ?_)
  refine qx_iload d_QM_row_16 rfl ?_
  refine qx_iconstN (v := 0) d_QM_row_18 rfl ?_
  refine qx_iconstN (v := 3) d_QM_row_19 rfl ?_
  refine qx_callS (As := [_, _, _]) (rest := _) d_QM_row_20 lk_QM_103 y_QM_within s_QM_within rfl rfl rfl rfl (by decide) (by decide) (ct_QM_within _ _ _) ?_
  rintro _ _ _ ⟨rfl, rfl, rfl⟩
  refine qx_if_neB (t := 28) d_QM_row_23 rfl (fun c23 => ?_) (fun c23 => absurd hnl (by rw [c23]; decide))
  refine qx_aload_n d_QM_row_28 rfl rfl ?_
  refine qx_getR d_QM_row_29 fR_QM_7 rfl rfl (congrFun hR 0) ?_
  refine qx_iload_n d_QM_row_32 rfl rfl ?_
  refine qx_iald d_QM_row_33 rfl rfl rfl rfl (by omega) hr ?_
  refine qx_bipushN (v := 12) d_QM_row_34 rfl ?_
  refine qx_icmp_neN (t := 42) d_QM_row_36 rfl (by omega) (by omega) (fun c36 => absurd rfl c36) (fun c36 => ?_)
  refine qx_bipush (v := (-2)) d_QM_row_39 rfl ?_
  exact qx_iret d_QM_row_41 rfl rfl (by omega) (by omega) ⟨rfl, rfl, rfl⟩
set_option maxRecDepth 100000 in
set_option maxHeartbeats 4000000 in
theorem ct_QM_row_ok {h : qH} (t : Nat) (x y nl : Int32) (hR : h.2.2 122 = qRQM) (hon : h.1 122 37 = b2i false) (ht : t < 3) (hnl : decide (nI 0 ≤ nl ∧ nl ≤ nI 3) = true) (r : Nat) (hr12 : r < 12) (hr : h.1 123 t = nI r) : qT mi_QM_row 1 0 0 [.ref 122, .int (nI t), .int x, .int y, .int nl] h NN (fun v1 h1 n1 => v1 = some (.int (nI (r + 1))) ∧ h1 = (qpI (qpI (qpI (qpL (qpL h 124 (24 * t + 2 * r) x.toInt64) 124 ((24 * t + 2 * r) + 1) y.toInt64) 125 (24 * t + 2 * r) (b2i (decide (nl &&& nI 1 = nI 1)))) 125 ((24 * t + 2 * r) + 1) (b2i (decide (nl &&& nI 2 = nI 2)))) 123 t (nI (r + 1))) ∧ n1 = NN) := by
  refine qT.of (lv0 := [_, _, _, _, _, _]) (by decide +kernel) (fun _ _ => Nat.le_of_ble_eq_true rfl) rfl ?_
  refine qx_aload_n d_QM_row_0 rfl rfl ?_
  refine qx_getI d_QM_row_1 fI_QM_99 rfl rfl hon ?_
  refine qx_if_neB (t := 26) d_QM_row_4 rfl (fun c4 => by cases c4) (fun c4 => ?_)
  refine qx_iload_n d_QM_row_7 rfl rfl ?_
  refine qx_iconstN (v := 0) d_QM_row_8 rfl ?_
  refine qx_iconstN (v := 2) d_QM_row_9 rfl ?_
  refine qx_callS (As := [_, _, _]) (rest := _) d_QM_row_10 lk_QM_103 y_QM_within s_QM_within rfl rfl rfl rfl (by decide) (by decide) (ct_QM_within _ _ _) ?_
  rintro _ _ _ ⟨rfl, rfl, rfl⟩
  refine qx_if_eqB (t := 26) d_QM_row_13 rfl (fun c13 => absurd (⟨nI_le (by omega) (by omega), nI_le (by omega) (by omega)⟩ : nI 0 ≤ nI t ∧ nI t ≤ nI 2) (of_decide_eq_false c13)) (fun c13 => ?_)
  refine qx_iload d_QM_row_16 rfl ?_
  refine qx_iconstN (v := 0) d_QM_row_18 rfl ?_
  refine qx_iconstN (v := 3) d_QM_row_19 rfl ?_
  refine qx_callS (As := [_, _, _]) (rest := _) d_QM_row_20 lk_QM_103 y_QM_within s_QM_within rfl rfl rfl rfl (by decide) (by decide) (ct_QM_within _ _ _) ?_
  rintro _ _ _ ⟨rfl, rfl, rfl⟩
  refine qx_if_neB (t := 28) d_QM_row_23 rfl (fun c23 => ?_) (fun c23 => absurd hnl (by rw [c23]; decide))
  refine qx_aload_n d_QM_row_28 rfl rfl ?_
  refine qx_getR d_QM_row_29 fR_QM_7 rfl rfl (congrFun hR 0) ?_
  refine qx_iload_n d_QM_row_32 rfl rfl ?_
  refine qx_iald d_QM_row_33 rfl rfl rfl rfl (by omega) hr ?_
  refine qx_bipushN (v := 12) d_QM_row_34 rfl ?_
  refine qx_icmp_neN (t := 42) d_QM_row_36 rfl (by omega) (by omega) (fun c36 => ?_) (fun c36 => absurd c36 (by omega))
  refine qx_bipushN (v := 24) d_QM_row_42 rfl ?_
  refine qx_iload_n d_QM_row_44 rfl rfl ?_
  refine qx_imulN d_QM_row_45 ?_
  refine qx_iconstN (v := 2) d_QM_row_46 rfl ?_
  refine qx_aload_n d_QM_row_47 rfl rfl ?_
  refine qx_getR d_QM_row_48 fR_QM_7 rfl rfl (congrFun hR 0) ?_
  refine qx_iload_n d_QM_row_51 rfl rfl ?_
  refine qx_iald d_QM_row_52 rfl rfl rfl rfl (by omega) hr ?_
  refine qx_imulN d_QM_row_53 ?_
  refine qx_iaddN d_QM_row_54 ?_
  refine qx_istore (lv1 := [_, _, _, _, _, _]) d_QM_row_55 (by decide) rfl ?_
  refine qx_aload_n d_QM_row_57 rfl rfl ?_
  refine qx_getR d_QM_row_58 fR_QM_13 rfl rfl (congrFun hR 1) ?_
  refine qx_iload d_QM_row_61 rfl ?_
  refine qx_iload_n d_QM_row_63 rfl rfl ?_
  refine qx_i2l d_QM_row_64 ?_
  refine qx_last d_QM_row_65 rfl rfl rfl rfl (by omega) ?_
  refine qx_aload_n d_QM_row_66 rfl rfl ?_
  refine qx_getR d_QM_row_67 fR_QM_13 rfl rfl (congrFun hR 1) ?_
  refine qx_iload d_QM_row_70 rfl ?_
  refine qx_iconstN (v := 1) d_QM_row_72 rfl ?_
  refine qx_iaddN d_QM_row_73 ?_
  refine qx_iload_n d_QM_row_74 rfl rfl ?_
  refine qx_i2l d_QM_row_75 ?_
  refine qx_last d_QM_row_76 rfl rfl rfl rfl (by omega) ?_
  refine qx_aload_n d_QM_row_77 rfl rfl ?_
  refine qx_getR d_QM_row_78 fR_QM_17 rfl rfl (congrFun hR 2) ?_
  refine qx_iload d_QM_row_81 rfl ?_
  refine qx_iload d_QM_row_83 rfl ?_
  refine qx_iconstN (v := 1) d_QM_row_85 rfl ?_
  refine qx_iand d_QM_row_86 ?_
  refine qx_iconstN (v := 1) d_QM_row_87 rfl ?_
  refine qx_icmp_ne (t := 95) d_QM_row_88 rfl (fun c88 => ?_) (fun c88 => ?_)
  · refine qx_iconstN (v := 0) d_QM_row_95 rfl ?_
    refine qx_zast d_QM_row_96 rfl rfl rfl rfl (by omega) rfl ?_
    refine qx_aload_n d_QM_row_97 rfl rfl ?_
    refine qx_getR d_QM_row_98 fR_QM_17 rfl rfl (congrFun hR 2) ?_
    refine qx_iload d_QM_row_101 rfl ?_
    refine qx_iconstN (v := 1) d_QM_row_103 rfl ?_
    refine qx_iaddN d_QM_row_104 ?_
    refine qx_iload d_QM_row_105 rfl ?_
    refine qx_iconstN (v := 2) d_QM_row_107 rfl ?_
    refine qx_iand d_QM_row_108 ?_
    refine qx_iconstN (v := 2) d_QM_row_109 rfl ?_
    refine qx_icmp_ne (t := 117) d_QM_row_110 rfl (fun c110 => ?_) (fun c110 => ?_)
    · refine qx_iconstN (v := 0) d_QM_row_117 rfl ?_
      refine qx_zast d_QM_row_118 rfl rfl rfl rfl (by omega) rfl ?_
      refine qx_aload_n d_QM_row_119 rfl rfl ?_
      refine qx_getR d_QM_row_120 fR_QM_7 rfl rfl (congrFun hR 0) ?_
      refine qx_iload_n d_QM_row_123 rfl rfl ?_
      refine qx_dup2 d_QM_row_124 rfl rfl ?_
      refine qx_iald d_QM_row_125 rfl rfl rfl rfl (by omega) hr ?_
      refine qx_iconstN (v := 1) d_QM_row_126 rfl ?_
      refine qx_iaddN d_QM_row_127 ?_
      refine qx_iast d_QM_row_128 rfl rfl rfl rfl (by omega) ?_
      refine qx_aload_n d_QM_row_129 rfl rfl ?_
      refine qx_getR d_QM_row_130 fR_QM_7 rfl rfl (congrFun hR 0) ?_
      refine qx_iload_n d_QM_row_133 rfl rfl ?_
      refine qx_iald d_QM_row_134 rfl rfl rfl rfl (by omega) qI_get ?_
      exact qx_iret d_QM_row_135 rfl rfl (by omega) (by omega) (by first | (rw [decide_eq_true c88, decide_eq_true c110]; exact ⟨rfl, rfl, rfl⟩) | (rw [decide_eq_false c88, decide_eq_true c110]; exact ⟨rfl, rfl, rfl⟩) | (rw [decide_eq_true c88, decide_eq_false c110]; exact ⟨rfl, rfl, rfl⟩) | (rw [decide_eq_false c88, decide_eq_false c110]; exact ⟨rfl, rfl, rfl⟩))
    · refine qx_iconstN (v := 1) d_QM_row_113 rfl ?_
      refine qx_goto (t := 118) d_QM_row_114 rfl ?_
      refine qx_zast d_QM_row_118 rfl rfl rfl rfl (by omega) rfl ?_
      refine qx_aload_n d_QM_row_119 rfl rfl ?_
      refine qx_getR d_QM_row_120 fR_QM_7 rfl rfl (congrFun hR 0) ?_
      refine qx_iload_n d_QM_row_123 rfl rfl ?_
      refine qx_dup2 d_QM_row_124 rfl rfl ?_
      refine qx_iald d_QM_row_125 rfl rfl rfl rfl (by omega) hr ?_
      refine qx_iconstN (v := 1) d_QM_row_126 rfl ?_
      refine qx_iaddN d_QM_row_127 ?_
      refine qx_iast d_QM_row_128 rfl rfl rfl rfl (by omega) ?_
      refine qx_aload_n d_QM_row_129 rfl rfl ?_
      refine qx_getR d_QM_row_130 fR_QM_7 rfl rfl (congrFun hR 0) ?_
      refine qx_iload_n d_QM_row_133 rfl rfl ?_
      refine qx_iald d_QM_row_134 rfl rfl rfl rfl (by omega) qI_get ?_
      exact qx_iret d_QM_row_135 rfl rfl (by omega) (by omega) (by first | (rw [decide_eq_true c88, decide_eq_true c110]; exact ⟨rfl, rfl, rfl⟩) | (rw [decide_eq_false c88, decide_eq_true c110]; exact ⟨rfl, rfl, rfl⟩) | (rw [decide_eq_true c88, decide_eq_false c110]; exact ⟨rfl, rfl, rfl⟩) | (rw [decide_eq_false c88, decide_eq_false c110]; exact ⟨rfl, rfl, rfl⟩))
  · refine qx_iconstN (v := 1) d_QM_row_91 rfl ?_
    refine qx_goto (t := 96) d_QM_row_92 rfl ?_
    refine qx_zast d_QM_row_96 rfl rfl rfl rfl (by omega) rfl ?_
    refine qx_aload_n d_QM_row_97 rfl rfl ?_
    refine qx_getR d_QM_row_98 fR_QM_17 rfl rfl (congrFun hR 2) ?_
    refine qx_iload d_QM_row_101 rfl ?_
    refine qx_iconstN (v := 1) d_QM_row_103 rfl ?_
    refine qx_iaddN d_QM_row_104 ?_
    refine qx_iload d_QM_row_105 rfl ?_
    refine qx_iconstN (v := 2) d_QM_row_107 rfl ?_
    refine qx_iand d_QM_row_108 ?_
    refine qx_iconstN (v := 2) d_QM_row_109 rfl ?_
    refine qx_icmp_ne (t := 117) d_QM_row_110 rfl (fun c110 => ?_) (fun c110 => ?_)
    · refine qx_iconstN (v := 0) d_QM_row_117 rfl ?_
      refine qx_zast d_QM_row_118 rfl rfl rfl rfl (by omega) rfl ?_
      refine qx_aload_n d_QM_row_119 rfl rfl ?_
      refine qx_getR d_QM_row_120 fR_QM_7 rfl rfl (congrFun hR 0) ?_
      refine qx_iload_n d_QM_row_123 rfl rfl ?_
      refine qx_dup2 d_QM_row_124 rfl rfl ?_
      refine qx_iald d_QM_row_125 rfl rfl rfl rfl (by omega) hr ?_
      refine qx_iconstN (v := 1) d_QM_row_126 rfl ?_
      refine qx_iaddN d_QM_row_127 ?_
      refine qx_iast d_QM_row_128 rfl rfl rfl rfl (by omega) ?_
      refine qx_aload_n d_QM_row_129 rfl rfl ?_
      refine qx_getR d_QM_row_130 fR_QM_7 rfl rfl (congrFun hR 0) ?_
      refine qx_iload_n d_QM_row_133 rfl rfl ?_
      refine qx_iald d_QM_row_134 rfl rfl rfl rfl (by omega) qI_get ?_
      exact qx_iret d_QM_row_135 rfl rfl (by omega) (by omega) (by first | (rw [decide_eq_true c88, decide_eq_true c110]; exact ⟨rfl, rfl, rfl⟩) | (rw [decide_eq_false c88, decide_eq_true c110]; exact ⟨rfl, rfl, rfl⟩) | (rw [decide_eq_true c88, decide_eq_false c110]; exact ⟨rfl, rfl, rfl⟩) | (rw [decide_eq_false c88, decide_eq_false c110]; exact ⟨rfl, rfl, rfl⟩))
    · refine qx_iconstN (v := 1) d_QM_row_113 rfl ?_
      refine qx_goto (t := 118) d_QM_row_114 rfl ?_
      refine qx_zast d_QM_row_118 rfl rfl rfl rfl (by omega) rfl ?_
      refine qx_aload_n d_QM_row_119 rfl rfl ?_
      refine qx_getR d_QM_row_120 fR_QM_7 rfl rfl (congrFun hR 0) ?_
      refine qx_iload_n d_QM_row_123 rfl rfl ?_
      refine qx_dup2 d_QM_row_124 rfl rfl ?_
      refine qx_iald d_QM_row_125 rfl rfl rfl rfl (by omega) hr ?_
      refine qx_iconstN (v := 1) d_QM_row_126 rfl ?_
      refine qx_iaddN d_QM_row_127 ?_
      refine qx_iast d_QM_row_128 rfl rfl rfl rfl (by omega) ?_
      refine qx_aload_n d_QM_row_129 rfl rfl ?_
      refine qx_getR d_QM_row_130 fR_QM_7 rfl rfl (congrFun hR 0) ?_
      refine qx_iload_n d_QM_row_133 rfl rfl ?_
      refine qx_iald d_QM_row_134 rfl rfl rfl rfl (by omega) qI_get ?_
      exact qx_iret d_QM_row_135 rfl rfl (by omega) (by omega) (by first | (rw [decide_eq_true c88, decide_eq_true c110]; exact ⟨rfl, rfl, rfl⟩) | (rw [decide_eq_false c88, decide_eq_true c110]; exact ⟨rfl, rfl, rfl⟩) | (rw [decide_eq_true c88, decide_eq_false c110]; exact ⟨rfl, rfl, rfl⟩) | (rw [decide_eq_false c88, decide_eq_false c110]; exact ⟨rfl, rfl, rfl⟩))
/-- the reference's parts, i of expression e laid into expression t from its part k on -/
def cpH (h : qH) (e t k i : Nat) : qH := (va_up h.1 126 (va_cpy (h.1 126) (h.1 126) (24 * e) (24 * t + k) i), va_up h.2.1 127 (va_cpy (h.2.1 127) (h.2.1 127) (24 * e) (24 * t + k) i), h.2.2)
theorem cpH_0 (h : qH) (e t k : Nat) : cpH h e t k 0 = h := by
  unfold cpH
  rw [va_cpy0, va_cpy0, qv_self, qv_self]
theorem cpH_S {h : qH} {e t k i : Nat} (hx : 24 * e + i < 24 * t + k ∨ 24 * t + k + i ≤ 24 * e + i) : qpL (qpI (cpH h e t k i) 126 (24 * t + k + i) ((cpH h e t k i).1 126 (24 * e + i))) 127 (24 * t + k + i) ((cpH h e t k i).2.1 127 (24 * e + i)) = cpH h e t k (i + 1) := by
  unfold cpH qpI qpL
  dsimp only
  rw [qv_up, qv_up, qus, qus, va_cpyS hx, va_cpyS hx]
set_option maxRecDepth 100000 in
set_option maxHeartbeats 4000000 in
theorem ct_QM_copy {h : qH} (hR : h.2.2 122 = qRQM) (e t k s : Nat) (he : e < 17) (ht : t < 17) (hne : e ≠ t) (hk : k + s ≤ 24) (hs : h.1 128 e = nI s) : qT mi_QM_copy 0 0 0 [.ref 122, .int (nI e), .int (nI t), .int (nI k)] h NN (fun v1 h1 n1 => v1 = none ∧ h1 = cpH h e t k s ∧ n1 = NN) := by
  refine qT.of (lv0 := [_, _, _, _, _]) (by decide +kernel) (fun _ _ => Nat.le_of_ble_eq_true rfl) rfl ?_
  have key : ∀ (m i : Nat), i + m = s → qX mi_QM_copy 0 none 0 0 3 [.ref 122, .int (nI e), .int (nI t), .int (nI k), .int (nI i)] [] (cpH h e t k i) NN 0 0 (fun v1 h1 n1 => v1 = none ∧ h1 = cpH h e t k s ∧ n1 = NN) := by
    intro m
    induction m with
    | zero =>
      intro i hi
      refine qx_iload d_QM_copy_3 rfl ?_
      refine qx_aload_n d_QM_copy_5 rfl rfl ?_
      refine qx_getR d_QM_copy_6 fR_QM_27 rfl rfl (congrFun hR 18) ?_
      refine qx_iload_n d_QM_copy_9 rfl rfl ?_
      refine qx_iald d_QM_copy_10 rfl rfl rfl rfl (by omega) hs ?_
      refine qx_icmp_geN (t := 72) d_QM_copy_11 rfl (by omega) (by omega) (fun c11 => ?_) (fun c11 => absurd c11 (by omega))
      exact qx_ret d_QM_copy_72 rfl (by omega) (by omega) ⟨rfl, by rw [show i = s by omega], rfl⟩
    | succ m ih =>
      intro i hi
      refine qx_iload d_QM_copy_3 rfl ?_
      refine qx_aload_n d_QM_copy_5 rfl rfl ?_
      refine qx_getR d_QM_copy_6 fR_QM_27 rfl rfl (congrFun hR 18) ?_
      refine qx_iload_n d_QM_copy_9 rfl rfl ?_
      refine qx_iald d_QM_copy_10 rfl rfl rfl rfl (by omega) hs ?_
      refine qx_icmp_geN (t := 72) d_QM_copy_11 rfl (by omega) (by omega) (fun c11 => absurd c11 (by omega)) (fun c11 => ?_)
      refine qx_aload_n d_QM_copy_14 rfl rfl ?_
      refine qx_getR d_QM_copy_15 fR_QM_21 rfl rfl (congrFun hR 16) ?_
      refine qx_bipushN (v := 24) d_QM_copy_18 rfl ?_
      refine qx_iload_n d_QM_copy_20 rfl rfl ?_
      refine qx_imulN d_QM_copy_21 ?_
      refine qx_iload_n d_QM_copy_22 rfl rfl ?_
      refine qx_iaddN d_QM_copy_23 ?_
      refine qx_iload d_QM_copy_24 rfl ?_
      refine qx_iaddN d_QM_copy_26 ?_
      refine qx_aload_n d_QM_copy_27 rfl rfl ?_
      refine qx_getR d_QM_copy_28 fR_QM_21 rfl rfl (congrFun hR 16) ?_
      refine qx_bipushN (v := 24) d_QM_copy_31 rfl ?_
      refine qx_iload_n d_QM_copy_33 rfl rfl ?_
      refine qx_imulN d_QM_copy_34 ?_
      refine qx_iload d_QM_copy_35 rfl ?_
      refine qx_iaddN d_QM_copy_37 ?_
      refine qx_iald d_QM_copy_38 rfl rfl rfl rfl (by omega) rfl ?_
      refine qx_iast d_QM_copy_39 rfl rfl rfl rfl (by omega) ?_
      refine qx_aload_n d_QM_copy_40 rfl rfl ?_
      refine qx_getR d_QM_copy_41 fR_QM_24 rfl rfl (congrFun hR 17) ?_
      refine qx_bipushN (v := 24) d_QM_copy_44 rfl ?_
      refine qx_iload_n d_QM_copy_46 rfl rfl ?_
      refine qx_imulN d_QM_copy_47 ?_
      refine qx_iload_n d_QM_copy_48 rfl rfl ?_
      refine qx_iaddN d_QM_copy_49 ?_
      refine qx_iload d_QM_copy_50 rfl ?_
      refine qx_iaddN d_QM_copy_52 ?_
      refine qx_aload_n d_QM_copy_53 rfl rfl ?_
      refine qx_getR d_QM_copy_54 fR_QM_24 rfl rfl (congrFun hR 17) ?_
      refine qx_bipushN (v := 24) d_QM_copy_57 rfl ?_
      refine qx_iload_n d_QM_copy_59 rfl rfl ?_
      refine qx_imulN d_QM_copy_60 ?_
      refine qx_iload d_QM_copy_61 rfl ?_
      refine qx_iaddN d_QM_copy_63 ?_
      refine qx_lald d_QM_copy_64 rfl rfl rfl rfl (by omega) rfl ?_
      refine qx_last d_QM_copy_65 rfl rfl rfl rfl (by omega) ?_
      refine qx_iincN (w := 1) (lv1 := [_, _, _, _, _]) d_QM_copy_66 rfl rfl (by decide) rfl ?_
      refine qx_goto (t := 3) d_QM_copy_69 rfl ?_
      exact qx_eq rfl rfl rfl (cpH_S (by omega)).symm (ih (i + 1) (by omega))
  refine qx_iconstN (v := 0) d_QM_copy_0 rfl ?_
  refine qx_istore (lv1 := [_, _, _, _, _]) d_QM_copy_1 (by decide) rfl ?_
  exact qx_eq rfl rfl rfl (cpH_0 h e t k) (key s 0 (by omega))
