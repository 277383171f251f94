set_option maxRecDepth 100000 in
set_option maxHeartbeats 4000000 in
theorem ct_Qu_moveOffStack_c {h : qH} (pp : Nat → Nat) (hP : plP h pp) (nc : Nat) (hn : nc < 6) : qT mi_Qu_moveOffStack 0 0 0 [.ref 3, .ref 29, .int (nI nc)] h NN (fun v1 h1 n1 => v1 = none ∧ h1 = (qpI (qpR (qpR h 29 nc (some (pp 0))) 4 0 (some (pp (8 + nc)))) 3 7 (nI 0)) ∧ n1 = NN) := by
  refine qT.of (lv0 := [_, _, _, _]) (by decide +kernel) (fun _ _ => Nat.le_of_ble_eq_true rfl) rfl ?_
  have h0 := hP.1 0 (by omega)
  have hk := hP.1 (8 + nc) (by omega)
  refine qx_aload_n d_Qu_moveOffStack_0 rfl rfl ?_
  refine qx_iload_n d_Qu_moveOffStack_1 rfl rfl ?_
  refine qx_aald (j := nc) (t := 1)  d_Qu_moveOffStack_2 rfl (fun _ => rfl) rfl rfl rfl hn (hP.2.2.2.1 nc hn) ?_
  refine qx_astore_n (lv1 := [_, _, _, _]) d_Qu_moveOffStack_3 rfl (by decide) rfl ?_
  refine qx_aload_n d_Qu_moveOffStack_4 rfl rfl ?_
  refine qx_iload_n d_Qu_moveOffStack_5 rfl rfl ?_
  refine qx_aload_n d_Qu_moveOffStack_6 rfl rfl ?_
  refine qx_getR d_Qu_moveOffStack_7 fR_Qu_15 rfl rfl (congrFun hP.2.2.2.2.2.1 6) ?_
  refine qx_iconstN (v := 0) d_Qu_moveOffStack_10 rfl ?_
  refine qx_aald (j := 0) (t := 1)  d_Qu_moveOffStack_11 rfl (fun _ => rfl) rfl rfl rfl (by omega) (hP.2.2.1 0 (by omega)) ?_
  refine qx_aast (j := nc) (t := 1) d_Qu_moveOffStack_12 rfl (fun _ => rfl) rfl rfl rfl hn (ex_pl h0).1 (by decide) rfl (ex_pl h0).2.2.2.1 ?_
  refine qx_aload_n d_Qu_moveOffStack_13 rfl rfl ?_
  refine qx_getR d_Qu_moveOffStack_14 fR_Qu_15 rfl rfl (congrFun hP.2.2.2.2.2.1 6) ?_
  refine qx_iconstN (v := 0) d_Qu_moveOffStack_17 rfl ?_
  refine qx_aload_n d_Qu_moveOffStack_18 rfl rfl ?_
  refine qx_aast (j := 0) (t := 1) d_Qu_moveOffStack_19 rfl (fun _ => rfl) rfl rfl rfl (by omega) (ex_pl hk).1 (by decide) rfl (ex_pl hk).2.2.2.1 ?_
  refine qx_aload_n d_Qu_moveOffStack_20 rfl rfl ?_
  refine qx_iconstN (v := 0) d_Qu_moveOffStack_21 rfl ?_
  refine qx_putI d_Qu_moveOffStack_22 fI_Qu_58 rfl rfl ⟨rfl, rfl⟩ ?_
  exact qx_ret d_Qu_moveOffStack_25 rfl (by omega) (by omega) ⟨rfl, rfl, rfl⟩
set_option maxRecDepth 100000 in
set_option maxHeartbeats 4000000 in
theorem ct_Qu_moveOffStack_o {h : qH} (pp : Nat → Nat) (hP : plP h pp) (no : Nat) (hn : no < 3) : qT mi_Qu_moveOffStack 0 0 0 [.ref 3, .ref 48, .int (nI no)] h NN (fun v1 h1 n1 => v1 = none ∧ h1 = (qpI (qpR (qpR h 48 no (some (pp 0))) 4 0 (some (pp (14 + no)))) 3 7 (nI 0)) ∧ n1 = NN) := by
  refine qT.of (lv0 := [_, _, _, _]) (by decide +kernel) (fun _ _ => Nat.le_of_ble_eq_true rfl) rfl ?_
  have h0 := hP.1 0 (by omega)
  have hk := hP.1 (14 + no) (by omega)
  refine qx_aload_n d_Qu_moveOffStack_0 rfl rfl ?_
  refine qx_iload_n d_Qu_moveOffStack_1 rfl rfl ?_
  refine qx_aald (j := no) (t := 1)  d_Qu_moveOffStack_2 rfl (fun _ => rfl) rfl rfl rfl hn (hP.2.2.2.2.1 no hn) ?_
  refine qx_astore_n (lv1 := [_, _, _, _]) d_Qu_moveOffStack_3 rfl (by decide) rfl ?_
  refine qx_aload_n d_Qu_moveOffStack_4 rfl rfl ?_
  refine qx_iload_n d_Qu_moveOffStack_5 rfl rfl ?_
  refine qx_aload_n d_Qu_moveOffStack_6 rfl rfl ?_
  refine qx_getR d_Qu_moveOffStack_7 fR_Qu_15 rfl rfl (congrFun hP.2.2.2.2.2.1 6) ?_
  refine qx_iconstN (v := 0) d_Qu_moveOffStack_10 rfl ?_
  refine qx_aald (j := 0) (t := 1)  d_Qu_moveOffStack_11 rfl (fun _ => rfl) rfl rfl rfl (by omega) (hP.2.2.1 0 (by omega)) ?_
  refine qx_aast (j := no) (t := 1) d_Qu_moveOffStack_12 rfl (fun _ => rfl) rfl rfl rfl hn (ex_pl h0).1 (by decide) rfl (ex_pl h0).2.2.2.1 ?_
  refine qx_aload_n d_Qu_moveOffStack_13 rfl rfl ?_
  refine qx_getR d_Qu_moveOffStack_14 fR_Qu_15 rfl rfl (congrFun hP.2.2.2.2.2.1 6) ?_
  refine qx_iconstN (v := 0) d_Qu_moveOffStack_17 rfl ?_
  refine qx_aload_n d_Qu_moveOffStack_18 rfl rfl ?_
  refine qx_aast (j := 0) (t := 1) d_Qu_moveOffStack_19 rfl (fun _ => rfl) rfl rfl rfl (by omega) (ex_pl hk).1 (by decide) rfl (ex_pl hk).2.2.2.1 ?_
  refine qx_aload_n d_Qu_moveOffStack_20 rfl rfl ?_
  refine qx_iconstN (v := 0) d_Qu_moveOffStack_21 rfl ?_
  refine qx_putI d_Qu_moveOffStack_22 fI_Qu_58 rfl rfl ⟨rfl, rfl⟩ ?_
  exact qx_ret d_Qu_moveOffStack_25 rfl (by omega) (by omega) ⟨rfl, rfl, rfl⟩
set_option maxRecDepth 100000 in
set_option maxHeartbeats 4000000 in
theorem ct_Qu_takeCondition {h : qH} (pp : Nat → Nat) (hP : plP h pp) (dep : Nat) (h8 : dep ≤ 8) (hdep : h.1 3 7 = nI dep) (nc : Nat) (hnc6 : nc ≤ 6) (hnc : h.1 3 9 = nI nc) (t0 : Bool) (ht0 : dep = 1 → h.1 (pp 0) 3 = b2i t0) : qT mi_Qu_takeCondition 1 0 0 [.ref 3] h NN (fun v1 h1 n1 => v1 = some (.int (b2i (decide (dep = 1) && (t0 && decide (nc ≠ 6))))) ∧ h1 = cond (decide (dep = 1) && (t0 && decide (nc ≠ 6))) (qpI (qpI (qpR (qpR h 29 nc (some (pp 0))) 4 0 (some (pp (8 + nc)))) 3 7 (nI 0)) 3 9 (nI (nc + 1))) h ∧ n1 = NN) := by
  refine qT.of (lv0 := [_]) (by decide +kernel) (fun _ _ => Nat.le_of_ble_eq_true rfl) rfl ?_
  have h0 := hP.1 0 (by omega)
  refine qx_aload_n d_Qu_takeCondition_0 rfl rfl ?_
  refine qx_getI d_Qu_takeCondition_1 fI_Qu_58 rfl rfl hdep ?_
  refine qx_iconstN (v := 1) d_Qu_takeCondition_4 rfl ?_
  refine qx_icmp_neN (t := 29) d_Qu_takeCondition_5 rfl (by omega) (by omega) (fun c5 => ?_) (fun c5 => ?_)
  · refine qx_iconst (v := b2i false) d_Qu_takeCondition_29 rfl ?_
    exact qx_iret d_Qu_takeCondition_30 rfl (b2i_nar _) (by omega) (by omega) (by first | (have z := c26; rw [decide_eq_false (show ¬ nc ≠ 6 by omega), Bool.and_false, Bool.and_false]; exact ⟨rfl, rfl, rfl⟩) | (have z := c17; rw [z, Bool.false_and, Bool.and_false]; exact ⟨rfl, rfl, rfl⟩) | (rw [decide_eq_false c5]; exact ⟨rfl, rfl, rfl⟩))
  · refine qx_aload_n d_Qu_takeCondition_8 rfl rfl ?_
    refine qx_getR d_Qu_takeCondition_9 fR_Qu_15 rfl rfl (congrFun hP.2.2.2.2.2.1 6) ?_
    refine qx_iconstN (v := 0) d_Qu_takeCondition_12 rfl ?_
    refine qx_aald (j := 0) (t := 1)  d_Qu_takeCondition_13 rfl (fun _ => rfl) rfl rfl rfl (by omega) (hP.2.2.1 0 (by omega)) ?_
    refine qx_getI d_Qu_takeCondition_14 fI_Qu_96 (ex_pl h0).1 (ex_pl h0).2.2.2.1 (ht0 c5) ?_
    refine qx_if_eqB (t := 29) d_Qu_takeCondition_17 rfl (fun c17 => ?_) (fun c17 => ?_)
    · refine qx_iconst (v := b2i false) d_Qu_takeCondition_29 rfl ?_
      exact qx_iret d_Qu_takeCondition_30 rfl (b2i_nar _) (by omega) (by omega) (by first | (have z := c26; rw [decide_eq_false (show ¬ nc ≠ 6 by omega), Bool.and_false, Bool.and_false]; exact ⟨rfl, rfl, rfl⟩) | (have z := c17; rw [z, Bool.false_and, Bool.and_false]; exact ⟨rfl, rfl, rfl⟩) | (rw [decide_eq_false c5]; exact ⟨rfl, rfl, rfl⟩))
    · refine qx_aload_n d_Qu_takeCondition_20 rfl rfl ?_
      refine qx_getI d_Qu_takeCondition_21 fI_Qu_61 rfl rfl hnc ?_
      refine qx_bipushN (v := 6) d_Qu_takeCondition_24 rfl ?_
      refine qx_icmp_ltN (t := 31) d_Qu_takeCondition_26 rfl (by omega) (by omega) (fun c26 => ?_) (fun c26 => ?_)
      · refine qx_aload_n d_Qu_takeCondition_31 rfl rfl ?_
        refine qx_aload_n d_Qu_takeCondition_32 rfl rfl ?_
        refine qx_getR d_Qu_takeCondition_33 fR_Qu_19 rfl rfl (congrFun hP.2.2.2.2.2.1 8) ?_
        refine qx_aload_n d_Qu_takeCondition_36 rfl rfl ?_
        refine qx_getI d_Qu_takeCondition_37 fI_Qu_61 rfl rfl hnc ?_
        refine qx_callV (As := [_, _]) (rest := _) d_Qu_takeCondition_40 lk_Qu_106 y_Qu_moveOffStack v_Qu_moveOffStack rfl rfl rfl (by decide) rfl rfl rfl rfl (by decide) (by decide) (ct_Qu_moveOffStack_c pp hP nc (by omega)) ?_
        rintro _ _ _ ⟨rfl, rfl, rfl⟩
        refine qx_aload_n d_Qu_takeCondition_43 rfl rfl ?_
        refine qx_dup d_Qu_takeCondition_44 rfl ?_
        refine qx_getI d_Qu_takeCondition_45 fI_Qu_61 rfl rfl (show _ = nI nc from hnc) ?_
        refine qx_iconstN (v := 1) d_Qu_takeCondition_48 rfl ?_
        refine qx_iaddN d_Qu_takeCondition_49 ?_
        refine qx_putI d_Qu_takeCondition_50 fI_Qu_61 rfl rfl ⟨rfl, rfl⟩ ?_
        refine qx_iconst (v := b2i true) d_Qu_takeCondition_53 rfl ?_
        exact qx_iret d_Qu_takeCondition_54 rfl (b2i_nar _) (by omega) (by omega) (by rw [decide_eq_true c5, c17, decide_eq_true (show nc ≠ 6 by omega)]; exact ⟨rfl, rfl, rfl⟩)
      · refine qx_iconst (v := b2i false) d_Qu_takeCondition_29 rfl ?_
        exact qx_iret d_Qu_takeCondition_30 rfl (b2i_nar _) (by omega) (by omega) (by first | (have z := c26; rw [decide_eq_false (show ¬ nc ≠ 6 by omega), Bool.and_false, Bool.and_false]; exact ⟨rfl, rfl, rfl⟩) | (have z := c17; rw [z, Bool.false_and, Bool.and_false]; exact ⟨rfl, rfl, rfl⟩) | (rw [decide_eq_false c5]; exact ⟨rfl, rfl, rfl⟩))
set_option maxRecDepth 100000 in
set_option maxHeartbeats 4000000 in
theorem ct_Qu_takeOutput_rows {h : qH} (pp : Nat → Nat) (hP : plP h pp) (dep : Nat) (h8 : dep ≤ 8) (hdep : h.1 3 7 = nI dep) (no : Nat) (hno3 : no ≤ 3) (hno : h.1 3 12 = nI no) : qT mi_Qu_takeOutput 1 0 0 [.ref 3, .int (nI 1)] h NN (fun v1 h1 n1 => v1 = some (.int (b2i (decide (no ≠ 3) && decide (dep = 0)))) ∧ h1 = cond (decide (no ≠ 3) && decide (dep = 0)) (qpI (qpI (xR h (pp (14 + no)) ((sOf h.1 (pp (14 + no))).1, (sOf h.1 (pp (14 + no))).2.1, nI 0, nI 0, nI 0)) 58 no (nI 1)) 3 12 (nI (no + 1))) h ∧ n1 = NN) := by
  refine qT.of (lv0 := [_, _]) (by decide +kernel) (fun _ _ => Nat.le_of_ble_eq_true rfl) rfl ?_
  refine qx_aload_n d_Qu_takeOutput_0 rfl rfl ?_
  refine qx_getI d_Qu_takeOutput_1 fI_Qu_64 rfl rfl hno ?_
  refine qx_iconstN (v := 3) d_Qu_takeOutput_4 rfl ?_
  refine qx_icmp_ltN (t := 10) d_Qu_takeOutput_5 rfl (by omega) (by omega) (fun c5 => ?_) (fun c5 => ?_)
  · refine qx_iload_n d_Qu_takeOutput_10 rfl rfl ?_
    refine qx_iconstN (v := 1) d_Qu_takeOutput_11 rfl ?_
    refine qx_icmp_neN (t := 39) d_Qu_takeOutput_12 rfl (by omega) (by omega) (fun c12 => absurd c12 (by omega)) (fun c12 => ?_)
    refine qx_aload_n d_Qu_takeOutput_15 rfl rfl ?_
    refine qx_getI d_Qu_takeOutput_16 fI_Qu_58 rfl rfl hdep ?_
    refine qx_if_eqN (t := 24) d_Qu_takeOutput_19 rfl (by omega) (fun c19 => ?_) (fun c19 => ?_)
    · refine qx_aload_n d_Qu_takeOutput_24 rfl rfl ?_
      refine qx_getR d_Qu_takeOutput_25 fR_Qu_22 rfl rfl (congrFun hP.2.2.2.2.2.1 10) ?_
      refine qx_aload_n d_Qu_takeOutput_28 rfl rfl ?_
      refine qx_getI d_Qu_takeOutput_29 fI_Qu_64 rfl rfl hno ?_
      refine qx_aald (j := no) (t := 1)  d_Qu_takeOutput_32 rfl (fun _ => rfl) rfl rfl rfl (by omega) (hP.2.2.2.2.1 no (by omega)) ?_
      have he := hP.1 (14 + no) (by omega)
      have hX := hP.2.2.2.2.2.2 _ he
      refine qx_eq (h1 := xR h (pp (14 + no)) (sOf h.1 (pp (14 + no)))) rfl rfl rfl xR_sOf ?_
      refine qx_callV (As := []) (rest := _) d_Qu_takeOutput_33 lk_Qu_89 y_Ex_clear v_Ex_clear rfl rfl (ex_pl he).1 (by decide) rfl (ex_pl he).2.2.2.1 rfl rfl (by decide) (by decide) (ct_Ex_clear (pp (14 + no)) he hX (sOf h.1 (pp (14 + no)))) ?_
      rintro _ _ _ ⟨rfl, rfl, rfl⟩
      refine qx_goto (t := 73) d_Qu_takeOutput_36 rfl ?_
      refine qx_aload_n d_Qu_takeOutput_73 rfl rfl ?_
      refine qx_getR d_Qu_takeOutput_74 fR_Qu_25 rfl rfl (congrFun hP.2.2.2.2.2.1 11) ?_
      refine qx_aload_n d_Qu_takeOutput_77 rfl rfl ?_
      refine qx_getI d_Qu_takeOutput_78 fI_Qu_64 rfl rfl (show _ = nI no from (congrFun (xR_3 he) 12).trans hno) ?_
      refine qx_iload_n d_Qu_takeOutput_81 rfl rfl ?_
      refine qx_iast d_Qu_takeOutput_82 rfl rfl rfl rfl (by omega) ?_
      refine qx_aload_n d_Qu_takeOutput_83 rfl rfl ?_
      refine qx_dup d_Qu_takeOutput_84 rfl ?_
      refine qx_getI d_Qu_takeOutput_85 fI_Qu_64 rfl rfl (show _ = nI no from (congrFun (xR_3 he) 12).trans hno) ?_
      refine qx_iconstN (v := 1) d_Qu_takeOutput_88 rfl ?_
      refine qx_iaddN d_Qu_takeOutput_89 ?_
      refine qx_putI d_Qu_takeOutput_90 fI_Qu_64 rfl rfl ⟨rfl, rfl⟩ ?_
      refine qx_iconst (v := b2i true) d_Qu_takeOutput_93 rfl ?_
      exact qx_iret d_Qu_takeOutput_94 rfl (b2i_nar _) (by omega) (by omega) (by rw [decide_eq_true (show no ≠ 3 by omega), decide_eq_true c19]; exact ⟨rfl, rfl, rfl⟩)
    · refine qx_iconst (v := b2i false) d_Qu_takeOutput_22 rfl ?_
      exact qx_iret d_Qu_takeOutput_23 rfl (b2i_nar _) (by omega) (by omega) (by rw [decide_eq_false (show ¬ dep = 0 by omega), Bool.and_false]; exact ⟨rfl, rfl, rfl⟩)
  · refine qx_iconst (v := b2i false) d_Qu_takeOutput_8 rfl ?_
    exact qx_iret d_Qu_takeOutput_9 rfl (b2i_nar _) (by omega) (by omega) (by rw [decide_eq_false (show ¬ no ≠ 3 by omega)]; exact ⟨rfl, rfl, rfl⟩)
set_option maxRecDepth 100000 in
set_option maxHeartbeats 4000000 in
theorem ct_Qu_takeOutput_of {h : qH} (pp : Nat → Nat) (hP : plP h pp) (dep : Nat) (h8 : dep ≤ 8) (hdep : h.1 3 7 = nI dep) (no : Nat) (hno3 : no ≤ 3) (hno : h.1 3 12 = nI no) (t0 : Bool) (ht0 : dep = 1 → h.1 (pp 0) 3 = b2i t0) (k : Nat) (hk1 : k ≠ 1) (hk6 : k < 6) : qT mi_Qu_takeOutput 1 0 0 [.ref 3, .int (nI k)] h NN (fun v1 h1 n1 => v1 = some (.int (b2i (decide (no ≠ 3) && (decide (dep = 1) && !t0)))) ∧ h1 = cond (decide (no ≠ 3) && (decide (dep = 1) && !t0)) (qpI (qpI (qpI (qpR (qpR h 48 no (some (pp 0))) 4 0 (some (pp (14 + no)))) 3 7 (nI 0)) 58 no (nI k)) 3 12 (nI (no + 1))) h ∧ n1 = NN) := by
  refine qT.of (lv0 := [_, _]) (by decide +kernel) (fun _ _ => Nat.le_of_ble_eq_true rfl) rfl ?_
  have h0 := hP.1 0 (by omega)
  refine qx_aload_n d_Qu_takeOutput_0 rfl rfl ?_
  refine qx_getI d_Qu_takeOutput_1 fI_Qu_64 rfl rfl hno ?_
  refine qx_iconstN (v := 3) d_Qu_takeOutput_4 rfl ?_
  refine qx_icmp_ltN (t := 10) d_Qu_takeOutput_5 rfl (by omega) (by omega) (fun c5 => ?_) (fun c5 => ?_)
  · refine qx_iload_n d_Qu_takeOutput_10 rfl rfl ?_
    refine qx_iconstN (v := 1) d_Qu_takeOutput_11 rfl ?_
    refine qx_icmp_neN (t := 39) d_Qu_takeOutput_12 rfl (by omega) (by omega) (fun c12 => ?_) (fun c12 => absurd c12 hk1)
    refine qx_aload_n d_Qu_takeOutput_39 rfl rfl ?_
    refine qx_getI d_Qu_takeOutput_40 fI_Qu_58 rfl rfl hdep ?_
    refine qx_iconstN (v := 1) d_Qu_takeOutput_43 rfl ?_
    refine qx_icmp_neN (t := 59) d_Qu_takeOutput_44 rfl (by omega) (by omega) (fun c44 => ?_) (fun c44 => ?_)
    · refine qx_iconst (v := b2i false) d_Qu_takeOutput_59 rfl ?_
      exact qx_iret d_Qu_takeOutput_60 rfl (b2i_nar _) (by omega) (by omega) (by first | (have z := c56; rw [z, Bool.not_true, Bool.and_false, Bool.and_false]; exact ⟨rfl, rfl, rfl⟩) | (rw [decide_eq_false c44, Bool.false_and, Bool.and_false]; exact ⟨rfl, rfl, rfl⟩))
    · refine qx_aload_n d_Qu_takeOutput_47 rfl rfl ?_
      refine qx_getR d_Qu_takeOutput_48 fR_Qu_15 rfl rfl (congrFun hP.2.2.2.2.2.1 6) ?_
      refine qx_iconstN (v := 0) d_Qu_takeOutput_51 rfl ?_
      refine qx_aald (j := 0) (t := 1)  d_Qu_takeOutput_52 rfl (fun _ => rfl) rfl rfl rfl (by omega) (hP.2.2.1 0 (by omega)) ?_
      refine qx_getI d_Qu_takeOutput_53 fI_Qu_96 (ex_pl h0).1 (ex_pl h0).2.2.2.1 (ht0 c44) ?_
      refine qx_if_eqB (t := 61) d_Qu_takeOutput_56 rfl (fun c56 => ?_) (fun c56 => ?_)
      · refine qx_aload_n d_Qu_takeOutput_61 rfl rfl ?_
        refine qx_aload_n d_Qu_takeOutput_62 rfl rfl ?_
        refine qx_getR d_Qu_takeOutput_63 fR_Qu_22 rfl rfl (congrFun hP.2.2.2.2.2.1 10) ?_
        refine qx_aload_n d_Qu_takeOutput_66 rfl rfl ?_
        refine qx_getI d_Qu_takeOutput_67 fI_Qu_64 rfl rfl hno ?_
        refine qx_callV (As := [_, _]) (rest := _) d_Qu_takeOutput_70 lk_Qu_106 y_Qu_moveOffStack v_Qu_moveOffStack rfl rfl rfl (by decide) rfl rfl rfl rfl (by decide) (by decide) (ct_Qu_moveOffStack_o pp hP no (by omega)) ?_
        rintro _ _ _ ⟨rfl, rfl, rfl⟩
        refine qx_aload_n d_Qu_takeOutput_73 rfl rfl ?_
        refine qx_getR d_Qu_takeOutput_74 fR_Qu_25 rfl rfl (congrFun hP.2.2.2.2.2.1 11) ?_
        refine qx_aload_n d_Qu_takeOutput_77 rfl rfl ?_
        refine qx_getI d_Qu_takeOutput_78 fI_Qu_64 rfl rfl (show _ = nI no from hno) ?_
        refine qx_iload_n d_Qu_takeOutput_81 rfl rfl ?_
        refine qx_iast d_Qu_takeOutput_82 rfl rfl rfl rfl (by omega) ?_
        refine qx_aload_n d_Qu_takeOutput_83 rfl rfl ?_
        refine qx_dup d_Qu_takeOutput_84 rfl ?_
        refine qx_getI d_Qu_takeOutput_85 fI_Qu_64 rfl rfl (show _ = nI no from hno) ?_
        refine qx_iconstN (v := 1) d_Qu_takeOutput_88 rfl ?_
        refine qx_iaddN d_Qu_takeOutput_89 ?_
        refine qx_putI d_Qu_takeOutput_90 fI_Qu_64 rfl rfl ⟨rfl, rfl⟩ ?_
        refine qx_iconst (v := b2i true) d_Qu_takeOutput_93 rfl ?_
        exact qx_iret d_Qu_takeOutput_94 rfl (b2i_nar _) (by omega) (by omega) (by rw [decide_eq_true (show no ≠ 3 by omega), decide_eq_true c44, c56]; exact ⟨rfl, rfl, rfl⟩)
      · refine qx_iconst (v := b2i false) d_Qu_takeOutput_59 rfl ?_
        exact qx_iret d_Qu_takeOutput_60 rfl (b2i_nar _) (by omega) (by omega) (by first | (have z := c56; rw [z, Bool.not_true, Bool.and_false, Bool.and_false]; exact ⟨rfl, rfl, rfl⟩) | (rw [decide_eq_false c44, Bool.false_and, Bool.and_false]; exact ⟨rfl, rfl, rfl⟩))
  · refine qx_iconst (v := b2i false) d_Qu_takeOutput_8 rfl ?_
    exact qx_iret d_Qu_takeOutput_9 rfl (b2i_nar _) (by omega) (by omega) (by rw [decide_eq_false (show ¬ no ≠ 3 by omega)]; exact ⟨rfl, rfl, rfl⟩)
