set_option maxRecDepth 100000 in
set_option maxHeartbeats 4000000 in
theorem ct_QM_message_off {h : qH} (k x : Int32) (hon : h.1 122 37 = b2i false) : qT mi_QM_message 1 0 0 [.ref 122, .int k, .int x] h NN (fun v1 h1 n1 => v1 = some (.int (-1)) ∧ h = h1 ∧ n1 = NN) := by
  refine qT.of (lv0 := [_, _, _, _]) (by decide +kernel) (fun _ _ => Nat.le_of_ble_eq_true rfl) rfl ?_
  refine qx_aload_n d_QM_message_0 rfl rfl ?_
  refine qx_getI d_QM_message_1 fI_QM_99 rfl rfl hon ?_
  refine qx_if_neB (t := 9) d_QM_message_4 rfl (fun c4 => by cases c4) (fun c4 => ?_)
  refine qx_iconst (v := (-1)) d_QM_message_7 rfl ?_
  exact qx_iret d_QM_message_8 rfl rfl (by omega) (by omega) ⟨rfl, rfl, rfl⟩
set_option maxRecDepth 100000 in
set_option maxHeartbeats 4000000 in
theorem ct_QM_message_size {h : qH} (hR : h.2.2 122 = qRQM) (s : sJ) (hon : h.1 122 37 = b2i true) (x : Int32) : qT mi_QM_message 1 0 0 [.ref 122, .int (-1), .int x] (jR h s) NN (fun v1 h1 n1 => v1 = some (.int (nI (sW s))) ∧ (jR h s) = h1 ∧ n1 = NN) := by
  refine qT.of (lv0 := [_, _, _, _]) (by decide +kernel) (fun _ _ => Nat.le_of_ble_eq_true rfl) rfl ?_
  refine qx_aload_n d_QM_message_0 rfl rfl ?_
  refine qx_getI d_QM_message_1 fI_QM_99 rfl rfl hon ?_
  refine qx_if_neB (t := 9) d_QM_message_4 rfl (fun c4 => ?_) (fun c4 => by cases c4)
  refine qx_iload_n d_QM_message_9 rfl rfl ?_
  refine qx_iconst (v := (-1)) d_QM_message_10 rfl ?_
  refine qx_icmp_ne (t := 19) d_QM_message_11 rfl (fun c11 => absurd rfl c11) (fun c11 => ?_)
  refine qx_aload_n d_QM_message_14 rfl rfl ?_
  refine qx_getI d_QM_message_15 fI_QM_302 rfl rfl (show _ = nI (sW s) from rfl) ?_
  exact qx_iret d_QM_message_18 rfl rfl (by omega) (by omega) ⟨rfl, rfl, rfl⟩
set_option maxRecDepth 100000 in
set_option maxHeartbeats 4000000 in
theorem ct_QM_message_no {h : qH} (hR : h.2.2 122 = qRQM) (s : sJ) (hon : h.1 122 37 = b2i true) (k x : Int32) (hk : ¬ k = -1) (hg : decide (nI 0 ≤ k ∧ k ≤ nI (sW s) - nI 1) = false) : qT mi_QM_message 1 0 0 [.ref 122, .int k, .int x] (jR h s) NN (fun v1 h1 n1 => v1 = some (.int (-1)) ∧ (jR h s) = h1 ∧ n1 = NN) := by
  refine qT.of (lv0 := [_, _, _, _]) (by decide +kernel) (fun _ _ => Nat.le_of_ble_eq_true rfl) rfl ?_
  refine qx_aload_n d_QM_message_0 rfl rfl ?_
  refine qx_getI d_QM_message_1 fI_QM_99 rfl rfl hon ?_
  refine qx_if_neB (t := 9) d_QM_message_4 rfl (fun c4 => ?_) (fun c4 => by cases c4)
  refine qx_iload_n d_QM_message_9 rfl rfl ?_
  refine qx_iconst (v := (-1)) d_QM_message_10 rfl ?_
  refine qx_icmp_ne (t := 19) d_QM_message_11 rfl (fun c11 => ?_) (fun c11 => absurd c11 hk)
  refine qx_iload_n d_QM_message_19 rfl rfl ?_
  refine qx_iconstN (v := 0) d_QM_message_20 rfl ?_
  refine qx_aload_n d_QM_message_21 rfl rfl ?_
  refine qx_getI d_QM_message_22 fI_QM_302 rfl rfl (show _ = nI (sW s) from rfl) ?_
  refine qx_iconstN (v := 1) d_QM_message_25 rfl ?_
  refine qx_isub d_QM_message_26 ?_
  refine qx_callS (As := [_, _, _]) (rest := _) d_QM_message_27 lk_QM_103 y_QM_within s_QM_within rfl rfl rfl rfl (by decide) (by decide) (ct_QM_within _ _ _) ?_
  rintro _ _ _ ⟨rfl, rfl, rfl⟩
  refine qx_if_neB (t := 35) d_QM_message_30 rfl (fun c30 => absurd hg (by rw [c30]; decide)) (fun c30 => ?_)
  refine qx_iconst (v := (-1)) d_QM_message_33 rfl ?_
  exact qx_iret d_QM_message_34 rfl rfl (by omega) (by omega) ⟨rfl, rfl, rfl⟩
set_option maxRecDepth 100000 in
set_option maxHeartbeats 4000000 in
theorem ct_QM_message_0 {h : qH} (hR : h.2.2 122 = qRQM) (s : sJ) (hon : h.1 122 37 = b2i true) (k : Nat) (hk : k < sW s) (h80 : sW s ≤ 80) : qT mi_QM_message 1 0 0 [.ref 122, .int (nI k), .int (nI 0)] (jR h s) NN (fun v1 h1 n1 => v1 = some (.int (nI (sMk s k))) ∧ (jR h s) = h1 ∧ n1 = NN) := by
  refine qT.of (lv0 := [_, _, _, _]) (by decide +kernel) (fun _ _ => Nat.le_of_ble_eq_true rfl) rfl ?_
  refine qx_aload_n d_QM_message_0 rfl rfl ?_
  refine qx_getI d_QM_message_1 fI_QM_99 rfl rfl hon ?_
  refine qx_if_neB (t := 9) d_QM_message_4 rfl (fun c4 => ?_) (fun c4 => by cases c4)
  refine qx_iload_n d_QM_message_9 rfl rfl ?_
  refine qx_iconst (v := (-1)) d_QM_message_10 rfl ?_
  refine qx_icmp_ne (t := 19) d_QM_message_11 rfl (fun c11 => ?_) (fun c11 => absurd c11 (by intro e; have := congrArg Int32.toInt e; rw [nI_toInt (by omega)] at this; revert this; show ¬ ((k : Int) = -1); omega))
  refine qx_iload_n d_QM_message_19 rfl rfl ?_
  refine qx_iconstN (v := 0) d_QM_message_20 rfl ?_
  refine qx_aload_n d_QM_message_21 rfl rfl ?_
  refine qx_getI d_QM_message_22 fI_QM_302 rfl rfl (show _ = nI (sW s) from rfl) ?_
  refine qx_iconstN (v := 1) d_QM_message_25 rfl ?_
  refine qx_isubN d_QM_message_26 (by omega) ?_
  refine qx_callS (As := [_, _, _]) (rest := _) d_QM_message_27 lk_QM_103 y_QM_within s_QM_within rfl rfl rfl rfl (by decide) (by decide) (ct_QM_within _ _ _) ?_
  rintro _ _ _ ⟨rfl, rfl, rfl⟩
  refine qx_if_neB (t := 35) d_QM_message_30 rfl (fun c30 => ?_) (fun c30 => absurd (⟨nI_le (by omega) (by omega), nI_le (by omega) (by omega)⟩ : nI 0 ≤ nI k ∧ nI k ≤ nI (sW s - 1)) (of_decide_eq_false c30))
  refine qx_aload_n d_QM_message_35 rfl rfl ?_
  refine qx_getR d_QM_message_36 fR_QM_84 rfl rfl (congrFun hR 51) ?_
  refine qx_iload_n d_QM_message_39 rfl rfl ?_
  refine qx_iald d_QM_message_40 rfl rfl rfl rfl (by omega) (show _ = nI (sMt s k) from rfl) ?_
  refine qx_istore_n (lv1 := [_, _, _, _]) d_QM_message_41 rfl (by decide) rfl ?_
  refine qx_iload_n d_QM_message_42 rfl rfl ?_
  refine qx_tabIn (t := 72) d_QM_message_43 (by decide) (by decide) rfl rfl ?_
  refine qx_aload_n d_QM_message_72 rfl rfl ?_
  refine qx_getR d_QM_message_73 fR_QM_81 rfl rfl (congrFun hR 50) ?_
  refine qx_iload_n d_QM_message_76 rfl rfl ?_
  refine qx_iald d_QM_message_77 rfl rfl rfl rfl (by omega) (show _ = nI (sMk s k) from rfl) ?_
  exact qx_iret d_QM_message_78 rfl rfl (by omega) (by omega) ⟨rfl, rfl, rfl⟩
set_option maxRecDepth 100000 in
set_option maxHeartbeats 4000000 in
theorem ct_QM_message_1 {h : qH} (hR : h.2.2 122 = qRQM) (s : sJ) (hon : h.1 122 37 = b2i true) (k : Nat) (hk : k < sW s) (h80 : sW s ≤ 80) : qT mi_QM_message 1 0 0 [.ref 122, .int (nI k), .int (nI 1)] (jR h s) NN (fun v1 h1 n1 => v1 = some (.int (nI (sMt s k))) ∧ (jR h s) = h1 ∧ n1 = NN) := by
  refine qT.of (lv0 := [_, _, _, _]) (by decide +kernel) (fun _ _ => Nat.le_of_ble_eq_true rfl) rfl ?_
  refine qx_aload_n d_QM_message_0 rfl rfl ?_
  refine qx_getI d_QM_message_1 fI_QM_99 rfl rfl hon ?_
  refine qx_if_neB (t := 9) d_QM_message_4 rfl (fun c4 => ?_) (fun c4 => by cases c4)
  refine qx_iload_n d_QM_message_9 rfl rfl ?_
  refine qx_iconst (v := (-1)) d_QM_message_10 rfl ?_
  refine qx_icmp_ne (t := 19) d_QM_message_11 rfl (fun c11 => ?_) (fun c11 => absurd c11 (by intro e; have := congrArg Int32.toInt e; rw [nI_toInt (by omega)] at this; revert this; show ¬ ((k : Int) = -1); omega))
  refine qx_iload_n d_QM_message_19 rfl rfl ?_
  refine qx_iconstN (v := 0) d_QM_message_20 rfl ?_
  refine qx_aload_n d_QM_message_21 rfl rfl ?_
  refine qx_getI d_QM_message_22 fI_QM_302 rfl rfl (show _ = nI (sW s) from rfl) ?_
  refine qx_iconstN (v := 1) d_QM_message_25 rfl ?_
  refine qx_isubN d_QM_message_26 (by omega) ?_
  refine qx_callS (As := [_, _, _]) (rest := _) d_QM_message_27 lk_QM_103 y_QM_within s_QM_within rfl rfl rfl rfl (by decide) (by decide) (ct_QM_within _ _ _) ?_
  rintro _ _ _ ⟨rfl, rfl, rfl⟩
  refine qx_if_neB (t := 35) d_QM_message_30 rfl (fun c30 => ?_) (fun c30 => absurd (⟨nI_le (by omega) (by omega), nI_le (by omega) (by omega)⟩ : nI 0 ≤ nI k ∧ nI k ≤ nI (sW s - 1)) (of_decide_eq_false c30))
  refine qx_aload_n d_QM_message_35 rfl rfl ?_
  refine qx_getR d_QM_message_36 fR_QM_84 rfl rfl (congrFun hR 51) ?_
  refine qx_iload_n d_QM_message_39 rfl rfl ?_
  refine qx_iald d_QM_message_40 rfl rfl rfl rfl (by omega) (show _ = nI (sMt s k) from rfl) ?_
  refine qx_istore_n (lv1 := [_, _, _, _]) d_QM_message_41 rfl (by decide) rfl ?_
  refine qx_iload_n d_QM_message_42 rfl rfl ?_
  refine qx_tabIn (t := 79) d_QM_message_43 (by decide) (by decide) rfl rfl ?_
  refine qx_iload_n d_QM_message_79 rfl rfl ?_
  exact qx_iret d_QM_message_80 rfl rfl (by omega) (by omega) ⟨rfl, rfl, rfl⟩
set_option maxRecDepth 100000 in
set_option maxHeartbeats 4000000 in
theorem ct_QM_message_2 {h : qH} (hR : h.2.2 122 = qRQM) (s : sJ) (hon : h.1 122 37 = b2i true) (k : Nat) (hk : k < sW s) (h80 : sW s ≤ 80) : qT mi_QM_message 1 0 0 [.ref 122, .int (nI k), .int (nI 2)] (jR h s) NN (fun v1 h1 n1 => v1 = some (.int (nI (sMa s k))) ∧ (jR h s) = h1 ∧ n1 = NN) := by
  refine qT.of (lv0 := [_, _, _, _]) (by decide +kernel) (fun _ _ => Nat.le_of_ble_eq_true rfl) rfl ?_
  refine qx_aload_n d_QM_message_0 rfl rfl ?_
  refine qx_getI d_QM_message_1 fI_QM_99 rfl rfl hon ?_
  refine qx_if_neB (t := 9) d_QM_message_4 rfl (fun c4 => ?_) (fun c4 => by cases c4)
  refine qx_iload_n d_QM_message_9 rfl rfl ?_
  refine qx_iconst (v := (-1)) d_QM_message_10 rfl ?_
  refine qx_icmp_ne (t := 19) d_QM_message_11 rfl (fun c11 => ?_) (fun c11 => absurd c11 (by intro e; have := congrArg Int32.toInt e; rw [nI_toInt (by omega)] at this; revert this; show ¬ ((k : Int) = -1); omega))
  refine qx_iload_n d_QM_message_19 rfl rfl ?_
  refine qx_iconstN (v := 0) d_QM_message_20 rfl ?_
  refine qx_aload_n d_QM_message_21 rfl rfl ?_
  refine qx_getI d_QM_message_22 fI_QM_302 rfl rfl (show _ = nI (sW s) from rfl) ?_
  refine qx_iconstN (v := 1) d_QM_message_25 rfl ?_
  refine qx_isubN d_QM_message_26 (by omega) ?_
  refine qx_callS (As := [_, _, _]) (rest := _) d_QM_message_27 lk_QM_103 y_QM_within s_QM_within rfl rfl rfl rfl (by decide) (by decide) (ct_QM_within _ _ _) ?_
  rintro _ _ _ ⟨rfl, rfl, rfl⟩
  refine qx_if_neB (t := 35) d_QM_message_30 rfl (fun c30 => ?_) (fun c30 => absurd (⟨nI_le (by omega) (by omega), nI_le (by omega) (by omega)⟩ : nI 0 ≤ nI k ∧ nI k ≤ nI (sW s - 1)) (of_decide_eq_false c30))
  refine qx_aload_n d_QM_message_35 rfl rfl ?_
  refine qx_getR d_QM_message_36 fR_QM_84 rfl rfl (congrFun hR 51) ?_
  refine qx_iload_n d_QM_message_39 rfl rfl ?_
  refine qx_iald d_QM_message_40 rfl rfl rfl rfl (by omega) (show _ = nI (sMt s k) from rfl) ?_
  refine qx_istore_n (lv1 := [_, _, _, _]) d_QM_message_41 rfl (by decide) rfl ?_
  refine qx_iload_n d_QM_message_42 rfl rfl ?_
  refine qx_tabIn (t := 81) d_QM_message_43 (by decide) (by decide) rfl rfl ?_
  refine qx_aload_n d_QM_message_81 rfl rfl ?_
  refine qx_getR d_QM_message_82 fR_QM_87 rfl rfl (congrFun hR 52) ?_
  refine qx_iload_n d_QM_message_85 rfl rfl ?_
  refine qx_iald d_QM_message_86 rfl rfl rfl rfl (by omega) (show _ = nI (sMa s k) from rfl) ?_
  exact qx_iret d_QM_message_87 rfl rfl (by omega) (by omega) ⟨rfl, rfl, rfl⟩
set_option maxRecDepth 100000 in
set_option maxHeartbeats 4000000 in
theorem ct_QM_message_3r {h : qH} (hR : h.2.2 122 = qRQM) (s : sJ) (hon : h.1 122 37 = b2i true) (k : Nat) (hk : k < sW s) (h80 : sW s ≤ 80) (h0 : sMk s k = 0) (pt : Nat → Nat) (wk : Nat) (h1w : 1 ≤ wk) (hw4 : wk ≤ 4) (hwk : h.1 122 38 = nI wk) (ht : sMt s k < 16) (hpt : h.1 141 (sMt s k) = nI (pt (sMt s k))) (hp4 : pt (sMt s k) < 4) (ha : sMa s k < 100000) : qT mi_QM_message 1 0 0 [.ref 122, .int (nI k), .int (nI 3)] (jR h s) NN (fun v1 h1 n1 => v1 = some (.int (nI ((pt (sMt s k) + sMa s k) % wk))) ∧ (jR h s) = h1 ∧ n1 = NN) := by
  refine qT.of (lv0 := [_, _, _, _]) (by decide +kernel) (fun _ _ => Nat.le_of_ble_eq_true rfl) rfl ?_
  refine qx_aload_n d_QM_message_0 rfl rfl ?_
  refine qx_getI d_QM_message_1 fI_QM_99 rfl rfl hon ?_
  refine qx_if_neB (t := 9) d_QM_message_4 rfl (fun c4 => ?_) (fun c4 => by cases c4)
  refine qx_iload_n d_QM_message_9 rfl rfl ?_
  refine qx_iconst (v := (-1)) d_QM_message_10 rfl ?_
  refine qx_icmp_ne (t := 19) d_QM_message_11 rfl (fun c11 => ?_) (fun c11 => absurd c11 (by intro e; have := congrArg Int32.toInt e; rw [nI_toInt (by omega)] at this; revert this; show ¬ ((k : Int) = -1); omega))
  refine qx_iload_n d_QM_message_19 rfl rfl ?_
  refine qx_iconstN (v := 0) d_QM_message_20 rfl ?_
  refine qx_aload_n d_QM_message_21 rfl rfl ?_
  refine qx_getI d_QM_message_22 fI_QM_302 rfl rfl (show _ = nI (sW s) from rfl) ?_
  refine qx_iconstN (v := 1) d_QM_message_25 rfl ?_
  refine qx_isubN d_QM_message_26 (by omega) ?_
  refine qx_callS (As := [_, _, _]) (rest := _) d_QM_message_27 lk_QM_103 y_QM_within s_QM_within rfl rfl rfl rfl (by decide) (by decide) (ct_QM_within _ _ _) ?_
  rintro _ _ _ ⟨rfl, rfl, rfl⟩
  refine qx_if_neB (t := 35) d_QM_message_30 rfl (fun c30 => ?_) (fun c30 => absurd (⟨nI_le (by omega) (by omega), nI_le (by omega) (by omega)⟩ : nI 0 ≤ nI k ∧ nI k ≤ nI (sW s - 1)) (of_decide_eq_false c30))
  refine qx_aload_n d_QM_message_35 rfl rfl ?_
  refine qx_getR d_QM_message_36 fR_QM_84 rfl rfl (congrFun hR 51) ?_
  refine qx_iload_n d_QM_message_39 rfl rfl ?_
  refine qx_iald d_QM_message_40 rfl rfl rfl rfl (by omega) (show _ = nI (sMt s k) from rfl) ?_
  refine qx_istore_n (lv1 := [_, _, _, _]) d_QM_message_41 rfl (by decide) rfl ?_
  refine qx_iload_n d_QM_message_42 rfl rfl ?_
  refine qx_tabIn (t := 88) d_QM_message_43 (by decide) (by decide) rfl rfl ?_
  refine qx_aload_n d_QM_message_88 rfl rfl ?_
  refine qx_getR d_QM_message_89 fR_QM_81 rfl rfl (congrFun hR 50) ?_
  refine qx_iload_n d_QM_message_92 rfl rfl ?_
  refine qx_iald d_QM_message_93 rfl rfl rfl rfl (by omega) (show _ = nI (sMk s k) from rfl) ?_
  refine qx_if_neN (t := 111) d_QM_message_94 rfl (by omega) (fun c94 => absurd c94 (by omega)) (fun c94 => ?_)
  refine qx_aload_n d_QM_message_97 rfl rfl ?_
  refine qx_iload_n d_QM_message_98 rfl rfl ?_
  refine qx_aload_n d_QM_message_99 rfl rfl ?_
  refine qx_getR d_QM_message_100 fR_QM_87 rfl rfl (congrFun hR 52) ?_
  refine qx_iload_n d_QM_message_103 rfl rfl ?_
  refine qx_iald d_QM_message_104 rfl rfl rfl rfl (by omega) (show _ = nI (sMa s k) from rfl) ?_
  refine qx_callV (As := [_, _]) (rest := _) d_QM_message_105 lk_QM_326 y_QM_workerOf v_QM_workerOf rfl rfl rfl (by decide) rfl rfl rfl rfl (by decide) (by decide) (ct_QM_workerOf (h := jR h s) hR pt (sMt s k) (sMa s k) wk ht hpt hp4 ha hwk h1w hw4) ?_
  rintro _ _ _ ⟨rfl, rfl, rfl⟩
  refine qx_goto (t := 117) d_QM_message_108 rfl ?_
  exact qx_iret d_QM_message_117 rfl rfl (by omega) (by omega) ⟨rfl, rfl, rfl⟩
set_option maxRecDepth 100000 in
set_option maxHeartbeats 4000000 in
theorem ct_QM_message_3d {h : qH} (hR : h.2.2 122 = qRQM) (s : sJ) (hon : h.1 122 37 = b2i true) (k : Nat) (hk : k < sW s) (h80 : sW s ≤ 80) (h0 : sMk s k = 1) (ht : sMt s k < 16) (rw : Int32) (hrw : h.1 145 (sMt s k) = rw) : qT mi_QM_message 1 0 0 [.ref 122, .int (nI k), .int (nI 3)] (jR h s) NN (fun v1 h1 n1 => v1 = some (.int rw) ∧ (jR h s) = h1 ∧ n1 = NN) := by
  refine qT.of (lv0 := [_, _, _, _]) (by decide +kernel) (fun _ _ => Nat.le_of_ble_eq_true rfl) rfl ?_
  refine qx_aload_n d_QM_message_0 rfl rfl ?_
  refine qx_getI d_QM_message_1 fI_QM_99 rfl rfl hon ?_
  refine qx_if_neB (t := 9) d_QM_message_4 rfl (fun c4 => ?_) (fun c4 => by cases c4)
  refine qx_iload_n d_QM_message_9 rfl rfl ?_
  refine qx_iconst (v := (-1)) d_QM_message_10 rfl ?_
  refine qx_icmp_ne (t := 19) d_QM_message_11 rfl (fun c11 => ?_) (fun c11 => absurd c11 (by intro e; have := congrArg Int32.toInt e; rw [nI_toInt (by omega)] at this; revert this; show ¬ ((k : Int) = -1); omega))
  refine qx_iload_n d_QM_message_19 rfl rfl ?_
  refine qx_iconstN (v := 0) d_QM_message_20 rfl ?_
  refine qx_aload_n d_QM_message_21 rfl rfl ?_
  refine qx_getI d_QM_message_22 fI_QM_302 rfl rfl (show _ = nI (sW s) from rfl) ?_
  refine qx_iconstN (v := 1) d_QM_message_25 rfl ?_
  refine qx_isubN d_QM_message_26 (by omega) ?_
  refine qx_callS (As := [_, _, _]) (rest := _) d_QM_message_27 lk_QM_103 y_QM_within s_QM_within rfl rfl rfl rfl (by decide) (by decide) (ct_QM_within _ _ _) ?_
  rintro _ _ _ ⟨rfl, rfl, rfl⟩
  refine qx_if_neB (t := 35) d_QM_message_30 rfl (fun c30 => ?_) (fun c30 => absurd (⟨nI_le (by omega) (by omega), nI_le (by omega) (by omega)⟩ : nI 0 ≤ nI k ∧ nI k ≤ nI (sW s - 1)) (of_decide_eq_false c30))
  refine qx_aload_n d_QM_message_35 rfl rfl ?_
  refine qx_getR d_QM_message_36 fR_QM_84 rfl rfl (congrFun hR 51) ?_
  refine qx_iload_n d_QM_message_39 rfl rfl ?_
  refine qx_iald d_QM_message_40 rfl rfl rfl rfl (by omega) (show _ = nI (sMt s k) from rfl) ?_
  refine qx_istore_n (lv1 := [_, _, _, _]) d_QM_message_41 rfl (by decide) rfl ?_
  refine qx_iload_n d_QM_message_42 rfl rfl ?_
  refine qx_tabIn (t := 88) d_QM_message_43 (by decide) (by decide) rfl rfl ?_
  refine qx_aload_n d_QM_message_88 rfl rfl ?_
  refine qx_getR d_QM_message_89 fR_QM_81 rfl rfl (congrFun hR 50) ?_
  refine qx_iload_n d_QM_message_92 rfl rfl ?_
  refine qx_iald d_QM_message_93 rfl rfl rfl rfl (by omega) (show _ = nI (sMk s k) from rfl) ?_
  refine qx_if_neN (t := 111) d_QM_message_94 rfl (by omega) (fun c94 => ?_) (fun c94 => absurd c94 (by omega))
  refine qx_aload_n d_QM_message_111 rfl rfl ?_
  refine qx_getR d_QM_message_112 fR_QM_78 rfl rfl (congrFun hR 46) ?_
  refine qx_iload_n d_QM_message_115 rfl rfl ?_
  refine qx_iald d_QM_message_116 rfl rfl rfl rfl (by omega) hrw ?_
  exact qx_iret d_QM_message_117 rfl rfl (by omega) (by omega) ⟨rfl, rfl, rfl⟩
set_option maxRecDepth 100000 in
set_option maxHeartbeats 4000000 in
theorem ct_QM_message_out {h : qH} (hR : h.2.2 122 = qRQM) (s : sJ) (hon : h.1 122 37 = b2i true) (k : Nat) (hk : k < sW s) (h80 : sW s ≤ 80) (x : Int32) (hx : x.toInt < 0 ∨ 3 < x.toInt) : qT mi_QM_message 1 0 0 [.ref 122, .int (nI k), .int x] (jR h s) NN (fun v1 h1 n1 => v1 = some (.int (-1)) ∧ (jR h s) = h1 ∧ n1 = NN) := by
  refine qT.of (lv0 := [_, _, _, _]) (by decide +kernel) (fun _ _ => Nat.le_of_ble_eq_true rfl) rfl ?_
  refine qx_aload_n d_QM_message_0 rfl rfl ?_
  refine qx_getI d_QM_message_1 fI_QM_99 rfl rfl hon ?_
  refine qx_if_neB (t := 9) d_QM_message_4 rfl (fun c4 => ?_) (fun c4 => by cases c4)
  refine qx_iload_n d_QM_message_9 rfl rfl ?_
  refine qx_iconst (v := (-1)) d_QM_message_10 rfl ?_
  refine qx_icmp_ne (t := 19) d_QM_message_11 rfl (fun c11 => ?_) (fun c11 => absurd c11 (by intro e; have := congrArg Int32.toInt e; rw [nI_toInt (by omega)] at this; revert this; show ¬ ((k : Int) = -1); omega))
  refine qx_iload_n d_QM_message_19 rfl rfl ?_
  refine qx_iconstN (v := 0) d_QM_message_20 rfl ?_
  refine qx_aload_n d_QM_message_21 rfl rfl ?_
  refine qx_getI d_QM_message_22 fI_QM_302 rfl rfl (show _ = nI (sW s) from rfl) ?_
  refine qx_iconstN (v := 1) d_QM_message_25 rfl ?_
  refine qx_isubN d_QM_message_26 (by omega) ?_
  refine qx_callS (As := [_, _, _]) (rest := _) d_QM_message_27 lk_QM_103 y_QM_within s_QM_within rfl rfl rfl rfl (by decide) (by decide) (ct_QM_within _ _ _) ?_
  rintro _ _ _ ⟨rfl, rfl, rfl⟩
  refine qx_if_neB (t := 35) d_QM_message_30 rfl (fun c30 => ?_) (fun c30 => absurd (⟨nI_le (by omega) (by omega), nI_le (by omega) (by omega)⟩ : nI 0 ≤ nI k ∧ nI k ≤ nI (sW s - 1)) (of_decide_eq_false c30))
  refine qx_aload_n d_QM_message_35 rfl rfl ?_
  refine qx_getR d_QM_message_36 fR_QM_84 rfl rfl (congrFun hR 51) ?_
  refine qx_iload_n d_QM_message_39 rfl rfl ?_
  refine qx_iald d_QM_message_40 rfl rfl rfl rfl (by omega) (show _ = nI (sMt s k) from rfl) ?_
  refine qx_istore_n (lv1 := [_, _, _, _]) d_QM_message_41 rfl (by decide) rfl ?_
  refine qx_iload_n d_QM_message_42 rfl rfl ?_
  refine qx_tabOut (t := 118) d_QM_message_43 hx rfl ?_
  refine qx_iconst (v := (-1)) d_QM_message_118 rfl ?_
  exact qx_iret d_QM_message_119 rfl rfl (by omega) (by omega) ⟨rfl, rfl, rfl⟩
set_option maxRecDepth 100000 in
set_option maxHeartbeats 4000000 in
theorem ct_QM_task_no {h : qH} (t x : Int32) (was : Bool) (hwas : h.1 122 36 = b2i was) (nt : Nat) (hnt : h.1 122 40 = nI nt) (hg : (was && decide (nI 0 ≤ t ∧ t ≤ nI nt - nI 1)) = false) : qT mi_QM_task 1 0 0 [.ref 122, .int t, .int x] h NN (fun v1 h1 n1 => v1 = some (.int (-1)) ∧ h = h1 ∧ n1 = NN) := by
  refine qT.of (lv0 := [_, _, _]) (by decide +kernel) (fun _ _ => Nat.le_of_ble_eq_true rfl) rfl ?_
  refine qx_aload_n d_QM_task_0 rfl rfl ?_
  refine qx_getI d_QM_task_1 fI_QM_299 rfl rfl hwas ?_
  refine qx_if_eqB (t := 21) d_QM_task_4 rfl (fun c4 => ?_) (fun c4 => ?_)
  · refine qx_iconst (v := (-1)) d_QM_task_21 rfl ?_
    exact qx_iret d_QM_task_22 rfl rfl (by omega) (by omega) ⟨rfl, rfl, rfl⟩
  · refine qx_iload_n d_QM_task_7 rfl rfl ?_
    refine qx_iconstN (v := 0) d_QM_task_8 rfl ?_
    refine qx_aload_n d_QM_task_9 rfl rfl ?_
    refine qx_getI d_QM_task_10 fI_QM_258 rfl rfl hnt ?_
    refine qx_iconstN (v := 1) d_QM_task_13 rfl ?_
    refine qx_isub d_QM_task_14 ?_
    refine qx_callS (As := [_, _, _]) (rest := _) d_QM_task_15 lk_QM_103 y_QM_within s_QM_within rfl rfl rfl rfl (by decide) (by decide) (ct_QM_within _ _ _) ?_
    rintro _ _ _ ⟨rfl, rfl, rfl⟩
    refine qx_if_neB (t := 23) d_QM_task_18 rfl (fun c18 => absurd hg (by rw [c4, c18]; decide)) (fun c18 => ?_)
    refine qx_iconst (v := (-1)) d_QM_task_21 rfl ?_
    exact qx_iret d_QM_task_22 rfl rfl (by omega) (by omega) ⟨rfl, rfl, rfl⟩
set_option maxRecDepth 100000 in
set_option maxHeartbeats 4000000 in
theorem ct_QM_task_0 {h : qH} (hR : h.2.2 122 = qRQM) (hwas : h.1 122 36 = b2i true) (nt : Nat) (hnt : h.1 122 40 = nI nt) (hnt16 : nt ≤ 16) (t : Nat) (ht : t < nt) (v : Int32) (hv : h.1 140 t = v) : qT mi_QM_task 1 0 0 [.ref 122, .int (nI t), .int (nI 0)] h NN (fun v1 h1 n1 => v1 = some (.int v) ∧ h = h1 ∧ n1 = NN) := by
  refine qT.of (lv0 := [_, _, _]) (by decide +kernel) (fun _ _ => Nat.le_of_ble_eq_true rfl) rfl ?_
  refine qx_aload_n d_QM_task_0 rfl rfl ?_
  refine qx_getI d_QM_task_1 fI_QM_299 rfl rfl hwas ?_
  refine qx_if_eqB (t := 21) d_QM_task_4 rfl (fun c4 => by cases c4) (fun c4 => ?_)
  refine qx_iload_n d_QM_task_7 rfl rfl ?_
  refine qx_iconstN (v := 0) d_QM_task_8 rfl ?_
  refine qx_aload_n d_QM_task_9 rfl rfl ?_
  refine qx_getI d_QM_task_10 fI_QM_258 rfl rfl hnt ?_
  refine qx_iconstN (v := 1) d_QM_task_13 rfl ?_
  refine qx_isubN d_QM_task_14 (by omega) ?_
  refine qx_callS (As := [_, _, _]) (rest := _) d_QM_task_15 lk_QM_103 y_QM_within s_QM_within rfl rfl rfl rfl (by decide) (by decide) (ct_QM_within _ _ _) ?_
  rintro _ _ _ ⟨rfl, rfl, rfl⟩
  refine qx_if_neB (t := 23) d_QM_task_18 rfl (fun c18 => ?_) (fun c18 => absurd (⟨nI_le (by omega) (by omega), nI_le (by omega) (by omega)⟩ : nI 0 ≤ nI t ∧ nI t ≤ nI (nt - 1)) (of_decide_eq_false c18))
  refine qx_iload_n d_QM_task_23 rfl rfl ?_
  refine qx_tabIn (t := 60) d_QM_task_24 (by decide) (by decide) rfl rfl ?_
  refine qx_aload_n d_QM_task_60 rfl rfl ?_
  refine qx_getR d_QM_task_61 fR_QM_63 rfl rfl (congrFun hR 41) ?_
  refine qx_iload_n d_QM_task_64 rfl rfl ?_
  refine qx_iald d_QM_task_65 rfl rfl rfl rfl (by omega) hv ?_
  exact qx_iret d_QM_task_66 rfl rfl (by omega) (by omega) ⟨rfl, rfl, rfl⟩
set_option maxRecDepth 100000 in
set_option maxHeartbeats 4000000 in
theorem ct_QM_task_1 {h : qH} (hR : h.2.2 122 = qRQM) (hwas : h.1 122 36 = b2i true) (nt : Nat) (hnt : h.1 122 40 = nI nt) (hnt16 : nt ≤ 16) (t : Nat) (ht : t < nt) (v : Int32) (hv : h.1 141 t = v) : qT mi_QM_task 1 0 0 [.ref 122, .int (nI t), .int (nI 1)] h NN (fun v1 h1 n1 => v1 = some (.int v) ∧ h = h1 ∧ n1 = NN) := by
  refine qT.of (lv0 := [_, _, _]) (by decide +kernel) (fun _ _ => Nat.le_of_ble_eq_true rfl) rfl ?_
  refine qx_aload_n d_QM_task_0 rfl rfl ?_
  refine qx_getI d_QM_task_1 fI_QM_299 rfl rfl hwas ?_
  refine qx_if_eqB (t := 21) d_QM_task_4 rfl (fun c4 => by cases c4) (fun c4 => ?_)
  refine qx_iload_n d_QM_task_7 rfl rfl ?_
  refine qx_iconstN (v := 0) d_QM_task_8 rfl ?_
  refine qx_aload_n d_QM_task_9 rfl rfl ?_
  refine qx_getI d_QM_task_10 fI_QM_258 rfl rfl hnt ?_
  refine qx_iconstN (v := 1) d_QM_task_13 rfl ?_
  refine qx_isubN d_QM_task_14 (by omega) ?_
  refine qx_callS (As := [_, _, _]) (rest := _) d_QM_task_15 lk_QM_103 y_QM_within s_QM_within rfl rfl rfl rfl (by decide) (by decide) (ct_QM_within _ _ _) ?_
  rintro _ _ _ ⟨rfl, rfl, rfl⟩
  refine qx_if_neB (t := 23) d_QM_task_18 rfl (fun c18 => ?_) (fun c18 => absurd (⟨nI_le (by omega) (by omega), nI_le (by omega) (by omega)⟩ : nI 0 ≤ nI t ∧ nI t ≤ nI (nt - 1)) (of_decide_eq_false c18))
  refine qx_iload_n d_QM_task_23 rfl rfl ?_
  refine qx_tabIn (t := 67) d_QM_task_24 (by decide) (by decide) rfl rfl ?_
  refine qx_aload_n d_QM_task_67 rfl rfl ?_
  refine qx_getR d_QM_task_68 fR_QM_66 rfl rfl (congrFun hR 42) ?_
  refine qx_iload_n d_QM_task_71 rfl rfl ?_
  refine qx_iald d_QM_task_72 rfl rfl rfl rfl (by omega) hv ?_
  exact qx_iret d_QM_task_73 rfl rfl (by omega) (by omega) ⟨rfl, rfl, rfl⟩
set_option maxRecDepth 100000 in
set_option maxHeartbeats 4000000 in
theorem ct_QM_task_2 {h : qH} (hR : h.2.2 122 = qRQM) (hwas : h.1 122 36 = b2i true) (nt : Nat) (hnt : h.1 122 40 = nI nt) (hnt16 : nt ≤ 16) (t : Nat) (ht : t < nt) (v : Int32) (hv : h.1 142 t = v) : qT mi_QM_task 1 0 0 [.ref 122, .int (nI t), .int (nI 2)] h NN (fun v1 h1 n1 => v1 = some (.int v) ∧ h = h1 ∧ n1 = NN) := by
  refine qT.of (lv0 := [_, _, _]) (by decide +kernel) (fun _ _ => Nat.le_of_ble_eq_true rfl) rfl ?_
  refine qx_aload_n d_QM_task_0 rfl rfl ?_
  refine qx_getI d_QM_task_1 fI_QM_299 rfl rfl hwas ?_
  refine qx_if_eqB (t := 21) d_QM_task_4 rfl (fun c4 => by cases c4) (fun c4 => ?_)
  refine qx_iload_n d_QM_task_7 rfl rfl ?_
  refine qx_iconstN (v := 0) d_QM_task_8 rfl ?_
  refine qx_aload_n d_QM_task_9 rfl rfl ?_
  refine qx_getI d_QM_task_10 fI_QM_258 rfl rfl hnt ?_
  refine qx_iconstN (v := 1) d_QM_task_13 rfl ?_
  refine qx_isubN d_QM_task_14 (by omega) ?_
  refine qx_callS (As := [_, _, _]) (rest := _) d_QM_task_15 lk_QM_103 y_QM_within s_QM_within rfl rfl rfl rfl (by decide) (by decide) (ct_QM_within _ _ _) ?_
  rintro _ _ _ ⟨rfl, rfl, rfl⟩
  refine qx_if_neB (t := 23) d_QM_task_18 rfl (fun c18 => ?_) (fun c18 => absurd (⟨nI_le (by omega) (by omega), nI_le (by omega) (by omega)⟩ : nI 0 ≤ nI t ∧ nI t ≤ nI (nt - 1)) (of_decide_eq_false c18))
  refine qx_iload_n d_QM_task_23 rfl rfl ?_
  refine qx_tabIn (t := 74) d_QM_task_24 (by decide) (by decide) rfl rfl ?_
  refine qx_aload_n d_QM_task_74 rfl rfl ?_
  refine qx_getR d_QM_task_75 fR_QM_69 rfl rfl (congrFun hR 43) ?_
  refine qx_iload_n d_QM_task_78 rfl rfl ?_
  refine qx_iald d_QM_task_79 rfl rfl rfl rfl (by omega) hv ?_
  exact qx_iret d_QM_task_80 rfl rfl (by omega) (by omega) ⟨rfl, rfl, rfl⟩
set_option maxRecDepth 100000 in
set_option maxHeartbeats 4000000 in
theorem ct_QM_task_3 {h : qH} (hR : h.2.2 122 = qRQM) (hwas : h.1 122 36 = b2i true) (nt : Nat) (hnt : h.1 122 40 = nI nt) (hnt16 : nt ≤ 16) (t : Nat) (ht : t < nt) (f : Bool) (hf : h.1 144 t = b2i f) : qT mi_QM_task 1 0 0 [.ref 122, .int (nI t), .int (nI 3)] h NN (fun v1 h1 n1 => v1 = some (.int (b2i f)) ∧ h = h1 ∧ n1 = NN) := by
  refine qT.of (lv0 := [_, _, _]) (by decide +kernel) (fun _ _ => Nat.le_of_ble_eq_true rfl) rfl ?_
  refine qx_aload_n d_QM_task_0 rfl rfl ?_
  refine qx_getI d_QM_task_1 fI_QM_299 rfl rfl hwas ?_
  refine qx_if_eqB (t := 21) d_QM_task_4 rfl (fun c4 => by cases c4) (fun c4 => ?_)
  refine qx_iload_n d_QM_task_7 rfl rfl ?_
  refine qx_iconstN (v := 0) d_QM_task_8 rfl ?_
  refine qx_aload_n d_QM_task_9 rfl rfl ?_
  refine qx_getI d_QM_task_10 fI_QM_258 rfl rfl hnt ?_
  refine qx_iconstN (v := 1) d_QM_task_13 rfl ?_
  refine qx_isubN d_QM_task_14 (by omega) ?_
  refine qx_callS (As := [_, _, _]) (rest := _) d_QM_task_15 lk_QM_103 y_QM_within s_QM_within rfl rfl rfl rfl (by decide) (by decide) (ct_QM_within _ _ _) ?_
  rintro _ _ _ ⟨rfl, rfl, rfl⟩
  refine qx_if_neB (t := 23) d_QM_task_18 rfl (fun c18 => ?_) (fun c18 => absurd (⟨nI_le (by omega) (by omega), nI_le (by omega) (by omega)⟩ : nI 0 ≤ nI t ∧ nI t ≤ nI (nt - 1)) (of_decide_eq_false c18))
  refine qx_iload_n d_QM_task_23 rfl rfl ?_
  refine qx_tabIn (t := 81) d_QM_task_24 (by decide) (by decide) rfl rfl ?_
  refine qx_aload_n d_QM_task_81 rfl rfl ?_
  refine qx_getR d_QM_task_82 fR_QM_75 rfl rfl (congrFun hR 45) ?_
  refine qx_iload_n d_QM_task_85 rfl rfl ?_
  refine qx_zald d_QM_task_86 rfl rfl rfl rfl (by omega) hf ?_
  refine qx_if_eqB (t := 94) d_QM_task_87 rfl (fun c87 => ?_) (fun c87 => ?_)
  · refine qx_iconstN (v := 0) d_QM_task_94 rfl ?_
    exact qx_iret d_QM_task_95 rfl rfl (by omega) (by omega) (by rw [c87]; exact ⟨rfl, rfl, rfl⟩)
  · refine qx_iconstN (v := 1) d_QM_task_90 rfl ?_
    refine qx_goto (t := 95) d_QM_task_91 rfl ?_
    exact qx_iret d_QM_task_95 rfl rfl (by omega) (by omega) (by rw [c87]; exact ⟨rfl, rfl, rfl⟩)
set_option maxRecDepth 100000 in
set_option maxHeartbeats 4000000 in
theorem ct_QM_task_4 {h : qH} (hR : h.2.2 122 = qRQM) (hwas : h.1 122 36 = b2i true) (nt : Nat) (hnt : h.1 122 40 = nI nt) (hnt16 : nt ≤ 16) (t : Nat) (ht : t < nt) (f : Bool) (hf : h.1 144 t = b2i f) (v : Int32) (hv : h.1 145 t = v) : qT mi_QM_task 1 0 0 [.ref 122, .int (nI t), .int (nI 4)] h NN (fun v1 h1 n1 => v1 = some (.int (if f = true then v else -1)) ∧ h = h1 ∧ n1 = NN) := by
  refine qT.of (lv0 := [_, _, _]) (by decide +kernel) (fun _ _ => Nat.le_of_ble_eq_true rfl) rfl ?_
  refine qx_aload_n d_QM_task_0 rfl rfl ?_
  refine qx_getI d_QM_task_1 fI_QM_299 rfl rfl hwas ?_
  refine qx_if_eqB (t := 21) d_QM_task_4 rfl (fun c4 => by cases c4) (fun c4 => ?_)
  refine qx_iload_n d_QM_task_7 rfl rfl ?_
  refine qx_iconstN (v := 0) d_QM_task_8 rfl ?_
  refine qx_aload_n d_QM_task_9 rfl rfl ?_
  refine qx_getI d_QM_task_10 fI_QM_258 rfl rfl hnt ?_
  refine qx_iconstN (v := 1) d_QM_task_13 rfl ?_
  refine qx_isubN d_QM_task_14 (by omega) ?_
  refine qx_callS (As := [_, _, _]) (rest := _) d_QM_task_15 lk_QM_103 y_QM_within s_QM_within rfl rfl rfl rfl (by decide) (by decide) (ct_QM_within _ _ _) ?_
  rintro _ _ _ ⟨rfl, rfl, rfl⟩
  refine qx_if_neB (t := 23) d_QM_task_18 rfl (fun c18 => ?_) (fun c18 => absurd (⟨nI_le (by omega) (by omega), nI_le (by omega) (by omega)⟩ : nI 0 ≤ nI t ∧ nI t ≤ nI (nt - 1)) (of_decide_eq_false c18))
  refine qx_iload_n d_QM_task_23 rfl rfl ?_
  refine qx_tabIn (t := 96) d_QM_task_24 (by decide) (by decide) rfl rfl ?_
  refine qx_aload_n d_QM_task_96 rfl rfl ?_
  refine qx_getR d_QM_task_97 fR_QM_75 rfl rfl (congrFun hR 45) ?_
  refine qx_iload_n d_QM_task_100 rfl rfl ?_
  refine qx_zald d_QM_task_101 rfl rfl rfl rfl (by omega) hf ?_
  refine qx_if_eqB (t := 114) d_QM_task_102 rfl (fun c102 => ?_) (fun c102 => ?_)
  · refine qx_iconst (v := (-1)) d_QM_task_114 rfl ?_
    exact qx_iret d_QM_task_115 rfl rfl (by omega) (by omega) (by rw [c102]; exact ⟨rfl, rfl, rfl⟩)
  · refine qx_aload_n d_QM_task_105 rfl rfl ?_
    refine qx_getR d_QM_task_106 fR_QM_78 rfl rfl (congrFun hR 46) ?_
    refine qx_iload_n d_QM_task_109 rfl rfl ?_
    refine qx_iald d_QM_task_110 rfl rfl rfl rfl (by omega) hv ?_
    refine qx_goto (t := 115) d_QM_task_111 rfl ?_
    exact qx_iret d_QM_task_115 rfl rfl (by omega) (by omega) (by rw [c102]; exact ⟨rfl, rfl, rfl⟩)
set_option maxRecDepth 100000 in
set_option maxHeartbeats 4000000 in
theorem ct_QM_task_out {h : qH} (hR : h.2.2 122 = qRQM) (hwas : h.1 122 36 = b2i true) (nt : Nat) (hnt : h.1 122 40 = nI nt) (hnt16 : nt ≤ 16) (t : Nat) (ht : t < nt) (x : Int32) (hx : x.toInt < 0 ∨ 4 < x.toInt) : qT mi_QM_task 1 0 0 [.ref 122, .int (nI t), .int x] h NN (fun v1 h1 n1 => v1 = some (.int (-1)) ∧ h = h1 ∧ n1 = NN) := by
  refine qT.of (lv0 := [_, _, _]) (by decide +kernel) (fun _ _ => Nat.le_of_ble_eq_true rfl) rfl ?_
  refine qx_aload_n d_QM_task_0 rfl rfl ?_
  refine qx_getI d_QM_task_1 fI_QM_299 rfl rfl hwas ?_
  refine qx_if_eqB (t := 21) d_QM_task_4 rfl (fun c4 => by cases c4) (fun c4 => ?_)
  refine qx_iload_n d_QM_task_7 rfl rfl ?_
  refine qx_iconstN (v := 0) d_QM_task_8 rfl ?_
  refine qx_aload_n d_QM_task_9 rfl rfl ?_
  refine qx_getI d_QM_task_10 fI_QM_258 rfl rfl hnt ?_
  refine qx_iconstN (v := 1) d_QM_task_13 rfl ?_
  refine qx_isubN d_QM_task_14 (by omega) ?_
  refine qx_callS (As := [_, _, _]) (rest := _) d_QM_task_15 lk_QM_103 y_QM_within s_QM_within rfl rfl rfl rfl (by decide) (by decide) (ct_QM_within _ _ _) ?_
  rintro _ _ _ ⟨rfl, rfl, rfl⟩
  refine qx_if_neB (t := 23) d_QM_task_18 rfl (fun c18 => ?_) (fun c18 => absurd (⟨nI_le (by omega) (by omega), nI_le (by omega) (by omega)⟩ : nI 0 ≤ nI t ∧ nI t ≤ nI (nt - 1)) (of_decide_eq_false c18))
  refine qx_iload_n d_QM_task_23 rfl rfl ?_
  refine qx_tabOut (t := 116) d_QM_task_24 hx rfl ?_
  refine qx_iconst (v := (-1)) d_QM_task_116 rfl ?_
  exact qx_iret d_QM_task_117 rfl rfl (by omega) (by omega) ⟨rfl, rfl, rfl⟩
set_option maxRecDepth 100000 in
set_option maxHeartbeats 4000000 in
theorem ct_QM_ended_no {h : qH} (x : Int32) (was on : Bool) (hwas : h.1 122 36 = b2i was) (hon : h.1 122 37 = b2i on) (hg : (was && !on) = false) : qT mi_QM_ended 0 0 0 [.ref 122, .int x] h NN (fun v1 h1 n1 => v1 = some (.int (-1)) ∧ h = h1 ∧ n1 = NN) := by
  refine qT.of (lv0 := [_, _]) (by decide +kernel) (fun _ _ => Nat.le_of_ble_eq_true rfl) rfl ?_
  refine qx_aload_n d_QM_ended_0 rfl rfl ?_
  refine qx_getI d_QM_ended_1 fI_QM_299 rfl rfl hwas ?_
  refine qx_if_eqB (t := 14) d_QM_ended_4 rfl (fun c4 => ?_) (fun c4 => ?_)
  · refine qx_iconst (v := (-1)) d_QM_ended_14 rfl ?_
    exact qx_iret d_QM_ended_15 rfl rfl (by omega) (by omega) ⟨rfl, rfl, rfl⟩
  · refine qx_aload_n d_QM_ended_7 rfl rfl ?_
    refine qx_getI d_QM_ended_8 fI_QM_99 rfl rfl hon ?_
    refine qx_if_eqB (t := 16) d_QM_ended_11 rfl (fun c11 => absurd hg (by rw [c4, c11]; decide)) (fun c11 => ?_)
    refine qx_iconst (v := (-1)) d_QM_ended_14 rfl ?_
    exact qx_iret d_QM_ended_15 rfl rfl (by omega) (by omega) ⟨rfl, rfl, rfl⟩
set_option maxRecDepth 100000 in
set_option maxHeartbeats 4000000 in
theorem ct_QM_ended_0 {h : qH} (hwas : h.1 122 36 = b2i true) (hon : h.1 122 37 = b2i false) (v : Int32) (hcn : h.1 122 33 = v) : qT mi_QM_ended 0 0 0 [.ref 122, .int (nI 0)] h NN (fun v1 h1 n1 => v1 = some (.int v) ∧ h = h1 ∧ n1 = NN) := by
  refine qT.of (lv0 := [_, _]) (by decide +kernel) (fun _ _ => Nat.le_of_ble_eq_true rfl) rfl ?_
  refine qx_aload_n d_QM_ended_0 rfl rfl ?_
  refine qx_getI d_QM_ended_1 fI_QM_299 rfl rfl hwas ?_
  refine qx_if_eqB (t := 14) d_QM_ended_4 rfl (fun c4 => by cases c4) (fun c4 => ?_)
  refine qx_aload_n d_QM_ended_7 rfl rfl ?_
  refine qx_getI d_QM_ended_8 fI_QM_99 rfl rfl hon ?_
  refine qx_if_eqB (t := 16) d_QM_ended_11 rfl (fun c11 => ?_) (fun c11 => by cases c11)
  refine qx_iload_n d_QM_ended_16 rfl rfl ?_
  refine qx_if_neN (t := 27) d_QM_ended_17 rfl (by omega) (fun c17 => absurd c17 (by decide)) (fun c17 => ?_)
  refine qx_aload_n d_QM_ended_20 rfl rfl ?_
  refine qx_getI d_QM_ended_21 fI_QM_287 rfl rfl hcn ?_
  refine qx_goto (t := 64) d_QM_ended_24 rfl ?_
  exact qx_iret d_QM_ended_64 rfl rfl (by omega) (by omega) ⟨rfl, rfl, rfl⟩
set_option maxRecDepth 100000 in
set_option maxHeartbeats 4000000 in
theorem ct_QM_ended_1 {h : qH} (hwas : h.1 122 36 = b2i true) (hon : h.1 122 37 = b2i false) (v : Int32) (hcl : h.1 122 34 = v) : qT mi_QM_ended 0 0 0 [.ref 122, .int (nI 1)] h NN (fun v1 h1 n1 => v1 = some (.int v) ∧ h = h1 ∧ n1 = NN) := by
  refine qT.of (lv0 := [_, _]) (by decide +kernel) (fun _ _ => Nat.le_of_ble_eq_true rfl) rfl ?_
  refine qx_aload_n d_QM_ended_0 rfl rfl ?_
  refine qx_getI d_QM_ended_1 fI_QM_299 rfl rfl hwas ?_
  refine qx_if_eqB (t := 14) d_QM_ended_4 rfl (fun c4 => by cases c4) (fun c4 => ?_)
  refine qx_aload_n d_QM_ended_7 rfl rfl ?_
  refine qx_getI d_QM_ended_8 fI_QM_99 rfl rfl hon ?_
  refine qx_if_eqB (t := 16) d_QM_ended_11 rfl (fun c11 => ?_) (fun c11 => by cases c11)
  refine qx_iload_n d_QM_ended_16 rfl rfl ?_
  refine qx_if_neN (t := 27) d_QM_ended_17 rfl (by omega) (fun c17 => ?_) (fun c17 => absurd c17 (by decide))
  refine qx_iload_n d_QM_ended_27 rfl rfl ?_
  refine qx_iconstN (v := 1) d_QM_ended_28 rfl ?_
  refine qx_icmp_neN (t := 39) d_QM_ended_29 rfl (by omega) (by omega) (fun c29 => absurd rfl c29) (fun c29 => ?_)
  refine qx_aload_n d_QM_ended_32 rfl rfl ?_
  refine qx_getI d_QM_ended_33 fI_QM_290 rfl rfl hcl ?_
  refine qx_goto (t := 64) d_QM_ended_36 rfl ?_
  exact qx_iret d_QM_ended_64 rfl rfl (by omega) (by omega) ⟨rfl, rfl, rfl⟩
set_option maxRecDepth 100000 in
set_option maxHeartbeats 4000000 in
theorem ct_QM_ended_2 {h : qH} (hwas : h.1 122 36 = b2i true) (hon : h.1 122 37 = b2i false) (v : Int32) (hso : h.1 122 35 = v) : qT mi_QM_ended 0 0 0 [.ref 122, .int (nI 2)] h NN (fun v1 h1 n1 => v1 = some (.int v) ∧ h = h1 ∧ n1 = NN) := by
  refine qT.of (lv0 := [_, _]) (by decide +kernel) (fun _ _ => Nat.le_of_ble_eq_true rfl) rfl ?_
  refine qx_aload_n d_QM_ended_0 rfl rfl ?_
  refine qx_getI d_QM_ended_1 fI_QM_299 rfl rfl hwas ?_
  refine qx_if_eqB (t := 14) d_QM_ended_4 rfl (fun c4 => by cases c4) (fun c4 => ?_)
  refine qx_aload_n d_QM_ended_7 rfl rfl ?_
  refine qx_getI d_QM_ended_8 fI_QM_99 rfl rfl hon ?_
  refine qx_if_eqB (t := 16) d_QM_ended_11 rfl (fun c11 => ?_) (fun c11 => by cases c11)
  refine qx_iload_n d_QM_ended_16 rfl rfl ?_
  refine qx_if_neN (t := 27) d_QM_ended_17 rfl (by omega) (fun c17 => ?_) (fun c17 => absurd c17 (by decide))
  refine qx_iload_n d_QM_ended_27 rfl rfl ?_
  refine qx_iconstN (v := 1) d_QM_ended_28 rfl ?_
  refine qx_icmp_neN (t := 39) d_QM_ended_29 rfl (by omega) (by omega) (fun c29 => ?_) (fun c29 => absurd c29 (by decide))
  refine qx_iload_n d_QM_ended_39 rfl rfl ?_
  refine qx_iconstN (v := 2) d_QM_ended_40 rfl ?_
  refine qx_icmp_neN (t := 51) d_QM_ended_41 rfl (by omega) (by omega) (fun c41 => absurd rfl c41) (fun c41 => ?_)
  refine qx_aload_n d_QM_ended_44 rfl rfl ?_
  refine qx_getI d_QM_ended_45 fI_QM_296 rfl rfl hso ?_
  refine qx_goto (t := 64) d_QM_ended_48 rfl ?_
  exact qx_iret d_QM_ended_64 rfl rfl (by omega) (by omega) ⟨rfl, rfl, rfl⟩
set_option maxRecDepth 100000 in
set_option maxHeartbeats 4000000 in
theorem ct_QM_ended_3 {h : qH} (hwas : h.1 122 36 = b2i true) (hon : h.1 122 37 = b2i false) (v : Int32) (hig : h.1 122 48 = v) : qT mi_QM_ended 0 0 0 [.ref 122, .int (nI 3)] h NN (fun v1 h1 n1 => v1 = some (.int v) ∧ h = h1 ∧ n1 = NN) := by
  refine qT.of (lv0 := [_, _]) (by decide +kernel) (fun _ _ => Nat.le_of_ble_eq_true rfl) rfl ?_
  refine qx_aload_n d_QM_ended_0 rfl rfl ?_
  refine qx_getI d_QM_ended_1 fI_QM_299 rfl rfl hwas ?_
  refine qx_if_eqB (t := 14) d_QM_ended_4 rfl (fun c4 => by cases c4) (fun c4 => ?_)
  refine qx_aload_n d_QM_ended_7 rfl rfl ?_
  refine qx_getI d_QM_ended_8 fI_QM_99 rfl rfl hon ?_
  refine qx_if_eqB (t := 16) d_QM_ended_11 rfl (fun c11 => ?_) (fun c11 => by cases c11)
  refine qx_iload_n d_QM_ended_16 rfl rfl ?_
  refine qx_if_neN (t := 27) d_QM_ended_17 rfl (by omega) (fun c17 => ?_) (fun c17 => absurd c17 (by decide))
  refine qx_iload_n d_QM_ended_27 rfl rfl ?_
  refine qx_iconstN (v := 1) d_QM_ended_28 rfl ?_
  refine qx_icmp_neN (t := 39) d_QM_ended_29 rfl (by omega) (by omega) (fun c29 => ?_) (fun c29 => absurd c29 (by decide))
  refine qx_iload_n d_QM_ended_39 rfl rfl ?_
  refine qx_iconstN (v := 2) d_QM_ended_40 rfl ?_
  refine qx_icmp_neN (t := 51) d_QM_ended_41 rfl (by omega) (by omega) (fun c41 => ?_) (fun c41 => absurd c41 (by decide))
  refine qx_iload_n d_QM_ended_51 rfl rfl ?_
  refine qx_iconstN (v := 3) d_QM_ended_52 rfl ?_
  refine qx_icmp_neN (t := 63) d_QM_ended_53 rfl (by omega) (by omega) (fun c53 => absurd rfl c53) (fun c53 => ?_)
  refine qx_aload_n d_QM_ended_56 rfl rfl ?_
  refine qx_getI d_QM_ended_57 fI_QM_305 rfl rfl hig ?_
  refine qx_goto (t := 64) d_QM_ended_60 rfl ?_
  exact qx_iret d_QM_ended_64 rfl rfl (by omega) (by omega) ⟨rfl, rfl, rfl⟩
set_option maxRecDepth 100000 in
set_option maxHeartbeats 4000000 in
theorem ct_QM_ended_out {h : qH} (hwas : h.1 122 36 = b2i true) (hon : h.1 122 37 = b2i false) (x : Int32) (hx : x.toInt < 0 ∨ 3 < x.toInt) : qT mi_QM_ended 0 0 0 [.ref 122, .int x] h NN (fun v1 h1 n1 => v1 = some (.int (-1)) ∧ h = h1 ∧ n1 = NN) := by
  refine qT.of (lv0 := [_, _]) (by decide +kernel) (fun _ _ => Nat.le_of_ble_eq_true rfl) rfl ?_
  refine qx_aload_n d_QM_ended_0 rfl rfl ?_
  refine qx_getI d_QM_ended_1 fI_QM_299 rfl rfl hwas ?_
  refine qx_if_eqB (t := 14) d_QM_ended_4 rfl (fun c4 => by cases c4) (fun c4 => ?_)
  refine qx_aload_n d_QM_ended_7 rfl rfl ?_
  refine qx_getI d_QM_ended_8 fI_QM_99 rfl rfl hon ?_
  refine qx_if_eqB (t := 16) d_QM_ended_11 rfl (fun c11 => ?_) (fun c11 => by cases c11)
  refine qx_iload_n d_QM_ended_16 rfl rfl ?_
  refine qx_if_ne (t := 27) d_QM_ended_17 rfl (fun c17 => ?_) (fun c17 => absurd c17 (by intro e; subst e; revert hx; decide))
  refine qx_iload_n d_QM_ended_27 rfl rfl ?_
  refine qx_iconstN (v := 1) d_QM_ended_28 rfl ?_
  refine qx_icmp_ne (t := 39) d_QM_ended_29 rfl (fun c29 => ?_) (fun c29 => absurd c29 (by intro e; subst e; revert hx; decide))
  refine qx_iload_n d_QM_ended_39 rfl rfl ?_
  refine qx_iconstN (v := 2) d_QM_ended_40 rfl ?_
  refine qx_icmp_ne (t := 51) d_QM_ended_41 rfl (fun c41 => ?_) (fun c41 => absurd c41 (by intro e; subst e; revert hx; decide))
  refine qx_iload_n d_QM_ended_51 rfl rfl ?_
  refine qx_iconstN (v := 3) d_QM_ended_52 rfl ?_
  refine qx_icmp_ne (t := 63) d_QM_ended_53 rfl (fun c53 => ?_) (fun c53 => absurd c53 (by intro e; subst e; revert hx; decide))
  refine qx_iconst (v := (-1)) d_QM_ended_63 rfl ?_
  exact qx_iret d_QM_ended_64 rfl rfl (by omega) (by omega) ⟨rfl, rfl, rfl⟩
set_option maxRecDepth 100000 in
set_option maxHeartbeats 4000000 in
theorem ct_QM_isCell {h : qH} (i c : Int32) (was on : Bool) (hwas : h.1 122 36 = b2i was) (hon : h.1 122 37 = b2i on) (cn cl : Nat) (hcn : h.1 122 33 = nI cn) (hcl : h.1 122 34 = nI cl) : qT mi_QM_isCell 1 0 0 [.ref 122, .int i, .int c] h NN (fun v1 h1 n1 => v1 = some (.int (b2i (was && (!on && (decide (nI 0 ≤ i ∧ i ≤ nI cn - nI 1) && decide (nI 0 ≤ c ∧ c ≤ nI cl - nI 1)))))) ∧ h = h1 ∧ n1 = NN) := by
  refine qT.of (lv0 := [_, _, _]) (by decide +kernel) (fun _ _ => Nat.le_of_ble_eq_true rfl) rfl ?_
  refine qx_aload_n d_QM_isCell_0 rfl rfl ?_
  refine qx_getI d_QM_isCell_1 fI_QM_299 rfl rfl hwas ?_
  refine qx_if_eqB (t := 46) d_QM_isCell_4 rfl (fun c4 => ?_) (fun c4 => ?_)
  · refine qx_iconstN (v := 0) d_QM_isCell_46 rfl ?_
    exact qx_iret d_QM_isCell_47 rfl rfl (by omega) (by omega) (by first | (rw [c4]; exact ⟨rfl, rfl, rfl⟩) | (rw [c4, c11]; exact ⟨rfl, rfl, rfl⟩) | (rw [c4, c11, c25]; exact ⟨rfl, rfl, rfl⟩) | (rw [c4, c11, c25, c39]; exact ⟨rfl, rfl, rfl⟩))
  · refine qx_aload_n d_QM_isCell_7 rfl rfl ?_
    refine qx_getI d_QM_isCell_8 fI_QM_99 rfl rfl hon ?_
    refine qx_if_neB (t := 46) d_QM_isCell_11 rfl (fun c11 => ?_) (fun c11 => ?_)
    · refine qx_iconstN (v := 0) d_QM_isCell_46 rfl ?_
      exact qx_iret d_QM_isCell_47 rfl rfl (by omega) (by omega) (by first | (rw [c4]; exact ⟨rfl, rfl, rfl⟩) | (rw [c4, c11]; exact ⟨rfl, rfl, rfl⟩) | (rw [c4, c11, c25]; exact ⟨rfl, rfl, rfl⟩) | (rw [c4, c11, c25, c39]; exact ⟨rfl, rfl, rfl⟩))
    · refine qx_iload_n d_QM_isCell_14 rfl rfl ?_
      refine qx_iconstN (v := 0) d_QM_isCell_15 rfl ?_
      refine qx_aload_n d_QM_isCell_16 rfl rfl ?_
      refine qx_getI d_QM_isCell_17 fI_QM_287 rfl rfl hcn ?_
      refine qx_iconstN (v := 1) d_QM_isCell_20 rfl ?_
      refine qx_isub d_QM_isCell_21 ?_
      refine qx_callS (As := [_, _, _]) (rest := _) d_QM_isCell_22 lk_QM_103 y_QM_within s_QM_within rfl rfl rfl rfl (by decide) (by decide) (ct_QM_within _ _ _) ?_
      rintro _ _ _ ⟨rfl, rfl, rfl⟩
      refine qx_if_eqB (t := 46) d_QM_isCell_25 rfl (fun c25 => ?_) (fun c25 => ?_)
      · refine qx_iconstN (v := 0) d_QM_isCell_46 rfl ?_
        exact qx_iret d_QM_isCell_47 rfl rfl (by omega) (by omega) (by first | (rw [c4]; exact ⟨rfl, rfl, rfl⟩) | (rw [c4, c11]; exact ⟨rfl, rfl, rfl⟩) | (rw [c4, c11, c25]; exact ⟨rfl, rfl, rfl⟩) | (rw [c4, c11, c25, c39]; exact ⟨rfl, rfl, rfl⟩))
      · refine qx_iload_n d_QM_isCell_28 rfl rfl ?_
        refine qx_iconstN (v := 0) d_QM_isCell_29 rfl ?_
        refine qx_aload_n d_QM_isCell_30 rfl rfl ?_
        refine qx_getI d_QM_isCell_31 fI_QM_290 rfl rfl hcl ?_
        refine qx_iconstN (v := 1) d_QM_isCell_34 rfl ?_
        refine qx_isub d_QM_isCell_35 ?_
        refine qx_callS (As := [_, _, _]) (rest := _) d_QM_isCell_36 lk_QM_103 y_QM_within s_QM_within rfl rfl rfl rfl (by decide) (by decide) (ct_QM_within _ _ _) ?_
        rintro _ _ _ ⟨rfl, rfl, rfl⟩
        refine qx_if_eqB (t := 46) d_QM_isCell_39 rfl (fun c39 => ?_) (fun c39 => ?_)
        · refine qx_iconstN (v := 0) d_QM_isCell_46 rfl ?_
          exact qx_iret d_QM_isCell_47 rfl rfl (by omega) (by omega) (by first | (rw [c4]; exact ⟨rfl, rfl, rfl⟩) | (rw [c4, c11]; exact ⟨rfl, rfl, rfl⟩) | (rw [c4, c11, c25]; exact ⟨rfl, rfl, rfl⟩) | (rw [c4, c11, c25, c39]; exact ⟨rfl, rfl, rfl⟩))
        · refine qx_iconstN (v := 1) d_QM_isCell_42 rfl ?_
          refine qx_goto (t := 47) d_QM_isCell_43 rfl ?_
          exact qx_iret d_QM_isCell_47 rfl rfl (by omega) (by omega) (by first | (rw [c4]; exact ⟨rfl, rfl, rfl⟩) | (rw [c4, c11]; exact ⟨rfl, rfl, rfl⟩) | (rw [c4, c11, c25]; exact ⟨rfl, rfl, rfl⟩) | (rw [c4, c11, c25, c39]; exact ⟨rfl, rfl, rfl⟩))
set_option maxRecDepth 100000 in
set_option maxHeartbeats 4000000 in
theorem ct_QM_cell_no {h : qH} (i c : Int32) (was on : Bool) (hwas : h.1 122 36 = b2i was) (hon : h.1 122 37 = b2i on) (cn cl : Nat) (hcn : h.1 122 33 = nI cn) (hcl : h.1 122 34 = nI cl) (hg : (was && (!on && (decide (nI 0 ≤ i ∧ i ≤ nI cn - nI 1) && decide (nI 0 ≤ c ∧ c ≤ nI cl - nI 1)))) = false) : qT mi_QM_cell 2 0 0 [.ref 122, .int i, .int c] h NN (fun v1 h1 n1 => v1 = some (.long 0) ∧ h = h1 ∧ n1 = NN) := by
  refine qT.of (lv0 := [_, _, _]) (by decide +kernel) (fun _ _ => Nat.le_of_ble_eq_true rfl) rfl ?_
  refine qx_aload_n d_QM_cell_0 rfl rfl ?_
  refine qx_iload_n d_QM_cell_1 rfl rfl ?_
  refine qx_iload_n d_QM_cell_2 rfl rfl ?_
  refine qx_callV (As := [_, _]) (rest := _) d_QM_cell_3 lk_QM_338 y_QM_isCell v_QM_isCell rfl rfl rfl (by decide) rfl rfl rfl rfl (by decide) (by decide) (ct_QM_isCell _ _ was on hwas hon cn cl hcn hcl) ?_
  rintro _ _ _ ⟨rfl, rfl, rfl⟩
  refine qx_if_eqB (t := 27) d_QM_cell_6 rfl (fun c6 => ?_) (fun c6 => absurd hg (by rw [c6]; decide))
  refine qx_lconst (v := 0) d_QM_cell_27 rfl ?_
  exact qx_lret d_QM_cell_28 rfl (by omega) (by omega) ⟨rfl, rfl, rfl⟩
set_option maxRecDepth 100000 in
set_option maxHeartbeats 4000000 in
theorem ct_QM_missing_no {h : qH} (i c : Int32) (was on : Bool) (hwas : h.1 122 36 = b2i was) (hon : h.1 122 37 = b2i on) (cn cl : Nat) (hcn : h.1 122 33 = nI cn) (hcl : h.1 122 34 = nI cl) (hg : (was && (!on && (decide (nI 0 ≤ i ∧ i ≤ nI cn - nI 1) && decide (nI 0 ≤ c ∧ c ≤ nI cl - nI 1)))) = false) : qT mi_QM_missing 2 0 0 [.ref 122, .int i, .int c] h NN (fun v1 h1 n1 => v1 = some (.int 0) ∧ h = h1 ∧ n1 = NN) := by
  refine qT.of (lv0 := [_, _, _]) (by decide +kernel) (fun _ _ => Nat.le_of_ble_eq_true rfl) rfl ?_
  refine qx_aload_n d_QM_missing_0 rfl rfl ?_
  refine qx_iload_n d_QM_missing_1 rfl rfl ?_
  refine qx_iload_n d_QM_missing_2 rfl rfl ?_
  refine qx_callV (As := [_, _]) (rest := _) d_QM_missing_3 lk_QM_338 y_QM_isCell v_QM_isCell rfl rfl rfl (by decide) rfl rfl rfl rfl (by decide) (by decide) (ct_QM_isCell _ _ was on hwas hon cn cl hcn hcl) ?_
  rintro _ _ _ ⟨rfl, rfl, rfl⟩
  refine qx_if_eqB (t := 31) d_QM_missing_6 rfl (fun c6 => ?_) (fun c6 => absurd hg (by rw [c6]; decide))
  refine qx_iconstN (v := 0) d_QM_missing_31 rfl ?_
  exact qx_iret d_QM_missing_32 rfl rfl (by omega) (by omega) ⟨rfl, rfl, rfl⟩
set_option maxRecDepth 100000 in
set_option maxHeartbeats 4000000 in
theorem ct_QM_cell {h : qH} (hR : h.2.2 122 = qRQM) (hwas : h.1 122 36 = b2i true) (hon : h.1 122 37 = b2i false) (cn cl : Nat) (hcn : h.1 122 33 = nI cn) (hcl : h.1 122 34 = nI cl) (hcn1 : cn ≤ 144) (hcl4 : cl ≤ 4) (i c : Nat) (hi : i < cn) (hc : c < cl) (p : Nat) (hp1 : p < 144) (hp : h.1 139 i = nI p) : qT mi_QM_cell 2 0 0 [.ref 122, .int (nI i), .int (nI c)] h NN (fun v1 h1 n1 => v1 = some (.long (h.2.1 137 (4 * p + c))) ∧ h = h1 ∧ n1 = NN) := by
  refine qT.of (lv0 := [_, _, _]) (by decide +kernel) (fun _ _ => Nat.le_of_ble_eq_true rfl) rfl ?_
  refine qx_aload_n d_QM_cell_0 rfl rfl ?_
  refine qx_iload_n d_QM_cell_1 rfl rfl ?_
  refine qx_iload_n d_QM_cell_2 rfl rfl ?_
  refine qx_callV (As := [_, _]) (rest := _) d_QM_cell_3 lk_QM_338 y_QM_isCell v_QM_isCell rfl rfl rfl (by decide) rfl rfl rfl rfl (by decide) (by decide) (ct_QM_isCell _ _ true false hwas hon cn cl hcn hcl) ?_
  rintro _ _ _ ⟨rfl, rfl, rfl⟩
  refine qx_if_eqB (t := 27) d_QM_cell_6 rfl (fun c6 => absurd c6 (by rw [q_wi hi (by omega), q_wi hc (by omega)]; decide)) (fun c6 => ?_)
  refine qx_aload_n d_QM_cell_9 rfl rfl ?_
  refine qx_getR d_QM_cell_10 fR_QM_54 rfl rfl (congrFun hR 30) ?_
  refine qx_iconstN (v := 4) d_QM_cell_13 rfl ?_
  refine qx_aload_n d_QM_cell_14 rfl rfl ?_
  refine qx_getR d_QM_cell_15 fR_QM_60 rfl rfl (congrFun hR 32) ?_
  refine qx_iload_n d_QM_cell_18 rfl rfl ?_
  refine qx_iald d_QM_cell_19 rfl rfl rfl rfl (by omega) hp ?_
  refine qx_imulN d_QM_cell_20 ?_
  refine qx_iload_n d_QM_cell_21 rfl rfl ?_
  refine qx_iaddN d_QM_cell_22 ?_
  refine qx_lald d_QM_cell_23 rfl rfl rfl rfl (by omega) rfl ?_
  refine qx_goto (t := 28) d_QM_cell_24 rfl ?_
  exact qx_lret d_QM_cell_28 rfl (by omega) (by omega) ⟨rfl, rfl, rfl⟩
set_option maxRecDepth 100000 in
set_option maxHeartbeats 4000000 in
theorem ct_QM_missing {h : qH} (hR : h.2.2 122 = qRQM) (hwas : h.1 122 36 = b2i true) (hon : h.1 122 37 = b2i false) (cn cl : Nat) (hcn : h.1 122 33 = nI cn) (hcl : h.1 122 34 = nI cl) (hcn1 : cn ≤ 144) (hcl4 : cl ≤ 4) (i c : Nat) (hi : i < cn) (hc : c < cl) (p : Nat) (hp1 : p < 144) (hp : h.1 139 i = nI p) (b : Bool) (hb : h.1 138 (4 * p + c) = b2i b) : qT mi_QM_missing 2 0 0 [.ref 122, .int (nI i), .int (nI c)] h NN (fun v1 h1 n1 => v1 = some (.int (b2i b)) ∧ h = h1 ∧ n1 = NN) := by
  refine qT.of (lv0 := [_, _, _]) (by decide +kernel) (fun _ _ => Nat.le_of_ble_eq_true rfl) rfl ?_
  refine qx_aload_n d_QM_missing_0 rfl rfl ?_
  refine qx_iload_n d_QM_missing_1 rfl rfl ?_
  refine qx_iload_n d_QM_missing_2 rfl rfl ?_
  refine qx_callV (As := [_, _]) (rest := _) d_QM_missing_3 lk_QM_338 y_QM_isCell v_QM_isCell rfl rfl rfl (by decide) rfl rfl rfl rfl (by decide) (by decide) (ct_QM_isCell _ _ true false hwas hon cn cl hcn hcl) ?_
  rintro _ _ _ ⟨rfl, rfl, rfl⟩
  refine qx_if_eqB (t := 31) d_QM_missing_6 rfl (fun c6 => absurd c6 (by rw [q_wi hi (by omega), q_wi hc (by omega)]; decide)) (fun c6 => ?_)
  refine qx_aload_n d_QM_missing_9 rfl rfl ?_
  refine qx_getR d_QM_missing_10 fR_QM_57 rfl rfl (congrFun hR 31) ?_
  refine qx_iconstN (v := 4) d_QM_missing_13 rfl ?_
  refine qx_aload_n d_QM_missing_14 rfl rfl ?_
  refine qx_getR d_QM_missing_15 fR_QM_60 rfl rfl (congrFun hR 32) ?_
  refine qx_iload_n d_QM_missing_18 rfl rfl ?_
  refine qx_iald d_QM_missing_19 rfl rfl rfl rfl (by omega) hp ?_
  refine qx_imulN d_QM_missing_20 ?_
  refine qx_iload_n d_QM_missing_21 rfl rfl ?_
  refine qx_iaddN d_QM_missing_22 ?_
  refine qx_zald d_QM_missing_23 rfl rfl rfl rfl (by omega) hb ?_
  refine qx_if_eqB (t := 31) d_QM_missing_24 rfl (fun c24 => ?_) (fun c24 => ?_)
  · refine qx_iconstN (v := 0) d_QM_missing_31 rfl ?_
    exact qx_iret d_QM_missing_32 rfl rfl (by omega) (by omega) (by rw [c24]; exact ⟨rfl, rfl, rfl⟩)
  · refine qx_iconstN (v := 1) d_QM_missing_27 rfl ?_
    refine qx_goto (t := 32) d_QM_missing_28 rfl ?_
    exact qx_iret d_QM_missing_32 rfl rfl (by omega) (by omega) (by rw [c24]; exact ⟨rfl, rfl, rfl⟩)
set_option maxRecDepth 100000 in
set_option maxHeartbeats 4000000 in
theorem ct_QM_shown {h : qH} (lm : Int32) (hlm : h.1 122 12 = lm) (rs : Nat) (hrs : h.1 122 28 = nI rs) : qT mi_QM_shown 0 0 0 [.ref 122] h NN (fun v1 h1 n1 => v1 = some (.int (if 0 ≤ lm ∧ lm < nI rs then lm else nI rs)) ∧ h = h1 ∧ n1 = NN) := by
  refine qT.of (lv0 := [_]) (by decide +kernel) (fun _ _ => Nat.le_of_ble_eq_true rfl) rfl ?_
  refine qx_aload_n d_QM_shown_0 rfl rfl ?_
  refine qx_getI d_QM_shown_1 fI_QM_135 rfl rfl hlm ?_
  refine qx_if_lt (t := 25) d_QM_shown_4 rfl (fun c4 => ?_) (fun c4 => ?_)
  · refine qx_aload_n d_QM_shown_25 rfl rfl ?_
    refine qx_getI d_QM_shown_26 fI_QM_207 rfl rfl hrs ?_
    exact qx_iret d_QM_shown_29 rfl rfl (by omega) (by omega) (by refine ⟨?_, rfl, rfl⟩; first | (rw [if_neg (fun q => absurd q.1 (Int32.not_le.mpr c4))]; done) | (rw [if_neg (fun q => absurd q.2 (Int32.not_lt.mpr c15))]; done) | (rw [if_pos ⟨Int32.not_lt.mp c4, Int32.not_le.mp c15⟩]; done))
  · refine qx_aload_n d_QM_shown_7 rfl rfl ?_
    refine qx_getI d_QM_shown_8 fI_QM_135 rfl rfl hlm ?_
    refine qx_aload_n d_QM_shown_11 rfl rfl ?_
    refine qx_getI d_QM_shown_12 fI_QM_207 rfl rfl hrs ?_
    refine qx_icmp_ge (t := 25) d_QM_shown_15 rfl (fun c15 => ?_) (fun c15 => ?_)
    · refine qx_aload_n d_QM_shown_25 rfl rfl ?_
      refine qx_getI d_QM_shown_26 fI_QM_207 rfl rfl hrs ?_
      exact qx_iret d_QM_shown_29 rfl rfl (by omega) (by omega) (by refine ⟨?_, rfl, rfl⟩; first | (rw [if_neg (fun q => absurd q.1 (Int32.not_le.mpr c4))]; done) | (rw [if_neg (fun q => absurd q.2 (Int32.not_lt.mpr c15))]; done) | (rw [if_pos ⟨Int32.not_lt.mp c4, Int32.not_le.mp c15⟩]; done))
    · refine qx_aload_n d_QM_shown_18 rfl rfl ?_
      refine qx_getI d_QM_shown_19 fI_QM_135 rfl rfl hlm ?_
      refine qx_goto (t := 29) d_QM_shown_22 rfl ?_
      exact qx_iret d_QM_shown_29 rfl rfl (by omega) (by omega) (by refine ⟨?_, rfl, rfl⟩; first | (rw [if_neg (fun q => absurd q.1 (Int32.not_le.mpr c4))]; done) | (rw [if_neg (fun q => absurd q.2 (Int32.not_lt.mpr c15))]; done) | (rw [if_pos ⟨Int32.not_lt.mp c4, Int32.not_le.mp c15⟩]; done))
def psl (m : Nat) : Nat → Nat → Nat
  | 0, _ => 0
  | f + 1, r => if r ≤ 1 then 0 else psl m f ((r + m - 2) / (m - 1)) + 1
theorem psl_lt {m r : Nat} (hm : 3 ≤ m) (hr : 1 < r) : (r + m - 2) / (m - 1) < r := by
  rw [Nat.div_lt_iff_lt_mul (by omega)]
  have h1 : r * 2 ≤ r * (m - 1) := Nat.mul_le_mul_left _ (by omega)
  have h2 : 2 * (m - 1) ≤ r * (m - 1) := Nat.mul_le_mul_right _ (by omega)
  omega
def psA (m n : Nat) : Nat := if n = 0 then 0 else 1 + psl m 200 ((n + m - 1) / m)
set_option maxRecDepth 100000 in
set_option maxHeartbeats 4000000 in
theorem ct_QM_passes {h : qH} (rs : Nat) (hr1 : rs ≤ 144) (hrs : h.1 122 28 = nI rs) (mm : Nat) (h3 : 3 ≤ mm) (hm8 : mm ≤ 8) (hmm : h.1 122 39 = nI mm) : qT mi_QM_passes 0 0 0 [.ref 122] h NN (fun v1 h1 n1 => v1 = some (.int (nI (psA mm rs))) ∧ h = h1 ∧ n1 = NN) := by
  refine qT.of (lv0 := [_, _, _]) (by decide +kernel) (fun _ _ => Nat.le_of_ble_eq_true rfl) rfl ?_
  have key : ∀ (f x k : Nat), x ≤ f → x ≤ 200 → (rs ≠ 0 → psA mm rs = k + psl mm f x) → rs ≠ 0 → qX mi_QM_passes 0 none 0 0 28 [.ref 122, .int (nI k), .int (nI x)] [] h NN 0 0 (fun v1 h1 n1 => v1 = some (.int (nI (psA mm rs))) ∧ h = h1 ∧ n1 = NN) := by
    intro f
    induction f with
    | zero =>
      intro x k hx h2 he h0
      refine qx_iload_n d_QM_passes_28 rfl rfl ?_
      refine qx_iconstN (v := 1) d_QM_passes_29 rfl ?_
      refine qx_icmp_leN (t := 55) d_QM_passes_30 rfl (by omega) (by omega) (fun c30 => ?_) (fun c30 => absurd c30 (by omega))
      refine qx_iload_n d_QM_passes_55 rfl rfl ?_
      exact qx_iret d_QM_passes_56 rfl rfl (by omega) (by omega) ⟨by rw [he h0]; rfl, rfl, rfl⟩
    | succ f ih =>
      intro x k hx h2 he h0
      have hs : psl mm (f + 1) x = if x ≤ 1 then 0 else psl mm f ((x + mm - 2) / (mm - 1)) + 1 := rfl
      refine qx_iload_n d_QM_passes_28 rfl rfl ?_
      refine qx_iconstN (v := 1) d_QM_passes_29 rfl ?_
      refine qx_icmp_leN (t := 55) d_QM_passes_30 rfl (by omega) (by omega) (fun c30 => ?_) (fun c30 => ?_)
      · refine qx_iload_n d_QM_passes_55 rfl rfl ?_
        exact qx_iret d_QM_passes_56 rfl rfl (by omega) (by omega) ⟨by rw [he h0, hs, if_pos c30]; rfl, rfl, rfl⟩
      · refine qx_iload_n d_QM_passes_33 rfl rfl ?_
        refine qx_aload_n d_QM_passes_34 rfl rfl ?_
        refine qx_getI d_QM_passes_35 fI_QM_272 rfl rfl hmm ?_
        refine qx_iaddN d_QM_passes_38 ?_
        refine qx_iconstN (v := 2) d_QM_passes_39 rfl ?_
        refine qx_isubN d_QM_passes_40 (by omega) ?_
        refine qx_aload_n d_QM_passes_41 rfl rfl ?_
        refine qx_getI d_QM_passes_42 fI_QM_272 rfl rfl hmm ?_
        refine qx_iconstN (v := 1) d_QM_passes_45 rfl ?_
        refine qx_isubN d_QM_passes_46 (by omega) ?_
        refine qx_idivN d_QM_passes_47 (by omega) (by omega) (by omega) ?_
        refine qx_istore_n (lv1 := [_, _, _]) d_QM_passes_48 rfl (by decide) rfl ?_
        refine qx_iincN (w := 1) (lv1 := [_, _, _]) d_QM_passes_49 rfl rfl (by decide) rfl ?_
        refine qx_goto (t := 28) d_QM_passes_52 rfl ?_
        have hl := psl_lt h3 c30
        exact ih _ (k + 1) (by omega) (by omega) (fun h0 => by rw [he h0, hs, if_neg (by omega)]; omega) h0
  refine qx_aload_n d_QM_passes_0 rfl rfl ?_
  refine qx_getI d_QM_passes_1 fI_QM_207 rfl rfl hrs ?_
  refine qx_if_neN (t := 9) d_QM_passes_4 rfl (by omega) (fun c4 => ?_) (fun c4 => ?_)
  · refine qx_iconstN (v := 1) d_QM_passes_9 rfl ?_
    refine qx_istore_n (lv1 := [_, _, _]) d_QM_passes_10 rfl (by decide) rfl ?_
    refine qx_aload_n d_QM_passes_11 rfl rfl ?_
    refine qx_getI d_QM_passes_12 fI_QM_207 rfl rfl hrs ?_
    refine qx_aload_n d_QM_passes_15 rfl rfl ?_
    refine qx_getI d_QM_passes_16 fI_QM_272 rfl rfl hmm ?_
    refine qx_iaddN d_QM_passes_19 ?_
    refine qx_iconstN (v := 1) d_QM_passes_20 rfl ?_
    refine qx_isubN d_QM_passes_21 (by omega) ?_
    refine qx_aload_n d_QM_passes_22 rfl rfl ?_
    refine qx_getI d_QM_passes_23 fI_QM_272 rfl rfl hmm ?_
    refine qx_idivN d_QM_passes_26 (by omega) (by omega) (by omega) ?_
    refine qx_istore_n (lv1 := [_, _, _]) d_QM_passes_27 rfl (by decide) rfl ?_
    have hd : (rs + mm - 1) / mm ≤ 144 := by
      have : (rs + mm - 1) / mm < 145 := by
        rw [Nat.div_lt_iff_lt_mul (by omega)]
        omega
      omega
    exact key 200 _ 1 (by omega) (by omega) (fun h0 => by unfold psA; rw [if_neg h0]) (by omega)
  · refine qx_iconstN (v := 0) d_QM_passes_7 rfl ?_
    exact qx_iret d_QM_passes_8 rfl rfl (by omega) (by omega) ⟨by unfold psA; rw [if_pos c4], rfl, rfl⟩
