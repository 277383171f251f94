set_option maxRecDepth 100000 in
set_option maxHeartbeats 4000000 in
theorem ct_QM_where {h : qH} (hR : h.2.2 122 = qRQM) (bg on : Bool) (hbeg : h.1 122 3 = b2i bg) (hon : h.1 122 37 = b2i on) (dep : Nat) (h8 : dep ≤ 8) (hdep : h.1 122 13 = nI dep) (nc : Nat) (hnc6 : nc ≤ 6) (hnc : h.1 122 14 = nI nc) (t0 : Bool) (ht0 : h.1 129 0 = b2i t0) (s0 : Nat) (hs24 : s0 ≤ 24) (hs0 : h.1 128 0 = nI s0) : qT mi_QM_where 1 0 0 [.ref 122] h NN (fun v1 h1 n1 => v1 = some (.int (b2i ((bg && !on) && (decide (dep = 1) && (t0 && decide (nc ≠ 6)))))) ∧ h1 = cond ((bg && !on) && (decide (dep = 1) && (t0 && decide (nc ≠ 6)))) (qpI (qpI (qpI (cpH h 0 (8 + nc) 0 s0) 128 (8 + nc) (nI s0)) 122 14 (nI (nc + 1))) 122 13 (nI 0)) h ∧ n1 = NN) := by
  refine qT.of (lv0 := [_]) (by decide +kernel) (fun _ _ => Nat.le_of_ble_eq_true rfl) rfl ?_
  refine qx_aload_n d_QM_where_0 rfl rfl ?_
  refine qx_callV (As := []) (rest := _) d_QM_where_1 lk_QM_147 y_QM_open v_QM_open rfl rfl rfl (by decide) rfl rfl rfl rfl (by decide) (by decide) (ct_QM_open bg on hbeg hon) ?_
  rintro _ _ _ ⟨rfl, rfl, rfl⟩
  refine qx_if_eqB (t := 33) d_QM_where_4 rfl (fun c4 => ?_) (fun c4 => ?_)
  · refine qx_iconstN (v := 0) d_QM_where_33 rfl ?_
    exact qx_iret d_QM_where_34 rfl rfl (by omega) (by omega) (by first | (rw [c4]; exact ⟨rfl, rfl, rfl⟩) | (rw [c4, decide_eq_true c12, c21]; exact ⟨rfl, rfl, rfl⟩) | (rw [c4, decide_eq_false c12]; exact ⟨rfl, rfl, rfl⟩) | (rw [c4, decide_eq_true c12, c21, decide_eq_true c30]; exact ⟨rfl, rfl, rfl⟩) | (rw [c4, decide_eq_true c12, c21, decide_eq_false (fun q => q c30)]; exact ⟨rfl, rfl, rfl⟩))
  · refine qx_aload_n d_QM_where_7 rfl rfl ?_
    refine qx_getI d_QM_where_8 fI_QM_138 rfl rfl hdep ?_
    refine qx_iconstN (v := 1) d_QM_where_11 rfl ?_
    refine qx_icmp_neN (t := 33) d_QM_where_12 rfl (by omega) (by omega) (fun c12 => ?_) (fun c12 => ?_)
    · refine qx_iconstN (v := 0) d_QM_where_33 rfl ?_
      exact qx_iret d_QM_where_34 rfl rfl (by omega) (by omega) (by first | (rw [c4]; exact ⟨rfl, rfl, rfl⟩) | (rw [c4, decide_eq_true c12, c21]; exact ⟨rfl, rfl, rfl⟩) | (rw [c4, decide_eq_false c12]; exact ⟨rfl, rfl, rfl⟩) | (rw [c4, decide_eq_true c12, c21, decide_eq_true c30]; exact ⟨rfl, rfl, rfl⟩) | (rw [c4, decide_eq_true c12, c21, decide_eq_false (fun q => q c30)]; exact ⟨rfl, rfl, rfl⟩))
    · refine qx_aload_n d_QM_where_15 rfl rfl ?_
      refine qx_getR d_QM_where_16 fR_QM_30 rfl rfl (congrFun hR 19) ?_
      refine qx_iconstN (v := 0) d_QM_where_19 rfl ?_
      refine qx_zald d_QM_where_20 rfl rfl rfl rfl (by omega) ht0 ?_
      refine qx_if_eqB (t := 33) d_QM_where_21 rfl (fun c21 => ?_) (fun c21 => ?_)
      · refine qx_iconstN (v := 0) d_QM_where_33 rfl ?_
        exact qx_iret d_QM_where_34 rfl rfl (by omega) (by omega) (by first | (rw [c4]; exact ⟨rfl, rfl, rfl⟩) | (rw [c4, decide_eq_true c12, c21]; exact ⟨rfl, rfl, rfl⟩) | (rw [c4, decide_eq_false c12]; exact ⟨rfl, rfl, rfl⟩) | (rw [c4, decide_eq_true c12, c21, decide_eq_true c30]; exact ⟨rfl, rfl, rfl⟩) | (rw [c4, decide_eq_true c12, c21, decide_eq_false (fun q => q c30)]; exact ⟨rfl, rfl, rfl⟩))
      · refine qx_aload_n d_QM_where_24 rfl rfl ?_
        refine qx_getI d_QM_where_25 fI_QM_141 rfl rfl hnc ?_
        refine qx_bipushN (v := 6) d_QM_where_28 rfl ?_
        refine qx_icmp_neN (t := 35) d_QM_where_30 rfl (by omega) (by omega) (fun c30 => ?_) (fun c30 => ?_)
        · refine qx_aload_n d_QM_where_35 rfl rfl ?_
          refine qx_iconstN (v := 0) d_QM_where_36 rfl ?_
          refine qx_bipushN (v := 8) d_QM_where_37 rfl ?_
          refine qx_aload_n d_QM_where_39 rfl rfl ?_
          refine qx_getI d_QM_where_40 fI_QM_141 rfl rfl hnc ?_
          refine qx_iaddN d_QM_where_43 ?_
          refine qx_iconstN (v := 0) d_QM_where_44 rfl ?_
          refine qx_callV (As := [_, _, _]) (rest := _) d_QM_where_45 lk_QM_159 y_QM_copy v_QM_copy rfl rfl rfl (by decide) rfl rfl rfl rfl (by decide) (by decide) (ct_QM_copy hR 0 (8 + nc) 0 s0 (by omega) (by omega) (by omega) (by omega) hs0) ?_
          rintro _ _ _ ⟨rfl, rfl, rfl⟩
          refine qx_aload_n d_QM_where_48 rfl rfl ?_
          refine qx_getR d_QM_where_49 fR_QM_27 rfl rfl (congrFun hR 18) ?_
          refine qx_bipushN (v := 8) d_QM_where_52 rfl ?_
          refine qx_aload_n d_QM_where_54 rfl rfl ?_
          refine qx_getI d_QM_where_55 fI_QM_141 rfl rfl hnc ?_
          refine qx_iaddN d_QM_where_58 ?_
          refine qx_aload_n d_QM_where_59 rfl rfl ?_
          refine qx_getR d_QM_where_60 fR_QM_27 rfl rfl (congrFun hR 18) ?_
          refine qx_iconstN (v := 0) d_QM_where_63 rfl ?_
          refine qx_iald d_QM_where_64 rfl rfl rfl rfl (by omega) hs0 ?_
          refine qx_iast d_QM_where_65 rfl rfl rfl rfl (by omega) ?_
          refine qx_aload_n d_QM_where_66 rfl rfl ?_
          refine qx_dup d_QM_where_67 rfl ?_
          refine qx_getI d_QM_where_68 fI_QM_141 rfl rfl hnc ?_
          refine qx_iconstN (v := 1) d_QM_where_71 rfl ?_
          refine qx_iaddN d_QM_where_72 ?_
          refine qx_putI d_QM_where_73 fI_QM_141 rfl rfl ⟨rfl, rfl⟩ ?_
          refine qx_aload_n d_QM_where_76 rfl rfl ?_
          refine qx_iconstN (v := 0) d_QM_where_77 rfl ?_
          refine qx_putI d_QM_where_78 fI_QM_138 rfl rfl ⟨rfl, rfl⟩ ?_
          refine qx_iconstN (v := 1) d_QM_where_81 rfl ?_
          exact qx_iret d_QM_where_82 rfl rfl (by omega) (by omega) (by first | (rw [c4]; exact ⟨rfl, rfl, rfl⟩) | (rw [c4, decide_eq_true c12, c21]; exact ⟨rfl, rfl, rfl⟩) | (rw [c4, decide_eq_false c12]; exact ⟨rfl, rfl, rfl⟩) | (rw [c4, decide_eq_true c12, c21, decide_eq_true c30]; exact ⟨rfl, rfl, rfl⟩) | (rw [c4, decide_eq_true c12, c21, decide_eq_false (fun q => q c30)]; exact ⟨rfl, rfl, rfl⟩))
        · refine qx_iconstN (v := 0) d_QM_where_33 rfl ?_
          exact qx_iret d_QM_where_34 rfl rfl (by omega) (by omega) (by first | (rw [c4]; exact ⟨rfl, rfl, rfl⟩) | (rw [c4, decide_eq_true c12, c21]; exact ⟨rfl, rfl, rfl⟩) | (rw [c4, decide_eq_false c12]; exact ⟨rfl, rfl, rfl⟩) | (rw [c4, decide_eq_true c12, c21, decide_eq_true c30]; exact ⟨rfl, rfl, rfl⟩) | (rw [c4, decide_eq_true c12, c21, decide_eq_false (fun q => q c30)]; exact ⟨rfl, rfl, rfl⟩))
set_option maxRecDepth 100000 in
set_option maxHeartbeats 4000000 in
theorem ct_QM_output_rows {h : qH} (hR : h.2.2 122 = qRQM) (bg on : Bool) (hbeg : h.1 122 3 = b2i bg) (hon : h.1 122 37 = b2i on) (dep : Nat) (h8 : dep ≤ 8) (hdep : h.1 122 13 = nI dep) (no : Nat) (hno3 : no ≤ 3) (hno : h.1 122 15 = nI no) : qT mi_QM_output 1 0 0 [.ref 122, .int (nI 1)] h NN (fun v1 h1 n1 => v1 = some (.int (b2i ((bg && !on) && (decide (no ≠ 3) && decide (dep = 0))))) ∧ h1 = cond ((bg && !on) && (decide (no ≠ 3) && decide (dep = 0))) (qpI (qpI (qpI (qpI h 128 (14 + no) (nI 0)) 130 no (nI 1)) 122 15 (nI (no + 1))) 122 13 (nI 0)) h ∧ n1 = NN) := by
  refine qT.of (lv0 := [_, _]) (by decide +kernel) (fun _ _ => Nat.le_of_ble_eq_true rfl) rfl ?_
  refine qx_aload_n d_QM_output_0 rfl rfl ?_
  refine qx_callV (As := []) (rest := _) d_QM_output_1 lk_QM_147 y_QM_open v_QM_open rfl rfl rfl (by decide) rfl rfl rfl rfl (by decide) (by decide) (ct_QM_open bg on hbeg hon) ?_
  rintro _ _ _ ⟨rfl, rfl, rfl⟩
  refine qx_if_eqB (t := 24) d_QM_output_4 rfl (fun c4 => ?_) (fun c4 => ?_)
  · refine qx_iconstN (v := 0) d_QM_output_24 rfl ?_
    exact qx_iret d_QM_output_25 rfl rfl (by omega) (by omega) (by first | (rw [c4]; exact ⟨rfl, rfl, rfl⟩) | (rw [c4, decide_eq_true c21, decide_eq_true c35]; exact ⟨rfl, rfl, rfl⟩) | (rw [c4, decide_eq_true c21, decide_eq_false (Nat.ne_of_gt c35)]; exact ⟨rfl, rfl, rfl⟩) | (rw [c4, decide_eq_false (fun q => q c21)]; exact ⟨rfl, rfl, rfl⟩))
  · refine qx_iload_n d_QM_output_7 rfl rfl ?_
    refine qx_iconstN (v := 0) d_QM_output_8 rfl ?_
    refine qx_iconstN (v := 5) d_QM_output_9 rfl ?_
    refine qx_callS (As := [_, _, _]) (rest := _) d_QM_output_10 lk_QM_103 y_QM_within s_QM_within rfl rfl rfl rfl (by decide) (by decide) (ct_QM_within _ _ _) ?_
    rintro _ _ _ ⟨rfl, rfl, rfl⟩
    refine qx_if_eqB (t := 24) d_QM_output_13 rfl (fun c13 => absurd c13 (by decide)) (fun c13 => ?_)
    refine qx_aload_n d_QM_output_16 rfl rfl ?_
    refine qx_getI d_QM_output_17 fI_QM_144 rfl rfl hno ?_
    refine qx_iconstN (v := 3) d_QM_output_20 rfl ?_
    refine qx_icmp_neN (t := 26) d_QM_output_21 rfl (by omega) (by omega) (fun c21 => ?_) (fun c21 => ?_)
    · refine qx_iload_n d_QM_output_26 rfl rfl ?_
      refine qx_iconstN (v := 1) d_QM_output_27 rfl ?_
      refine qx_icmp_neN (t := 41) d_QM_output_28 rfl (by omega) (by omega) (fun c28 => absurd rfl c28) (fun c28 => ?_)
      refine qx_aload_n d_QM_output_31 rfl rfl ?_
      refine qx_getI d_QM_output_32 fI_QM_138 rfl rfl hdep ?_
      refine qx_if_eqN (t := 60) d_QM_output_35 rfl (by omega) (fun c35 => ?_) (fun c35 => ?_)
      · refine qx_iload_n d_QM_output_60 rfl rfl ?_
        refine qx_iconstN (v := 1) d_QM_output_61 rfl ?_
        refine qx_icmp_eqN (t := 78) d_QM_output_62 rfl (by omega) (by omega) (fun c62 => ?_) (fun c62 => absurd rfl c62)
        refine qx_aload_n d_QM_output_78 rfl rfl ?_
        refine qx_getR d_QM_output_79 fR_QM_27 rfl rfl (congrFun hR 18) ?_
        refine qx_bipushN (v := 14) d_QM_output_82 rfl ?_
        refine qx_aload_n d_QM_output_84 rfl rfl ?_
        refine qx_getI d_QM_output_85 fI_QM_144 rfl rfl hno ?_
        refine qx_iaddN d_QM_output_88 ?_
        refine qx_iload_n d_QM_output_89 rfl rfl ?_
        refine qx_iconstN (v := 1) d_QM_output_90 rfl ?_
        refine qx_icmp_neN (t := 98) d_QM_output_91 rfl (by omega) (by omega) (fun c91 => absurd rfl c91) (fun c91 => ?_)
        refine qx_iconstN (v := 0) d_QM_output_94 rfl ?_
        refine qx_goto (t := 104) d_QM_output_95 rfl ?_
        refine qx_iast d_QM_output_104 rfl rfl rfl rfl (by omega) ?_
        refine qx_aload_n d_QM_output_105 rfl rfl ?_
        refine qx_getR d_QM_output_106 fR_QM_33 rfl rfl (congrFun hR 20) ?_
        refine qx_aload_n d_QM_output_109 rfl rfl ?_
        refine qx_getI d_QM_output_110 fI_QM_144 rfl rfl hno ?_
        refine qx_iload_n d_QM_output_113 rfl rfl ?_
        refine qx_iast d_QM_output_114 rfl rfl rfl rfl (by omega) ?_
        refine qx_aload_n d_QM_output_115 rfl rfl ?_
        refine qx_dup d_QM_output_116 rfl ?_
        refine qx_getI d_QM_output_117 fI_QM_144 rfl rfl hno ?_
        refine qx_iconstN (v := 1) d_QM_output_120 rfl ?_
        refine qx_iaddN d_QM_output_121 ?_
        refine qx_putI d_QM_output_122 fI_QM_144 rfl rfl ⟨rfl, rfl⟩ ?_
        refine qx_aload_n d_QM_output_125 rfl rfl ?_
        refine qx_iconstN (v := 0) d_QM_output_126 rfl ?_
        refine qx_putI d_QM_output_127 fI_QM_138 rfl rfl ⟨rfl, rfl⟩ ?_
        refine qx_iconstN (v := 1) d_QM_output_130 rfl ?_
        exact qx_iret d_QM_output_131 rfl rfl (by omega) (by omega) (by first | (rw [c4]; exact ⟨rfl, rfl, rfl⟩) | (rw [c4, decide_eq_true c21, decide_eq_true c35]; exact ⟨rfl, rfl, rfl⟩) | (rw [c4, decide_eq_true c21, decide_eq_false (Nat.ne_of_gt c35)]; exact ⟨rfl, rfl, rfl⟩) | (rw [c4, decide_eq_false (fun q => q c21)]; exact ⟨rfl, rfl, rfl⟩))
      · refine qx_goto (t := 58) d_QM_output_38 rfl ?_
        refine qx_iconstN (v := 0) d_QM_output_58 rfl ?_
        exact qx_iret d_QM_output_59 rfl rfl (by omega) (by omega) (by first | (rw [c4]; exact ⟨rfl, rfl, rfl⟩) | (rw [c4, decide_eq_true c21, decide_eq_true c35]; exact ⟨rfl, rfl, rfl⟩) | (rw [c4, decide_eq_true c21, decide_eq_false (Nat.ne_of_gt c35)]; exact ⟨rfl, rfl, rfl⟩) | (rw [c4, decide_eq_false (fun q => q c21)]; exact ⟨rfl, rfl, rfl⟩))
    · refine qx_iconstN (v := 0) d_QM_output_24 rfl ?_
      exact qx_iret d_QM_output_25 rfl rfl (by omega) (by omega) (by first | (rw [c4]; exact ⟨rfl, rfl, rfl⟩) | (rw [c4, decide_eq_true c21, decide_eq_true c35]; exact ⟨rfl, rfl, rfl⟩) | (rw [c4, decide_eq_true c21, decide_eq_false (Nat.ne_of_gt c35)]; exact ⟨rfl, rfl, rfl⟩) | (rw [c4, decide_eq_false (fun q => q c21)]; exact ⟨rfl, rfl, rfl⟩))
set_option maxRecDepth 100000 in
set_option maxHeartbeats 4000000 in
theorem ct_QM_output_of {h : qH} (k : Int32) (hk1 : ¬ k = nI 1) (hR : h.2.2 122 = qRQM) (bg on : Bool) (hbeg : h.1 122 3 = b2i bg) (hon : h.1 122 37 = b2i on) (dep : Nat) (h8 : dep ≤ 8) (hdep : h.1 122 13 = nI dep) (no : Nat) (hno3 : no ≤ 3) (hno : h.1 122 15 = nI no) (t0 : Bool) (ht0 : h.1 129 0 = b2i t0) (s0 : Nat) (hs24 : s0 ≤ 24) (hs0 : h.1 128 0 = nI s0) : qT mi_QM_output 1 0 0 [.ref 122, .int k] h NN (fun v1 h1 n1 => v1 = some (.int (b2i ((bg && !on) && (decide (nI 0 ≤ k ∧ k ≤ nI 5) && (decide (no ≠ 3) && (decide (dep = 1) && !t0)))))) ∧ h1 = cond ((bg && !on) && (decide (nI 0 ≤ k ∧ k ≤ nI 5) && (decide (no ≠ 3) && (decide (dep = 1) && !t0)))) (qpI (qpI (qpI (qpI (cpH h 0 (14 + no) 0 s0) 128 (14 + no) (nI s0)) 130 no k) 122 15 (nI (no + 1))) 122 13 (nI 0)) h ∧ n1 = NN) := by
  refine qT.of (lv0 := [_, _]) (by decide +kernel) (fun _ _ => Nat.le_of_ble_eq_true rfl) rfl ?_
  refine qx_aload_n d_QM_output_0 rfl rfl ?_
  refine qx_callV (As := []) (rest := _) d_QM_output_1 lk_QM_147 y_QM_open v_QM_open rfl rfl rfl (by decide) rfl rfl rfl rfl (by decide) (by decide) (ct_QM_open bg on hbeg hon) ?_
  rintro _ _ _ ⟨rfl, rfl, rfl⟩
  refine qx_if_eqB (t := 24) d_QM_output_4 rfl (fun c4 => ?_) (fun c4 => ?_)
  · refine qx_iconstN (v := 0) d_QM_output_24 rfl ?_
    exact qx_iret d_QM_output_25 rfl rfl (by omega) (by omega) (by first | (rw [c4]; exact ⟨rfl, rfl, rfl⟩) | (rw [c4, c13]; exact ⟨rfl, rfl, rfl⟩) | (rw [c4, c13, decide_eq_true c21, decide_eq_true c46, c55]; exact ⟨rfl, rfl, rfl⟩) | (rw [c4, c13, decide_eq_true c21, decide_eq_false c46]; exact ⟨rfl, rfl, rfl⟩) | (rw [c4, c13, decide_eq_false (fun q => q c21)]; exact ⟨rfl, rfl, rfl⟩))
  · refine qx_iload_n d_QM_output_7 rfl rfl ?_
    refine qx_iconstN (v := 0) d_QM_output_8 rfl ?_
    refine qx_iconstN (v := 5) d_QM_output_9 rfl ?_
    refine qx_callS (As := [_, _, _]) (rest := _) d_QM_output_10 lk_QM_103 y_QM_within s_QM_within rfl rfl rfl rfl (by decide) (by decide) (ct_QM_within _ _ _) ?_
    rintro _ _ _ ⟨rfl, rfl, rfl⟩
    refine qx_if_eqB (t := 24) d_QM_output_13 rfl (fun c13 => ?_) (fun c13 => ?_)
    · refine qx_iconstN (v := 0) d_QM_output_24 rfl ?_
      exact qx_iret d_QM_output_25 rfl rfl (by omega) (by omega) (by first | (rw [c4]; exact ⟨rfl, rfl, rfl⟩) | (rw [c4, c13]; exact ⟨rfl, rfl, rfl⟩) | (rw [c4, c13, decide_eq_true c21, decide_eq_true c46, c55]; exact ⟨rfl, rfl, rfl⟩) | (rw [c4, c13, decide_eq_true c21, decide_eq_false c46]; exact ⟨rfl, rfl, rfl⟩) | (rw [c4, c13, decide_eq_false (fun q => q c21)]; exact ⟨rfl, rfl, rfl⟩))
    · refine qx_aload_n d_QM_output_16 rfl rfl ?_
      refine qx_getI d_QM_output_17 fI_QM_144 rfl rfl hno ?_
      refine qx_iconstN (v := 3) d_QM_output_20 rfl ?_
      refine qx_icmp_neN (t := 26) d_QM_output_21 rfl (by omega) (by omega) (fun c21 => ?_) (fun c21 => ?_)
      · refine qx_iload_n d_QM_output_26 rfl rfl ?_
        refine qx_iconstN (v := 1) d_QM_output_27 rfl ?_
        refine qx_icmp_ne (t := 41) d_QM_output_28 rfl (fun c28 => ?_) (fun c28 => absurd c28 hk1)
        refine qx_aload_n d_QM_output_41 rfl rfl ?_
        refine qx_getI d_QM_output_42 fI_QM_138 rfl rfl hdep ?_
        refine qx_iconstN (v := 1) d_QM_output_45 rfl ?_
        refine qx_icmp_neN (t := 58) d_QM_output_46 rfl (by omega) (by omega) (fun c46 => ?_) (fun c46 => ?_)
        · refine qx_iconstN (v := 0) d_QM_output_58 rfl ?_
          exact qx_iret d_QM_output_59 rfl rfl (by omega) (by omega) (by first | (rw [c4]; exact ⟨rfl, rfl, rfl⟩) | (rw [c4, c13]; exact ⟨rfl, rfl, rfl⟩) | (rw [c4, c13, decide_eq_true c21, decide_eq_true c46, c55]; exact ⟨rfl, rfl, rfl⟩) | (rw [c4, c13, decide_eq_true c21, decide_eq_false c46]; exact ⟨rfl, rfl, rfl⟩) | (rw [c4, c13, decide_eq_false (fun q => q c21)]; exact ⟨rfl, rfl, rfl⟩))
        · refine qx_aload_n d_QM_output_49 rfl rfl ?_
          refine qx_getR d_QM_output_50 fR_QM_30 rfl rfl (congrFun hR 19) ?_
          refine qx_iconstN (v := 0) d_QM_output_53 rfl ?_
          refine qx_zald d_QM_output_54 rfl rfl rfl rfl (by omega) ht0 ?_
          refine qx_if_eqB (t := 60) d_QM_output_55 rfl (fun c55 => ?_) (fun c55 => ?_)
          · refine qx_iload_n d_QM_output_60 rfl rfl ?_
            refine qx_iconstN (v := 1) d_QM_output_61 rfl ?_
            refine qx_icmp_eq (t := 78) d_QM_output_62 rfl (fun c62 => absurd c62 hk1) (fun c62 => ?_)
            refine qx_aload_n d_QM_output_65 rfl rfl ?_
            refine qx_iconstN (v := 0) d_QM_output_66 rfl ?_
            refine qx_bipushN (v := 14) d_QM_output_67 rfl ?_
            refine qx_aload_n d_QM_output_69 rfl rfl ?_
            refine qx_getI d_QM_output_70 fI_QM_144 rfl rfl hno ?_
            refine qx_iaddN d_QM_output_73 ?_
            refine qx_iconstN (v := 0) d_QM_output_74 rfl ?_
            refine qx_callV (As := [_, _, _]) (rest := _) d_QM_output_75 lk_QM_159 y_QM_copy v_QM_copy rfl rfl rfl (by decide) rfl rfl rfl rfl (by decide) (by decide) (ct_QM_copy hR 0 (14 + no) 0 s0 (by omega) (by omega) (by omega) (by omega) hs0) ?_
            rintro _ _ _ ⟨rfl, rfl, rfl⟩
            refine qx_aload_n d_QM_output_78 rfl rfl ?_
            refine qx_getR d_QM_output_79 fR_QM_27 rfl rfl (congrFun hR 18) ?_
            refine qx_bipushN (v := 14) d_QM_output_82 rfl ?_
            refine qx_aload_n d_QM_output_84 rfl rfl ?_
            refine qx_getI d_QM_output_85 fI_QM_144 rfl rfl hno ?_
            refine qx_iaddN d_QM_output_88 ?_
            refine qx_iload_n d_QM_output_89 rfl rfl ?_
            refine qx_iconstN (v := 1) d_QM_output_90 rfl ?_
            refine qx_icmp_ne (t := 98) d_QM_output_91 rfl (fun c91 => ?_) (fun c91 => absurd c91 hk1)
            refine qx_aload_n d_QM_output_98 rfl rfl ?_
            refine qx_getR d_QM_output_99 fR_QM_27 rfl rfl (congrFun hR 18) ?_
            refine qx_iconstN (v := 0) d_QM_output_102 rfl ?_
            refine qx_iald d_QM_output_103 rfl rfl rfl rfl (by omega) hs0 ?_
            refine qx_iast d_QM_output_104 rfl rfl rfl rfl (by omega) ?_
            refine qx_aload_n d_QM_output_105 rfl rfl ?_
            refine qx_getR d_QM_output_106 fR_QM_33 rfl rfl (congrFun hR 20) ?_
            refine qx_aload_n d_QM_output_109 rfl rfl ?_
            refine qx_getI d_QM_output_110 fI_QM_144 rfl rfl hno ?_
            refine qx_iload_n d_QM_output_113 rfl rfl ?_
            refine qx_iast d_QM_output_114 rfl rfl rfl rfl (by omega) ?_
            refine qx_aload_n d_QM_output_115 rfl rfl ?_
            refine qx_dup d_QM_output_116 rfl ?_
            refine qx_getI d_QM_output_117 fI_QM_144 rfl rfl hno ?_
            refine qx_iconstN (v := 1) d_QM_output_120 rfl ?_
            refine qx_iaddN d_QM_output_121 ?_
            refine qx_putI d_QM_output_122 fI_QM_144 rfl rfl ⟨rfl, rfl⟩ ?_
            refine qx_aload_n d_QM_output_125 rfl rfl ?_
            refine qx_iconstN (v := 0) d_QM_output_126 rfl ?_
            refine qx_putI d_QM_output_127 fI_QM_138 rfl rfl ⟨rfl, rfl⟩ ?_
            refine qx_iconstN (v := 1) d_QM_output_130 rfl ?_
            exact qx_iret d_QM_output_131 rfl rfl (by omega) (by omega) (by first | (rw [c4]; exact ⟨rfl, rfl, rfl⟩) | (rw [c4, c13]; exact ⟨rfl, rfl, rfl⟩) | (rw [c4, c13, decide_eq_true c21, decide_eq_true c46, c55]; exact ⟨rfl, rfl, rfl⟩) | (rw [c4, c13, decide_eq_true c21, decide_eq_false c46]; exact ⟨rfl, rfl, rfl⟩) | (rw [c4, c13, decide_eq_false (fun q => q c21)]; exact ⟨rfl, rfl, rfl⟩))
          · refine qx_iconstN (v := 0) d_QM_output_58 rfl ?_
            exact qx_iret d_QM_output_59 rfl rfl (by omega) (by omega) (by first | (rw [c4]; exact ⟨rfl, rfl, rfl⟩) | (rw [c4, c13]; exact ⟨rfl, rfl, rfl⟩) | (rw [c4, c13, decide_eq_true c21, decide_eq_true c46, c55]; exact ⟨rfl, rfl, rfl⟩) | (rw [c4, c13, decide_eq_true c21, decide_eq_false c46]; exact ⟨rfl, rfl, rfl⟩) | (rw [c4, c13, decide_eq_false (fun q => q c21)]; exact ⟨rfl, rfl, rfl⟩))
      · refine qx_iconstN (v := 0) d_QM_output_24 rfl ?_
        exact qx_iret d_QM_output_25 rfl rfl (by omega) (by omega) (by first | (rw [c4]; exact ⟨rfl, rfl, rfl⟩) | (rw [c4, c13]; exact ⟨rfl, rfl, rfl⟩) | (rw [c4, c13, decide_eq_true c21, decide_eq_true c46, c55]; exact ⟨rfl, rfl, rfl⟩) | (rw [c4, c13, decide_eq_true c21, decide_eq_false c46]; exact ⟨rfl, rfl, rfl⟩) | (rw [c4, c13, decide_eq_false (fun q => q c21)]; exact ⟨rfl, rfl, rfl⟩))
/-- how many of the first k outputs are plain -/
def plc (ok : Nat → Int32) : Nat → Nat
  | 0 => 0
  | k + 1 => if ok k = 0 then plc ok k + 1 else plc ok k
theorem plc_le (ok : Nat → Int32) : ∀ k, plc ok k ≤ k
  | 0 => Nat.le_refl _
  | k + 1 => by
    unfold plc
    have := plc_le ok k
    split <;> omega
def rform (ok : Nat → Int32) (no : Nat) (gr : Int32) : Int32 := if plc ok no = 0 then (if 0 < no ∨ 0 ≤ gr then 1 else -1) else (if plc ok no = no ∧ gr < 0 then 0 else -1)
set_option maxRecDepth 100000 in
set_option maxHeartbeats 4000000 in
theorem ct_QM_form {h : qH} (hR : h.2.2 122 = qRQM) (no : Nat) (hno3 : no ≤ 3) (hno : h.1 122 15 = nI no) (gr : Int32) (hgr : h.1 122 9 = gr) : qT mi_QM_form 0 0 0 [.ref 122] h NN (fun v1 h1 n1 => v1 = some (.int (rform (h.1 130) no gr)) ∧ h = h1 ∧ n1 = NN) := by
  refine qT.of (lv0 := [_, _, _]) (by decide +kernel) (fun _ _ => Nat.le_of_ble_eq_true rfl) rfl ?_
  have key : ∀ (m i : Nat), i + m = no → qX mi_QM_form 0 none 0 0 4 [.ref 122, .int (nI (plc (h.1 130) i)), .int (nI i)] [] h NN 0 0 (fun v1 h1 n1 => v1 = some (.int (rform (h.1 130) no gr)) ∧ h = h1 ∧ n1 = NN) := by
    intro m
    induction m with
    | zero =>
      intro i hi
      have e : i = no := by omega
      subst e
      have hpl := plc_le (h.1 130) i
      refine qx_iload_n d_QM_form_4 rfl rfl ?_
      refine qx_aload_n d_QM_form_5 rfl rfl ?_
      refine qx_getI d_QM_form_6 fI_QM_144 rfl rfl hno ?_
      refine qx_icmp_geN (t := 35) d_QM_form_9 rfl (by omega) (by omega) (fun c9 => ?_) (fun c9 => absurd c9 (by omega))
      refine qx_iload_n d_QM_form_35 rfl rfl ?_
      refine qx_if_neN (t := 59) d_QM_form_36 rfl (by omega) (fun c36 => ?_) (fun c36 => ?_)
      · refine qx_iload_n d_QM_form_59 rfl rfl ?_
        refine qx_aload_n d_QM_form_60 rfl rfl ?_
        refine qx_getI d_QM_form_61 fI_QM_144 rfl rfl hno ?_
        refine qx_icmp_neN (t := 78) d_QM_form_64 rfl (by omega) (by omega) (fun c64 => ?_) (fun c64 => ?_)
        · refine qx_iconst (v := (-1)) d_QM_form_78 rfl ?_
          exact qx_iret d_QM_form_79 rfl rfl (by omega) (by omega) (by refine ⟨?_, rfl, rfl⟩; unfold rform; first | (rw [if_pos c36, if_pos (Or.inl c43)]; done) | (rw [if_pos c36, if_pos (Or.inr (Int32.not_lt.mp c50))]; done) | (rw [if_pos c36, if_neg (fun q => q.elim (fun e => by omega) (fun e => absurd c50 (Int32.not_lt.mpr e)))]; done) | (rw [if_neg (by omega), if_pos ⟨c64, Int32.not_le.mp c71⟩]; done) | (rw [if_neg (by omega), if_neg (fun q => absurd c71 (Int32.not_le.mpr q.2))]; done) | (rw [if_neg (by omega), if_neg (fun q => c64 q.1)]; done))
        · refine qx_aload_n d_QM_form_67 rfl rfl ?_
          refine qx_getI d_QM_form_68 fI_QM_126 rfl rfl hgr ?_
          refine qx_if_ge (t := 78) d_QM_form_71 rfl (fun c71 => ?_) (fun c71 => ?_)
          · refine qx_iconst (v := (-1)) d_QM_form_78 rfl ?_
            exact qx_iret d_QM_form_79 rfl rfl (by omega) (by omega) (by refine ⟨?_, rfl, rfl⟩; unfold rform; first | (rw [if_pos c36, if_pos (Or.inl c43)]; done) | (rw [if_pos c36, if_pos (Or.inr (Int32.not_lt.mp c50))]; done) | (rw [if_pos c36, if_neg (fun q => q.elim (fun e => by omega) (fun e => absurd c50 (Int32.not_lt.mpr e)))]; done) | (rw [if_neg (by omega), if_pos ⟨c64, Int32.not_le.mp c71⟩]; done) | (rw [if_neg (by omega), if_neg (fun q => absurd c71 (Int32.not_le.mpr q.2))]; done) | (rw [if_neg (by omega), if_neg (fun q => c64 q.1)]; done))
          · refine qx_iconst (v := 0) d_QM_form_74 rfl ?_
            refine qx_goto (t := 79) d_QM_form_75 rfl ?_
            exact qx_iret d_QM_form_79 rfl rfl (by omega) (by omega) (by refine ⟨?_, rfl, rfl⟩; unfold rform; first | (rw [if_pos c36, if_pos (Or.inl c43)]; done) | (rw [if_pos c36, if_pos (Or.inr (Int32.not_lt.mp c50))]; done) | (rw [if_pos c36, if_neg (fun q => q.elim (fun e => by omega) (fun e => absurd c50 (Int32.not_lt.mpr e)))]; done) | (rw [if_neg (by omega), if_pos ⟨c64, Int32.not_le.mp c71⟩]; done) | (rw [if_neg (by omega), if_neg (fun q => absurd c71 (Int32.not_le.mpr q.2))]; done) | (rw [if_neg (by omega), if_neg (fun q => c64 q.1)]; done))
      · refine qx_aload_n d_QM_form_39 rfl rfl ?_
        refine qx_getI d_QM_form_40 fI_QM_144 rfl rfl hno ?_
        refine qx_if_gtN (t := 53) d_QM_form_43 rfl (by omega) (fun c43 => ?_) (fun c43 => ?_)
        · refine qx_iconst (v := 1) d_QM_form_53 rfl ?_
          refine qx_goto (t := 58) d_QM_form_54 rfl ?_
          exact qx_iret d_QM_form_58 rfl rfl (by omega) (by omega) (by refine ⟨?_, rfl, rfl⟩; unfold rform; first | (rw [if_pos c36, if_pos (Or.inl c43)]; done) | (rw [if_pos c36, if_pos (Or.inr (Int32.not_lt.mp c50))]; done) | (rw [if_pos c36, if_neg (fun q => q.elim (fun e => by omega) (fun e => absurd c50 (Int32.not_lt.mpr e)))]; done) | (rw [if_neg (by omega), if_pos ⟨c64, Int32.not_le.mp c71⟩]; done) | (rw [if_neg (by omega), if_neg (fun q => absurd c71 (Int32.not_le.mpr q.2))]; done) | (rw [if_neg (by omega), if_neg (fun q => c64 q.1)]; done))
        · refine qx_aload_n d_QM_form_46 rfl rfl ?_
          refine qx_getI d_QM_form_47 fI_QM_126 rfl rfl hgr ?_
          refine qx_if_lt (t := 57) d_QM_form_50 rfl (fun c50 => ?_) (fun c50 => ?_)
          · refine qx_iconst (v := (-1)) d_QM_form_57 rfl ?_
            exact qx_iret d_QM_form_58 rfl rfl (by omega) (by omega) (by refine ⟨?_, rfl, rfl⟩; unfold rform; first | (rw [if_pos c36, if_pos (Or.inl c43)]; done) | (rw [if_pos c36, if_pos (Or.inr (Int32.not_lt.mp c50))]; done) | (rw [if_pos c36, if_neg (fun q => q.elim (fun e => by omega) (fun e => absurd c50 (Int32.not_lt.mpr e)))]; done) | (rw [if_neg (by omega), if_pos ⟨c64, Int32.not_le.mp c71⟩]; done) | (rw [if_neg (by omega), if_neg (fun q => absurd c71 (Int32.not_le.mpr q.2))]; done) | (rw [if_neg (by omega), if_neg (fun q => c64 q.1)]; done))
          · refine qx_iconst (v := 1) d_QM_form_53 rfl ?_
            refine qx_goto (t := 58) d_QM_form_54 rfl ?_
            exact qx_iret d_QM_form_58 rfl rfl (by omega) (by omega) (by refine ⟨?_, rfl, rfl⟩; unfold rform; first | (rw [if_pos c36, if_pos (Or.inl c43)]; done) | (rw [if_pos c36, if_pos (Or.inr (Int32.not_lt.mp c50))]; done) | (rw [if_pos c36, if_neg (fun q => q.elim (fun e => by omega) (fun e => absurd c50 (Int32.not_lt.mpr e)))]; done) | (rw [if_neg (by omega), if_pos ⟨c64, Int32.not_le.mp c71⟩]; done) | (rw [if_neg (by omega), if_neg (fun q => absurd c71 (Int32.not_le.mpr q.2))]; done) | (rw [if_neg (by omega), if_neg (fun q => c64 q.1)]; done))
    | succ m ih =>
      intro i hi
      have hpl := plc_le (h.1 130) i
      have hs : plc (h.1 130) (i + 1) = if (h.1 130) i = 0 then plc (h.1 130) i + 1 else plc (h.1 130) i := rfl
      refine qx_iload_n d_QM_form_4 rfl rfl ?_
      refine qx_aload_n d_QM_form_5 rfl rfl ?_
      refine qx_getI d_QM_form_6 fI_QM_144 rfl rfl hno ?_
      refine qx_icmp_geN (t := 35) d_QM_form_9 rfl (by omega) (by omega) (fun c9 => absurd c9 (by omega)) (fun c9 => ?_)
      refine qx_aload_n d_QM_form_12 rfl rfl ?_
      refine qx_getR d_QM_form_13 fR_QM_33 rfl rfl (congrFun hR 20) ?_
      refine qx_iload_n d_QM_form_16 rfl rfl ?_
      refine qx_iald d_QM_form_17 rfl rfl rfl rfl (by omega) rfl ?_
      refine qx_if_ne (t := 27) d_QM_form_18 rfl (fun c18 => ?_) (fun c18 => ?_)
      · refine qx_iload_n d_QM_form_27 rfl rfl ?_
        refine qx_istore_n (lv1 := [_, _, _]) d_QM_form_28 rfl (by decide) rfl ?_
        refine qx_iincN (w := 1) (lv1 := [_, _, _]) d_QM_form_29 rfl rfl (by decide) rfl ?_
        refine qx_goto (t := 4) d_QM_form_32 rfl ?_
        first | exact qx_eq rfl (by rw [hs, if_pos c18]) rfl rfl (ih (i + 1) (by omega)) | exact qx_eq rfl (by rw [hs, if_neg c18]) rfl rfl (ih (i + 1) (by omega))
      · refine qx_iload_n d_QM_form_21 rfl rfl ?_
        refine qx_iconstN (v := 1) d_QM_form_22 rfl ?_
        refine qx_iaddN d_QM_form_23 ?_
        refine qx_goto (t := 28) d_QM_form_24 rfl ?_
        refine qx_istore_n (lv1 := [_, _, _]) d_QM_form_28 rfl (by decide) rfl ?_
        refine qx_iincN (w := 1) (lv1 := [_, _, _]) d_QM_form_29 rfl rfl (by decide) rfl ?_
        refine qx_goto (t := 4) d_QM_form_32 rfl ?_
        first | exact qx_eq rfl (by rw [hs, if_pos c18]) rfl rfl (ih (i + 1) (by omega)) | exact qx_eq rfl (by rw [hs, if_neg c18]) rfl rfl (ih (i + 1) (by omega))
  refine qx_iconstN (v := 0) d_QM_form_0 rfl ?_
  refine qx_istore_n (lv1 := [_, _, _]) d_QM_form_1 rfl (by decide) rfl ?_
  refine qx_iconstN (v := 0) d_QM_form_2 rfl ?_
  refine qx_istore_n (lv1 := [_, _, _]) d_QM_form_3 rfl (by decide) rfl ?_
  exact key no 0 (by omega)
