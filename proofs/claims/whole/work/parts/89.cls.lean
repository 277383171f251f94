theorem in_t {k n : Nat} (h : k < n) (hn : n < 2 ^ 31) : decide (0 ≤ nI k ∧ nI k < nI n) = true := decide_eq_true ⟨nI_le (a := 0) (by omega) (by omega), nI_lt h hn⟩
theorem in_of {x : Int32} {n : Nat} (hn : n < 2 ^ 31) (h : decide (0 ≤ x ∧ x < nI n) = true) : ∃ k, k < n ∧ x = nI k := by
  obtain ⟨h1, h2⟩ := of_decide_eq_true h
  rw [Int32.le_iff_toInt_le] at h1
  rw [Int32.lt_iff_toInt_lt, nn_toInt hn] at h2
  have h0 : (0 : Int32).toInt = 0 := rfl
  rw [h0] at h1
  refine ⟨x.toInt.toNat, by omega, ?_⟩
  apply Int32.toInt_inj.mp
  rw [nn_toInt (by omega)]
  omega
theorem in_eq {x : Int32} {n : Nat} (h1 : 1 ≤ n) (hn : n < 2 ^ 31) : decide (0 ≤ x ∧ x < nI n) = decide (nI 0 ≤ x ∧ x ≤ nI n - nI 1) := by
  rw [pk_sub h1]
  refine decide_eq_decide.mpr ⟨fun q => ⟨q.1, ?_⟩, fun q => ⟨q.1, ?_⟩⟩
  · have q2 := q.2
    rw [Int32.lt_iff_toInt_lt, nn_toInt hn] at q2
    rw [Int32.le_iff_toInt_le, nn_toInt (by omega)]
    omega
  · have q2 := q.2
    rw [Int32.le_iff_toInt_le, nn_toInt (by omega)] at q2
    rw [Int32.lt_iff_toInt_lt, nn_toInt hn]
    omega
set_option maxRecDepth 100000 in
set_option maxHeartbeats 4000000 in
theorem ct_QF_row_no {h : qH} (hQ : h.2.2 0 = qRQF) (on : Bool) (hon : h.1 83 0 = b2i on) (t x y nl : Int32) (hg : (!on && (decide (0 ≤ t ∧ t < nI 3) && decide (0 ≤ nl ∧ nl < nI 4))) = false) : qT mi_QF_row 1 0 0 [.ref 0, .int t, .int x, .int y, .int nl] h NN (fun v1 h1 n1 => v1 = some (.int (-1)) ∧ h = h1 ∧ n1 = NN) := by
  refine qT.of (lv0 := [_, _, _, _, _]) (by decide +kernel) (fun _ _ => Nat.le_of_ble_eq_true rfl) rfl ?_
  refine qx_aload_n d_QF_row_0 rfl rfl ?_
  refine qx_getR d_QF_row_1 fR_QF_36 rfl rfl (congrFun hQ 4) ?_
  refine qx_getI d_QF_row_4 fI_QF_40 rfl rfl hon ?_
  refine qx_if_neB (t := 27) d_QF_row_7 rfl (fun c7 => ?_) (fun c7 => ?_)
  · refine qx_iconst (v := (-1)) d_QF_row_27 rfl ?_
    exact qx_iret d_QF_row_28 rfl rfl (by omega) (by omega) ⟨rfl, rfl, rfl⟩
  · refine qx_iload_n d_QF_row_10 rfl rfl ?_
    refine qx_iconstN (v := 3) d_QF_row_11 rfl ?_
    refine qx_callS (As := [_, _]) (rest := _) d_QF_row_12 lk_QF_44 y_QF_isIn s_QF_isIn rfl rfl rfl rfl (by decide) (by decide) (ct_QF_isIn _ _) ?_
    rintro _ _ _ ⟨rfl, rfl, rfl⟩
    refine qx_if_eqB (t := 27) d_QF_row_15 rfl (fun c15 => ?_) (fun c15 => ?_)
    · refine qx_iconst (v := (-1)) d_QF_row_27 rfl ?_
      exact qx_iret d_QF_row_28 rfl rfl (by omega) (by omega) ⟨rfl, rfl, rfl⟩
    · refine qx_iload d_QF_row_18 rfl ?_
      refine qx_iconstN (v := 4) d_QF_row_20 rfl ?_
      refine qx_callS (As := [_, _]) (rest := _) d_QF_row_21 lk_QF_44 y_QF_isIn s_QF_isIn rfl rfl rfl rfl (by decide) (by decide) (ct_QF_isIn _ _) ?_
      rintro _ _ _ ⟨rfl, rfl, rfl⟩
      refine qx_if_neB (t := 29) d_QF_row_24 rfl (fun c24 => absurd hg (by rw [c7, c15, c24]; decide)) (fun c24 => ?_)
      refine qx_iconst (v := (-1)) d_QF_row_27 rfl ?_
      exact qx_iret d_QF_row_28 rfl rfl (by omega) (by omega) ⟨rfl, rfl, rfl⟩
set_option maxRecDepth 100000 in
set_option maxHeartbeats 4000000 in
theorem ct_QF_row_0 {h : qH} (hQ : h.2.2 0 = qRQF) (hon : h.1 83 0 = b2i false) (h2 : h.2.2 2 0 = some 70) (hT : h.2.2 70 = qRTb 0) (x y nl : Int32) (hnl : decide (0 ≤ nl ∧ nl < nI 4) = true) (sz : Nat) (hs12 : sz ≤ 12) (hsz : h.1 70 2 = nI sz) : qT mi_QF_row 1 0 0 [.ref 0, .int (nI 0), .int x, .int y, .int nl] h NN (fun v1 h1 n1 => v1 = some (.int (if sz < 12 then nI (sz + 1) else -2)) ∧ h1 = (if sz < 12 then (qpI (qpI (qpI (qpI (qpI h 71 (sz * 2) x) 72 (sz * 2) (b2i (decide (¬ nl &&& nI 1 = 0)))) 71 (sz * 2 + 1) y) 72 (sz * 2 + 1) (b2i (decide (¬ nl &&& nI 2 = 0)))) 70 2 (nI (sz + 1))) else h) ∧ n1 = NN) := by
  refine qT.of (lv0 := [_, _, _, _, _]) (by decide +kernel) (fun _ _ => Nat.le_of_ble_eq_true rfl) rfl ?_
  refine qx_aload_n d_QF_row_0 rfl rfl ?_
  refine qx_getR d_QF_row_1 fR_QF_36 rfl rfl (congrFun hQ 4) ?_
  refine qx_getI d_QF_row_4 fI_QF_40 rfl rfl hon ?_
  refine qx_if_neB (t := 27) d_QF_row_7 rfl (fun c7 => by cases c7) (fun c7 => ?_)
  refine qx_iload_n d_QF_row_10 rfl rfl ?_
  refine qx_iconstN (v := 3) d_QF_row_11 rfl ?_
  refine qx_callS (As := [_, _]) (rest := _) d_QF_row_12 lk_QF_44 y_QF_isIn s_QF_isIn rfl rfl rfl rfl (by decide) (by decide) (ct_QF_isIn _ _) ?_
  rintro _ _ _ ⟨rfl, rfl, rfl⟩
  refine qx_if_eqB (t := 27) d_QF_row_15 rfl (fun c15 => absurd c15 (by rw [in_t (by omega) (by omega)]; decide)) (fun c15 => ?_)
  refine qx_iload d_QF_row_18 rfl ?_
  refine qx_iconstN (v := 4) d_QF_row_20 rfl ?_
  refine qx_callS (As := [_, _]) (rest := _) d_QF_row_21 lk_QF_44 y_QF_isIn s_QF_isIn rfl rfl rfl rfl (by decide) (by decide) (ct_QF_isIn _ _) ?_
  rintro _ _ _ ⟨rfl, rfl, rfl⟩
  refine qx_if_neB (t := 29) d_QF_row_24 rfl (fun c24 => ?_) (fun c24 => absurd c24 (by rw [hnl]; decide))
  refine qx_aload_n d_QF_row_29 rfl rfl ?_
  refine qx_getR d_QF_row_30 fR_QF_20 rfl rfl (congrFun hQ 1) ?_
  refine qx_iload_n d_QF_row_33 rfl rfl ?_
  refine qx_aald (j := 0) (t := 0)  d_QF_row_34 rfl (fun _ => rfl) rfl rfl rfl (by omega) h2 ?_
  refine qx_iload_n d_QF_row_35 rfl rfl ?_
  refine qx_iload_n d_QF_row_36 rfl rfl ?_
  refine qx_iload d_QF_row_37 rfl ?_
  refine qx_callV (As := [_, _, _]) (rest := _) d_QF_row_39 lk_QF_48 y_Tb_add v_Tb_add rfl rfl rfl (by decide) rfl rfl rfl rfl (by decide) (by decide) (ct_Tb_add_0 hT x y nl sz hs12 hsz) ?_
  rintro _ _ _ ⟨rfl, rfl, rfl⟩
  exact qx_iret d_QF_row_42 rfl rfl (by omega) (by omega) ⟨rfl, rfl, rfl⟩
set_option maxRecDepth 100000 in
set_option maxHeartbeats 4000000 in
theorem ct_QF_row_1 {h : qH} (hQ : h.2.2 0 = qRQF) (hon : h.1 83 0 = b2i false) (h2 : h.2.2 2 1 = some 73) (hT : h.2.2 73 = qRTb 1) (x y nl : Int32) (hnl : decide (0 ≤ nl ∧ nl < nI 4) = true) (sz : Nat) (hs12 : sz ≤ 12) (hsz : h.1 73 2 = nI sz) : qT mi_QF_row 1 0 0 [.ref 0, .int (nI 1), .int x, .int y, .int nl] h NN (fun v1 h1 n1 => v1 = some (.int (if sz < 12 then nI (sz + 1) else -2)) ∧ h1 = (if sz < 12 then (qpI (qpI (qpI (qpI (qpI h 74 (sz * 2) x) 75 (sz * 2) (b2i (decide (¬ nl &&& nI 1 = 0)))) 74 (sz * 2 + 1) y) 75 (sz * 2 + 1) (b2i (decide (¬ nl &&& nI 2 = 0)))) 73 2 (nI (sz + 1))) else h) ∧ n1 = NN) := by
  refine qT.of (lv0 := [_, _, _, _, _]) (by decide +kernel) (fun _ _ => Nat.le_of_ble_eq_true rfl) rfl ?_
  refine qx_aload_n d_QF_row_0 rfl rfl ?_
  refine qx_getR d_QF_row_1 fR_QF_36 rfl rfl (congrFun hQ 4) ?_
  refine qx_getI d_QF_row_4 fI_QF_40 rfl rfl hon ?_
  refine qx_if_neB (t := 27) d_QF_row_7 rfl (fun c7 => by cases c7) (fun c7 => ?_)
  refine qx_iload_n d_QF_row_10 rfl rfl ?_
  refine qx_iconstN (v := 3) d_QF_row_11 rfl ?_
  refine qx_callS (As := [_, _]) (rest := _) d_QF_row_12 lk_QF_44 y_QF_isIn s_QF_isIn rfl rfl rfl rfl (by decide) (by decide) (ct_QF_isIn _ _) ?_
  rintro _ _ _ ⟨rfl, rfl, rfl⟩
  refine qx_if_eqB (t := 27) d_QF_row_15 rfl (fun c15 => absurd c15 (by rw [in_t (by omega) (by omega)]; decide)) (fun c15 => ?_)
  refine qx_iload d_QF_row_18 rfl ?_
  refine qx_iconstN (v := 4) d_QF_row_20 rfl ?_
  refine qx_callS (As := [_, _]) (rest := _) d_QF_row_21 lk_QF_44 y_QF_isIn s_QF_isIn rfl rfl rfl rfl (by decide) (by decide) (ct_QF_isIn _ _) ?_
  rintro _ _ _ ⟨rfl, rfl, rfl⟩
  refine qx_if_neB (t := 29) d_QF_row_24 rfl (fun c24 => ?_) (fun c24 => absurd c24 (by rw [hnl]; decide))
  refine qx_aload_n d_QF_row_29 rfl rfl ?_
  refine qx_getR d_QF_row_30 fR_QF_20 rfl rfl (congrFun hQ 1) ?_
  refine qx_iload_n d_QF_row_33 rfl rfl ?_
  refine qx_aald (j := 1) (t := 0)  d_QF_row_34 rfl (fun _ => rfl) rfl rfl rfl (by omega) h2 ?_
  refine qx_iload_n d_QF_row_35 rfl rfl ?_
  refine qx_iload_n d_QF_row_36 rfl rfl ?_
  refine qx_iload d_QF_row_37 rfl ?_
  refine qx_callV (As := [_, _, _]) (rest := _) d_QF_row_39 lk_QF_48 y_Tb_add v_Tb_add rfl rfl rfl (by decide) rfl rfl rfl rfl (by decide) (by decide) (ct_Tb_add_1 hT x y nl sz hs12 hsz) ?_
  rintro _ _ _ ⟨rfl, rfl, rfl⟩
  exact qx_iret d_QF_row_42 rfl rfl (by omega) (by omega) ⟨rfl, rfl, rfl⟩
set_option maxRecDepth 100000 in
set_option maxHeartbeats 4000000 in
theorem ct_QF_row_2 {h : qH} (hQ : h.2.2 0 = qRQF) (hon : h.1 83 0 = b2i false) (h2 : h.2.2 2 2 = some 76) (hT : h.2.2 76 = qRTb 2) (x y nl : Int32) (hnl : decide (0 ≤ nl ∧ nl < nI 4) = true) (sz : Nat) (hs12 : sz ≤ 12) (hsz : h.1 76 2 = nI sz) : qT mi_QF_row 1 0 0 [.ref 0, .int (nI 2), .int x, .int y, .int nl] h NN (fun v1 h1 n1 => v1 = some (.int (if sz < 12 then nI (sz + 1) else -2)) ∧ h1 = (if sz < 12 then (qpI (qpI (qpI (qpI (qpI h 77 (sz * 2) x) 78 (sz * 2) (b2i (decide (¬ nl &&& nI 1 = 0)))) 77 (sz * 2 + 1) y) 78 (sz * 2 + 1) (b2i (decide (¬ nl &&& nI 2 = 0)))) 76 2 (nI (sz + 1))) else h) ∧ n1 = NN) := by
  refine qT.of (lv0 := [_, _, _, _, _]) (by decide +kernel) (fun _ _ => Nat.le_of_ble_eq_true rfl) rfl ?_
  refine qx_aload_n d_QF_row_0 rfl rfl ?_
  refine qx_getR d_QF_row_1 fR_QF_36 rfl rfl (congrFun hQ 4) ?_
  refine qx_getI d_QF_row_4 fI_QF_40 rfl rfl hon ?_
  refine qx_if_neB (t := 27) d_QF_row_7 rfl (fun c7 => by cases c7) (fun c7 => ?_)
  refine qx_iload_n d_QF_row_10 rfl rfl ?_
  refine qx_iconstN (v := 3) d_QF_row_11 rfl ?_
  refine qx_callS (As := [_, _]) (rest := _) d_QF_row_12 lk_QF_44 y_QF_isIn s_QF_isIn rfl rfl rfl rfl (by decide) (by decide) (ct_QF_isIn _ _) ?_
  rintro _ _ _ ⟨rfl, rfl, rfl⟩
  refine qx_if_eqB (t := 27) d_QF_row_15 rfl (fun c15 => absurd c15 (by rw [in_t (by omega) (by omega)]; decide)) (fun c15 => ?_)
  refine qx_iload d_QF_row_18 rfl ?_
  refine qx_iconstN (v := 4) d_QF_row_20 rfl ?_
  refine qx_callS (As := [_, _]) (rest := _) d_QF_row_21 lk_QF_44 y_QF_isIn s_QF_isIn rfl rfl rfl rfl (by decide) (by decide) (ct_QF_isIn _ _) ?_
  rintro _ _ _ ⟨rfl, rfl, rfl⟩
  refine qx_if_neB (t := 29) d_QF_row_24 rfl (fun c24 => ?_) (fun c24 => absurd c24 (by rw [hnl]; decide))
  refine qx_aload_n d_QF_row_29 rfl rfl ?_
  refine qx_getR d_QF_row_30 fR_QF_20 rfl rfl (congrFun hQ 1) ?_
  refine qx_iload_n d_QF_row_33 rfl rfl ?_
  refine qx_aald (j := 2) (t := 0)  d_QF_row_34 rfl (fun _ => rfl) rfl rfl rfl (by omega) h2 ?_
  refine qx_iload_n d_QF_row_35 rfl rfl ?_
  refine qx_iload_n d_QF_row_36 rfl rfl ?_
  refine qx_iload d_QF_row_37 rfl ?_
  refine qx_callV (As := [_, _, _]) (rest := _) d_QF_row_39 lk_QF_48 y_Tb_add v_Tb_add rfl rfl rfl (by decide) rfl rfl rfl rfl (by decide) (by decide) (ct_Tb_add_2 hT x y nl sz hs12 hsz) ?_
  rintro _ _ _ ⟨rfl, rfl, rfl⟩
  exact qx_iret d_QF_row_42 rfl rfl (by omega) (by omega) ⟨rfl, rfl, rfl⟩
set_option maxRecDepth 100000 in
set_option maxHeartbeats 4000000 in
theorem ct_QF_from_no {h : qH} (hQ : h.2.2 0 = qRQF) (on : Bool) (hon : h.1 83 0 = b2i on) (k f s l r : Int32) (hg : ((!on && (decide (0 ≤ k ∧ k < nI 3) && decide (0 ≤ f ∧ f < nI 3))) && (decide (k = 0) || (decide (0 ≤ s ∧ s < nI 3) && (decide (0 ≤ l ∧ l < nI 2) && decide (0 ≤ r ∧ r < nI 2))))) = false) : qT mi_QF_from 1 0 0 [.ref 0, .int k, .int f, .int s, .int l, .int r] h NN (fun v1 h1 n1 => v1 = some (.int (b2i false)) ∧ h = h1 ∧ n1 = NN) := by
  refine qT.of (lv0 := [_, _, _, _, _, _]) (by decide +kernel) (fun _ _ => Nat.le_of_ble_eq_true rfl) rfl ?_
  refine qx_aload_n d_QF_from_0 rfl rfl ?_
  refine qx_getR d_QF_from_1 fR_QF_36 rfl rfl (congrFun hQ 4) ?_
  refine qx_getI d_QF_from_4 fI_QF_40 rfl rfl hon ?_
  refine qx_if_neB (t := 26) d_QF_from_7 rfl (fun c7 => ?_) (fun c7 => ?_)
  · refine qx_iconst (v := b2i false) d_QF_from_26 rfl ?_
    exact qx_iret d_QF_from_27 rfl (b2i_nar _) (by omega) (by omega) ⟨rfl, rfl, rfl⟩
  · refine qx_iload_n d_QF_from_10 rfl rfl ?_
    refine qx_iconstN (v := 3) d_QF_from_11 rfl ?_
    refine qx_callS (As := [_, _]) (rest := _) d_QF_from_12 lk_QF_44 y_QF_isIn s_QF_isIn rfl rfl rfl rfl (by decide) (by decide) (ct_QF_isIn _ _) ?_
    rintro _ _ _ ⟨rfl, rfl, rfl⟩
    refine qx_if_eqB (t := 26) d_QF_from_15 rfl (fun c15 => ?_) (fun c15 => ?_)
    · refine qx_iconst (v := b2i false) d_QF_from_26 rfl ?_
      exact qx_iret d_QF_from_27 rfl (b2i_nar _) (by omega) (by omega) ⟨rfl, rfl, rfl⟩
    · refine qx_iload_n d_QF_from_18 rfl rfl ?_
      refine qx_iconstN (v := 3) d_QF_from_19 rfl ?_
      refine qx_callS (As := [_, _]) (rest := _) d_QF_from_20 lk_QF_44 y_QF_isIn s_QF_isIn rfl rfl rfl rfl (by decide) (by decide) (ct_QF_isIn _ _) ?_
      rintro _ _ _ ⟨rfl, rfl, rfl⟩
      refine qx_if_neB (t := 28) d_QF_from_23 rfl (fun c23 => ?_) (fun c23 => ?_)
      · refine qx_iload_n d_QF_from_28 rfl rfl ?_
        refine qx_if_ne (t := 46) d_QF_from_29 rfl (fun c29 => ?_) (fun c29 => ?_)
        · refine qx_iload_n d_QF_from_46 rfl rfl ?_
          refine qx_iconstN (v := 3) d_QF_from_47 rfl ?_
          refine qx_callS (As := [_, _]) (rest := _) d_QF_from_48 lk_QF_44 y_QF_isIn s_QF_isIn rfl rfl rfl rfl (by decide) (by decide) (ct_QF_isIn _ _) ?_
          rintro _ _ _ ⟨rfl, rfl, rfl⟩
          refine qx_if_eqB (t := 72) d_QF_from_51 rfl (fun c51 => ?_) (fun c51 => ?_)
          · refine qx_iconst (v := b2i false) d_QF_from_72 rfl ?_
            exact qx_iret d_QF_from_73 rfl (b2i_nar _) (by omega) (by omega) ⟨rfl, rfl, rfl⟩
          · refine qx_iload d_QF_from_54 rfl ?_
            refine qx_iconstN (v := 2) d_QF_from_56 rfl ?_
            refine qx_callS (As := [_, _]) (rest := _) d_QF_from_57 lk_QF_44 y_QF_isIn s_QF_isIn rfl rfl rfl rfl (by decide) (by decide) (ct_QF_isIn _ _) ?_
            rintro _ _ _ ⟨rfl, rfl, rfl⟩
            refine qx_if_eqB (t := 72) d_QF_from_60 rfl (fun c60 => ?_) (fun c60 => ?_)
            · refine qx_iconst (v := b2i false) d_QF_from_72 rfl ?_
              exact qx_iret d_QF_from_73 rfl (b2i_nar _) (by omega) (by omega) ⟨rfl, rfl, rfl⟩
            · refine qx_iload d_QF_from_63 rfl ?_
              refine qx_iconstN (v := 2) d_QF_from_65 rfl ?_
              refine qx_callS (As := [_, _]) (rest := _) d_QF_from_66 lk_QF_44 y_QF_isIn s_QF_isIn rfl rfl rfl rfl (by decide) (by decide) (ct_QF_isIn _ _) ?_
              rintro _ _ _ ⟨rfl, rfl, rfl⟩
              refine qx_if_neB (t := 74) d_QF_from_69 rfl (fun c69 => ?_) (fun c69 => ?_)
              · exact absurd hg (by rw [c7, c15, c23, c51, c60, c69]; simp)
              · refine qx_iconst (v := b2i false) d_QF_from_72 rfl ?_
                exact qx_iret d_QF_from_73 rfl (b2i_nar _) (by omega) (by omega) ⟨rfl, rfl, rfl⟩
        · exact absurd hg (by rw [c7, c15, c23, decide_eq_true c29]; simp)
      · refine qx_iconst (v := b2i false) d_QF_from_26 rfl ?_
        exact qx_iret d_QF_from_27 rfl (b2i_nar _) (by omega) (by omega) ⟨rfl, rfl, rfl⟩
set_option maxRecDepth 100000 in
set_option maxHeartbeats 4000000 in
theorem ct_QF_from_0 {h : qH} (hQ : h.2.2 0 = qRQF) (hon : h.1 83 0 = b2i false) (f s l r : Int32) (hf : decide (0 ≤ f ∧ f < nI 3) = true) : qT mi_QF_from 1 0 0 [.ref 0, .int (nI 0), .int f, .int s, .int l, .int r] h NN (fun v1 h1 n1 => v1 = some (.int (b2i true)) ∧ h1 = (qpI (qpI (qpI (qpI (qpI (qpI (qpI (qpI (qpI (qpI (qpI (qpI (qpI h 3 0 (nI 1)) 3 1 (nI 0)) 3 2 f) 3 3 f) 3 4 (nI 0)) 3 5 (nI 0)) 3 7 (nI 0)) 3 9 (nI 0)) 3 12 (nI 0)) 3 13 (-1)) 3 14 (nI 0)) 3 15 (nI 0)) 3 16 (-1)) ∧ n1 = NN) := by
  refine qT.of (lv0 := [_, _, _, _, _, _]) (by decide +kernel) (fun _ _ => Nat.le_of_ble_eq_true rfl) rfl ?_
  refine qx_aload_n d_QF_from_0 rfl rfl ?_
  refine qx_getR d_QF_from_1 fR_QF_36 rfl rfl (congrFun hQ 4) ?_
  refine qx_getI d_QF_from_4 fI_QF_40 rfl rfl hon ?_
  refine qx_if_neB (t := 26) d_QF_from_7 rfl (fun c7 => by cases c7) (fun c7 => ?_)
  refine qx_iload_n d_QF_from_10 rfl rfl ?_
  refine qx_iconstN (v := 3) d_QF_from_11 rfl ?_
  refine qx_callS (As := [_, _]) (rest := _) d_QF_from_12 lk_QF_44 y_QF_isIn s_QF_isIn rfl rfl rfl rfl (by decide) (by decide) (ct_QF_isIn _ _) ?_
  rintro _ _ _ ⟨rfl, rfl, rfl⟩
  refine qx_if_eqB (t := 26) d_QF_from_15 rfl (fun c15 => absurd c15 (by rw [in_t (by omega) (by omega)]; decide)) (fun c15 => ?_)
  refine qx_iload_n d_QF_from_18 rfl rfl ?_
  refine qx_iconstN (v := 3) d_QF_from_19 rfl ?_
  refine qx_callS (As := [_, _]) (rest := _) d_QF_from_20 lk_QF_44 y_QF_isIn s_QF_isIn rfl rfl rfl rfl (by decide) (by decide) (ct_QF_isIn _ _) ?_
  rintro _ _ _ ⟨rfl, rfl, rfl⟩
  refine qx_if_neB (t := 28) d_QF_from_23 rfl (fun c23 => ?_) (fun c23 => absurd c23 (by rw [hf]; decide))
  refine qx_iload_n d_QF_from_28 rfl rfl ?_
  refine qx_if_ne (t := 46) d_QF_from_29 rfl (fun c29 => absurd rfl c29) (fun c29 => ?_)
  refine qx_aload_n d_QF_from_32 rfl rfl ?_
  refine qx_getR d_QF_from_33 fR_QF_25 rfl rfl (congrFun hQ 2) ?_
  refine qx_iload_n d_QF_from_36 rfl rfl ?_
  refine qx_iload_n d_QF_from_37 rfl rfl ?_
  refine qx_iload_n d_QF_from_38 rfl rfl ?_
  refine qx_iconstN (v := 0) d_QF_from_39 rfl ?_
  refine qx_iconstN (v := 0) d_QF_from_40 rfl ?_
  refine qx_callV (As := [_, _, _, _, _]) (rest := _) d_QF_from_41 lk_QF_54 y_Qu_begin v_Qu_begin rfl rfl rfl (by decide) rfl rfl rfl rfl (by decide) (by decide) (ct_Qu_begin _ _ _ _ _) ?_
  rintro _ _ _ ⟨rfl, rfl, rfl⟩
  refine qx_iconst (v := b2i true) d_QF_from_44 rfl ?_
  exact qx_iret d_QF_from_45 rfl (b2i_nar _) (by omega) (by omega) ⟨rfl, rfl, rfl⟩
set_option maxRecDepth 100000 in
set_option maxHeartbeats 4000000 in
theorem ct_QF_from_1 {h : qH} (hQ : h.2.2 0 = qRQF) (hon : h.1 83 0 = b2i false) (k f s l r : Int32) (hk : decide (0 ≤ k ∧ k < nI 3) = true) (hk0 : ¬ k = 0) (hf : decide (0 ≤ f ∧ f < nI 3) = true) (hs : decide (0 ≤ s ∧ s < nI 3) = true) (hl : decide (0 ≤ l ∧ l < nI 2) = true) (hr : decide (0 ≤ r ∧ r < nI 2) = true) : qT mi_QF_from 1 0 0 [.ref 0, .int k, .int f, .int s, .int l, .int r] h NN (fun v1 h1 n1 => v1 = some (.int (b2i true)) ∧ h1 = (qpI (qpI (qpI (qpI (qpI (qpI (qpI (qpI (qpI (qpI (qpI (qpI (qpI h 3 0 (nI 1)) 3 1 k) 3 2 f) 3 3 s) 3 4 l) 3 5 r) 3 7 (nI 0)) 3 9 (nI 0)) 3 12 (nI 0)) 3 13 (-1)) 3 14 (nI 0)) 3 15 (nI 0)) 3 16 (-1)) ∧ n1 = NN) := by
  refine qT.of (lv0 := [_, _, _, _, _, _]) (by decide +kernel) (fun _ _ => Nat.le_of_ble_eq_true rfl) rfl ?_
  refine qx_aload_n d_QF_from_0 rfl rfl ?_
  refine qx_getR d_QF_from_1 fR_QF_36 rfl rfl (congrFun hQ 4) ?_
  refine qx_getI d_QF_from_4 fI_QF_40 rfl rfl hon ?_
  refine qx_if_neB (t := 26) d_QF_from_7 rfl (fun c7 => by cases c7) (fun c7 => ?_)
  refine qx_iload_n d_QF_from_10 rfl rfl ?_
  refine qx_iconstN (v := 3) d_QF_from_11 rfl ?_
  refine qx_callS (As := [_, _]) (rest := _) d_QF_from_12 lk_QF_44 y_QF_isIn s_QF_isIn rfl rfl rfl rfl (by decide) (by decide) (ct_QF_isIn _ _) ?_
  rintro _ _ _ ⟨rfl, rfl, rfl⟩
  refine qx_if_eqB (t := 26) d_QF_from_15 rfl (fun c15 => absurd c15 (by rw [hk]; decide)) (fun c15 => ?_)
  refine qx_iload_n d_QF_from_18 rfl rfl ?_
  refine qx_iconstN (v := 3) d_QF_from_19 rfl ?_
  refine qx_callS (As := [_, _]) (rest := _) d_QF_from_20 lk_QF_44 y_QF_isIn s_QF_isIn rfl rfl rfl rfl (by decide) (by decide) (ct_QF_isIn _ _) ?_
  rintro _ _ _ ⟨rfl, rfl, rfl⟩
  refine qx_if_neB (t := 28) d_QF_from_23 rfl (fun c23 => ?_) (fun c23 => absurd c23 (by rw [hf]; decide))
  refine qx_iload_n d_QF_from_28 rfl rfl ?_
  refine qx_if_ne (t := 46) d_QF_from_29 rfl (fun c29 => ?_) (fun c29 => absurd c29 hk0)
  refine qx_iload_n d_QF_from_46 rfl rfl ?_
  refine qx_iconstN (v := 3) d_QF_from_47 rfl ?_
  refine qx_callS (As := [_, _]) (rest := _) d_QF_from_48 lk_QF_44 y_QF_isIn s_QF_isIn rfl rfl rfl rfl (by decide) (by decide) (ct_QF_isIn _ _) ?_
  rintro _ _ _ ⟨rfl, rfl, rfl⟩
  refine qx_if_eqB (t := 72) d_QF_from_51 rfl (fun c51 => absurd c51 (by rw [hs]; decide)) (fun c51 => ?_)
  refine qx_iload d_QF_from_54 rfl ?_
  refine qx_iconstN (v := 2) d_QF_from_56 rfl ?_
  refine qx_callS (As := [_, _]) (rest := _) d_QF_from_57 lk_QF_44 y_QF_isIn s_QF_isIn rfl rfl rfl rfl (by decide) (by decide) (ct_QF_isIn _ _) ?_
  rintro _ _ _ ⟨rfl, rfl, rfl⟩
  refine qx_if_eqB (t := 72) d_QF_from_60 rfl (fun c60 => absurd c60 (by rw [hl]; decide)) (fun c60 => ?_)
  refine qx_iload d_QF_from_63 rfl ?_
  refine qx_iconstN (v := 2) d_QF_from_65 rfl ?_
  refine qx_callS (As := [_, _]) (rest := _) d_QF_from_66 lk_QF_44 y_QF_isIn s_QF_isIn rfl rfl rfl rfl (by decide) (by decide) (ct_QF_isIn _ _) ?_
  rintro _ _ _ ⟨rfl, rfl, rfl⟩
  refine qx_if_neB (t := 74) d_QF_from_69 rfl (fun c69 => ?_) (fun c69 => absurd c69 (by rw [hr]; decide))
  refine qx_aload_n d_QF_from_74 rfl rfl ?_
  refine qx_getR d_QF_from_75 fR_QF_25 rfl rfl (congrFun hQ 2) ?_
  refine qx_iload_n d_QF_from_78 rfl rfl ?_
  refine qx_iload_n d_QF_from_79 rfl rfl ?_
  refine qx_iload_n d_QF_from_80 rfl rfl ?_
  refine qx_iload d_QF_from_81 rfl ?_
  refine qx_iload d_QF_from_83 rfl ?_
  refine qx_callV (As := [_, _, _, _, _]) (rest := _) d_QF_from_85 lk_QF_54 y_Qu_begin v_Qu_begin rfl rfl rfl (by decide) rfl rfl rfl rfl (by decide) (by decide) (ct_Qu_begin _ _ _ _ _) ?_
  rintro _ _ _ ⟨rfl, rfl, rfl⟩
  refine qx_iconst (v := b2i true) d_QF_from_88 rfl ?_
  exact qx_iret d_QF_from_89 rfl (b2i_nar _) (by omega) (by omega) ⟨rfl, rfl, rfl⟩
set_option maxRecDepth 100000 in
set_option maxHeartbeats 4000000 in
theorem ct_QF_column_no {h : qH} (hQ : h.2.2 0 = qRQF) (bg on : Bool) (hbeg : h.1 3 0 = b2i bg) (hon : h.1 83 0 = b2i on) (kd : Nat) (hk3 : kd < 3) (hkd : h.1 3 1 = nI kd) (c : Int32) (hg : ((bg && !on) && decide (0 ≤ c ∧ c < nI (if kd = 0 then 2 else 4))) = false) : qT mi_QF_column 2 0 0 [.ref 0, .int c] h NN (fun v1 h1 n1 => v1 = some (.int (b2i false)) ∧ h = h1 ∧ n1 = NN) := by
  refine qT.of (lv0 := [_, _]) (by decide +kernel) (fun _ _ => Nat.le_of_ble_eq_true rfl) rfl ?_
  refine qx_aload_n d_QF_column_0 rfl rfl ?_
  refine qx_callV (As := []) (rest := _) d_QF_column_1 lk_QF_60 y_QF_canChangeQuery v_QF_canChangeQuery rfl rfl rfl (by decide) rfl rfl rfl rfl (by decide) (by decide) (ct_QF_canChangeQuery hQ bg on hbeg hon) ?_
  rintro _ _ _ ⟨rfl, rfl, rfl⟩
  refine qx_if_eqB (t := 38) d_QF_column_4 rfl (fun c4 => ?_) (fun c4 => ?_)
  · refine qx_iconst (v := b2i false) d_QF_column_38 rfl ?_
    exact qx_iret d_QF_column_39 rfl (b2i_nar _) (by omega) (by omega) ⟨rfl, rfl, rfl⟩
  · refine qx_iload_n d_QF_column_7 rfl rfl ?_
    refine qx_aload_n d_QF_column_8 rfl rfl ?_
    refine qx_getR d_QF_column_9 fR_QF_25 rfl rfl (congrFun hQ 2) ?_
    refine qx_callV (As := []) (rest := _) d_QF_column_12 lk_QF_64 y_Qu_columns v_Qu_columns rfl rfl rfl (by decide) rfl rfl rfl rfl (by decide) (by decide) (ct_Qu_columns kd hk3 hkd) ?_
    rintro _ _ _ ⟨rfl, rfl, rfl⟩
    refine qx_callS (As := [_, _]) (rest := _) d_QF_column_15 lk_QF_44 y_QF_isIn s_QF_isIn rfl rfl rfl rfl (by decide) (by decide) (ct_QF_isIn _ _) ?_
    rintro _ _ _ ⟨rfl, rfl, rfl⟩
    refine qx_if_eqB (t := 38) d_QF_column_18 rfl (fun c18 => ?_) (fun c18 => absurd hg (by rw [c4, c18]; decide))
    refine qx_iconst (v := b2i false) d_QF_column_38 rfl ?_
    exact qx_iret d_QF_column_39 rfl (b2i_nar _) (by omega) (by omega) ⟨rfl, rfl, rfl⟩
set_option maxRecDepth 100000 in
set_option maxHeartbeats 4000000 in
theorem ct_QF_column_full {h : qH} (hQ : h.2.2 0 = qRQF) (hbeg : h.1 3 0 = b2i true) (hon : h.1 83 0 = b2i false) (kd : Nat) (hk3 : kd < 3) (hkd : h.1 3 1 = nI kd) (c : Nat) (hc : c < (if kd = 0 then 2 else 4)) (dep : Nat) (h8 : dep ≤ 8) (hdep : h.1 3 7 = nI dep) (hd8 : dep = 8) : qT mi_QF_column 2 0 0 [.ref 0, .int (nI c)] h NN (fun v1 h1 n1 => v1 = some (.int (b2i false)) ∧ h = h1 ∧ n1 = NN) := by
  refine qT.of (lv0 := [_, _]) (by decide +kernel) (fun _ _ => Nat.le_of_ble_eq_true rfl) rfl ?_
  refine qx_aload_n d_QF_column_0 rfl rfl ?_
  refine qx_callV (As := []) (rest := _) d_QF_column_1 lk_QF_60 y_QF_canChangeQuery v_QF_canChangeQuery rfl rfl rfl (by decide) rfl rfl rfl rfl (by decide) (by decide) (ct_QF_canChangeQuery hQ true false hbeg hon) ?_
  rintro _ _ _ ⟨rfl, rfl, rfl⟩
  refine qx_if_eqB (t := 38) d_QF_column_4 rfl (fun c4 => by cases c4) (fun c4 => ?_)
  refine qx_iload_n d_QF_column_7 rfl rfl ?_
  refine qx_aload_n d_QF_column_8 rfl rfl ?_
  refine qx_getR d_QF_column_9 fR_QF_25 rfl rfl (congrFun hQ 2) ?_
  refine qx_callV (As := []) (rest := _) d_QF_column_12 lk_QF_64 y_Qu_columns v_Qu_columns rfl rfl rfl (by decide) rfl rfl rfl rfl (by decide) (by decide) (ct_Qu_columns kd hk3 hkd) ?_
  rintro _ _ _ ⟨rfl, rfl, rfl⟩
  refine qx_callS (As := [_, _]) (rest := _) d_QF_column_15 lk_QF_44 y_QF_isIn s_QF_isIn rfl rfl rfl rfl (by decide) (by decide) (ct_QF_isIn _ _) ?_
  rintro _ _ _ ⟨rfl, rfl, rfl⟩
  refine qx_if_eqB (t := 38) d_QF_column_18 rfl (fun c18 => absurd c18 (by rw [in_t hc (by split <;> omega)]; decide)) (fun c18 => ?_)
  refine qx_aload_n d_QF_column_21 rfl rfl ?_
  refine qx_getR d_QF_column_22 fR_QF_25 rfl rfl (congrFun hQ 2) ?_
  refine qx_bipushN (v := 10) d_QF_column_25 rfl ?_
  refine qx_iload_n d_QF_column_27 rfl rfl ?_
  refine qx_callV (As := [_, _]) (rest := _) d_QF_column_28 lk_QF_68 y_Qu_push v_Qu_push rfl rfl rfl (by decide) rfl rfl rfl rfl (by decide) (by decide) (ct_Qu_push_full dep h8 hdep hd8 _ _) ?_
  rintro _ _ _ ⟨rfl, rfl, rfl⟩
  refine qx_if_eqB (t := 38) d_QF_column_31 rfl (fun c31 => ?_) (fun c31 => by cases c31)
  refine qx_iconst (v := b2i false) d_QF_column_38 rfl ?_
  exact qx_iret d_QF_column_39 rfl (b2i_nar _) (by omega) (by omega) ⟨rfl, rfl, rfl⟩
set_option maxRecDepth 100000 in
set_option maxHeartbeats 4000000 in
theorem ct_QF_column_ok {h : qH} (hQ : h.2.2 0 = qRQF) (hbeg : h.1 3 0 = b2i true) (hon : h.1 83 0 = b2i false) (kd : Nat) (hk3 : kd < 3) (hkd : h.1 3 1 = nI kd) (c : Nat) (hc : c < (if kd = 0 then 2 else 4)) (pp : Nat → Nat) (hP : plP h pp) (dep : Nat) (h8 : dep ≤ 8) (hdep : h.1 3 7 = nI dep) (hd8 : dep < 8) : qT mi_QF_column 2 0 0 [.ref 0, .int (nI c)] h NN (fun v1 h1 n1 => v1 = some (.int (b2i true)) ∧ (∃ s2, h1 = qpI (xR h (pp dep) s2) 3 7 (nI (dep + 1)) ∧ exS s2 [(10, lN c)] false) ∧ n1 = NN) := by
  refine qT.of (lv0 := [_, _]) (by decide +kernel) (fun _ _ => Nat.le_of_ble_eq_true rfl) rfl ?_
  refine qx_aload_n d_QF_column_0 rfl rfl ?_
  refine qx_callV (As := []) (rest := _) d_QF_column_1 lk_QF_60 y_QF_canChangeQuery v_QF_canChangeQuery rfl rfl rfl (by decide) rfl rfl rfl rfl (by decide) (by decide) (ct_QF_canChangeQuery hQ true false hbeg hon) ?_
  rintro _ _ _ ⟨rfl, rfl, rfl⟩
  refine qx_if_eqB (t := 38) d_QF_column_4 rfl (fun c4 => by cases c4) (fun c4 => ?_)
  refine qx_iload_n d_QF_column_7 rfl rfl ?_
  refine qx_aload_n d_QF_column_8 rfl rfl ?_
  refine qx_getR d_QF_column_9 fR_QF_25 rfl rfl (congrFun hQ 2) ?_
  refine qx_callV (As := []) (rest := _) d_QF_column_12 lk_QF_64 y_Qu_columns v_Qu_columns rfl rfl rfl (by decide) rfl rfl rfl rfl (by decide) (by decide) (ct_Qu_columns kd hk3 hkd) ?_
  rintro _ _ _ ⟨rfl, rfl, rfl⟩
  refine qx_callS (As := [_, _]) (rest := _) d_QF_column_15 lk_QF_44 y_QF_isIn s_QF_isIn rfl rfl rfl rfl (by decide) (by decide) (ct_QF_isIn _ _) ?_
  rintro _ _ _ ⟨rfl, rfl, rfl⟩
  refine qx_if_eqB (t := 38) d_QF_column_18 rfl (fun c18 => absurd c18 (by rw [in_t hc (by split <;> omega)]; decide)) (fun c18 => ?_)
  refine qx_aload_n d_QF_column_21 rfl rfl ?_
  refine qx_getR d_QF_column_22 fR_QF_25 rfl rfl (congrFun hQ 2) ?_
  refine qx_bipushN (v := 10) d_QF_column_25 rfl ?_
  refine qx_iload_n d_QF_column_27 rfl rfl ?_
  refine qx_callV (As := [_, _]) (rest := _) d_QF_column_28 lk_QF_68 y_Qu_push v_Qu_push rfl rfl rfl (by decide) rfl rfl rfl rfl (by decide) (by decide) (ct_Qu_push pp hP dep h8 hdep hd8 (nI 10) (nI c) (10, lN c) (Or.inr (Or.inl ⟨rfl, c, by split at hc <;> omega, rfl, rfl, rfl⟩))) ?_
  rintro _ _ _ ⟨rfl, hq, rfl⟩
  refine qx_if_eqB (t := 38) d_QF_column_31 rfl (fun c31 => by cases c31) (fun c31 => ?_)
  refine qx_iconst (v := b2i true) d_QF_column_34 rfl ?_
  refine qx_goto (t := 39) d_QF_column_35 rfl ?_
  exact qx_iret d_QF_column_39 rfl (b2i_nar _) (by omega) (by omega) ⟨rfl, hq, rfl⟩
set_option maxRecDepth 100000 in
set_option maxHeartbeats 4000000 in
theorem ct_QF_number_no {h : qH} (hQ : h.2.2 0 = qRQF) (bg on : Bool) (hbeg : h.1 3 0 = b2i bg) (hon : h.1 83 0 = b2i on) (v : Int32) (hg : (bg && !on) = false) : qT mi_QF_number 2 0 0 [.ref 0, .int v] h NN (fun v1 h1 n1 => v1 = some (.int (b2i false)) ∧ h = h1 ∧ n1 = NN) := by
  refine qT.of (lv0 := [_, _]) (by decide +kernel) (fun _ _ => Nat.le_of_ble_eq_true rfl) rfl ?_
  refine qx_aload_n d_QF_number_0 rfl rfl ?_
  refine qx_callV (As := []) (rest := _) d_QF_number_1 lk_QF_60 y_QF_canChangeQuery v_QF_canChangeQuery rfl rfl rfl (by decide) rfl rfl rfl rfl (by decide) (by decide) (ct_QF_canChangeQuery hQ bg on hbeg hon) ?_
  rintro _ _ _ ⟨rfl, rfl, rfl⟩
  refine qx_if_eqB (t := 24) d_QF_number_4 rfl (fun c4 => ?_) (fun c4 => absurd hg (by rw [c4]; decide))
  refine qx_iconst (v := b2i false) d_QF_number_24 rfl ?_
  exact qx_iret d_QF_number_25 rfl (b2i_nar _) (by omega) (by omega) ⟨rfl, rfl, rfl⟩
set_option maxRecDepth 100000 in
set_option maxHeartbeats 4000000 in
theorem ct_QF_number_full {h : qH} (hQ : h.2.2 0 = qRQF) (hbeg : h.1 3 0 = b2i true) (hon : h.1 83 0 = b2i false) (v : Int32) (dep : Nat) (h8 : dep ≤ 8) (hdep : h.1 3 7 = nI dep) (hd8 : dep = 8) : qT mi_QF_number 2 0 0 [.ref 0, .int v] h NN (fun v1 h1 n1 => v1 = some (.int (b2i false)) ∧ h = h1 ∧ n1 = NN) := by
  refine qT.of (lv0 := [_, _]) (by decide +kernel) (fun _ _ => Nat.le_of_ble_eq_true rfl) rfl ?_
  refine qx_aload_n d_QF_number_0 rfl rfl ?_
  refine qx_callV (As := []) (rest := _) d_QF_number_1 lk_QF_60 y_QF_canChangeQuery v_QF_canChangeQuery rfl rfl rfl (by decide) rfl rfl rfl rfl (by decide) (by decide) (ct_QF_canChangeQuery hQ true false hbeg hon) ?_
  rintro _ _ _ ⟨rfl, rfl, rfl⟩
  refine qx_if_eqB (t := 24) d_QF_number_4 rfl (fun c4 => by cases c4) (fun c4 => ?_)
  refine qx_aload_n d_QF_number_7 rfl rfl ?_
  refine qx_getR d_QF_number_8 fR_QF_25 rfl rfl (congrFun hQ 2) ?_
  refine qx_bipushN (v := 11) d_QF_number_11 rfl ?_
  refine qx_iload_n d_QF_number_13 rfl rfl ?_
  refine qx_callV (As := [_, _]) (rest := _) d_QF_number_14 lk_QF_68 y_Qu_push v_Qu_push rfl rfl rfl (by decide) rfl rfl rfl rfl (by decide) (by decide) (ct_Qu_push_full dep h8 hdep hd8 _ _) ?_
  rintro _ _ _ ⟨rfl, rfl, rfl⟩
  refine qx_if_eqB (t := 24) d_QF_number_17 rfl (fun c17 => ?_) (fun c17 => by cases c17)
  refine qx_iconst (v := b2i false) d_QF_number_24 rfl ?_
  exact qx_iret d_QF_number_25 rfl (b2i_nar _) (by omega) (by omega) ⟨rfl, rfl, rfl⟩
set_option maxRecDepth 100000 in
set_option maxHeartbeats 4000000 in
theorem ct_QF_number_ok {h : qH} (hQ : h.2.2 0 = qRQF) (hbeg : h.1 3 0 = b2i true) (hon : h.1 83 0 = b2i false) (v : Int32) (pp : Nat → Nat) (hP : plP h pp) (dep : Nat) (h8 : dep ≤ 8) (hdep : h.1 3 7 = nI dep) (hd8 : dep < 8) : qT mi_QF_number 2 0 0 [.ref 0, .int v] h NN (fun v1 h1 n1 => v1 = some (.int (b2i true)) ∧ (∃ s2, h1 = qpI (xR h (pp dep) s2) 3 7 (nI (dep + 1)) ∧ exS s2 [(11, v.toInt64)] false) ∧ n1 = NN) := by
  refine qT.of (lv0 := [_, _]) (by decide +kernel) (fun _ _ => Nat.le_of_ble_eq_true rfl) rfl ?_
  refine qx_aload_n d_QF_number_0 rfl rfl ?_
  refine qx_callV (As := []) (rest := _) d_QF_number_1 lk_QF_60 y_QF_canChangeQuery v_QF_canChangeQuery rfl rfl rfl (by decide) rfl rfl rfl rfl (by decide) (by decide) (ct_QF_canChangeQuery hQ true false hbeg hon) ?_
  rintro _ _ _ ⟨rfl, rfl, rfl⟩
  refine qx_if_eqB (t := 24) d_QF_number_4 rfl (fun c4 => by cases c4) (fun c4 => ?_)
  refine qx_aload_n d_QF_number_7 rfl rfl ?_
  refine qx_getR d_QF_number_8 fR_QF_25 rfl rfl (congrFun hQ 2) ?_
  refine qx_bipushN (v := 11) d_QF_number_11 rfl ?_
  refine qx_iload_n d_QF_number_13 rfl rfl ?_
  refine qx_callV (As := [_, _]) (rest := _) d_QF_number_14 lk_QF_68 y_Qu_push v_Qu_push rfl rfl rfl (by decide) rfl rfl rfl rfl (by decide) (by decide) (ct_Qu_push pp hP dep h8 hdep hd8 (nI 11) v (11, v.toInt64) (Or.inr (Or.inr ⟨rfl, rfl, rfl⟩))) ?_
  rintro _ _ _ ⟨rfl, hq, rfl⟩
  refine qx_if_eqB (t := 24) d_QF_number_17 rfl (fun c17 => by cases c17) (fun c17 => ?_)
  refine qx_iconst (v := b2i true) d_QF_number_20 rfl ?_
  refine qx_goto (t := 25) d_QF_number_21 rfl ?_
  exact qx_iret d_QF_number_25 rfl (b2i_nar _) (by omega) (by omega) ⟨rfl, hq, rfl⟩
set_option maxRecDepth 100000 in
set_option maxHeartbeats 4000000 in
theorem ct_QF_operate_no {h : qH} (hQ : h.2.2 0 = qRQF) (bg on : Bool) (hbeg : h.1 3 0 = b2i bg) (hon : h.1 83 0 = b2i on) (op : Int32) (hg : ((bg && !on) && decide (0 ≤ op ∧ op < nI 10)) = false) : qT mi_QF_operate 3 0 0 [.ref 0, .int op] h NN (fun v1 h1 n1 => v1 = some (.int (b2i false)) ∧ h = h1 ∧ n1 = NN) := by
  refine qT.of (lv0 := [_, _]) (by decide +kernel) (fun _ _ => Nat.le_of_ble_eq_true rfl) rfl ?_
  refine qx_aload_n d_QF_operate_0 rfl rfl ?_
  refine qx_callV (As := []) (rest := _) d_QF_operate_1 lk_QF_60 y_QF_canChangeQuery v_QF_canChangeQuery rfl rfl rfl (by decide) rfl rfl rfl rfl (by decide) (by decide) (ct_QF_canChangeQuery hQ bg on hbeg hon) ?_
  rintro _ _ _ ⟨rfl, rfl, rfl⟩
  refine qx_if_eqB (t := 31) d_QF_operate_4 rfl (fun c4 => ?_) (fun c4 => ?_)
  · refine qx_iconst (v := b2i false) d_QF_operate_31 rfl ?_
    exact qx_iret d_QF_operate_32 rfl (b2i_nar _) (by omega) (by omega) ⟨rfl, rfl, rfl⟩
  · refine qx_iload_n d_QF_operate_7 rfl rfl ?_
    refine qx_bipushN (v := 10) d_QF_operate_8 rfl ?_
    refine qx_callS (As := [_, _]) (rest := _) d_QF_operate_10 lk_QF_44 y_QF_isIn s_QF_isIn rfl rfl rfl rfl (by decide) (by decide) (ct_QF_isIn _ _) ?_
    rintro _ _ _ ⟨rfl, rfl, rfl⟩
    refine qx_if_eqB (t := 31) d_QF_operate_13 rfl (fun c13 => ?_) (fun c13 => absurd hg (by rw [c4, c13]; decide))
    refine qx_iconst (v := b2i false) d_QF_operate_31 rfl ?_
    exact qx_iret d_QF_operate_32 rfl (b2i_nar _) (by omega) (by omega) ⟨rfl, rfl, rfl⟩
set_option maxRecDepth 100000 in
set_option maxHeartbeats 4000000 in
theorem ct_QF_operate {h : qH} (hQ : h.2.2 0 = qRQF) (hbeg : h.1 3 0 = b2i true) (hon : h.1 83 0 = b2i false) (op : Nat) (ho : op < 10) (Rq : Option Value → qH → Nat → Prop) (hRq : ∀ v h n, Rq v h n → ∃ b : Bool, v = some (.int (b2i b))) (hD : qT mi_Qu_apply 2 0 0 [.ref 3, .int (nI op)] h NN Rq) : qT mi_QF_operate 3 0 0 [.ref 0, .int (nI op)] h NN (fun v1 h1 n1 => Rq v1 h1 n1) := by
  refine qT.of (lv0 := [_, _]) (by decide +kernel) (fun _ _ => Nat.le_of_ble_eq_true rfl) rfl ?_
  refine qx_aload_n d_QF_operate_0 rfl rfl ?_
  refine qx_callV (As := []) (rest := _) d_QF_operate_1 lk_QF_60 y_QF_canChangeQuery v_QF_canChangeQuery rfl rfl rfl (by decide) rfl rfl rfl rfl (by decide) (by decide) (ct_QF_canChangeQuery hQ true false hbeg hon) ?_
  rintro _ _ _ ⟨rfl, rfl, rfl⟩
  refine qx_if_eqB (t := 31) d_QF_operate_4 rfl (fun c4 => by cases c4) (fun c4 => ?_)
  refine qx_iload_n d_QF_operate_7 rfl rfl ?_
  refine qx_bipushN (v := 10) d_QF_operate_8 rfl ?_
  refine qx_callS (As := [_, _]) (rest := _) d_QF_operate_10 lk_QF_44 y_QF_isIn s_QF_isIn rfl rfl rfl rfl (by decide) (by decide) (ct_QF_isIn _ _) ?_
  rintro _ _ _ ⟨rfl, rfl, rfl⟩
  refine qx_if_eqB (t := 31) d_QF_operate_13 rfl (fun c13 => absurd c13 (by rw [in_t ho (by omega)]; decide)) (fun c13 => ?_)
  refine qx_aload_n d_QF_operate_16 rfl rfl ?_
  refine qx_getR d_QF_operate_17 fR_QF_25 rfl rfl (congrFun hQ 2) ?_
  refine qx_iload_n d_QF_operate_20 rfl rfl ?_
  refine qx_callV (As := [_]) (rest := _) d_QF_operate_21 lk_QF_71 y_Qu_apply v_Qu_apply rfl rfl rfl (by decide) rfl rfl rfl rfl (by decide) (by decide) hD ?_
  intro v1 h1 n1 hq
  obtain ⟨b, rfl⟩ := hRq v1 h1 n1 hq
  refine qx_if_eqB (t := 31) d_QF_operate_24 rfl (fun c24 => ?_) (fun c24 => ?_)
  · refine qx_iconst (v := b2i false) d_QF_operate_31 rfl ?_
    exact qx_iret d_QF_operate_32 rfl (b2i_nar _) (by omega) (by omega) (by rw [c24] at hq; exact hq)
  · refine qx_iconst (v := b2i true) d_QF_operate_27 rfl ?_
    refine qx_goto (t := 32) d_QF_operate_28 rfl ?_
    exact qx_iret d_QF_operate_32 rfl (b2i_nar _) (by omega) (by omega) (by rw [c24] at hq; exact hq)
set_option maxRecDepth 100000 in
set_option maxHeartbeats 4000000 in
theorem ct_QF_where_no {h : qH} (hQ : h.2.2 0 = qRQF) (bg on : Bool) (hbeg : h.1 3 0 = b2i bg) (hon : h.1 83 0 = b2i on) (hg : (bg && !on) = false) : qT mi_QF_where 2 0 0 [.ref 0] h NN (fun v1 h1 n1 => v1 = some (.int (b2i false)) ∧ h = h1 ∧ n1 = NN) := by
  refine qT.of (lv0 := [_]) (by decide +kernel) (fun _ _ => Nat.le_of_ble_eq_true rfl) rfl ?_
  refine qx_aload_n d_QF_where_0 rfl rfl ?_
  refine qx_callV (As := []) (rest := _) d_QF_where_1 lk_QF_60 y_QF_canChangeQuery v_QF_canChangeQuery rfl rfl rfl (by decide) rfl rfl rfl rfl (by decide) (by decide) (ct_QF_canChangeQuery hQ bg on hbeg hon) ?_
  rintro _ _ _ ⟨rfl, rfl, rfl⟩
  refine qx_if_eqB (t := 21) d_QF_where_4 rfl (fun c4 => ?_) (fun c4 => absurd hg (by rw [c4]; decide))
  refine qx_iconst (v := b2i false) d_QF_where_21 rfl ?_
  exact qx_iret d_QF_where_22 rfl (b2i_nar _) (by omega) (by omega) ⟨rfl, rfl, rfl⟩
set_option maxRecDepth 100000 in
set_option maxHeartbeats 4000000 in
theorem ct_QF_where {h : qH} (hQ : h.2.2 0 = qRQF) (hbeg : h.1 3 0 = b2i true) (hon : h.1 83 0 = b2i false) (Rq : Option Value → qH → Nat → Prop) (hRq : ∀ v h n, Rq v h n → ∃ b : Bool, v = some (.int (b2i b))) (hD : qT mi_Qu_takeCondition 1 0 0 [.ref 3] h NN Rq) : qT mi_QF_where 2 0 0 [.ref 0] h NN (fun v1 h1 n1 => Rq v1 h1 n1) := by
  refine qT.of (lv0 := [_]) (by decide +kernel) (fun _ _ => Nat.le_of_ble_eq_true rfl) rfl ?_
  refine qx_aload_n d_QF_where_0 rfl rfl ?_
  refine qx_callV (As := []) (rest := _) d_QF_where_1 lk_QF_60 y_QF_canChangeQuery v_QF_canChangeQuery rfl rfl rfl (by decide) rfl rfl rfl rfl (by decide) (by decide) (ct_QF_canChangeQuery hQ true false hbeg hon) ?_
  rintro _ _ _ ⟨rfl, rfl, rfl⟩
  refine qx_if_eqB (t := 21) d_QF_where_4 rfl (fun c4 => by cases c4) (fun c4 => ?_)
  refine qx_aload_n d_QF_where_7 rfl rfl ?_
  refine qx_getR d_QF_where_8 fR_QF_25 rfl rfl (congrFun hQ 2) ?_
  refine qx_callV (As := []) (rest := _) d_QF_where_11 lk_QF_75 y_Qu_takeCondition v_Qu_takeCondition rfl rfl rfl (by decide) rfl rfl rfl rfl (by decide) (by decide) hD ?_
  intro v1 h1 n1 hq
  obtain ⟨b, rfl⟩ := hRq v1 h1 n1 hq
  refine qx_if_eqB (t := 21) d_QF_where_14 rfl (fun c14 => ?_) (fun c14 => ?_)
  · refine qx_iconst (v := b2i false) d_QF_where_21 rfl ?_
    exact qx_iret d_QF_where_22 rfl (b2i_nar _) (by omega) (by omega) (by rw [c14] at hq; exact hq)
  · refine qx_iconst (v := b2i true) d_QF_where_17 rfl ?_
    refine qx_goto (t := 22) d_QF_where_18 rfl ?_
    exact qx_iret d_QF_where_22 rfl (b2i_nar _) (by omega) (by omega) (by rw [c14] at hq; exact hq)
set_option maxRecDepth 100000 in
set_option maxHeartbeats 4000000 in
theorem ct_QF_output_no {h : qH} (hQ : h.2.2 0 = qRQF) (bg on : Bool) (hbeg : h.1 3 0 = b2i bg) (hon : h.1 83 0 = b2i on) (k : Int32) (hg : ((bg && !on) && decide (0 ≤ k ∧ k < nI 6)) = false) : qT mi_QF_output 2 0 0 [.ref 0, .int k] h NN (fun v1 h1 n1 => v1 = some (.int (b2i false)) ∧ h = h1 ∧ n1 = NN) := by
  refine qT.of (lv0 := [_, _]) (by decide +kernel) (fun _ _ => Nat.le_of_ble_eq_true rfl) rfl ?_
  refine qx_aload_n d_QF_output_0 rfl rfl ?_
  refine qx_callV (As := []) (rest := _) d_QF_output_1 lk_QF_60 y_QF_canChangeQuery v_QF_canChangeQuery rfl rfl rfl (by decide) rfl rfl rfl rfl (by decide) (by decide) (ct_QF_canChangeQuery hQ bg on hbeg hon) ?_
  rintro _ _ _ ⟨rfl, rfl, rfl⟩
  refine qx_if_eqB (t := 31) d_QF_output_4 rfl (fun c4 => ?_) (fun c4 => ?_)
  · refine qx_iconst (v := b2i false) d_QF_output_31 rfl ?_
    exact qx_iret d_QF_output_32 rfl (b2i_nar _) (by omega) (by omega) ⟨rfl, rfl, rfl⟩
  · refine qx_iload_n d_QF_output_7 rfl rfl ?_
    refine qx_bipushN (v := 6) d_QF_output_8 rfl ?_
    refine qx_callS (As := [_, _]) (rest := _) d_QF_output_10 lk_QF_44 y_QF_isIn s_QF_isIn rfl rfl rfl rfl (by decide) (by decide) (ct_QF_isIn _ _) ?_
    rintro _ _ _ ⟨rfl, rfl, rfl⟩
    refine qx_if_eqB (t := 31) d_QF_output_13 rfl (fun c13 => ?_) (fun c13 => absurd hg (by rw [c4, c13]; decide))
    refine qx_iconst (v := b2i false) d_QF_output_31 rfl ?_
    exact qx_iret d_QF_output_32 rfl (b2i_nar _) (by omega) (by omega) ⟨rfl, rfl, rfl⟩
set_option maxRecDepth 100000 in
set_option maxHeartbeats 4000000 in
theorem ct_QF_output {h : qH} (hQ : h.2.2 0 = qRQF) (hbeg : h.1 3 0 = b2i true) (hon : h.1 83 0 = b2i false) (k : Nat) (hk : k < 6) (Rq : Option Value → qH → Nat → Prop) (hRq : ∀ v h n, Rq v h n → ∃ b : Bool, v = some (.int (b2i b))) (hD : qT mi_Qu_takeOutput 1 0 0 [.ref 3, .int (nI k)] h NN Rq) : qT mi_QF_output 2 0 0 [.ref 0, .int (nI k)] h NN (fun v1 h1 n1 => Rq v1 h1 n1) := by
  refine qT.of (lv0 := [_, _]) (by decide +kernel) (fun _ _ => Nat.le_of_ble_eq_true rfl) rfl ?_
  refine qx_aload_n d_QF_output_0 rfl rfl ?_
  refine qx_callV (As := []) (rest := _) d_QF_output_1 lk_QF_60 y_QF_canChangeQuery v_QF_canChangeQuery rfl rfl rfl (by decide) rfl rfl rfl rfl (by decide) (by decide) (ct_QF_canChangeQuery hQ true false hbeg hon) ?_
  rintro _ _ _ ⟨rfl, rfl, rfl⟩
  refine qx_if_eqB (t := 31) d_QF_output_4 rfl (fun c4 => by cases c4) (fun c4 => ?_)
  refine qx_iload_n d_QF_output_7 rfl rfl ?_
  refine qx_bipushN (v := 6) d_QF_output_8 rfl ?_
  refine qx_callS (As := [_, _]) (rest := _) d_QF_output_10 lk_QF_44 y_QF_isIn s_QF_isIn rfl rfl rfl rfl (by decide) (by decide) (ct_QF_isIn _ _) ?_
  rintro _ _ _ ⟨rfl, rfl, rfl⟩
  refine qx_if_eqB (t := 31) d_QF_output_13 rfl (fun c13 => absurd c13 (by rw [in_t hk (by omega)]; decide)) (fun c13 => ?_)
  refine qx_aload_n d_QF_output_16 rfl rfl ?_
  refine qx_getR d_QF_output_17 fR_QF_25 rfl rfl (congrFun hQ 2) ?_
  refine qx_iload_n d_QF_output_20 rfl rfl ?_
  refine qx_callV (As := [_]) (rest := _) d_QF_output_21 lk_QF_78 y_Qu_takeOutput v_Qu_takeOutput rfl rfl rfl (by decide) rfl rfl rfl rfl (by decide) (by decide) hD ?_
  intro v1 h1 n1 hq
  obtain ⟨b, rfl⟩ := hRq v1 h1 n1 hq
  refine qx_if_eqB (t := 31) d_QF_output_24 rfl (fun c24 => ?_) (fun c24 => ?_)
  · refine qx_iconst (v := b2i false) d_QF_output_31 rfl ?_
    exact qx_iret d_QF_output_32 rfl (b2i_nar _) (by omega) (by omega) (by rw [c24] at hq; exact hq)
  · refine qx_iconst (v := b2i true) d_QF_output_27 rfl ?_
    refine qx_goto (t := 32) d_QF_output_28 rfl ?_
    exact qx_iret d_QF_output_32 rfl (b2i_nar _) (by omega) (by omega) (by rw [c24] at hq; exact hq)
set_option maxRecDepth 100000 in
set_option maxHeartbeats 4000000 in
theorem ct_QF_group {h : qH} (hQ : h.2.2 0 = qRQF) (bg on : Bool) (hbeg : h.1 3 0 = b2i bg) (hon : h.1 83 0 = b2i on) (kd : Nat) (hk3 : kd < 3) (hkd : h.1 3 1 = nI kd) (c : Int32) : qT mi_QF_group 2 0 0 [.ref 0, .int c] h NN (fun v1 h1 n1 => v1 = some (.int (b2i ((bg && !on) && decide (0 ≤ c ∧ c < nI (if kd = 0 then 2 else 4))))) ∧ h1 = cond ((bg && !on) && decide (0 ≤ c ∧ c < nI (if kd = 0 then 2 else 4))) (qpI h 3 13 c) h ∧ n1 = NN) := by
  refine qT.of (lv0 := [_, _]) (by decide +kernel) (fun _ _ => Nat.le_of_ble_eq_true rfl) rfl ?_
  refine qx_aload_n d_QF_group_0 rfl rfl ?_
  refine qx_callV (As := []) (rest := _) d_QF_group_1 lk_QF_60 y_QF_canChangeQuery v_QF_canChangeQuery rfl rfl rfl (by decide) rfl rfl rfl rfl (by decide) (by decide) (ct_QF_canChangeQuery hQ bg on hbeg hon) ?_
  rintro _ _ _ ⟨rfl, rfl, rfl⟩
  refine qx_if_eqB (t := 21) d_QF_group_4 rfl (fun c4 => ?_) (fun c4 => ?_)
  · refine qx_iconst (v := b2i false) d_QF_group_21 rfl ?_
    exact qx_iret d_QF_group_22 rfl (b2i_nar _) (by omega) (by omega) (by first | (have z := c18; rw [c4, z]; exact ⟨rfl, rfl, rfl⟩) | (rw [c4]; exact ⟨rfl, rfl, rfl⟩))
  · refine qx_iload_n d_QF_group_7 rfl rfl ?_
    refine qx_aload_n d_QF_group_8 rfl rfl ?_
    refine qx_getR d_QF_group_9 fR_QF_25 rfl rfl (congrFun hQ 2) ?_
    refine qx_callV (As := []) (rest := _) d_QF_group_12 lk_QF_64 y_Qu_columns v_Qu_columns rfl rfl rfl (by decide) rfl rfl rfl rfl (by decide) (by decide) (ct_Qu_columns kd hk3 hkd) ?_
    rintro _ _ _ ⟨rfl, rfl, rfl⟩
    refine qx_callS (As := [_, _]) (rest := _) d_QF_group_15 lk_QF_44 y_QF_isIn s_QF_isIn rfl rfl rfl rfl (by decide) (by decide) (ct_QF_isIn _ _) ?_
    rintro _ _ _ ⟨rfl, rfl, rfl⟩
    refine qx_if_neB (t := 23) d_QF_group_18 rfl (fun c18 => ?_) (fun c18 => ?_)
    · refine qx_aload_n d_QF_group_23 rfl rfl ?_
      refine qx_getR d_QF_group_24 fR_QF_25 rfl rfl (congrFun hQ 2) ?_
      refine qx_iload_n d_QF_group_27 rfl rfl ?_
      refine qx_putI d_QF_group_28 fI_QF_81 rfl rfl ⟨rfl, rfl⟩ ?_
      refine qx_iconst (v := b2i true) d_QF_group_31 rfl ?_
      exact qx_iret d_QF_group_32 rfl (b2i_nar _) (by omega) (by omega) (by first | (have z := c18; rw [c4, z]; exact ⟨rfl, rfl, rfl⟩) | (rw [c4]; exact ⟨rfl, rfl, rfl⟩))
    · refine qx_iconst (v := b2i false) d_QF_group_21 rfl ?_
      exact qx_iret d_QF_group_22 rfl (b2i_nar _) (by omega) (by omega) (by first | (have z := c18; rw [c4, z]; exact ⟨rfl, rfl, rfl⟩) | (rw [c4]; exact ⟨rfl, rfl, rfl⟩))
set_option maxRecDepth 100000 in
set_option maxHeartbeats 4000000 in
theorem ct_QF_order {h : qH} (hQ : h.2.2 0 = qRQF) (bg on : Bool) (hbeg : h.1 3 0 = b2i bg) (hon : h.1 83 0 = b2i on) (c x : Int32) (dn : Bool) : qT mi_QF_order 2 0 0 [.ref 0, .int c, .int (b2i dn), .int x] h NN (fun v1 h1 n1 => v1 = some (.int (b2i ((bg && !on) && decide (0 ≤ c ∧ c < nI 4)))) ∧ h1 = cond ((bg && !on) && decide (0 ≤ c ∧ c < nI 4)) (qpI (qpI (qpI h 3 14 c) 3 15 (b2i dn)) 3 16 x) h ∧ n1 = NN) := by
  refine qT.of (lv0 := [_, _, _, _]) (by decide +kernel) (fun _ _ => Nat.le_of_ble_eq_true rfl) rfl ?_
  refine qx_aload_n d_QF_order_0 rfl rfl ?_
  refine qx_callV (As := []) (rest := _) d_QF_order_1 lk_QF_60 y_QF_canChangeQuery v_QF_canChangeQuery rfl rfl rfl (by decide) rfl rfl rfl rfl (by decide) (by decide) (ct_QF_canChangeQuery hQ bg on hbeg hon) ?_
  rintro _ _ _ ⟨rfl, rfl, rfl⟩
  refine qx_if_eqB (t := 15) d_QF_order_4 rfl (fun c4 => ?_) (fun c4 => ?_)
  · refine qx_iconst (v := b2i false) d_QF_order_15 rfl ?_
    exact qx_iret d_QF_order_16 rfl (b2i_nar _) (by omega) (by omega) (by first | (have z := c12; rw [c4, z]; exact ⟨rfl, rfl, rfl⟩) | (rw [c4]; exact ⟨rfl, rfl, rfl⟩))
  · refine qx_iload_n d_QF_order_7 rfl rfl ?_
    refine qx_iconstN (v := 4) d_QF_order_8 rfl ?_
    refine qx_callS (As := [_, _]) (rest := _) d_QF_order_9 lk_QF_44 y_QF_isIn s_QF_isIn rfl rfl rfl rfl (by decide) (by decide) (ct_QF_isIn _ _) ?_
    rintro _ _ _ ⟨rfl, rfl, rfl⟩
    refine qx_if_neB (t := 17) d_QF_order_12 rfl (fun c12 => ?_) (fun c12 => ?_)
    · refine qx_aload_n d_QF_order_17 rfl rfl ?_
      refine qx_getR d_QF_order_18 fR_QF_25 rfl rfl (congrFun hQ 2) ?_
      refine qx_iload_n d_QF_order_21 rfl rfl ?_
      refine qx_putI d_QF_order_22 fI_QF_85 rfl rfl ⟨rfl, rfl⟩ ?_
      refine qx_aload_n d_QF_order_25 rfl rfl ?_
      refine qx_getR d_QF_order_26 fR_QF_25 rfl rfl (congrFun hQ 2) ?_
      refine qx_iload_n d_QF_order_29 rfl rfl ?_
      refine qx_putI d_QF_order_30 fI_QF_88 rfl rfl (b2i_fit _) ?_
      refine qx_aload_n d_QF_order_33 rfl rfl ?_
      refine qx_getR d_QF_order_34 fR_QF_25 rfl rfl (congrFun hQ 2) ?_
      refine qx_iload_n d_QF_order_37 rfl rfl ?_
      refine qx_putI d_QF_order_38 fI_QF_91 rfl rfl ⟨rfl, rfl⟩ ?_
      refine qx_iconst (v := b2i true) d_QF_order_41 rfl ?_
      exact qx_iret d_QF_order_42 rfl (b2i_nar _) (by omega) (by omega) (by first | (have z := c12; rw [c4, z]; exact ⟨rfl, rfl, rfl⟩) | (rw [c4]; exact ⟨rfl, rfl, rfl⟩))
    · refine qx_iconst (v := b2i false) d_QF_order_15 rfl ?_
      exact qx_iret d_QF_order_16 rfl (b2i_nar _) (by omega) (by omega) (by first | (have z := c12; rw [c4, z]; exact ⟨rfl, rfl, rfl⟩) | (rw [c4]; exact ⟨rfl, rfl, rfl⟩))
