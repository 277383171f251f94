set_option maxRecDepth 100000 in
set_option maxHeartbeats 4000000 in
theorem ct_Pl_joinedRows {h : qH} (ti : Nat → Int32) (tn : Nat → Bool) (rw : Nat → Nat) (kd fi se le ri nc : Nat) (CE : Nat → List xP) (pc : Nat → Nat) (hC : plC h ti tn rw kd fi se le ri nc CE pc) (st : sK) (hst : stOk st) (G : sG) (hK : plK h st G) (wc : Nat) (h1w : 1 ≤ wc) (hw4 : wc ≤ 4) (p : Nat) (hp : p < 4) : qT mi_Pl_joinedRows 2 0 0 [.ref 1, .int (nI p), .int (nI wc)] h NN (fun v1 h1 n1 => v1 = some (.int (nI (cntB (fun k => decide (pOf wc ((rowK ti tn fi se st) k le) = p)) st.2.2))) ∧ h = h1 ∧ n1 = NN) := by
  have hk144 := hst.1
  have hfi := hC.2.2.1.2.2.2.1
  have hle := hC.2.2.1.2.2.2.2.2.2.2.1
  refine qT.of (lv0 := [_, _, _, _, _, _, _]) (by decide +kernel) (fun _ _ => Nat.le_of_ble_eq_true rfl) rfl ?_
  have key : ∀ (m i : Nat), i + m = st.2.2 → qX mi_Pl_joinedRows 2 none 0 0 19 [.ref 1, .int (nI p), .int (nI wc), .ref (70 + 3 * fi), .int (nI (cntB (fun k => decide (pOf wc ((rowK ti tn fi se st) k le) = p)) i)), .int (nI i), qdead] [] h NN 0 0 (fun v1 h1 n1 => v1 = some (.int (nI (cntB (fun k => decide (pOf wc ((rowK ti tn fi se st) k le) = p)) st.2.2))) ∧ h = h1 ∧ n1 = NN) := by
    intro m
    induction m with
    | zero =>
      intro i hi
      have ei : i = st.2.2 := by omega
      refine qx_iload d_Pl_joinedRows_19 rfl ?_
      refine qx_aload_n d_Pl_joinedRows_21 rfl rfl ?_
      refine qx_getI d_Pl_joinedRows_22 fI_Pl_71 rfl rfl hK.2.2.1 ?_
      refine qx_icmp_geN (t := 81) d_Pl_joinedRows_25 rfl (by omega) (by omega) (fun c25 => ?_) (fun c25 => absurd c25 (by omega))
      refine qx_iload d_Pl_joinedRows_81 rfl ?_
      exact qx_iret d_Pl_joinedRows_83 rfl rfl (by omega) (by omega) ⟨by rw [ei], rfl, rfl⟩
    | succ m ih =>
      intro i hi
      have hf := (hst.2 i (by omega)).1
      have hs : (cntB (fun k => decide (pOf wc ((rowK ti tn fi se st) k le) = p)) (i + 1)) = if decide (pOf wc ((rowK ti tn fi se st) i le) = p) = true then (cntB (fun k => decide (pOf wc ((rowK ti tn fi se st) k le) = p)) i) + 1 else (cntB (fun k => decide (pOf wc ((rowK ti tn fi se st) k le) = p)) i) := rfl
      have hpo : pOf wc (if tn (24 * fi + (st.1 i * 2 + le)) = true then none else some ((ti (24 * fi + (st.1 i * 2 + le))).toInt64)) = pOf wc ((rowK ti tn fi se st) i le) := by
        unfold rowK jRow
        rw [jB_lo hle, jV_lo hle, show 24 * fi + 2 * st.1 i + le = 24 * fi + (st.1 i * 2 + le) by omega]
      have hml := pOf_lt h1w ((rowK ti tn fi se st) i le)
      refine qx_iload d_Pl_joinedRows_19 rfl ?_
      refine qx_aload_n d_Pl_joinedRows_21 rfl rfl ?_
      refine qx_getI d_Pl_joinedRows_22 fI_Pl_71 rfl rfl hK.2.2.1 ?_
      refine qx_icmp_geN (t := 81) d_Pl_joinedRows_25 rfl (by omega) (by omega) (fun c25 => absurd c25 (by omega)) (fun c25 => ?_)
      refine qx_aload_n d_Pl_joinedRows_28 rfl rfl ?_
      refine qx_getR d_Pl_joinedRows_29 fR_Pl_38 rfl rfl (congrFun hC.1.1 4) ?_
      refine qx_iload d_Pl_joinedRows_32 rfl ?_
      refine qx_iald (j := i) d_Pl_joinedRows_34 rfl rfl rfl rfl (by omega) (show _ = nI (st.1 i) from congrFun hK.1 i) ?_
      refine qx_istore (lv1 := [_, _, _, _, _, _, _]) d_Pl_joinedRows_35 (by decide) rfl ?_
      refine qx_aload_n d_Pl_joinedRows_37 rfl rfl ?_
      refine qx_iload d_Pl_joinedRows_38 rfl ?_
      refine qx_aload_n d_Pl_joinedRows_40 rfl rfl ?_
      refine qx_getR d_Pl_joinedRows_41 fR_Pl_20 rfl rfl (congrFun hC.1.1 1) ?_
      refine qx_getI d_Pl_joinedRows_44 fI_Pl_85 rfl rfl hC.2.2.1.2.2.2.2.2.2.1 ?_
      refine qx_callV (As := [_, _]) (rest := _) d_Pl_joinedRows_47 lk_Pl_95 y_Tb_value v_Tb_value rfl rfl (tb_pl hfi).1 (by decide) rfl (tb_pl hfi).2.2.2.1 rfl rfl (by decide) (by decide) (ct_Tb_value fi hfi (hC.1.2.2.2.1 fi hfi) (st.1 i) le hf hle (ti (24 * fi + (st.1 i * 2 + le))) ((hC.2.1 fi hfi).1 _ (by omega))) ?_
      rintro _ _ _ ⟨rfl, rfl, rfl⟩
      refine qx_i2l d_Pl_joinedRows_50 ?_
      refine qx_aload_n d_Pl_joinedRows_51 rfl rfl ?_
      refine qx_iload d_Pl_joinedRows_52 rfl ?_
      refine qx_aload_n d_Pl_joinedRows_54 rfl rfl ?_
      refine qx_getR d_Pl_joinedRows_55 fR_Pl_20 rfl rfl (congrFun hC.1.1 1) ?_
      refine qx_getI d_Pl_joinedRows_58 fI_Pl_85 rfl rfl hC.2.2.1.2.2.2.2.2.2.1 ?_
      refine qx_callV (As := [_, _]) (rest := _) d_Pl_joinedRows_61 lk_Pl_88 y_Tb_isNull v_Tb_isNull rfl rfl (tb_pl hfi).1 (by decide) rfl (tb_pl hfi).2.2.2.1 rfl rfl (by decide) (by decide) (ct_Tb_isNull fi hfi (hC.1.2.2.2.1 fi hfi) (st.1 i) le hf hle (tn (24 * fi + (st.1 i * 2 + le))) ((hC.2.1 fi hfi).2.1 _ (by omega))) ?_
      rintro _ _ _ ⟨rfl, rfl, rfl⟩
      refine qx_iload_n d_Pl_joinedRows_64 rfl rfl ?_
      refine qx_callS (As := [_, _, _]) (rest := _) d_Pl_joinedRows_65 lk_Pl_206 y_Pl_partOf s_Pl_partOf rfl rfl rfl rfl (by decide) (by decide) (ct_Pl_partOf ((ti (24 * fi + (st.1 i * 2 + le))).toInt64) (tn (24 * fi + (st.1 i * 2 + le))) wc h1w hw4) ?_
      rintro _ _ _ ⟨rfl, rfl, rfl⟩
      rw [hpo]
      refine qx_iload_n d_Pl_joinedRows_68 rfl rfl ?_
      refine qx_icmp_neN (t := 75) d_Pl_joinedRows_69 rfl (by omega) (by omega) (fun c69 => ?_) (fun c69 => ?_)
      · refine qx_iincN (w := 1) (lv1 := [_, _, _, _, _, _, _]) d_Pl_joinedRows_75 rfl rfl (by decide) rfl ?_
        refine qx_goto (t := 19) d_Pl_joinedRows_78 rfl ?_
        refine qx_less (lv1 := [_, _, _, _, _, _, qdead]) ⟨Or.inr rfl, Or.inr rfl, Or.inr rfl, Or.inr rfl, Or.inr rfl, Or.inr rfl, Or.inl rfl, trivial⟩ ?_
        have k2 := ih (i + 1) (by omega)
        first
          | (rw [hs, decide_eq_true c69] at k2; exact k2)
          | (rw [hs, decide_eq_false c69] at k2; exact k2)
      · refine qx_iincN (w := 1) (lv1 := [_, _, _, _, _, _, _]) d_Pl_joinedRows_72 rfl rfl (by decide) rfl ?_
        refine qx_iincN (w := 1) (lv1 := [_, _, _, _, _, _, _]) d_Pl_joinedRows_75 rfl rfl (by decide) rfl ?_
        refine qx_goto (t := 19) d_Pl_joinedRows_78 rfl ?_
        refine qx_less (lv1 := [_, _, _, _, _, _, qdead]) ⟨Or.inr rfl, Or.inr rfl, Or.inr rfl, Or.inr rfl, Or.inr rfl, Or.inr rfl, Or.inl rfl, trivial⟩ ?_
        have k2 := ih (i + 1) (by omega)
        first
          | (rw [hs, decide_eq_true c69] at k2; exact k2)
          | (rw [hs, decide_eq_false c69] at k2; exact k2)
  refine qx_aload_n d_Pl_joinedRows_0 rfl rfl ?_
  refine qx_getR d_Pl_joinedRows_1 fR_Pl_11 rfl rfl (congrFun hC.1.1 0) ?_
  refine qx_aload_n d_Pl_joinedRows_4 rfl rfl ?_
  refine qx_getR d_Pl_joinedRows_5 fR_Pl_20 rfl rfl (congrFun hC.1.1 1) ?_
  refine qx_getI d_Pl_joinedRows_8 fI_Pl_57 rfl rfl hC.2.2.1.2.2.1 ?_
  refine qx_aald (j := fi) (t := 0)  d_Pl_joinedRows_11 rfl (fun _ => rfl) rfl rfl rfl hfi (hC.1.2.1 fi hfi) ?_
  refine qx_astore_n (lv1 := [_, _, _, _, _, _, _]) d_Pl_joinedRows_12 rfl (by decide) rfl ?_
  refine qx_iconstN (v := 0) d_Pl_joinedRows_13 rfl ?_
  refine qx_istore (lv1 := [_, _, _, _, _, _, _]) d_Pl_joinedRows_14 (by decide) rfl ?_
  refine qx_iconstN (v := 0) d_Pl_joinedRows_16 rfl ?_
  refine qx_istore (lv1 := [_, _, _, _, _, _, _]) d_Pl_joinedRows_17 (by decide) rfl ?_
  exact key st.2.2 0 (by omega)
set_option maxRecDepth 100000 in
set_option maxHeartbeats 4000000 in
theorem ct_Pl_groupsOfPart_n {h : qH} (ti : Nat → Int32) (tn : Nat → Bool) (rw : Nat → Nat) (kd fi se le ri nc : Nat) (CE : Nat → List xP) (pc : Nat → Nat) (hC : plC h ti tn rw kd fi se le ri nc CE pc) (wc : Nat) (h1w : 1 ≤ wc) (hw4 : wc ≤ 4) (p : Nat) (hp : p < 4) (hgr : h.1 3 13 = grI none) : qT mi_Pl_groupsOfPart 2 0 0 [.ref 1, .int (nI p), .int (nI wc)] h NN (fun v1 h1 n1 => v1 = some (.int (nI (if p = 0 then 1 else 0))) ∧ h = h1 ∧ n1 = NN) := by
  refine qT.of (lv0 := [_, _, _, _, _]) (by decide +kernel) (fun _ _ => Nat.le_of_ble_eq_true rfl) rfl ?_
  refine qx_aload_n d_Pl_groupsOfPart_0 rfl rfl ?_
  refine qx_getR d_Pl_groupsOfPart_1 fR_Pl_20 rfl rfl (congrFun hC.1.1 1) ?_
  refine qx_callV (As := []) (rest := _) d_Pl_groupsOfPart_4 lk_Pl_120 y_Qu_isGrouped v_Qu_isGrouped rfl rfl rfl (by decide) rfl rfl rfl rfl (by decide) (by decide) (ct_Qu_isGrouped none (fun g e => by cases e) hgr) ?_
  rintro _ _ _ ⟨rfl, rfl, rfl⟩
  refine qx_if_neB (t := 20) d_Pl_groupsOfPart_7 rfl (fun c7 => by cases c7) (fun c7 => ?_)
  refine qx_iload_n d_Pl_groupsOfPart_10 rfl rfl ?_
  refine qx_if_neN (t := 18) d_Pl_groupsOfPart_11 rfl (by omega) (fun c11 => ?_) (fun c11 => ?_)
  · refine qx_iconstN (v := 0) d_Pl_groupsOfPart_18 rfl ?_
    exact qx_iret d_Pl_groupsOfPart_19 rfl rfl (by omega) (by omega) (by first | (rw [if_pos c11]; exact ⟨rfl, rfl, rfl⟩) | (rw [if_neg (by omega)]; exact ⟨rfl, rfl, rfl⟩))
  · refine qx_iconstN (v := 1) d_Pl_groupsOfPart_14 rfl ?_
    refine qx_goto (t := 19) d_Pl_groupsOfPart_15 rfl ?_
    exact qx_iret d_Pl_groupsOfPart_19 rfl rfl (by omega) (by omega) (by first | (rw [if_pos c11]; exact ⟨rfl, rfl, rfl⟩) | (rw [if_neg (by omega)]; exact ⟨rfl, rfl, rfl⟩))
set_option maxRecDepth 100000 in
set_option maxHeartbeats 4000000 in
theorem ct_Pl_groupsOfPart_s {h : qH} (ti : Nat → Int32) (tn : Nat → Bool) (rw : Nat → Nat) (kd fi se le ri nc : Nat) (CE : Nat → List xP) (pc : Nat → Nat) (hC : plC h ti tn rw kd fi se le ri nc CE pc) (st : sK) (hst : stOk st) (G : sG) (hK : plK h st G) (wc : Nat) (h1w : 1 ≤ wc) (hw4 : wc ≤ 4) (p : Nat) (hp : p < 4) (g : Nat) (hg4 : g < 4) (hgr : h.1 3 13 = grI (some g)) (hG13 : G.2.2.2 ≤ 13) : qT mi_Pl_groupsOfPart 2 0 0 [.ref 1, .int (nI p), .int (nI wc)] h NN (fun v1 h1 n1 => v1 = some (.int (nI (cntB (fun j => decide (pOf wc (gCell G.1 G.2.1 j) = p)) G.2.2.2))) ∧ h = h1 ∧ n1 = NN) := by
  refine qT.of (lv0 := [_, _, _, _, _]) (by decide +kernel) (fun _ _ => Nat.le_of_ble_eq_true rfl) rfl ?_
  have key : ∀ (m i : Nat), i + m = G.2.2.2 → qX mi_Pl_groupsOfPart 2 none 0 0 25 [.ref 1, .int (nI p), .int (nI wc), .int (nI (cntB (fun j => decide (pOf wc (gCell G.1 G.2.1 j) = p)) i)), .int (nI i)] [] h NN 0 0 (fun v1 h1 n1 => v1 = some (.int (nI (cntB (fun j => decide (pOf wc (gCell G.1 G.2.1 j) = p)) G.2.2.2))) ∧ h = h1 ∧ n1 = NN) := by
    intro m
    induction m with
    | zero =>
      intro i hi
      have ei : i = G.2.2.2 := by omega
      refine qx_iload d_Pl_groupsOfPart_25 rfl ?_
      refine qx_aload_n d_Pl_groupsOfPart_27 rfl rfl ?_
      refine qx_getI d_Pl_groupsOfPart_28 fI_Pl_123 rfl rfl hK.2.2.2.2.2.2 ?_
      refine qx_icmp_geN (t := 65) d_Pl_groupsOfPart_31 rfl (by omega) (by omega) (fun c31 => ?_) (fun c31 => absurd c31 (by omega))
      refine qx_iload_n d_Pl_groupsOfPart_65 rfl rfl ?_
      exact qx_iret d_Pl_groupsOfPart_66 rfl rfl (by omega) (by omega) ⟨by rw [ei], rfl, rfl⟩
    | succ m ih =>
      intro i hi
      have hs : (cntB (fun j => decide (pOf wc (gCell G.1 G.2.1 j) = p)) (i + 1)) = if decide (pOf wc (gCell G.1 G.2.1 i) = p) = true then (cntB (fun j => decide (pOf wc (gCell G.1 G.2.1 j) = p)) i) + 1 else (cntB (fun j => decide (pOf wc (gCell G.1 G.2.1 j) = p)) i) := rfl
      have hml := pOf_lt h1w (gCell G.1 G.2.1 i)
      refine qx_iload d_Pl_groupsOfPart_25 rfl ?_
      refine qx_aload_n d_Pl_groupsOfPart_27 rfl rfl ?_
      refine qx_getI d_Pl_groupsOfPart_28 fI_Pl_123 rfl rfl hK.2.2.2.2.2.2 ?_
      refine qx_icmp_geN (t := 65) d_Pl_groupsOfPart_31 rfl (by omega) (by omega) (fun c31 => absurd c31 (by omega)) (fun c31 => ?_)
      refine qx_aload_n d_Pl_groupsOfPart_34 rfl rfl ?_
      refine qx_getR d_Pl_groupsOfPart_35 fR_Pl_48 rfl rfl (congrFun hC.1.1 8) ?_
      refine qx_iload d_Pl_groupsOfPart_38 rfl ?_
      refine qx_lald (j := i) d_Pl_groupsOfPart_40 rfl rfl rfl rfl (by omega) (show _ = G.1 i from congrFun hK.2.2.2.1 i) ?_
      refine qx_aload_n d_Pl_groupsOfPart_41 rfl rfl ?_
      refine qx_getR d_Pl_groupsOfPart_42 fR_Pl_52 rfl rfl (congrFun hC.1.1 9) ?_
      refine qx_iload d_Pl_groupsOfPart_45 rfl ?_
      refine qx_zald (j := i) d_Pl_groupsOfPart_47 rfl rfl rfl rfl (by omega) (show _ = b2i (G.2.1 i) from congrFun hK.2.2.2.2.1 i) ?_
      refine qx_iload_n d_Pl_groupsOfPart_48 rfl rfl ?_
      refine qx_callS (As := [_, _, _]) (rest := _) d_Pl_groupsOfPart_49 lk_Pl_206 y_Pl_partOf s_Pl_partOf rfl rfl rfl rfl (by decide) (by decide) (ct_Pl_partOf (G.1 i) (G.2.1 i) wc h1w hw4) ?_
      rintro _ _ _ ⟨rfl, rfl, rfl⟩
      rw [show (if G.2.1 i = true then none else some (G.1 i)) = gCell G.1 G.2.1 i from rfl]
      refine qx_iload_n d_Pl_groupsOfPart_52 rfl rfl ?_
      refine qx_icmp_neN (t := 59) d_Pl_groupsOfPart_53 rfl (by omega) (by omega) (fun c53 => ?_) (fun c53 => ?_)
      · refine qx_iincN (w := 1) (lv1 := [_, _, _, _, _]) d_Pl_groupsOfPart_59 rfl rfl (by decide) rfl ?_
        refine qx_goto (t := 25) d_Pl_groupsOfPart_62 rfl ?_
        have k2 := ih (i + 1) (by omega)
        first
          | (rw [hs, decide_eq_true c53] at k2; exact k2)
          | (rw [hs, decide_eq_false c53] at k2; exact k2)
      · refine qx_iincN (w := 1) (lv1 := [_, _, _, _, _]) d_Pl_groupsOfPart_56 rfl rfl (by decide) rfl ?_
        refine qx_iincN (w := 1) (lv1 := [_, _, _, _, _]) d_Pl_groupsOfPart_59 rfl rfl (by decide) rfl ?_
        refine qx_goto (t := 25) d_Pl_groupsOfPart_62 rfl ?_
        have k2 := ih (i + 1) (by omega)
        first
          | (rw [hs, decide_eq_true c53] at k2; exact k2)
          | (rw [hs, decide_eq_false c53] at k2; exact k2)
  refine qx_aload_n d_Pl_groupsOfPart_0 rfl rfl ?_
  refine qx_getR d_Pl_groupsOfPart_1 fR_Pl_20 rfl rfl (congrFun hC.1.1 1) ?_
  refine qx_callV (As := []) (rest := _) d_Pl_groupsOfPart_4 lk_Pl_120 y_Qu_isGrouped v_Qu_isGrouped rfl rfl rfl (by decide) rfl rfl rfl rfl (by decide) (by decide) (ct_Qu_isGrouped (some g) (fun q e => by cases e; exact hg4) hgr) ?_
  rintro _ _ _ ⟨rfl, rfl, rfl⟩
  refine qx_if_neB (t := 20) d_Pl_groupsOfPart_7 rfl (fun c7 => ?_) (fun c7 => by cases c7)
  refine qx_iconstN (v := 0) d_Pl_groupsOfPart_20 rfl ?_
  refine qx_istore_n (lv1 := [_, _, _, _, _]) d_Pl_groupsOfPart_21 rfl (by decide) rfl ?_
  refine qx_iconstN (v := 0) d_Pl_groupsOfPart_22 rfl ?_
  refine qx_istore (lv1 := [_, _, _, _, _]) d_Pl_groupsOfPart_23 (by decide) rfl ?_
  exact key G.2.2.2 0 (by omega)
theorem cntB_c {f g : Nat → Bool} : ∀ n, (∀ k, k < n → f k = g k) → cntB f n = cntB g n
  | 0, _ => rfl
  | n + 1, h => by
    show (if f n = true then cntB f n + 1 else cntB f n) = (if g n = true then cntB g n + 1 else cntB g n)
    rw [cntB_c n (fun k hk => h k (by omega)), h n (by omega)]
set_option maxRecDepth 100000 in
set_option maxHeartbeats 4000000 in
theorem ct_Pl_rowsOf_0 {h : qH} (ti : Nat → Int32) (tn : Nat → Bool) (rw : Nat → Nat) (kd fi se le ri nc : Nat) (CE : Nat → List xP) (pc : Nat → Nat) (hC : plC h ti tn rw kd fi se le ri nc CE pc) (wc : Nat) (h1w : 1 ≤ wc) (hw4 : wc ≤ 4) (p : Nat) (hp : p < 4) (cv : Nat → Int64) (cb : Nat → Bool) (vs : Nat → Int64) (ns : Nat → Bool) : qT mi_Pl_rowsOf 6 0 0 [.ref 1, .int (nI 0), .int (nI p), .int (nI wc)] (nR (lR h cv cb) vs ns) NN (fun v1 h1 n1 => v1 = some (.int (nI (scQ (fun k => (ti k).toInt64) tn CE nc kd wc fi 0 (rw fi) p))) ∧ (∃ cv2 cb2 vs2 ns2, h1 = nR (lR h cv2 cb2) vs2 ns2) ∧ n1 = NN) := by
  refine qT.of (lv0 := [_, _, _, _]) (by decide +kernel) (fun _ _ => Nat.le_of_ble_eq_true rfl) rfl ?_
  refine qx_iload_n d_Pl_rowsOf_0 rfl rfl ?_
  refine qx_tabIn (t := 32) d_Pl_rowsOf_1 (by decide) (by decide) rfl rfl ?_
  refine qx_aload_n d_Pl_rowsOf_32 rfl rfl ?_
  refine qx_iload_n d_Pl_rowsOf_33 rfl rfl ?_
  refine qx_aload_n d_Pl_rowsOf_34 rfl rfl ?_
  refine qx_getR d_Pl_rowsOf_35 fR_Pl_20 rfl rfl (congrFun hC.1.1 1) ?_
  refine qx_getI d_Pl_rowsOf_38 fI_Pl_57 rfl rfl hC.2.2.1.2.2.1 ?_
  refine qx_iload_n d_Pl_rowsOf_41 rfl rfl ?_
  refine qx_iload_n d_Pl_rowsOf_42 rfl rfl ?_
  refine qx_callV (As := [_, _, _, _]) (rest := _) d_Pl_rowsOf_43 lk_Pl_196 y_Pl_scannedRows v_Pl_scannedRows rfl rfl rfl (by decide) rfl rfl rfl rfl (by decide) (by decide) (ct_Pl_scannedRows_0 ti tn rw kd fi se le ri nc CE pc hC wc h1w hw4 p hp fi hC.2.2.1.2.2.2.1 cv cb vs ns) ?_
  rintro _ _ _ ⟨rfl, ⟨cv2, cb2, vs2, ns2, rfl⟩, rfl⟩
  exact qx_iret d_Pl_rowsOf_46 rfl rfl (by omega) (by omega) ⟨rfl, ⟨cv2, cb2, vs2, ns2, rfl⟩, rfl⟩
set_option maxRecDepth 100000 in
set_option maxHeartbeats 4000000 in
theorem ct_Pl_rowsOf_1 {h : qH} (ti : Nat → Int32) (tn : Nat → Bool) (rw : Nat → Nat) (kd fi se le ri nc : Nat) (CE : Nat → List xP) (pc : Nat → Nat) (hC : plC h ti tn rw kd fi se le ri nc CE pc) (wc : Nat) (h1w : 1 ≤ wc) (hw4 : wc ≤ 4) (p : Nat) (hp : p < 4) (cv : Nat → Int64) (cb : Nat → Bool) (vs : Nat → Int64) (ns : Nat → Bool) : qT mi_Pl_rowsOf 6 0 0 [.ref 1, .int (nI 1), .int (nI p), .int (nI wc)] (nR (lR h cv cb) vs ns) NN (fun v1 h1 n1 => v1 = some (.int (nI (scQ (fun k => (ti k).toInt64) tn CE nc kd wc se 1 (rw se) p))) ∧ (∃ cv2 cb2 vs2 ns2, h1 = nR (lR h cv2 cb2) vs2 ns2) ∧ n1 = NN) := by
  refine qT.of (lv0 := [_, _, _, _]) (by decide +kernel) (fun _ _ => Nat.le_of_ble_eq_true rfl) rfl ?_
  refine qx_iload_n d_Pl_rowsOf_0 rfl rfl ?_
  refine qx_tabIn (t := 47) d_Pl_rowsOf_1 (by decide) (by decide) rfl rfl ?_
  refine qx_aload_n d_Pl_rowsOf_47 rfl rfl ?_
  refine qx_iload_n d_Pl_rowsOf_48 rfl rfl ?_
  refine qx_aload_n d_Pl_rowsOf_49 rfl rfl ?_
  refine qx_getR d_Pl_rowsOf_50 fR_Pl_20 rfl rfl (congrFun hC.1.1 1) ?_
  refine qx_getI d_Pl_rowsOf_53 fI_Pl_61 rfl rfl hC.2.2.1.2.2.2.2.1 ?_
  refine qx_iload_n d_Pl_rowsOf_56 rfl rfl ?_
  refine qx_iload_n d_Pl_rowsOf_57 rfl rfl ?_
  refine qx_callV (As := [_, _, _, _]) (rest := _) d_Pl_rowsOf_58 lk_Pl_196 y_Pl_scannedRows v_Pl_scannedRows rfl rfl rfl (by decide) rfl rfl rfl rfl (by decide) (by decide) (ct_Pl_scannedRows_1 ti tn rw kd fi se le ri nc CE pc hC wc h1w hw4 p hp se hC.2.2.1.2.2.2.2.2.1 cv cb vs ns) ?_
  rintro _ _ _ ⟨rfl, ⟨cv2, cb2, vs2, ns2, rfl⟩, rfl⟩
  exact qx_iret d_Pl_rowsOf_61 rfl rfl (by omega) (by omega) ⟨rfl, ⟨cv2, cb2, vs2, ns2, rfl⟩, rfl⟩
set_option maxRecDepth 100000 in
set_option maxHeartbeats 4000000 in
theorem ct_Pl_rowsOf_2 {h : qH} (ti : Nat → Int32) (tn : Nat → Bool) (rw : Nat → Nat) (kd fi se le ri nc : Nat) (CE : Nat → List xP) (pc : Nat → Nat) (hC : plC h ti tn rw kd fi se le ri nc CE pc) (st : sK) (hst : stOk st) (G : sG) (hK : plK h st G) (wc : Nat) (h1w : 1 ≤ wc) (hw4 : wc ≤ 4) (p : Nat) (hp : p < 4) (cv : Nat → Int64) (cb : Nat → Bool) (vs : Nat → Int64) (ns : Nat → Bool) : qT mi_Pl_rowsOf 6 0 0 [.ref 1, .int (nI 2), .int (nI p), .int (nI wc)] (nR (lR h cv cb) vs ns) NN (fun v1 h1 n1 => v1 = some (.int (nI (cntB (fun k => decide (pOf wc ((rowK ti tn fi se st) k le) = p)) st.2.2))) ∧ (∃ cv2 cb2 vs2 ns2, h1 = nR (lR h cv2 cb2) vs2 ns2) ∧ n1 = NN) := by
  refine qT.of (lv0 := [_, _, _, _]) (by decide +kernel) (fun _ _ => Nat.le_of_ble_eq_true rfl) rfl ?_
  refine qx_iload_n d_Pl_rowsOf_0 rfl rfl ?_
  refine qx_tabIn (t := 62) d_Pl_rowsOf_1 (by decide) (by decide) rfl rfl ?_
  refine qx_aload_n d_Pl_rowsOf_62 rfl rfl ?_
  refine qx_iload_n d_Pl_rowsOf_63 rfl rfl ?_
  refine qx_iload_n d_Pl_rowsOf_64 rfl rfl ?_
  refine qx_callV (As := [_, _]) (rest := _) d_Pl_rowsOf_65 lk_Pl_200 y_Pl_joinedRows v_Pl_joinedRows rfl rfl rfl (by decide) rfl rfl rfl rfl (by decide) (by decide) (ct_Pl_joinedRows (h := (nR (lR h cv cb) vs ns)) ti tn rw kd fi se le ri nc CE pc (plC_n (plC_l hC)) st hst G hK wc h1w hw4 p hp) ?_
  rintro _ _ _ ⟨rfl, rfl, rfl⟩
  exact qx_iret d_Pl_rowsOf_68 rfl rfl (by omega) (by omega) ⟨rfl, ⟨cv, cb, vs, ns, rfl⟩, rfl⟩
set_option maxRecDepth 100000 in
set_option maxHeartbeats 4000000 in
theorem ct_Pl_rowsOf_3n {h : qH} (ti : Nat → Int32) (tn : Nat → Bool) (rw : Nat → Nat) (kd fi se le ri nc : Nat) (CE : Nat → List xP) (pc : Nat → Nat) (hC : plC h ti tn rw kd fi se le ri nc CE pc) (st : sK) (hst : stOk st) (G : sG) (hK : plK h st G) (wc : Nat) (h1w : 1 ≤ wc) (hw4 : wc ≤ 4) (p : Nat) (hp : p < 4) (cv : Nat → Int64) (cb : Nat → Bool) (vs : Nat → Int64) (ns : Nat → Bool) (hgr : h.1 3 13 = grI none) : qT mi_Pl_rowsOf 6 0 0 [.ref 1, .int (nI 3), .int (nI p), .int (nI wc)] (nR (lR h cv cb) vs ns) NN (fun v1 h1 n1 => v1 = some (.int (nI (if p = 0 then 1 else 0))) ∧ (∃ cv2 cb2 vs2 ns2, h1 = nR (lR h cv2 cb2) vs2 ns2) ∧ n1 = NN) := by
  refine qT.of (lv0 := [_, _, _, _]) (by decide +kernel) (fun _ _ => Nat.le_of_ble_eq_true rfl) rfl ?_
  refine qx_iload_n d_Pl_rowsOf_0 rfl rfl ?_
  refine qx_tabIn (t := 69) d_Pl_rowsOf_1 (by decide) (by decide) rfl rfl ?_
  refine qx_aload_n d_Pl_rowsOf_69 rfl rfl ?_
  refine qx_iload_n d_Pl_rowsOf_70 rfl rfl ?_
  refine qx_iload_n d_Pl_rowsOf_71 rfl rfl ?_
  refine qx_callV (As := [_, _]) (rest := _) d_Pl_rowsOf_72 lk_Pl_203 y_Pl_groupsOfPart v_Pl_groupsOfPart rfl rfl rfl (by decide) rfl rfl rfl rfl (by decide) (by decide) (ct_Pl_groupsOfPart_n (h := (nR (lR h cv cb) vs ns)) ti tn rw kd fi se le ri nc CE pc (plC_n (plC_l hC)) wc h1w hw4 p hp hgr) ?_
  rintro _ _ _ ⟨rfl, rfl, rfl⟩
  exact qx_iret d_Pl_rowsOf_75 rfl rfl (by omega) (by omega) ⟨rfl, ⟨cv, cb, vs, ns, rfl⟩, rfl⟩
set_option maxRecDepth 100000 in
set_option maxHeartbeats 4000000 in
theorem ct_Pl_rowsOf_3s {h : qH} (ti : Nat → Int32) (tn : Nat → Bool) (rw : Nat → Nat) (kd fi se le ri nc : Nat) (CE : Nat → List xP) (pc : Nat → Nat) (hC : plC h ti tn rw kd fi se le ri nc CE pc) (st : sK) (hst : stOk st) (G : sG) (hK : plK h st G) (wc : Nat) (h1w : 1 ≤ wc) (hw4 : wc ≤ 4) (p : Nat) (hp : p < 4) (cv : Nat → Int64) (cb : Nat → Bool) (vs : Nat → Int64) (ns : Nat → Bool) (g : Nat) (hg4 : g < 4) (hgr : h.1 3 13 = grI (some g)) (hG13 : G.2.2.2 ≤ 13) : qT mi_Pl_rowsOf 6 0 0 [.ref 1, .int (nI 3), .int (nI p), .int (nI wc)] (nR (lR h cv cb) vs ns) NN (fun v1 h1 n1 => v1 = some (.int (nI (cntB (fun j => decide (pOf wc (gCell G.1 G.2.1 j) = p)) G.2.2.2))) ∧ (∃ cv2 cb2 vs2 ns2, h1 = nR (lR h cv2 cb2) vs2 ns2) ∧ n1 = NN) := by
  refine qT.of (lv0 := [_, _, _, _]) (by decide +kernel) (fun _ _ => Nat.le_of_ble_eq_true rfl) rfl ?_
  refine qx_iload_n d_Pl_rowsOf_0 rfl rfl ?_
  refine qx_tabIn (t := 69) d_Pl_rowsOf_1 (by decide) (by decide) rfl rfl ?_
  refine qx_aload_n d_Pl_rowsOf_69 rfl rfl ?_
  refine qx_iload_n d_Pl_rowsOf_70 rfl rfl ?_
  refine qx_iload_n d_Pl_rowsOf_71 rfl rfl ?_
  refine qx_callV (As := [_, _]) (rest := _) d_Pl_rowsOf_72 lk_Pl_203 y_Pl_groupsOfPart v_Pl_groupsOfPart rfl rfl rfl (by decide) rfl rfl rfl rfl (by decide) (by decide) (ct_Pl_groupsOfPart_s (h := (nR (lR h cv cb) vs ns)) ti tn rw kd fi se le ri nc CE pc (plC_n (plC_l hC)) st hst G hK wc h1w hw4 p hp g hg4 hgr hG13) ?_
  rintro _ _ _ ⟨rfl, rfl, rfl⟩
  exact qx_iret d_Pl_rowsOf_75 rfl rfl (by omega) (by omega) ⟨rfl, ⟨cv, cb, vs, ns, rfl⟩, rfl⟩
theorem ct_Pl_rowsOf_3 {h : qH} (ti : Nat → Int32) (tn : Nat → Bool) (rw : Nat → Nat) (kd fi se le ri nc : Nat) (CE : Nat → List xP) (pc : Nat → Nat) (hC : plC h ti tn rw kd fi se le ri nc CE pc) (st : sK) (hst : stOk st) (G : sG) (hK : plK h st G) (wc : Nat) (h1w : 1 ≤ wc) (hw4 : wc ≤ 4) (p : Nat) (hp : p < 4) (cv : Nat → Int64) (cb : Nat → Bool) (vs : Nat → Int64) (ns : Nat → Bool) (gr : Option Nat) (hgr4 : ∀ g, gr = some g → g < 4) (hgr : h.1 3 13 = grI gr) (OE : Nat → List xP) (ok : Nat → Nat) (hG : gOk gr (rowK ti tn fi se st) st.2.2 G) (hG13 : G.2.2.2 ≤ 13) : qT mi_Pl_rowsOf 6 0 0 [.ref 1, .int (nI 3), .int (nI p), .int (nI wc)] (nR (lR h cv cb) vs ns) NN (fun v1 h1 n1 => v1 = some (.int (nI (grQ wc gr (rWv 1 gr OE ok (rowK ti tn fi se st) st.2.2) (rWn 1 gr (rowK ti tn fi se st) st.2.2) p))) ∧ (∃ cv2 cb2 vs2 ns2, h1 = nR (lR h cv2 cb2) vs2 ns2) ∧ n1 = NN) := by
  cases gr with
  | none => exact ct_Pl_rowsOf_3n ti tn rw kd fi se le ri nc CE pc hC st hst G hK wc h1w hw4 p hp cv cb vs ns hgr
  | some g =>
    refine qT.imp ?_ (ct_Pl_rowsOf_3s ti tn rw kd fi se le ri nc CE pc hC st hst G hK wc h1w hw4 p hp cv cb vs ns g (hgr4 g rfl) hgr hG13)
    rintro v h n ⟨e1, e2, e3⟩
    refine ⟨?_, e2, e3⟩
    rw [e1]
    refine congrArg (fun x => some (Value.int (nI x))) ?_
    show _ = cntB (fun k => decide (pOf wc (rWv 1 (some g) OE ok (rowK ti tn fi se st) st.2.2 k 0) = p)) (rWn 1 (some g) (rowK ti tn fi se st) st.2.2)
    rw [← hG.1]
    refine cntB_c _ (fun k hk => ?_)
    rw [hG.2.2.1 g rfl k hk]
    rfl
