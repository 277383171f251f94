theorem ag_79 {h : qH} {i : Nat} {v : Int32} : ∀ a, (3 ≤ a ∧ a ≤ 58) ∨ (70 ≤ a ∧ a ≤ 78) → (qpI h 79 i v).1 a = h.1 a := fun a ha => (qpI_o h 79 i v a (by omega)).1
set_option maxRecDepth 100000 in
set_option maxHeartbeats 4000000 in
theorem ct_Pl_fillResult_1 {h : qH} (ti : Nat → Int32) (tn : Nat → Bool) (rw : Nat → Nat) (kd fi se le ri nc : Nat) (CE : Nat → List xP) (pc : Nat → Nat) (hC : plC h ti tn rw kd fi se le ri nc CE pc) (st : sK) (hst : stOk st) (G : sG) (hK : plK h st G) (gr : Option Nat) (no : Nat) (OE : Nat → List xP) (ok po : Nat → Nat) (hO : plO h gr no OE ok po) (hok : ∀ o, o < no → ok o ≠ 0) (hG : gOk gr (rowK ti tn fi se st) st.2.2 G) (hG13 : G.2.2.2 ≤ 13) (hag : cAgg gr ok no = true) (vv : Nat → Int64) (vb : Nat → Bool) (S : sC) (cv : Nat → Int64) (cb : Nat → Bool) (vs : Nat → Int64) (ns : Nat → Bool) : qT mi_Pl_fillResult 6 0 0 [.ref 1, .ref 79] (nR (lR (aR (uR h vv vb) S) cv cb) vs ns) NN (fun v1 h1 n1 => v1 = none ∧ (∃ vv2 vb2 S2 cv2 cb2 vs2 ns2, h1 = (nR (lR (aR (uR (qpI (qpI h 79 4 (nI (grS gr + no))) 79 3 (nI (rWn 1 gr (rowK ti tn fi se st) st.2.2))) vv2 vb2) S2) cv2 cb2) vs2 ns2) ∧ ∀ i, i < (rWn 1 gr (rowK ti tn fi se st) st.2.2) → ∀ c, c < (grS gr + no) → cV1 vv2 vb2 i c ((rWv 1 gr OE ok (rowK ti tn fi se st) st.2.2) i c)) ∧ n1 = NN) := by
  have hk144 := hst.1
  have hno3 := hO.2.2.1
  have hC2 : plC (qpI (qpI h 79 4 (nI (grS gr + no))) 79 3 (nI G.2.2.2)) ti tn rw kd fi se le ri nc CE pc := plC_ag ag_79 rfl (plC_ag ag_79 rfl hC)
  have hO2 : plO (qpI (qpI h 79 4 (nI (grS gr + no))) 79 3 (nI G.2.2.2)) gr no OE ok po := plO_ag ag_79 rfl (plO_ag ag_79 rfl hO)
  have ers : (rWn 1 gr (rowK ti tn fi se st) st.2.2) = G.2.2.2 := hG.1.symm
  refine qT.of (lv0 := [_, _, _]) (by decide +kernel) (fun _ _ => Nat.le_of_ble_eq_true rfl) rfl ?_
  have key : ∀ (m i : Nat) (vv : Nat → Int64) (vb : Nat → Bool) (S : sC) (cv : Nat → Int64) (cb : Nat → Bool) (vs : Nat → Int64) (ns : Nat → Bool), i + m = G.2.2.2 → (∀ q, q < i → ∀ c, c < (grS gr + no) → cV1 vv vb q c ((rWv 1 gr OE ok (rowK ti tn fi se st) st.2.2) q c)) → qX mi_Pl_fillResult 6 none 0 0 31 [.ref 1, .ref 79, .int (nI i)] [] (nR (lR (aR (uR (qpI (qpI h 79 4 (nI (grS gr + no))) 79 3 (nI G.2.2.2)) vv vb) S) cv cb) vs ns) NN 0 0 (fun v1 h1 n1 => v1 = none ∧ (∃ vv2 vb2 S2 cv2 cb2 vs2 ns2, h1 = (nR (lR (aR (uR (qpI (qpI h 79 4 (nI (grS gr + no))) 79 3 (nI (rWn 1 gr (rowK ti tn fi se st) st.2.2))) vv2 vb2) S2) cv2 cb2) vs2 ns2) ∧ ∀ i, i < (rWn 1 gr (rowK ti tn fi se st) st.2.2) → ∀ c, c < (grS gr + no) → cV1 vv2 vb2 i c ((rWv 1 gr OE ok (rowK ti tn fi se st) st.2.2) i c)) ∧ n1 = NN) := by
    intro m
    induction m with
    | zero =>
      intro i vv vb S cv cb vs ns hi hv
      have ei : i = G.2.2.2 := by omega
      refine qx_iload_n d_Pl_fillResult_31 rfl rfl ?_
      refine qx_aload_n d_Pl_fillResult_32 rfl rfl ?_
      refine qx_getI d_Pl_fillResult_33 fI_Pl_123 rfl rfl (show _ = nI G.2.2.2 from hK.2.2.2.2.2.2) ?_
      refine qx_icmp_geN (t := 51) d_Pl_fillResult_36 rfl (by omega) (by omega) (fun c36 => ?_) (fun c36 => absurd c36 (by omega))
      refine qx_goto (t := 84) d_Pl_fillResult_51 rfl ?_
      exact qx_ret d_Pl_fillResult_84 rfl (by omega) (by omega) ⟨rfl, ⟨vv, vb, S, cv, cb, vs, ns, by rw [ers], by rw [ers, ← ei]; exact hv⟩, rfl⟩
    | succ m ih =>
      intro i vv vb S cv cb vs ns hi hv
      refine qx_iload_n d_Pl_fillResult_31 rfl rfl ?_
      refine qx_aload_n d_Pl_fillResult_32 rfl rfl ?_
      refine qx_getI d_Pl_fillResult_33 fI_Pl_123 rfl rfl (show _ = nI G.2.2.2 from hK.2.2.2.2.2.2) ?_
      refine qx_icmp_geN (t := 51) d_Pl_fillResult_36 rfl (by omega) (by omega) (fun c36 => absurd c36 (by omega)) (fun c36 => ?_)
      refine qx_aload_n d_Pl_fillResult_39 rfl rfl ?_
      refine qx_aload_n d_Pl_fillResult_40 rfl rfl ?_
      refine qx_iload_n d_Pl_fillResult_41 rfl rfl ?_
      refine qx_callV (As := [_, _]) (rest := _) d_Pl_fillResult_42 lk_Pl_154 y_Pl_fillGroup v_Pl_fillGroup rfl rfl rfl (by decide) rfl rfl rfl rfl (by decide) (by decide) (ct_Pl_fillGroup (h := (qpI (qpI h 79 4 (nI (grS gr + no))) 79 3 (nI G.2.2.2))) ti tn rw kd fi se le ri nc CE pc hC2 st hst G hK gr no OE ok po hO2 hok hG hG13 vv vb S cv cb vs ns i (by omega)) ?_
      rintro _ _ _ ⟨rfl, ⟨vv2, vb2, S2, cv2, cb2, vs2, ns2, rfl, q1, q2⟩, rfl⟩
      refine qx_iincN (w := 1) (lv1 := [_, _, _]) d_Pl_fillResult_45 rfl rfl (by decide) rfl ?_
      refine qx_goto (t := 31) d_Pl_fillResult_48 rfl ?_
      refine ih (i + 1) vv2 vb2 S2 cv2 cb2 vs2 ns2 (by omega) (fun q hq c hc => ?_)
      by_cases e : q = i
      · subst e; exact q1 c hc
      · have hc4 : c < 4 := by have : grS gr ≤ 1 := (by cases gr <;> exact Nat.le_of_ble_eq_true rfl); omega
        exact cV1_ne (q2 _ (by omega)).1 (q2 _ (by omega)).2 (hv q (by omega) c hc)
  refine qx_aload_n d_Pl_fillResult_0 rfl rfl ?_
  refine qx_aload_n d_Pl_fillResult_1 rfl rfl ?_
  refine qx_getR d_Pl_fillResult_2 fR_Pl_20 rfl rfl (congrFun hC.1.1 1) ?_
  refine qx_callV (As := []) (rest := _) d_Pl_fillResult_5 lk_Pl_139 y_Qu_resultColumns v_Qu_resultColumns rfl rfl rfl (by decide) rfl rfl rfl rfl (by decide) (by decide) (ct_Qu_resultColumns (h := (nR (lR (aR (uR h vv vb) S) cv cb) vs ns)) gr hO.1 hO.2.1 no hO.2.2.2.1) ?_
  rintro _ _ _ ⟨rfl, rfl, rfl⟩
  refine qx_putI d_Pl_fillResult_8 fI_Pl_143 rfl rfl ⟨rfl, rfl⟩ ?_
  refine qx_eq (h1 := (nR (lR (aR (uR (qpI h 79 4 (nI (grS gr + no))) vv vb) S) cv cb) vs ns)) rfl rfl rfl fH_79 ?_
  refine qx_aload_n d_Pl_fillResult_11 rfl rfl ?_
  refine qx_getR d_Pl_fillResult_12 fR_Pl_20 rfl rfl (congrFun hC.1.1 1) ?_
  refine qx_callV (As := []) (rest := _) d_Pl_fillResult_15 lk_Pl_148 y_Qu_isAggregate v_Qu_isAggregate rfl rfl rfl (by decide) rfl rfl rfl rfl (by decide) (by decide) (ct_Qu_isAggregate (h := (nR (lR (aR (uR (qpI h 79 4 (nI (grS gr + no))) vv vb) S) cv cb) vs ns)) hC.1.2.2.2.2.1 gr hO.1 hO.2.1 no hO.2.2.1 hO.2.2.2.1 ok (fun o ho => ⟨(hO.2.2.2.2 o ho).2.2.1, (hO.2.2.2.2 o ho).2.2.2.1⟩)) ?_
  rintro _ _ _ ⟨rfl, rfl, rfl⟩
  refine qx_if_eqB (t := 54) d_Pl_fillResult_18 rfl (fun c18 => absurd c18 (by rw [hag]; decide)) (fun c18 => ?_)
  refine qx_aload_n d_Pl_fillResult_21 rfl rfl ?_
  refine qx_aload_n d_Pl_fillResult_22 rfl rfl ?_
  refine qx_getI d_Pl_fillResult_23 fI_Pl_123 rfl rfl (show _ = nI G.2.2.2 from hK.2.2.2.2.2.2) ?_
  refine qx_putI d_Pl_fillResult_26 fI_Pl_151 rfl rfl ⟨rfl, rfl⟩ ?_
  refine qx_eq (h1 := (nR (lR (aR (uR (qpI (qpI h 79 4 (nI (grS gr + no))) 79 3 (nI G.2.2.2)) vv vb) S) cv cb) vs ns)) rfl rfl rfl fH_79 ?_
  refine qx_iconstN (v := 0) d_Pl_fillResult_29 rfl ?_
  refine qx_istore_n (lv1 := [_, _, _]) d_Pl_fillResult_30 rfl (by decide) rfl ?_
  exact key G.2.2.2 0 vv vb S cv cb vs ns (by omega) (fun q hq => absurd hq (Nat.not_lt_zero _))
set_option maxRecDepth 100000 in
set_option maxHeartbeats 4000000 in
theorem ct_Pl_fillResult_0 {h : qH} (ti : Nat → Int32) (tn : Nat → Bool) (rw : Nat → Nat) (kd fi se le ri nc : Nat) (CE : Nat → List xP) (pc : Nat → Nat) (hC : plC h ti tn rw kd fi se le ri nc CE pc) (st : sK) (hst : stOk st) (G : sG) (hK : plK h st G) (gr : Option Nat) (no : Nat) (OE : Nat → List xP) (ok po : Nat → Nat) (hO : plO h gr no OE ok po) (hok : ∀ o, o < no → ok o = 0) (hgn : gr = none) (hag : cAgg gr ok no = false) (vv : Nat → Int64) (vb : Nat → Bool) (S : sC) (cv : Nat → Int64) (cb : Nat → Bool) (vs : Nat → Int64) (ns : Nat → Bool) : qT mi_Pl_fillResult 6 0 0 [.ref 1, .ref 79] (nR (lR (aR (uR h vv vb) S) cv cb) vs ns) NN (fun v1 h1 n1 => v1 = none ∧ (∃ vv2 vb2 S2 cv2 cb2 vs2 ns2, h1 = (nR (lR (aR (uR (qpI (qpI h 79 4 (nI (grS gr + no))) 79 3 (nI (rWn 0 gr (rowK ti tn fi se st) st.2.2))) vv2 vb2) S2) cv2 cb2) vs2 ns2) ∧ ∀ i, i < (rWn 0 gr (rowK ti tn fi se st) st.2.2) → ∀ c, c < (grS gr + no) → cV1 vv2 vb2 i c ((rWv 0 gr OE ok (rowK ti tn fi se st) st.2.2) i c)) ∧ n1 = NN) := by
  have hk144 := hst.1
  have hno3 := hO.2.2.1
  have hC2 : plC (qpI (qpI h 79 4 (nI (grS gr + no))) 79 3 (nI st.2.2)) ti tn rw kd fi se le ri nc CE pc := plC_ag ag_79 rfl (plC_ag ag_79 rfl hC)
  have hO2 : plO (qpI (qpI h 79 4 (nI (grS gr + no))) 79 3 (nI st.2.2)) gr no OE ok po := plO_ag ag_79 rfl (plO_ag ag_79 rfl hO)
  have ers : (rWn 0 gr (rowK ti tn fi se st) st.2.2) = st.2.2 := rfl
  refine qT.of (lv0 := [_, _, _]) (by decide +kernel) (fun _ _ => Nat.le_of_ble_eq_true rfl) rfl ?_
  have key : ∀ (m i : Nat) (vv : Nat → Int64) (vb : Nat → Bool) (S : sC) (cv : Nat → Int64) (cb : Nat → Bool) (vs : Nat → Int64) (ns : Nat → Bool), i + m = st.2.2 → (∀ q, q < i → ∀ c, c < (grS gr + no) → cV1 vv vb q c ((rWv 0 gr OE ok (rowK ti tn fi se st) st.2.2) q c)) → qX mi_Pl_fillResult 6 none 0 0 64 [.ref 1, .ref 79, .int (nI i)] [] (nR (lR (aR (uR (qpI (qpI h 79 4 (nI (grS gr + no))) 79 3 (nI st.2.2)) vv vb) S) cv cb) vs ns) NN 0 0 (fun v1 h1 n1 => v1 = none ∧ (∃ vv2 vb2 S2 cv2 cb2 vs2 ns2, h1 = (nR (lR (aR (uR (qpI (qpI h 79 4 (nI (grS gr + no))) 79 3 (nI (rWn 0 gr (rowK ti tn fi se st) st.2.2))) vv2 vb2) S2) cv2 cb2) vs2 ns2) ∧ ∀ i, i < (rWn 0 gr (rowK ti tn fi se st) st.2.2) → ∀ c, c < (grS gr + no) → cV1 vv2 vb2 i c ((rWv 0 gr OE ok (rowK ti tn fi se st) st.2.2) i c)) ∧ n1 = NN) := by
    intro m
    induction m with
    | zero =>
      intro i vv vb S cv cb vs ns hi hv
      have ei : i = st.2.2 := by omega
      refine qx_iload_n d_Pl_fillResult_64 rfl rfl ?_
      refine qx_aload_n d_Pl_fillResult_65 rfl rfl ?_
      refine qx_getI d_Pl_fillResult_66 fI_Pl_71 rfl rfl (show _ = nI st.2.2 from hK.2.2.1) ?_
      refine qx_icmp_geN (t := 84) d_Pl_fillResult_69 rfl (by omega) (by omega) (fun c69 => ?_) (fun c69 => absurd c69 (by omega))
      exact qx_ret d_Pl_fillResult_84 rfl (by omega) (by omega) ⟨rfl, ⟨vv, vb, S, cv, cb, vs, ns, by rw [ers], by rw [ers, ← ei]; exact hv⟩, rfl⟩
    | succ m ih =>
      intro i vv vb S cv cb vs ns hi hv
      refine qx_iload_n d_Pl_fillResult_64 rfl rfl ?_
      refine qx_aload_n d_Pl_fillResult_65 rfl rfl ?_
      refine qx_getI d_Pl_fillResult_66 fI_Pl_71 rfl rfl (show _ = nI st.2.2 from hK.2.2.1) ?_
      refine qx_icmp_geN (t := 84) d_Pl_fillResult_69 rfl (by omega) (by omega) (fun c69 => absurd c69 (by omega)) (fun c69 => ?_)
      refine qx_aload_n d_Pl_fillResult_72 rfl rfl ?_
      refine qx_aload_n d_Pl_fillResult_73 rfl rfl ?_
      refine qx_iload_n d_Pl_fillResult_74 rfl rfl ?_
      refine qx_callV (As := [_, _]) (rest := _) d_Pl_fillResult_75 lk_Pl_158 y_Pl_fillPlain v_Pl_fillPlain rfl rfl rfl (by decide) rfl rfl rfl rfl (by decide) (by decide) (ct_Pl_fillPlain (h := (qpI (qpI h 79 4 (nI (grS gr + no))) 79 3 (nI st.2.2))) ti tn rw kd fi se le ri nc CE pc hC2 st hst G hK gr no OE ok po hO2 hok vv vb S cv cb vs ns i (by omega)) ?_
      rintro _ _ _ ⟨rfl, ⟨vv2, vb2, cv2, cb2, vs2, ns2, rfl, q1, q2⟩, rfl⟩
      refine qx_iincN (w := 1) (lv1 := [_, _, _]) d_Pl_fillResult_78 rfl rfl (by decide) rfl ?_
      refine qx_goto (t := 64) d_Pl_fillResult_81 rfl ?_
      refine ih (i + 1) vv2 vb2 S cv2 cb2 vs2 ns2 (by omega) (fun q hq c hc => ?_)
      by_cases e : q = i
      · subst e; exact q1 c (by subst hgn; exact (Nat.zero_add no) ▸ hc)
      · have hc4 : c < 4 := by have : grS gr ≤ 1 := (by cases gr <;> exact Nat.le_of_ble_eq_true rfl); omega
        exact cV1_ne (q2 _ (by omega)).1 (q2 _ (by omega)).2 (hv q (by omega) c hc)
  refine qx_aload_n d_Pl_fillResult_0 rfl rfl ?_
  refine qx_aload_n d_Pl_fillResult_1 rfl rfl ?_
  refine qx_getR d_Pl_fillResult_2 fR_Pl_20 rfl rfl (congrFun hC.1.1 1) ?_
  refine qx_callV (As := []) (rest := _) d_Pl_fillResult_5 lk_Pl_139 y_Qu_resultColumns v_Qu_resultColumns rfl rfl rfl (by decide) rfl rfl rfl rfl (by decide) (by decide) (ct_Qu_resultColumns (h := (nR (lR (aR (uR h vv vb) S) cv cb) vs ns)) gr hO.1 hO.2.1 no hO.2.2.2.1) ?_
  rintro _ _ _ ⟨rfl, rfl, rfl⟩
  refine qx_putI d_Pl_fillResult_8 fI_Pl_143 rfl rfl ⟨rfl, rfl⟩ ?_
  refine qx_eq (h1 := (nR (lR (aR (uR (qpI h 79 4 (nI (grS gr + no))) vv vb) S) cv cb) vs ns)) rfl rfl rfl fH_79 ?_
  refine qx_aload_n d_Pl_fillResult_11 rfl rfl ?_
  refine qx_getR d_Pl_fillResult_12 fR_Pl_20 rfl rfl (congrFun hC.1.1 1) ?_
  refine qx_callV (As := []) (rest := _) d_Pl_fillResult_15 lk_Pl_148 y_Qu_isAggregate v_Qu_isAggregate rfl rfl rfl (by decide) rfl rfl rfl rfl (by decide) (by decide) (ct_Qu_isAggregate (h := (nR (lR (aR (uR (qpI h 79 4 (nI (grS gr + no))) vv vb) S) cv cb) vs ns)) hC.1.2.2.2.2.1 gr hO.1 hO.2.1 no hO.2.2.1 hO.2.2.2.1 ok (fun o ho => ⟨(hO.2.2.2.2 o ho).2.2.1, (hO.2.2.2.2 o ho).2.2.2.1⟩)) ?_
  rintro _ _ _ ⟨rfl, rfl, rfl⟩
  refine qx_if_eqB (t := 54) d_Pl_fillResult_18 rfl (fun c18 => ?_) (fun c18 => absurd c18 (by rw [hag]; decide))
  refine qx_aload_n d_Pl_fillResult_54 rfl rfl ?_
  refine qx_aload_n d_Pl_fillResult_55 rfl rfl ?_
  refine qx_getI d_Pl_fillResult_56 fI_Pl_71 rfl rfl (show _ = nI st.2.2 from hK.2.2.1) ?_
  refine qx_putI d_Pl_fillResult_59 fI_Pl_151 rfl rfl ⟨rfl, rfl⟩ ?_
  refine qx_eq (h1 := (nR (lR (aR (uR (qpI (qpI h 79 4 (nI (grS gr + no))) 79 3 (nI st.2.2)) vv vb) S) cv cb) vs ns)) rfl rfl rfl fH_79 ?_
  refine qx_iconstN (v := 0) d_Pl_fillResult_62 rfl ?_
  refine qx_istore_n (lv1 := [_, _, _]) d_Pl_fillResult_63 rfl (by decide) rfl ?_
  exact key st.2.2 0 vv vb S cv cb vs ns (by omega) (fun q hq => absurd hq (Nat.not_lt_zero _))
