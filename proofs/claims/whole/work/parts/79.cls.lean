theorem ct_Ag_value {h : qH} (s : sC) (k : Nat) (h0 : k ≠ 0) (h6 : k < 6) : qT mi_Ag_value 0 0 0 [.ref 64, .int (nI k)] (aR h s) NN (fun v1 h1 n1 => v1 = some (.long (cVal s k)) ∧ h1 = aR h s ∧ n1 = NN) := by
  have e : k = 1 ∨ k = 2 ∨ k = 3 ∨ k = 4 ∨ k = 5 := by omega
  rcases e with rfl | rfl | rfl | rfl | rfl
  · exact ct_Ag_value_1 s
  · exact ct_Ag_value_2 s
  · exact ct_Ag_value_3 s
  · exact ct_Ag_value_4 s
  · exact ct_Ag_value_5 s
theorem plO_ag {h h2 : qH} {gr : Option Nat} {no : Nat} {OE : Nat → List xP} {ok po : Nat → Nat} (ha : ∀ a, (3 ≤ a ∧ a ≤ 58) ∨ (70 ≤ a ∧ a ≤ 78) → h2.1 a = h.1 a) (hr : h2.2.2 = h.2.2) (hO : plO h gr no OE ok po) : plO h2 gr no OE ok po := by
  obtain ⟨h1, h2, h3, h4, h5⟩ := hO
  refine ⟨h1, by rw [ha 3 (by omega)]; exact h2, h3, by rw [ha 3 (by omega)]; exact h4, fun o ho => ?_⟩
  obtain ⟨q1, q2, q3, q4, q5, q6⟩ := h5 o ho
  exact ⟨by rw [hr]; exact q1, q2, by rw [ha 58 (by omega)]; exact q3, q4, exD_ag q2 ha q5, q6⟩
theorem fH_79 {h : qH} {S : sC} {cv : Nat → Int64} {cb : Nat → Bool} {vs : Nat → Int64} {ns : Nat → Bool} {vv : Nat → Int64} {vb : Nat → Bool} {i : Nat} {v : Int32} : (nR (lR (aR (uR (qpI h 79 i v) vv vb) S) cv cb) vs ns) = qpI (nR (lR (aR (uR h vv vb) S) cv cb) vs ns) 79 i v := by
  rw [nR_I (by omega), lR_I (by omega)]
  refine congrArg (fun x => nR (lR x cv cb) vs ns) ?_
  refine Prod.ext ?_ rfl
  show va_up (va_up h.1 79 (va_up (h.1 79) i v)) 81 (iB vb) = va_up (va_up h.1 81 (iB vb)) 79 (va_up (va_up h.1 81 (iB vb) 79) i v)
  rw [va_comm (by omega), qun (by omega)]
set_option maxRecDepth 100000 in
set_option maxHeartbeats 4000000 in
theorem ct_Pl_fillGroup {h : qH} (ti : Nat → Int32) (tn : Nat → Bool) (rw : Nat → Nat) (kd fi se le ri nc : Nat) (CE : Nat → List xP) (pc : Nat → Nat) (hC : plC h ti tn rw kd fi se le ri nc CE pc) (st : sK) (hst : stOk st) (G : sG) (hK : plK h st G) (gr : Option Nat) (no : Nat) (OE : Nat → List xP) (ok po : Nat → Nat) (hO : plO h gr no OE ok po) (hok : ∀ o, o < no → ok o ≠ 0) (hG : gOk gr (rowK ti tn fi se st) st.2.2 G) (hG13 : G.2.2.2 ≤ 13) (vv : Nat → Int64) (vb : Nat → Bool) (S : sC) (cv : Nat → Int64) (cb : Nat → Bool) (vs : Nat → Int64) (ns : Nat → Bool) (j : Nat) (hj : j < G.2.2.2) : qT mi_Pl_fillGroup 5 0 0 [.ref 1, .ref 79, .int (nI j)] (nR (lR (aR (uR h vv vb) S) cv cb) vs ns) NN (fun v1 h1 n1 => v1 = none ∧ (∃ vv2 vb2 S2 cv2 cb2 vs2 ns2, h1 = (nR (lR (aR (uR h vv2 vb2) S2) cv2 cb2) vs2 ns2) ∧ (∀ c, c < grS gr + no → cV1 vv2 vb2 j c (gRowW gr OE ok (rowK ti tn fi se st) st.2.2 (gF gr (rowK ti tn fi se st) st.2.2 j) c)) ∧ ∀ q, q < j * 4 ∨ j * 4 + 4 ≤ q → vv2 q = vv q ∧ vb2 q = vb q) ∧ n1 = NN) := by
  have hno3 := hO.2.2.1
  have hgs : grS gr ≤ 1 := by cases gr <;> exact Nat.le_of_ble_eq_true rfl
  refine qT.of (lv0 := [_, _, _, _, _, _]) (by decide +kernel) (fun _ _ => Nat.le_of_ble_eq_true rfl) rfl ?_
  have key : ∀ (m i : Nat) (vv2 : Nat → Int64) (vb2 : Nat → Bool) (S : sC) (cv : Nat → Int64) (cb : Nat → Bool) (vs : Nat → Int64) (ns : Nat → Bool), i + m = no → (∀ c, c < grS gr + i → cV1 vv2 vb2 j c (gRowW gr OE ok (rowK ti tn fi se st) st.2.2 (gF gr (rowK ti tn fi se st) st.2.2 j) c)) → (∀ q, q < j * 4 ∨ j * 4 + 4 ≤ q → vv2 q = vv q ∧ vb2 q = vb q) → qX mi_Pl_fillGroup 5 none 0 0 35 [.ref 1, .ref 79, .int (nI j), .int (nI (grS gr)), .int (nI i), qdead] [] (nR (lR (aR (uR h vv2 vb2) S) cv cb) vs ns) NN 0 0 (fun v1 h1 n1 => v1 = none ∧ (∃ vv2 vb2 S2 cv2 cb2 vs2 ns2, h1 = (nR (lR (aR (uR h vv2 vb2) S2) cv2 cb2) vs2 ns2) ∧ (∀ c, c < grS gr + no → cV1 vv2 vb2 j c (gRowW gr OE ok (rowK ti tn fi se st) st.2.2 (gF gr (rowK ti tn fi se st) st.2.2 j) c)) ∧ ∀ q, q < j * 4 ∨ j * 4 + 4 ≤ q → vv2 q = vv q ∧ vb2 q = vb q) ∧ n1 = NN) := by
    intro m
    induction m with
    | zero =>
      intro i vv2 vb2 S cv cb vs ns hi h1 h2
      have ei : i = no := by omega
      refine qx_iload d_Pl_fillGroup_35 rfl ?_
      refine qx_aload_n d_Pl_fillGroup_37 rfl rfl ?_
      refine qx_getR d_Pl_fillGroup_38 fR_Pl_20 rfl rfl (congrFun hC.1.1 1) ?_
      refine qx_getI d_Pl_fillGroup_41 fI_Pl_161 rfl rfl hO.2.2.2.1 ?_
      refine qx_icmp_geN (t := 107) d_Pl_fillGroup_44 rfl (by omega) (by omega) (fun c44 => ?_) (fun c44 => absurd c44 (by omega))
      exact qx_ret d_Pl_fillGroup_107 rfl (by omega) (by omega) ⟨rfl, ⟨vv2, vb2, S, cv, cb, vs, ns, rfl, by rw [← ei]; exact h1, h2⟩, rfl⟩
    | succ m ih =>
      intro i vv2 vb2 S cv cb vs ns hi h1 h2
      obtain ⟨o1, he, o3, o4, hx0, ts, hty, hts⟩ := hO.2.2.2.2 i (by omega)
      refine qx_iload d_Pl_fillGroup_35 rfl ?_
      refine qx_aload_n d_Pl_fillGroup_37 rfl rfl ?_
      refine qx_getR d_Pl_fillGroup_38 fR_Pl_20 rfl rfl (congrFun hC.1.1 1) ?_
      refine qx_getI d_Pl_fillGroup_41 fI_Pl_161 rfl rfl hO.2.2.2.1 ?_
      refine qx_icmp_geN (t := 107) d_Pl_fillGroup_44 rfl (by omega) (by omega) (fun c44 => absurd c44 (by omega)) (fun c44 => ?_)
      refine qx_aload_n d_Pl_fillGroup_47 rfl rfl ?_
      refine qx_aload_n d_Pl_fillGroup_48 rfl rfl ?_
      refine qx_getR d_Pl_fillGroup_49 fR_Pl_20 rfl rfl (congrFun hC.1.1 1) ?_
      refine qx_getR d_Pl_fillGroup_52 fR_Pl_164 rfl rfl (congrFun hC.1.2.2.2.2.1 10) ?_
      refine qx_iload d_Pl_fillGroup_55 rfl ?_
      refine qx_aald (j := i) (t := 1)  d_Pl_fillGroup_57 rfl (fun _ => rfl) rfl rfl rfl (by omega) o1 ?_
      refine qx_iload_n d_Pl_fillGroup_58 rfl rfl ?_
      refine qx_callV (As := [_, _]) (rest := _) d_Pl_fillGroup_59 lk_Pl_176 y_Pl_addUp v_Pl_addUp rfl rfl rfl (by decide) rfl rfl rfl rfl (by decide) (by decide) (ct_Pl_addUp ti tn rw kd fi se le ri nc CE pc hC st hst G hK vv2 vb2 (po i) he (OE i) hx0 ts hty (ok i) hts (fun q => togR gr (rowK ti tn fi se st) q (gF gr (rowK ti tn fi se st) st.2.2 j)) j (by omega) (fun q hq => ⟨by have := hG.2.2.2 q hq; omega, hG.2.1 j hj q hq⟩) S cv cb vs ns) ?_
      rintro _ _ _ ⟨rfl, ⟨S2, cv2, cb2, vs2, ns2, rfl, har⟩, rfl⟩
      refine qx_aload_n d_Pl_fillGroup_62 rfl rfl ?_
      refine qx_getR d_Pl_fillGroup_63 fR_Pl_20 rfl rfl (congrFun hC.1.1 1) ?_
      refine qx_getR d_Pl_fillGroup_66 fR_Pl_180 rfl rfl (congrFun hC.1.2.2.2.2.1 11) ?_
      refine qx_iload d_Pl_fillGroup_69 rfl ?_
      refine qx_iald (j := i) d_Pl_fillGroup_71 rfl rfl rfl rfl (by omega) (show _ = nI (ok i) from o3) ?_
      refine qx_istore (lv1 := [_, _, _, _, _, _]) d_Pl_fillGroup_72 (by decide) rfl ?_
      refine qx_aload_n d_Pl_fillGroup_74 rfl rfl ?_
      refine qx_iload_n d_Pl_fillGroup_75 rfl rfl ?_
      refine qx_iload d_Pl_fillGroup_76 rfl ?_
      refine qx_iload_n d_Pl_fillGroup_78 rfl rfl ?_
      refine qx_iaddN d_Pl_fillGroup_79 ?_
      refine qx_aload_n d_Pl_fillGroup_80 rfl rfl ?_
      refine qx_getR d_Pl_fillGroup_81 fR_Pl_34 rfl rfl (congrFun hC.1.1 3) ?_
      refine qx_iload d_Pl_fillGroup_84 rfl ?_
      refine qx_eq (h1 := (aR (nR (lR (uR h vv2 vb2) cv2 cb2) vs2 ns2) S2)) rfl rfl rfl fH_a ?_
      refine qx_callV (As := [_]) (rest := _) d_Pl_fillGroup_86 lk_Pl_183 y_Ag_value v_Ag_value rfl rfl rfl (by decide) rfl rfl rfl rfl (by decide) (by decide) (ct_Ag_value (h := nR (lR (uR h vv2 vb2) cv2 cb2) vs2 ns2) S2 (ok i) (hok i (by omega)) o4) ?_
      rintro _ _ _ ⟨rfl, rfl, rfl⟩
      refine qx_aload_n d_Pl_fillGroup_89 rfl rfl ?_
      refine qx_getR d_Pl_fillGroup_90 fR_Pl_34 rfl rfl (congrFun hC.1.1 3) ?_
      refine qx_iload d_Pl_fillGroup_93 rfl ?_
      refine qx_callV (As := [_]) (rest := _) d_Pl_fillGroup_95 lk_Pl_186 y_Ag_isNull v_Ag_isNull rfl rfl rfl (by decide) rfl rfl rfl rfl (by decide) (by decide) (ct_Ag_isNull (h := nR (lR (uR h vv2 vb2) cv2 cb2) vs2 ns2) S2 (ok i) o4) ?_
      rintro _ _ _ ⟨rfl, rfl, rfl⟩
      refine qx_eq (h1 := (uR (nR (lR (aR h S2) cv2 cb2) vs2 ns2) vv2 vb2)) rfl rfl rfl (fH_u.trans fH_a.symm) ?_
      refine qx_callV (As := [_, _, _, _]) (rest := _) d_Pl_fillGroup_98 lk_Pl_172 y_Re_set v_Re_set rfl rfl rfl (by decide) rfl rfl rfl rfl (by decide) (by decide) (ct_Re_set (h := nR (lR (aR h S2) cv2 cb2) vs2 ns2) hC.1.2.2.2.2.2.2 vv2 vb2 j (i + grS gr) (by omega) (by omega) (cVal S2 (ok i)) (cNul S2 (ok i))) ?_
      rintro _ _ _ ⟨rfl, rfl, rfl⟩
      refine qx_eq (h1 := (nR (lR (aR (uR h (va_up vv2 (j * 4 + (i + grS gr)) (cVal S2 (ok i))) (va_up vb2 (j * 4 + (i + grS gr)) (cNul S2 (ok i)))) S2) cv2 cb2) vs2 ns2)) rfl rfl rfl fH_u.symm ?_
      refine qx_iincN (w := 1) (lv1 := [_, _, _, _, _, _]) d_Pl_fillGroup_101 rfl rfl (by decide) rfl ?_
      refine qx_goto (t := 35) d_Pl_fillGroup_104 rfl ?_
      refine qx_less (lv1 := [_, _, _, _, _, qdead]) ⟨Or.inr rfl, Or.inr rfl, Or.inr rfl, Or.inr rfl, Or.inr rfl, Or.inl rfl, trivial⟩ ?_
      refine ih (i + 1) _ _ S2 cv2 cb2 vs2 ns2 (by omega) (fun c hc => ?_) (fun q hq => ?_)
      · by_cases e : c = i + grS gr
        · subst e
          refine cV1_set ?_
          rw [aRel_end har (hok i (by omega)) o4 (by have := (agL_le (ok i) (fun q => togR gr (rowK ti tn fi se st) q (gF gr (rowK ti tn fi se st) st.2.2 j)) (fun q => xVal ((rowK ti tn fi se st) q) (OE i)) st.2.2).2; have := hst.1; omega), Nat.add_comm i (grS gr), ← gRowW_o]
          rfl
        · exact cV1_ne (qun (by omega)) (qun (by omega)) (h1 c (by omega))
      · rw [qun (by omega), qun (by omega)]; exact h2 q hq
  refine qx_iconstN (v := 0) d_Pl_fillGroup_0 rfl ?_
  refine qx_istore_n (lv1 := [_, _, _, _, _, _]) d_Pl_fillGroup_1 rfl (by decide) rfl ?_
  refine qx_aload_n d_Pl_fillGroup_2 rfl rfl ?_
  refine qx_getR d_Pl_fillGroup_3 fR_Pl_20 rfl rfl (congrFun hC.1.1 1) ?_
  refine qx_callV (As := []) (rest := _) d_Pl_fillGroup_6 lk_Pl_120 y_Qu_isGrouped v_Qu_isGrouped rfl rfl rfl (by decide) rfl rfl rfl rfl (by decide) (by decide) (ct_Qu_isGrouped (h := (nR (lR (aR (uR h vv vb) S) cv cb) vs ns)) gr hO.1 hO.2.1) ?_
  rintro _ _ _ ⟨rfl, rfl, rfl⟩
  refine qx_if_eqB (t := 32) d_Pl_fillGroup_9 rfl (fun c9 => ?_) (fun c9 => ?_)
  · refine qx_iconstN (v := 0) d_Pl_fillGroup_32 rfl ?_
    refine qx_istore (lv1 := [_, _, _, _, _, _]) d_Pl_fillGroup_33 (by decide) rfl ?_
    first
      | (have z := gr_n c9
         refine qx_eq (lv1 := [_, _, _, .int (nI (grS gr)), _, _]) rfl (by rw [z]) rfl rfl ?_
         exact key no 0 vv vb S cv cb vs ns (by omega) (fun c hc => absurd hc (by omega)) (fun q _ => ⟨rfl, rfl⟩))
      | (have z := gr_s c9
         refine qx_eq (lv1 := [_, _, _, .int (nI (grS gr)), _, _]) rfl (by rw [z]) rfl rfl ?_
         refine key no 0 _ _ S cv cb vs ns (by omega) (fun c hc => ?_) (fun q hq => ?_)
         · have e : c = 0 := by omega
           subst e
           obtain ⟨g, eg⟩ := Option.isSome_iff_exists.mp c9
           refine cV1_set ?_
           refine (hG.2.2.1 g eg j hj).trans ?_
           subst eg
           rfl
         · rw [qun (by omega), qun (by omega)]
           exact ⟨rfl, rfl⟩)
  · refine qx_aload_n d_Pl_fillGroup_12 rfl rfl ?_
    refine qx_iload_n d_Pl_fillGroup_13 rfl rfl ?_
    refine qx_iconstN (v := 0) d_Pl_fillGroup_14 rfl ?_
    refine qx_aload_n d_Pl_fillGroup_15 rfl rfl ?_
    refine qx_getR d_Pl_fillGroup_16 fR_Pl_48 rfl rfl (congrFun hC.1.1 8) ?_
    refine qx_iload_n d_Pl_fillGroup_19 rfl rfl ?_
    refine qx_lald (j := j) d_Pl_fillGroup_20 rfl rfl rfl rfl (by omega) (show _ = G.1 j from congrFun hK.2.2.2.1 j) ?_
    refine qx_aload_n d_Pl_fillGroup_21 rfl rfl ?_
    refine qx_getR d_Pl_fillGroup_22 fR_Pl_52 rfl rfl (congrFun hC.1.1 9) ?_
    refine qx_iload_n d_Pl_fillGroup_25 rfl rfl ?_
    refine qx_zald (j := j) d_Pl_fillGroup_26 rfl rfl rfl rfl (by omega) (show _ = b2i (G.2.1 j) from congrFun hK.2.2.2.2.1 j) ?_
    refine qx_eq (h1 := (uR (nR (lR (aR h S) cv cb) vs ns) vv vb)) rfl rfl rfl fH_u ?_
    refine qx_callV (As := [_, _, _, _]) (rest := _) d_Pl_fillGroup_27 lk_Pl_172 y_Re_set v_Re_set rfl rfl rfl (by decide) rfl rfl rfl rfl (by decide) (by decide) (ct_Re_set (h := nR (lR (aR h S) cv cb) vs ns) hC.1.2.2.2.2.2.2 vv vb j 0 (by omega) (by omega) (G.1 j) (G.2.1 j)) ?_
    rintro _ _ _ ⟨rfl, rfl, rfl⟩
    refine qx_eq (h1 := (nR (lR (aR (uR h (va_up vv (j * 4 + 0) (G.1 j)) (va_up vb (j * 4 + 0) (G.2.1 j))) S) cv cb) vs ns)) rfl rfl rfl fH_u.symm ?_
    refine qx_iconstN (v := 1) d_Pl_fillGroup_30 rfl ?_
    refine qx_istore_n (lv1 := [_, _, _, _, _, _]) d_Pl_fillGroup_31 rfl (by decide) rfl ?_
    refine qx_iconstN (v := 0) d_Pl_fillGroup_32 rfl ?_
    refine qx_istore (lv1 := [_, _, _, _, _, _]) d_Pl_fillGroup_33 (by decide) rfl ?_
    first
      | (have z := gr_n c9
         refine qx_eq (lv1 := [_, _, _, .int (nI (grS gr)), _, _]) rfl (by rw [z]) rfl rfl ?_
         exact key no 0 vv vb S cv cb vs ns (by omega) (fun c hc => absurd hc (by omega)) (fun q _ => ⟨rfl, rfl⟩))
      | (have z := gr_s c9
         refine qx_eq (lv1 := [_, _, _, .int (nI (grS gr)), _, _]) rfl (by rw [z]) rfl rfl ?_
         refine key no 0 _ _ S cv cb vs ns (by omega) (fun c hc => ?_) (fun q hq => ?_)
         · have e : c = 0 := by omega
           subst e
           obtain ⟨g, eg⟩ := Option.isSome_iff_exists.mp c9
           refine cV1_set ?_
           refine (hG.2.2.1 g eg j hj).trans ?_
           subst eg
           rfl
         · rw [qun (by omega), qun (by omega)]
           exact ⟨rfl, rfl⟩)
