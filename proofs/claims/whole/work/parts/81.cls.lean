set_option maxRecDepth 100000 in
set_option maxHeartbeats 4000000 in
theorem ct_Qu_isPushed {h : qH} (kd : Nat) (hk3 : kd < 3) (hkd : h.1 3 1 = nI kd) (e : Nat) (he : exOk e) (E : List xP) (hnm : nmOk (h.1 e 4) E) (k : Nat) (hk : k < 2) : qT mi_Qu_isPushed 1 0 0 [.ref 3, .ref e, .int (nI k)] h NN (fun v1 h1 n1 => v1 = some (.int (b2i (pu kd k E))) ∧ h = h1 ∧ n1 = NN) := by
  refine qT.of (lv0 := [_, _, _]) (by decide +kernel) (fun _ _ => Nat.le_of_ble_eq_true rfl) rfl ?_
  have hx := ex_pl he
  have e0 : nms 0 E = decide (¬ h.1 e 4 &&& nI 3 = 0) := by
    cases q : nms 0 E
    · exact (decide_eq_false (fun z => by rw [hnm.1.mp z] at q; cases q)).symm
    · exact (decide_eq_true (hnm.1.mpr q)).symm
  have e1 : nms 1 E = decide (¬ h.1 e 4 &&& nI 12 = 0) := by
    cases q : nms 1 E
    · exact (decide_eq_false (fun z => by rw [hnm.2.mp z] at q; cases q)).symm
    · exact (decide_eq_true (hnm.2.mpr q)).symm
  refine qx_iload_n d_Qu_isPushed_0 rfl rfl ?_
  refine qx_if_neN (t := 17) d_Qu_isPushed_1 rfl (by omega) (fun c1 => ?_) (fun c1 => ?_)
  · refine qx_aload_n d_Qu_isPushed_17 rfl rfl ?_
    refine qx_getI d_Qu_isPushed_18 fI_Qu_43 rfl rfl hkd ?_
    refine qx_iconstN (v := 1) d_Qu_isPushed_21 rfl ?_
    refine qx_icmp_neN (t := 43) d_Qu_isPushed_22 rfl (by omega) (by omega) (fun c22 => ?_) (fun c22 => ?_)
    · refine qx_iconst (v := b2i false) d_Qu_isPushed_43 rfl ?_
      exact qx_iret d_Qu_isPushed_44 rfl (b2i_nar _) (by omega) (by omega) (by
      refine ⟨?_, rfl, rfl⟩
      unfold pu
      rw [e0, e1]
      first
        | (have z := c36; rw [if_neg (by omega), decide_eq_true c22, c29, z]; rfl)
        | (have z := c29; rw [if_neg (by omega), z, Bool.false_and, Bool.and_false])
        | (have z := c22; rw [if_neg (by omega), decide_eq_false z]; rfl)
        | (have z := c8; rw [if_pos c1, z]; rfl))
    · refine qx_aload_n d_Qu_isPushed_25 rfl rfl ?_
      refine qx_callV (As := []) (rest := _) d_Qu_isPushed_26 lk_Qu_83 y_Ex_namesSecond v_Ex_namesSecond rfl rfl hx.1 (by decide) rfl hx.2.2.2.1 rfl rfl (by decide) (by decide) (ct_Ex_namesSecond e he _ rfl) ?_
      rintro _ _ _ ⟨rfl, rfl, rfl⟩
      refine qx_if_eqB (t := 43) d_Qu_isPushed_29 rfl (fun c29 => ?_) (fun c29 => ?_)
      · refine qx_iconst (v := b2i false) d_Qu_isPushed_43 rfl ?_
        exact qx_iret d_Qu_isPushed_44 rfl (b2i_nar _) (by omega) (by omega) (by
      refine ⟨?_, rfl, rfl⟩
      unfold pu
      rw [e0, e1]
      first
        | (have z := c36; rw [if_neg (by omega), decide_eq_true c22, c29, z]; rfl)
        | (have z := c29; rw [if_neg (by omega), z, Bool.false_and, Bool.and_false])
        | (have z := c22; rw [if_neg (by omega), decide_eq_false z]; rfl)
        | (have z := c8; rw [if_pos c1, z]; rfl))
      · refine qx_aload_n d_Qu_isPushed_32 rfl rfl ?_
        refine qx_callV (As := []) (rest := _) d_Qu_isPushed_33 lk_Qu_86 y_Ex_namesFirst v_Ex_namesFirst rfl rfl hx.1 (by decide) rfl hx.2.2.2.1 rfl rfl (by decide) (by decide) (ct_Ex_namesFirst e he _ rfl) ?_
        rintro _ _ _ ⟨rfl, rfl, rfl⟩
        refine qx_if_neB (t := 43) d_Qu_isPushed_36 rfl (fun c36 => ?_) (fun c36 => ?_)
        · refine qx_iconst (v := b2i false) d_Qu_isPushed_43 rfl ?_
          exact qx_iret d_Qu_isPushed_44 rfl (b2i_nar _) (by omega) (by omega) (by
      refine ⟨?_, rfl, rfl⟩
      unfold pu
      rw [e0, e1]
      first
        | (have z := c36; rw [if_neg (by omega), decide_eq_true c22, c29, z]; rfl)
        | (have z := c29; rw [if_neg (by omega), z, Bool.false_and, Bool.and_false])
        | (have z := c22; rw [if_neg (by omega), decide_eq_false z]; rfl)
        | (have z := c8; rw [if_pos c1, z]; rfl))
        · refine qx_iconst (v := b2i true) d_Qu_isPushed_39 rfl ?_
          refine qx_goto (t := 44) d_Qu_isPushed_40 rfl ?_
          exact qx_iret d_Qu_isPushed_44 rfl (b2i_nar _) (by omega) (by omega) (by
      refine ⟨?_, rfl, rfl⟩
      unfold pu
      rw [e0, e1]
      first
        | (have z := c36; rw [if_neg (by omega), decide_eq_true c22, c29, z]; rfl)
        | (have z := c29; rw [if_neg (by omega), z, Bool.false_and, Bool.and_false])
        | (have z := c22; rw [if_neg (by omega), decide_eq_false z]; rfl)
        | (have z := c8; rw [if_pos c1, z]; rfl))
  · refine qx_aload_n d_Qu_isPushed_4 rfl rfl ?_
    refine qx_callV (As := []) (rest := _) d_Qu_isPushed_5 lk_Qu_83 y_Ex_namesSecond v_Ex_namesSecond rfl rfl hx.1 (by decide) rfl hx.2.2.2.1 rfl rfl (by decide) (by decide) (ct_Ex_namesSecond e he _ rfl) ?_
    rintro _ _ _ ⟨rfl, rfl, rfl⟩
    refine qx_if_neB (t := 15) d_Qu_isPushed_8 rfl (fun c8 => ?_) (fun c8 => ?_)
    · refine qx_iconst (v := b2i false) d_Qu_isPushed_15 rfl ?_
      exact qx_iret d_Qu_isPushed_16 rfl (b2i_nar _) (by omega) (by omega) (by
      refine ⟨?_, rfl, rfl⟩
      unfold pu
      rw [e0, e1]
      first
        | (have z := c36; rw [if_neg (by omega), decide_eq_true c22, c29, z]; rfl)
        | (have z := c29; rw [if_neg (by omega), z, Bool.false_and, Bool.and_false])
        | (have z := c22; rw [if_neg (by omega), decide_eq_false z]; rfl)
        | (have z := c8; rw [if_pos c1, z]; rfl))
    · refine qx_iconst (v := b2i true) d_Qu_isPushed_11 rfl ?_
      refine qx_goto (t := 16) d_Qu_isPushed_12 rfl ?_
      exact qx_iret d_Qu_isPushed_16 rfl (b2i_nar _) (by omega) (by omega) (by
      refine ⟨?_, rfl, rfl⟩
      unfold pu
      rw [e0, e1]
      first
        | (have z := c36; rw [if_neg (by omega), decide_eq_true c22, c29, z]; rfl)
        | (have z := c29; rw [if_neg (by omega), z, Bool.false_and, Bool.and_false])
        | (have z := c22; rw [if_neg (by omega), decide_eq_false z]; rfl)
        | (have z := c8; rw [if_pos c1, z]; rfl))
set_option maxRecDepth 100000 in
set_option maxHeartbeats 4000000 in
theorem ct_Pl_passesPushed {h : qH} (ti : Nat → Int32) (tn : Nat → Bool) (rw : Nat → Nat) (kd fi se le ri nc : Nat) (CE : Nat → List xP) (pc : Nat → Nat) (hC : plC h ti tn rw kd fi se le ri nc CE pc) (cv : Nat → Int64) (cb : Nat → Bool) (vs0 : Nat → Int64) (ns0 : Nat → Bool) (row : Nat → Option Int64) (hrow : ∀ c, c < 4 → row c = if cb c = true then none else some (cv c)) (k : Nat) (hk : k < 2) : qT mi_Pl_passesPushed 4 0 0 [.ref 1, .int (nI k)] (nR (lR h cv cb) vs0 ns0) NN (fun v1 h1 n1 => v1 = some (.int (b2i (aB true (fun c => !pu kd k (CE c) || xTru row (CE c)) nc))) ∧ (∃ vs2 ns2, h1 = nR (lR h cv cb) vs2 ns2) ∧ n1 = NN) := by
  have hnc6 := hC.2.2.2.2.1
  refine qT.of (lv0 := [_, _, _]) (by decide +kernel) (fun _ _ => Nat.le_of_ble_eq_true rfl) rfl ?_
  have key : ∀ (m i : Nat) (vs : Nat → Int64) (ns : Nat → Bool), i + m = nc → aB true (fun c => !pu kd k (CE c) || xTru row (CE c)) i = true → qX mi_Pl_passesPushed 4 none 0 0 2 [.ref 1, .int (nI k), .int (nI i)] [] (nR (lR h cv cb) vs ns) NN 0 0 (fun v1 h1 n1 => v1 = some (.int (b2i (aB true (fun c => !pu kd k (CE c) || xTru row (CE c)) nc))) ∧ (∃ vs2 ns2, h1 = nR (lR h cv cb) vs2 ns2) ∧ n1 = NN) := by
    intro m
    induction m with
    | zero =>
      intro i vs ns hi ha
      have ei : i = nc := by omega
      refine qx_iload_n d_Pl_passesPushed_2 rfl rfl ?_
      refine qx_aload_n d_Pl_passesPushed_3 rfl rfl ?_
      refine qx_getR d_Pl_passesPushed_4 fR_Pl_20 rfl rfl (congrFun hC.1.1 1) ?_
      refine qx_getI d_Pl_passesPushed_7 fI_Pl_102 rfl rfl hC.2.2.2.1 ?_
      refine qx_icmp_geN (t := 67) d_Pl_passesPushed_10 rfl (by omega) (by omega) (fun c10 => ?_) (fun c10 => absurd c10 (by omega))
      refine qx_iconst (v := b2i true) d_Pl_passesPushed_67 rfl ?_
      exact qx_iret d_Pl_passesPushed_68 rfl (b2i_nar _) (by omega) (by omega) ⟨by rw [← ei, ha], ⟨vs, ns, rfl⟩, rfl⟩
    | succ m ih =>
      intro i vs ns hi ha
      obtain ⟨p1, he, hx0, hty, hnm⟩ := hC.2.2.2.2.2 i (show i < nc by omega)
      have hx := exD_ag he (g2 := (lR h cv cb).1) (fun a ha => qun (by omega)) hx0
      have hnm2 : nmOk ((nR (lR h cv cb) vs ns).1 (pc i) 4) (CE i) := by
        have e58 := (ex_pl he).2.2.2.2.2.2
        rw [show (nR (lR h cv cb) vs ns).1 (pc i) = h.1 (pc i) from (qun (by omega)).trans (qun (by omega))]
        exact hnm
      have hs : aB true (fun c => !pu kd k (CE c) || xTru row (CE c)) (i + 1) = (aB true (fun c => !pu kd k (CE c) || xTru row (CE c)) i && (!pu kd k (CE i) || xTru row (CE i))) := rfl
      refine qx_iload_n d_Pl_passesPushed_2 rfl rfl ?_
      refine qx_aload_n d_Pl_passesPushed_3 rfl rfl ?_
      refine qx_getR d_Pl_passesPushed_4 fR_Pl_20 rfl rfl (congrFun hC.1.1 1) ?_
      refine qx_getI d_Pl_passesPushed_7 fI_Pl_102 rfl rfl hC.2.2.2.1 ?_
      refine qx_icmp_geN (t := 67) d_Pl_passesPushed_10 rfl (by omega) (by omega) (fun c10 => absurd c10 (by omega)) (fun c10 => ?_)
      refine qx_aload_n d_Pl_passesPushed_13 rfl rfl ?_
      refine qx_getR d_Pl_passesPushed_14 fR_Pl_20 rfl rfl (congrFun hC.1.1 1) ?_
      refine qx_aload_n d_Pl_passesPushed_17 rfl rfl ?_
      refine qx_getR d_Pl_passesPushed_18 fR_Pl_20 rfl rfl (congrFun hC.1.1 1) ?_
      refine qx_getR d_Pl_passesPushed_21 fR_Pl_105 rfl rfl (congrFun hC.1.2.2.2.2.1 8) ?_
      refine qx_iload_n d_Pl_passesPushed_24 rfl rfl ?_
      refine qx_aald (j := i) (t := 1)  d_Pl_passesPushed_25 rfl (fun _ => rfl) rfl rfl rfl (by omega) p1 ?_
      refine qx_iload_n d_Pl_passesPushed_26 rfl rfl ?_
      refine qx_callV (As := [_, _]) (rest := _) d_Pl_passesPushed_27 lk_Pl_213 y_Qu_isPushed v_Qu_isPushed rfl rfl rfl (by decide) rfl rfl rfl rfl (by decide) (by decide) (ct_Qu_isPushed (h := (nR (lR h cv cb) vs ns)) kd hC.2.2.1.2.1 hC.2.2.1.1 (pc i) he (CE i) hnm2 k hk) ?_
      rintro _ _ _ ⟨rfl, rfl, rfl⟩
      refine qx_if_eqB (t := 61) d_Pl_passesPushed_30 rfl (fun c30 => ?_) (fun c30 => ?_)
      · refine qx_iincN (w := 1) (lv1 := [_, _, _]) d_Pl_passesPushed_61 rfl rfl (by decide) rfl ?_
        refine qx_goto (t := 2) d_Pl_passesPushed_64 rfl ?_
        first
          | (have z := vs3
             refine ih (i + 1) vs3 ns3 (by omega) ?_
             rw [hs, ha, ← mTrue hty hm, c56, Bool.or_true]
             rfl)
          | (refine ih (i + 1) vs ns (by omega) ?_
             rw [hs, ha, c30]
             rfl)
      · refine qx_aload_n d_Pl_passesPushed_33 rfl rfl ?_
        refine qx_getR d_Pl_passesPushed_34 fR_Pl_27 rfl rfl (congrFun hC.1.1 2) ?_
        refine qx_aload_n d_Pl_passesPushed_37 rfl rfl ?_
        refine qx_getR d_Pl_passesPushed_38 fR_Pl_20 rfl rfl (congrFun hC.1.1 1) ?_
        refine qx_getR d_Pl_passesPushed_41 fR_Pl_105 rfl rfl (congrFun hC.1.2.2.2.2.1 8) ?_
        refine qx_iload_n d_Pl_passesPushed_44 rfl rfl ?_
        refine qx_aald (j := i) (t := 1)  d_Pl_passesPushed_45 rfl (fun _ => rfl) rfl rfl rfl (by omega) p1 ?_
        refine qx_callV (As := [_]) (rest := _) d_Pl_passesPushed_46 lk_Pl_109 y_Ma_evaluate v_Ma_evaluate rfl rfl rfl (by decide) rfl rfl rfl rfl (by decide) (by decide) (ct_Ma_evaluate (h := lR h cv cb) hC.1.2.2.1 vs ns (pc i) he (hC.1.2.2.2.2.2.1 _ he) (CE i) hx.1 hx.2.1 hx.2.2 [true] hty row cb (fun c hc => ⟨rfl, hrow c hc⟩)) ?_
        rintro _ _ _ ⟨rfl, ⟨vs3, ns3, rfl, hm⟩, rfl⟩
        refine qx_aload_n d_Pl_passesPushed_49 rfl rfl ?_
        refine qx_getR d_Pl_passesPushed_50 fR_Pl_27 rfl rfl (congrFun hC.1.1 2) ?_
        refine qx_callV (As := []) (rest := _) d_Pl_passesPushed_53 lk_Pl_113 y_Ma_isTrue v_Ma_isTrue rfl rfl rfl (by decide) rfl rfl rfl rfl (by decide) (by decide) (ct_Ma_isTrue (h := lR h cv cb) hC.1.2.2.1 vs3 ns3) ?_
        rintro _ _ _ ⟨rfl, rfl, rfl⟩
        refine qx_if_neB (t := 61) d_Pl_passesPushed_56 rfl (fun c56 => ?_) (fun c56 => ?_)
        · refine qx_iincN (w := 1) (lv1 := [_, _, _]) d_Pl_passesPushed_61 rfl rfl (by decide) rfl ?_
          refine qx_goto (t := 2) d_Pl_passesPushed_64 rfl ?_
          first
            | (have z := vs3
               refine ih (i + 1) vs3 ns3 (by omega) ?_
               rw [hs, ha, ← mTrue hty hm, c56, Bool.or_true]
               rfl)
            | (refine ih (i + 1) vs ns (by omega) ?_
               rw [hs, ha, c30]
               rfl)
        · refine qx_iconst (v := b2i false) d_Pl_passesPushed_59 rfl ?_
          exact qx_iret d_Pl_passesPushed_60 rfl (b2i_nar _) (by omega) (by omega) (by
        have e0 : aB true (fun c => !pu kd k (CE c) || xTru row (CE c)) (i + 1) = false := by rw [hs, ha, ← mTrue hty hm, c56, c30]; rfl
        have e1 := aB_mono e0 m
        rw [show i + 1 + m = nc by omega] at e1
        rw [e1]
        exact ⟨rfl, ⟨vs3, ns3, rfl⟩, rfl⟩)
  refine qx_iconstN (v := 0) d_Pl_passesPushed_0 rfl ?_
  refine qx_istore_n (lv1 := [_, _, _]) d_Pl_passesPushed_1 rfl (by decide) rfl ?_
  exact key nc 0 vs0 ns0 (by omega) rfl
