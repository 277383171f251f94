def kC (h : qH) (st : sK) : qH := (fun a => if a = 65 then iN st.1 else if a = 66 then oN st.2.1 else if a = 1 then va_up (h.1 1) 6 (nI st.2.2) else h.1 a, h.2.1, h.2.2)
theorem kC_x {h : qH} {st : sK} {a : Nat} (h1 : a ≠ 65) (h2 : a ≠ 66) (h3 : a ≠ 1) : (kC h st).1 a = h.1 a := by
  show (if a = 65 then iN st.1 else if a = 66 then oN st.2.1 else if a = 1 then va_up (h.1 1) 6 (nI st.2.2) else h.1 a) = _
  rw [if_neg h1, if_neg h2, if_neg h3]
theorem kC_of {h : qH} {st : sK} (h1 : h.1 65 = iN st.1) (h2 : h.1 66 = oN st.2.1) (h3 : h.1 1 6 = nI st.2.2) : kC h st = h := by
  refine Prod.ext ?_ rfl
  funext a
  by_cases e1 : a = 65
  · subst e1; exact h1.symm
  · by_cases e2 : a = 66
    · subst e2; exact h2.symm
    · by_cases e3 : a = 1
      · subst e3
        show va_up (h.1 1) 6 (nI st.2.2) = h.1 1
        rw [← h3]
        exact qv_self
      · exact kC_x e1 e2 e3
theorem kC_f {h : qH} {st : sK} {i : Nat} {v : Nat} : qpI (kC h st) 65 i (nI v) = kC h (va_up st.1 i v, st.2.1, st.2.2) := by
  unfold kC qpI
  dsimp only
  refine Prod.ext ?_ rfl
  funext a
  dsimp only
  by_cases ha : a = 65
  · subst ha
    simp only [qus]
    exact iN_up
  · rw [qun ha]
    simp only [ha, if_false]
theorem kC_s {h : qH} {st : sK} {i : Nat} {v : Option Nat} : qpI (kC h st) 66 i (oI v) = kC h (st.1, va_up st.2.1 i v, st.2.2) := by
  unfold kC qpI
  dsimp only
  refine Prod.ext ?_ rfl
  funext a
  dsimp only
  by_cases ha : a = 66
  · subst ha
    simp only [qus]
    exact oN_up
  · rw [qun ha]
    simp only [ha, if_false]
theorem kC_k {h : qH} {st : sK} {v : Nat} : qpI (kC h st) 1 6 (nI v) = kC h (st.1, st.2.1, v) := by
  unfold kC qpI
  dsimp only
  refine Prod.ext ?_ rfl
  funext a
  dsimp only
  by_cases ha : a = 1
  · subst ha
    simp only [qus]
    exact qv_up
  · rw [qun ha]
    simp only [ha, if_false]
theorem plC_k {h : qH} {ti : Nat → Int32} {tn : Nat → Bool} {rw : Nat → Nat} {kd fi se le ri nc : Nat} {CE : Nat → List xP} {pc : Nat → Nat} (hC : plC h ti tn rw kd fi se le ri nc CE pc) {st : sK} : plC (kC h st) ti tn rw kd fi se le ri nc CE pc := plC_ag (fun a ha => kC_x (by omega) (by omega) (by omega)) rfl hC
theorem plC_l {h : qH} {ti : Nat → Int32} {tn : Nat → Bool} {rw : Nat → Nat} {kd fi se le ri nc : Nat} {CE : Nat → List xP} {pc : Nat → Nat} (hC : plC h ti tn rw kd fi se le ri nc CE pc) {cv : Nat → Int64} {cb : Nat → Bool} : plC (lR h cv cb) ti tn rw kd fi se le ri nc CE pc := plC_ag (fun a ha => qun (by omega)) rfl hC
theorem plC_n {h : qH} {ti : Nat → Int32} {tn : Nat → Bool} {rw : Nat → Nat} {kd fi se le ri nc : Nat} {CE : Nat → List xP} {pc : Nat → Nat} (hC : plC h ti tn rw kd fi se le ri nc CE pc) {vs : Nat → Int64} {ns : Nat → Bool} : plC (nR h vs ns) ti tn rw kd fi se le ri nc CE pc := plC_ag (fun a ha => qun (by omega)) rfl hC
theorem mTrue {vs : Nat → Int64} {ns : Nat → Bool} {row : Nat → Option Int64} {E : List xP} (h : xT 8 [] E = some [true]) (hm : mRep vs ns (xE row [] E)) : (!ns 0 && decide (vs 0 = 1)) = xTru row E := by
  rw [(xE_one (row := row) h).1] at hm
  rw [xTru_of h]
  have q : mOne vs ns 0 (xVal row E) := hm.1
  cases hx : xVal row E with
  | none =>
    rw [hx] at q
    have q : ns 0 = true := q
    rw [q]
    rfl
  | some x =>
    rw [hx] at q
    obtain ⟨q1, q2⟩ : ns 0 = false ∧ vs 0 = x := q
    rw [q1, q2]
    simp
theorem mVal {vs : Nat → Int64} {ns : Nat → Bool} {row : Nat → Option Int64} {E : List xP} (h : xT 8 [] E = some [false]) (hm : mRep vs ns (xE row [] E)) : (if ns 0 = true then none else some (vs 0)) = xVal row E := by
  rw [(xE_one (row := row) h).1] at hm
  have q : mOne vs ns 0 (xVal row E) := hm.1
  cases hx : xVal row E with
  | none =>
    rw [hx] at q
    have q : ns 0 = true := q
    rw [q]
    rfl
  | some x =>
    rw [hx] at q
    obtain ⟨q1, q2⟩ : ns 0 = false ∧ vs 0 = x := q
    rw [q1, q2]
    rfl
theorem toL_inj {a b : Int32} : a.toInt64 = b.toInt64 ↔ a = b := by
  constructor
  · intro h
    have := congrArg Int64.toInt h
    simp at this
    exact Int32.toInt_inj.mp this
  · intro h; rw [h]
set_option maxRecDepth 100000 in
set_option maxHeartbeats 4000000 in
theorem ct_Pl_arePair {h : qH} (ti : Nat → Int32) (tn : Nat → Bool) (rw : Nat → Nat) (kd fi se le ri nc : Nat) (CE : Nat → List xP) (pc : Nat → Nat) (hC : plC h ti tn rw kd fi se le ri nc CE pc) (f s : Nat) (hf : f < 12) (hs : s < 12) : qT mi_Pl_arePair 1 0 0 [.ref 1, .ref (70 + 3 * fi), .int (nI f), .ref (70 + 3 * se), .int (nI s)] h NN (fun v1 h1 n1 => v1 = some (.int (b2i ((jM (fun k => (ti k).toInt64) tn fi se le ri) f s))) ∧ h = h1 ∧ n1 = NN) := by
  refine qT.of (lv0 := [_, _, _, _, _]) (by decide +kernel) (fun _ _ => Nat.le_of_ble_eq_true rfl) rfl ?_
  have hfi := hC.2.2.1.2.2.2.1
  have hse := hC.2.2.1.2.2.2.2.2.1
  have hle := hC.2.2.1.2.2.2.2.2.2.2.1
  have hri := hC.2.2.1.2.2.2.2.2.2.2.2.2
  refine qx_aload_n d_Pl_arePair_0 rfl rfl ?_
  refine qx_iload_n d_Pl_arePair_1 rfl rfl ?_
  refine qx_aload_n d_Pl_arePair_2 rfl rfl ?_
  refine qx_getR d_Pl_arePair_3 fR_Pl_20 rfl rfl (congrFun hC.1.1 1) ?_
  refine qx_getI d_Pl_arePair_6 fI_Pl_85 rfl rfl hC.2.2.1.2.2.2.2.2.2.1 ?_
  refine qx_callV (As := [_, _]) (rest := _) d_Pl_arePair_9 lk_Pl_88 y_Tb_isNull v_Tb_isNull rfl rfl (tb_pl hfi).1 (by decide) rfl (tb_pl hfi).2.2.2.1 rfl rfl (by decide) (by decide) (ct_Tb_isNull fi hfi (hC.1.2.2.2.1 fi hfi) f le hf hle (tn (24 * fi + (f * 2 + le))) ((hC.2.1 fi hfi).2.1 _ (by omega))) ?_
  rintro _ _ _ ⟨rfl, rfl, rfl⟩
  refine qx_if_neB (t := 31) d_Pl_arePair_12 rfl (fun c12 => ?_) (fun c12 => ?_)
  · refine qx_iconst (v := b2i false) d_Pl_arePair_31 rfl ?_
    exact qx_iret d_Pl_arePair_32 rfl (b2i_nar _) (by omega) (by omega) (by
      refine ⟨?_, rfl, rfl⟩
      unfold jM
      rw [show 24 * fi + 2 * f + le = 24 * fi + (f * 2 + le) by omega, show 24 * se + 2 * s + ri = 24 * se + (s * 2 + ri) by omega]
      dsimp only
      first
        | (have z := c58; rw [c12, c28, decide_eq_true (toL_inj.mpr z)]; rfl)
        | (have z := c58; rw [c12, c28, decide_eq_false (fun w => z (toL_inj.mp w))]; rfl)
        | (have z := c28; rw [c12, z]; rfl)
        | (rw [c12]; rfl))
  · refine qx_aload_n d_Pl_arePair_15 rfl rfl ?_
    refine qx_iload d_Pl_arePair_16 rfl ?_
    refine qx_aload_n d_Pl_arePair_18 rfl rfl ?_
    refine qx_getR d_Pl_arePair_19 fR_Pl_20 rfl rfl (congrFun hC.1.1 1) ?_
    refine qx_getI d_Pl_arePair_22 fI_Pl_92 rfl rfl hC.2.2.1.2.2.2.2.2.2.2.2.1 ?_
    refine qx_callV (As := [_, _]) (rest := _) d_Pl_arePair_25 lk_Pl_88 y_Tb_isNull v_Tb_isNull rfl rfl (tb_pl hse).1 (by decide) rfl (tb_pl hse).2.2.2.1 rfl rfl (by decide) (by decide) (ct_Tb_isNull se hse (hC.1.2.2.2.1 se hse) s ri hs hri (tn (24 * se + (s * 2 + ri))) ((hC.2.1 se hse).2.1 _ (by omega))) ?_
    rintro _ _ _ ⟨rfl, rfl, rfl⟩
    refine qx_if_eqB (t := 33) d_Pl_arePair_28 rfl (fun c28 => ?_) (fun c28 => ?_)
    · refine qx_aload_n d_Pl_arePair_33 rfl rfl ?_
      refine qx_iload_n d_Pl_arePair_34 rfl rfl ?_
      refine qx_aload_n d_Pl_arePair_35 rfl rfl ?_
      refine qx_getR d_Pl_arePair_36 fR_Pl_20 rfl rfl (congrFun hC.1.1 1) ?_
      refine qx_getI d_Pl_arePair_39 fI_Pl_85 rfl rfl hC.2.2.1.2.2.2.2.2.2.1 ?_
      refine qx_callV (As := [_, _]) (rest := _) d_Pl_arePair_42 lk_Pl_95 y_Tb_value v_Tb_value rfl rfl (tb_pl hfi).1 (by decide) rfl (tb_pl hfi).2.2.2.1 rfl rfl (by decide) (by decide) (ct_Tb_value fi hfi (hC.1.2.2.2.1 fi hfi) f le hf hle (ti (24 * fi + (f * 2 + le))) ((hC.2.1 fi hfi).1 _ (by omega))) ?_
      rintro _ _ _ ⟨rfl, rfl, rfl⟩
      refine qx_aload_n d_Pl_arePair_45 rfl rfl ?_
      refine qx_iload d_Pl_arePair_46 rfl ?_
      refine qx_aload_n d_Pl_arePair_48 rfl rfl ?_
      refine qx_getR d_Pl_arePair_49 fR_Pl_20 rfl rfl (congrFun hC.1.1 1) ?_
      refine qx_getI d_Pl_arePair_52 fI_Pl_92 rfl rfl hC.2.2.1.2.2.2.2.2.2.2.2.1 ?_
      refine qx_callV (As := [_, _]) (rest := _) d_Pl_arePair_55 lk_Pl_95 y_Tb_value v_Tb_value rfl rfl (tb_pl hse).1 (by decide) rfl (tb_pl hse).2.2.2.1 rfl rfl (by decide) (by decide) (ct_Tb_value se hse (hC.1.2.2.2.1 se hse) s ri hs hri (ti (24 * se + (s * 2 + ri))) ((hC.2.1 se hse).1 _ (by omega))) ?_
      rintro _ _ _ ⟨rfl, rfl, rfl⟩
      refine qx_icmp_ne (t := 65) d_Pl_arePair_58 rfl (fun c58 => ?_) (fun c58 => ?_)
      · refine qx_iconst (v := b2i false) d_Pl_arePair_65 rfl ?_
        exact qx_iret d_Pl_arePair_66 rfl (b2i_nar _) (by omega) (by omega) (by
      refine ⟨?_, rfl, rfl⟩
      unfold jM
      rw [show 24 * fi + 2 * f + le = 24 * fi + (f * 2 + le) by omega, show 24 * se + 2 * s + ri = 24 * se + (s * 2 + ri) by omega]
      dsimp only
      first
        | (have z := c58; rw [c12, c28, decide_eq_true (toL_inj.mpr z)]; rfl)
        | (have z := c58; rw [c12, c28, decide_eq_false (fun w => z (toL_inj.mp w))]; rfl)
        | (have z := c28; rw [c12, z]; rfl)
        | (rw [c12]; rfl))
      · refine qx_iconst (v := b2i true) d_Pl_arePair_61 rfl ?_
        refine qx_goto (t := 66) d_Pl_arePair_62 rfl ?_
        exact qx_iret d_Pl_arePair_66 rfl (b2i_nar _) (by omega) (by omega) (by
      refine ⟨?_, rfl, rfl⟩
      unfold jM
      rw [show 24 * fi + 2 * f + le = 24 * fi + (f * 2 + le) by omega, show 24 * se + 2 * s + ri = 24 * se + (s * 2 + ri) by omega]
      dsimp only
      first
        | (have z := c58; rw [c12, c28, decide_eq_true (toL_inj.mpr z)]; rfl)
        | (have z := c58; rw [c12, c28, decide_eq_false (fun w => z (toL_inj.mp w))]; rfl)
        | (have z := c28; rw [c12, z]; rfl)
        | (rw [c12]; rfl))
    · refine qx_iconst (v := b2i false) d_Pl_arePair_31 rfl ?_
      exact qx_iret d_Pl_arePair_32 rfl (b2i_nar _) (by omega) (by omega) (by
      refine ⟨?_, rfl, rfl⟩
      unfold jM
      rw [show 24 * fi + 2 * f + le = 24 * fi + (f * 2 + le) by omega, show 24 * se + 2 * s + ri = 24 * se + (s * 2 + ri) by omega]
      dsimp only
      first
        | (have z := c58; rw [c12, c28, decide_eq_true (toL_inj.mpr z)]; rfl)
        | (have z := c58; rw [c12, c28, decide_eq_false (fun w => z (toL_inj.mp w))]; rfl)
        | (have z := c28; rw [c12, z]; rfl)
        | (rw [c12]; rfl))
set_option maxRecDepth 100000 in
set_option maxHeartbeats 4000000 in
theorem ct_Pl_keepIfAllTrue {h : qH} (ti : Nat → Int32) (tn : Nat → Bool) (rw : Nat → Nat) (kd fi se le ri nc : Nat) (CE : Nat → List xP) (pc : Nat → Nat) (hC : plC h ti tn rw kd fi se le ri nc CE pc) (st : sK) (hst : st.2.2 < 144) (cv0 : Nat → Int64) (cb0 : Nat → Bool) (vs0 : Nat → Int64) (ns0 : Nat → Bool) (f : Nat) (hf : f < 12) (s : Option Nat) (hs : ∀ q, s = some q → q < 12) : qT mi_Pl_keepIfAllTrue 4 0 0 [.ref 1, .int (nI f), .int (oI s)] (nR (lR (kC h st) cv0 cb0) vs0 ns0) NN (fun v1 h1 n1 => v1 = none ∧ (∃ cv2 cb2 vs2 ns2, h1 = nR (lR (kC h (kIf (fun f s => allT (jRow (fun k => (ti k).toInt64) tn fi se f s) CE nc) st f s)) cv2 cb2) vs2 ns2) ∧ n1 = NN) := by
  refine qT.of (lv0 := [_, _, _, _]) (by decide +kernel) (fun _ _ => Nat.le_of_ble_eq_true rfl) rfl ?_
  have key : ∀ (m i : Nat) (cv : Nat → Int64) (cb : Nat → Bool) (vs : Nat → Int64) (ns : Nat → Bool), i + m = nc → allT (jRow (fun k => (ti k).toInt64) tn fi se f s) CE i = true → cRow cv cb (jRow (fun k => (ti k).toInt64) tn fi se f s) → qX mi_Pl_keepIfAllTrue 4 none 0 0 8 [.ref 1, .int (nI f), .int (oI s), .int (nI i)] [] (nR (lR (kC h st) cv cb) vs ns) NN 0 0 (fun v1 h1 n1 => v1 = none ∧ (∃ cv2 cb2 vs2 ns2, h1 = nR (lR (kC h (kIf (fun f s => allT (jRow (fun k => (ti k).toInt64) tn fi se f s) CE nc) st f s)) cv2 cb2) vs2 ns2) ∧ n1 = NN) := by
    have hnc6 := hC.2.2.2.2.1
    intro m
    induction m with
    | zero =>
      intro i cv cb vs ns hi ha hrow
      have e : (fun f s => allT (jRow (fun k => (ti k).toInt64) tn fi se f s) CE nc) f s = true := by show allT (jRow (fun k => (ti k).toInt64) tn fi se f s) CE nc = true; rw [show nc = i by omega]; exact ha
      refine qx_iload_n d_Pl_keepIfAllTrue_8 rfl rfl ?_
      refine qx_aload_n d_Pl_keepIfAllTrue_9 rfl rfl ?_
      refine qx_getR d_Pl_keepIfAllTrue_10 fR_Pl_20 rfl rfl (congrFun hC.1.1 1) ?_
      refine qx_getI d_Pl_keepIfAllTrue_13 fI_Pl_102 rfl rfl hC.2.2.2.1 ?_
      refine qx_icmp_geN (t := 52) d_Pl_keepIfAllTrue_16 rfl (by omega) (by omega) (fun c16 => ?_) (fun c16 => absurd c16 (by omega))
      refine qx_aload_n d_Pl_keepIfAllTrue_52 rfl rfl ?_
      refine qx_getI d_Pl_keepIfAllTrue_53 fI_Pl_71 rfl rfl (show _ = nI st.2.2 from rfl) ?_
      refine qx_sipushN (v := 144) d_Pl_keepIfAllTrue_56 rfl ?_
      refine qx_icmp_geN (t := 92) d_Pl_keepIfAllTrue_59 rfl (by omega) (by omega) (fun c59 => absurd c59 (by omega)) (fun c59 => ?_)
      refine qx_aload_n d_Pl_keepIfAllTrue_62 rfl rfl ?_
      refine qx_getR d_Pl_keepIfAllTrue_63 fR_Pl_38 rfl rfl (congrFun hC.1.1 4) ?_
      refine qx_aload_n d_Pl_keepIfAllTrue_66 rfl rfl ?_
      refine qx_getI d_Pl_keepIfAllTrue_67 fI_Pl_71 rfl rfl (show _ = nI st.2.2 from rfl) ?_
      refine qx_iload_n d_Pl_keepIfAllTrue_70 rfl rfl ?_
      refine qx_iast d_Pl_keepIfAllTrue_71 rfl rfl rfl rfl hst ?_
      refine qx_aload_n d_Pl_keepIfAllTrue_72 rfl rfl ?_
      refine qx_getR d_Pl_keepIfAllTrue_73 fR_Pl_42 rfl rfl (congrFun hC.1.1 5) ?_
      refine qx_aload_n d_Pl_keepIfAllTrue_76 rfl rfl ?_
      refine qx_getI d_Pl_keepIfAllTrue_77 fI_Pl_71 rfl rfl (show _ = nI st.2.2 from rfl) ?_
      refine qx_iload_n d_Pl_keepIfAllTrue_80 rfl rfl ?_
      refine qx_iast d_Pl_keepIfAllTrue_81 rfl rfl rfl rfl hst ?_
      refine qx_aload_n d_Pl_keepIfAllTrue_82 rfl rfl ?_
      refine qx_dup d_Pl_keepIfAllTrue_83 rfl ?_
      refine qx_getI d_Pl_keepIfAllTrue_84 fI_Pl_71 rfl rfl (show _ = nI st.2.2 from rfl) ?_
      refine qx_iconstN (v := 1) d_Pl_keepIfAllTrue_87 rfl ?_
      refine qx_iaddN d_Pl_keepIfAllTrue_88 ?_
      refine qx_putI d_Pl_keepIfAllTrue_89 fI_Pl_71 rfl rfl ⟨rfl, rfl⟩ ?_
      exact qx_ret d_Pl_keepIfAllTrue_92 rfl (by omega) (by omega) ⟨rfl, ⟨cv, cb, vs, ns, by rw [kIf_t e, nR_I (by omega), nR_I (by omega), nR_I (by omega), lR_I (by omega), lR_I (by omega), lR_I (by omega), kC_f, kC_s, kC_k]; rfl⟩, rfl⟩
    | succ m ih =>
      intro i cv cb vs ns hi ha hrow
      have hx := ((plC_l (plC_k hC) : plC (lR (kC h st) cv cb) ti tn rw kd fi se le ri nc CE pc).2.2.2.2.2 i (show i < nc by omega)).2.2.1
      have hty := (hC.2.2.2.2.2 i (show i < nc by omega)).2.2.2.1
      have hs2 : allT (jRow (fun k => (ti k).toInt64) tn fi se f s) CE (i + 1) = (allT (jRow (fun k => (ti k).toInt64) tn fi se f s) CE i && xTru (jRow (fun k => (ti k).toInt64) tn fi se f s) (CE i)) := rfl
      refine qx_iload_n d_Pl_keepIfAllTrue_8 rfl rfl ?_
      refine qx_aload_n d_Pl_keepIfAllTrue_9 rfl rfl ?_
      refine qx_getR d_Pl_keepIfAllTrue_10 fR_Pl_20 rfl rfl (congrFun hC.1.1 1) ?_
      refine qx_getI d_Pl_keepIfAllTrue_13 fI_Pl_102 rfl rfl hC.2.2.2.1 ?_
      refine qx_icmp_geN (t := 52) d_Pl_keepIfAllTrue_16 rfl (by omega) (by omega) (fun c16 => absurd c16 (by omega)) (fun c16 => ?_)
      refine qx_aload_n d_Pl_keepIfAllTrue_19 rfl rfl ?_
      refine qx_getR d_Pl_keepIfAllTrue_20 fR_Pl_27 rfl rfl (congrFun hC.1.1 2) ?_
      refine qx_aload_n d_Pl_keepIfAllTrue_23 rfl rfl ?_
      refine qx_getR d_Pl_keepIfAllTrue_24 fR_Pl_20 rfl rfl (congrFun hC.1.1 1) ?_
      refine qx_getR d_Pl_keepIfAllTrue_27 fR_Pl_105 rfl rfl (congrFun hC.1.2.2.2.2.1 8) ?_
      refine qx_iload_n d_Pl_keepIfAllTrue_30 rfl rfl ?_
      refine qx_aald (j := i) (t := 1)  d_Pl_keepIfAllTrue_31 rfl (fun _ => rfl) rfl rfl rfl (by omega) (hC.2.2.2.2.2 i (by omega)).1 ?_
      refine qx_callV (As := [_]) (rest := _) d_Pl_keepIfAllTrue_32 lk_Pl_109 y_Ma_evaluate v_Ma_evaluate rfl rfl rfl (by decide) rfl rfl rfl rfl (by decide) (by decide) (ct_Ma_evaluate (h := lR (kC h st) cv cb) hC.1.2.2.1 vs ns (pc i) (hC.2.2.2.2.2 i (by omega)).2.1 (hC.1.2.2.2.2.2.1 _ (hC.2.2.2.2.2 i (by omega)).2.1) (CE i) hx.1 hx.2.1 hx.2.2 [true] hty (jRow (fun k => (ti k).toInt64) tn fi se f s) cb (fun c hc => ⟨rfl, (hrow c hc).1⟩)) ?_
      rintro _ _ _ ⟨rfl, ⟨vs3, ns3, rfl, hm⟩, rfl⟩
      refine qx_aload_n d_Pl_keepIfAllTrue_35 rfl rfl ?_
      refine qx_getR d_Pl_keepIfAllTrue_36 fR_Pl_27 rfl rfl (congrFun hC.1.1 2) ?_
      refine qx_callV (As := []) (rest := _) d_Pl_keepIfAllTrue_39 lk_Pl_113 y_Ma_isTrue v_Ma_isTrue rfl rfl rfl (by decide) rfl rfl rfl rfl (by decide) (by decide) (ct_Ma_isTrue (h := lR (kC h st) cv cb) hC.1.2.2.1 vs3 ns3) ?_
      rintro _ _ _ ⟨rfl, rfl, rfl⟩
      refine qx_if_neB (t := 46) d_Pl_keepIfAllTrue_42 rfl (fun c42 => ?_) (fun c42 => ?_)
      · refine qx_iincN (w := 1) (lv1 := [_, _, _, _]) d_Pl_keepIfAllTrue_46 rfl rfl (by decide) rfl ?_
        refine qx_goto (t := 8) d_Pl_keepIfAllTrue_49 rfl ?_
        refine ih (i + 1) cv cb vs3 ns3 (by omega) ?_ hrow
        rw [hs2, ha, ← mTrue hty hm, c42]
        rfl
      · exact qx_ret d_Pl_keepIfAllTrue_45 rfl (by omega) (by omega) (by
        have e0 : allT (jRow (fun k => (ti k).toInt64) tn fi se f s) CE (i + 1) = false := by rw [hs2, ha, ← mTrue hty hm, c42]; rfl
        have e1 := allT_mono _ _ e0 m
        rw [show i + 1 + m = nc by omega] at e1
        exact ⟨rfl, ⟨cv, cb, vs3, ns3, by rw [kIf_f (show (fun f s => allT (jRow (fun k => (ti k).toInt64) tn fi se f s) CE nc) f s = false from e1)]⟩, rfl⟩)
  refine qx_aload_n d_Pl_keepIfAllTrue_0 rfl rfl ?_
  refine qx_iload_n d_Pl_keepIfAllTrue_1 rfl rfl ?_
  refine qx_iload_n d_Pl_keepIfAllTrue_2 rfl rfl ?_
  refine qx_callV (As := [_, _]) (rest := _) d_Pl_keepIfAllTrue_3 lk_Pl_99 y_Pl_loadJoined v_Pl_loadJoined rfl rfl rfl (by decide) rfl rfl rfl rfl (by decide) (by decide) (ct_Pl_loadJoined (h := kC h st) ti tn rw kd fi se le ri nc CE pc (plC_k hC) cv0 cb0 vs0 ns0 f hf s hs) ?_
  rintro _ _ _ ⟨rfl, ⟨cv1, cb1, rfl, hrow⟩, rfl⟩
  refine qx_iconstN (v := 0) d_Pl_keepIfAllTrue_6 rfl ?_
  refine qx_istore_n (lv1 := [_, _, _, _]) d_Pl_keepIfAllTrue_7 rfl (by decide) rfl ?_
  exact key nc 0 cv1 cb1 vs0 ns0 (by omega) rfl hrow
