/-! the class's groups over a heap: values, NULLs, the group of each row, how many -/
abbrev sG : Type := (Nat → Int64) × (Nat → Bool) × (Nat → Nat) × Nat
def gC (h : qH) (G : sG) : qH := (fun a => if a = 69 then iB G.2.1 else if a = 67 then iN G.2.2.1 else if a = 1 then va_up (h.1 1) 10 (nI G.2.2.2) else h.1 a, va_up h.2.1 68 G.1, h.2.2)
theorem gC_x {h : qH} {G : sG} {a : Nat} (h1 : a ≠ 69) (h2 : a ≠ 67) (h3 : a ≠ 1) : (gC h G).1 a = h.1 a := by
  show (if a = 69 then iB G.2.1 else if a = 67 then iN G.2.2.1 else if a = 1 then va_up (h.1 1) 10 (nI G.2.2.2) else h.1 a) = _
  rw [if_neg h1, if_neg h2, if_neg h3]
theorem gC_of {h : qH} {G : sG} (h0 : h.2.1 68 = G.1) (h1 : h.1 69 = iB G.2.1) (h2 : h.1 67 = iN G.2.2.1) (h3 : h.1 1 10 = nI G.2.2.2) : gC h G = h := by
  refine Prod.ext ?_ (Prod.ext ?_ rfl)
  · funext a
    by_cases e1 : a = 69
    · subst e1; exact h1.symm
    · by_cases e2 : a = 67
      · subst e2; exact h2.symm
      · by_cases e3 : a = 1
        · subst e3
          show va_up (h.1 1) 10 (nI G.2.2.2) = h.1 1
          rw [← h3]
          exact qv_self
        · exact gC_x e1 e2 e3
  · show va_up h.2.1 68 G.1 = h.2.1
    rw [← h0]
    exact qv_self
theorem gC_v {h : qH} {G : sG} {i : Nat} {v : Int64} : qpL (gC h G) 68 i v = gC h (va_up G.1 i v, G.2) := by
  refine Prod.ext rfl (Prod.ext ?_ rfl)
  show va_up (va_up h.2.1 68 G.1) 68 (va_up (va_up h.2.1 68 G.1 68) i v) = va_up h.2.1 68 (va_up G.1 i v)
  rw [qus, qv_up]
theorem gC_b {h : qH} {G : sG} {i : Nat} {v : Bool} : qpI (gC h G) 69 i (b2i v) = gC h (G.1, va_up G.2.1 i v, G.2.2) := by
  unfold gC qpI
  dsimp only
  refine Prod.ext ?_ rfl
  funext a
  dsimp only
  by_cases ha : a = 69
  · subst ha
    simp only [qus]
    exact iB_up
  · rw [qun ha]
    simp only [ha, if_false]
theorem gC_o {h : qH} {G : sG} {i : Nat} {v : Nat} : qpI (gC h G) 67 i (nI v) = gC h (G.1, G.2.1, va_up G.2.2.1 i v, G.2.2.2) := by
  unfold gC qpI
  dsimp only
  refine Prod.ext ?_ rfl
  funext a
  dsimp only
  by_cases ha : a = 67
  · subst ha
    simp only [qus]
    exact iN_up
  · rw [qun ha]
    simp only [ha, if_false]
theorem gC_n {h : qH} {G : sG} {v : Nat} : qpI (gC h G) 1 10 (nI v) = gC h (G.1, G.2.1, G.2.2.1, v) := by
  unfold gC qpI
  dsimp only
  refine Prod.ext ?_ rfl
  funext a
  dsimp only
  by_cases ha : a = 1
  · subst ha
    simp only [qus]
    exact qv_up
  · rw [qun ha]
    simp only [ha, if_false]
theorem nR_L {h : qH} {vs : Nat → Int64} {ns : Nat → Bool} {a i : Nat} {v : Int64} (ha : a ≠ 62) : qpL (nR h vs ns) a i v = nR (qpL h a i v) vs ns := by
  refine Prod.ext rfl (Prod.ext ?_ rfl)
  show va_up (va_up h.2.1 62 vs) a (va_up (va_up h.2.1 62 vs a) i v) = va_up (va_up h.2.1 a (va_up (h.2.1 a) i v)) 62 vs
  rw [qun ha]
  funext b
  by_cases e : b = a
  · subst e; rw [qus, qun ha, qus]
  · rw [qun e]
    by_cases e2 : b = 62
    · subst e2; rw [qus, qus]
    · rw [qun e2, qun e2, qun e]
theorem lR_L {h : qH} {cv : Nat → Int64} {cb : Nat → Bool} {a i : Nat} {v : Int64} (ha : a ≠ 60) : qpL (lR h cv cb) a i v = lR (qpL h a i v) cv cb := by
  refine Prod.ext rfl (Prod.ext ?_ rfl)
  show va_up (va_up h.2.1 60 cv) a (va_up (va_up h.2.1 60 cv a) i v) = va_up (va_up h.2.1 a (va_up (h.2.1 a) i v)) 60 cv
  rw [qun ha]
  funext b
  by_cases e : b = a
  · subst e; rw [qus, qun ha, qus]
  · rw [qun e]
    by_cases e2 : b = 60
    · subst e2; rw [qus, qus]
    · rw [qun e2, qun e2, qun e]
theorem plC_g {h : qH} {ti : Nat → Int32} {tn : Nat → Bool} {rw : Nat → Nat} {kd fi se le ri nc : Nat} {CE : Nat → List xP} {pc : Nat → Nat} (hC : plC h ti tn rw kd fi se le ri nc CE pc) {G : sG} : plC (gC h G) ti tn rw kd fi se le ri nc CE pc := plC_ag (fun a ha => gC_x (by omega) (by omega) (by omega)) rfl hC
/-- a group's value against a row's -/
def gCell (gv : Nat → Int64) (gb : Nat → Bool) (j : Nat) : Option Int64 := if gb j = true then none else some (gv j)
theorem gCell_eq {gv : Nat → Int64} {gb : Nat → Bool} {j : Nat} {x : Int64} {b : Bool} (h1 : gb j = true → gv j = 0) (h2 : b = true → x = 0) : gCell gv gb j = (if b = true then none else some x) ↔ gb j = b ∧ gv j = x := by
  unfold gCell
  cases e : gb j <;> cases b <;> simp_all
def rowK (ti : Nat → Int32) (tn : Nat → Bool) (fi se : Nat) (st : sK) (k : Nat) : Nat → Option Int64 := jRow (fun k => (ti k).toInt64) tn fi se (st.1 k) (st.2.1 k)
def stOk (st : sK) : Prop := st.2.2 ≤ 144 ∧ ∀ k, k < st.2.2 → st.1 k < 12 ∧ ∀ q, st.2.1 k = some q → q < 12
set_option maxRecDepth 100000 in
set_option maxHeartbeats 4000000 in
theorem ct_Pl_findGroup {h : qH} {k : Nat} (ti : Nat → Int32) (tn : Nat → Bool) (rw : Nat → Nat) (kd fi se le ri nc : Nat) (CE : Nat → List xP) (pc : Nat → Nat) (hC : plC h ti tn rw kd fi se le ri nc CE pc) (g : Nat) (hg4 : g < 4) (hgr : h.1 3 13 = nI g) (st : sK) (hst : stOk st) (G : sG) (hG : ∀ j, j < G.2.2.2 → G.2.1 j = true → G.1 j = 0) (hG13 : G.2.2.2 ≤ 13) (hGn : (∀ j, j < G.2.2.2 → gCell G.1 G.2.1 j ≠ (rowK ti tn fi se st) k g) → G.2.2.2 < 13) (cv : Nat → Int64) (cb : Nat → Bool) (vs : Nat → Int64) (ns : Nat → Bool) (hk : k < st.2.2) : qT mi_Pl_findGroup 3 0 0 [.ref 1, .int (nI k)] (nR (lR (gC (kC h st) G) cv cb) vs ns) NN (fun v1 h1 n1 => (∃ cv2 cb2, (∃ j, j < G.2.2.2 ∧ v1 = some (.int (nI j)) ∧ gCell G.1 G.2.1 j = ((rowK ti tn fi se st) k g) ∧ h1 = nR (lR (gC (kC h st) G) cv2 cb2) vs ns) ∨ ((∀ j, j < G.2.2.2 → gCell G.1 G.2.1 j ≠ ((rowK ti tn fi se st) k g)) ∧ v1 = some (.int (nI G.2.2.2)) ∧ ∃ x b, (b = true → x = 0) ∧ ((rowK ti tn fi se st) k g) = (if b = true then none else some x) ∧ h1 = nR (lR (gC (kC h st) (va_up G.1 G.2.2.2 x, va_up G.2.1 G.2.2.2 b, G.2.2.1, G.2.2.2 + 1)) cv2 cb2) vs ns)) ∧ n1 = NN) := by
  have hk144 := hst.1
  refine qT.of (lv0 := [_, _, _, _, _, _]) (by decide +kernel) (fun _ _ => Nat.le_of_ble_eq_true rfl) rfl ?_
  have key : ∀ (cv1 : Nat → Int64) (cb1 : Nat → Bool), cRow cv1 cb1 ((rowK ti tn fi se st) k) → ∀ (m i : Nat), i + m = G.2.2.2 → (∀ j, j < i → gCell G.1 G.2.1 j ≠ ((rowK ti tn fi se st) k g)) → qX mi_Pl_findGroup 3 none 0 0 52 [.ref 1, .int (nI k), .long (cv1 g), qdead, .int (b2i (cb1 g)), .int (nI i)] [] (nR (lR (gC (kC h st) G) cv1 cb1) vs ns) NN 0 0 (fun v1 h1 n1 => (∃ cv2 cb2, (∃ j, j < G.2.2.2 ∧ v1 = some (.int (nI j)) ∧ gCell G.1 G.2.1 j = ((rowK ti tn fi se st) k g) ∧ h1 = nR (lR (gC (kC h st) G) cv2 cb2) vs ns) ∨ ((∀ j, j < G.2.2.2 → gCell G.1 G.2.1 j ≠ ((rowK ti tn fi se st) k g)) ∧ v1 = some (.int (nI G.2.2.2)) ∧ ∃ x b, (b = true → x = 0) ∧ ((rowK ti tn fi se st) k g) = (if b = true then none else some x) ∧ h1 = nR (lR (gC (kC h st) (va_up G.1 G.2.2.2 x, va_up G.2.1 G.2.2.2 b, G.2.2.1, G.2.2.2 + 1)) cv2 cb2) vs ns)) ∧ n1 = NN) := by
    intro cv1 cb1 hrow m
    have hr := hrow g hg4
    induction m with
    | zero =>
      intro i hi hno
      have ei : i = G.2.2.2 := by omega
      rw [ei] at hno
      have h13 := hGn hno
      refine qx_iload d_Pl_findGroup_52 rfl ?_
      refine qx_aload_n d_Pl_findGroup_54 rfl rfl ?_
      refine qx_getI d_Pl_findGroup_55 fI_Pl_123 rfl rfl (show _ = nI G.2.2.2 from rfl) ?_
      refine qx_icmp_geN (t := 94) d_Pl_findGroup_58 rfl (by omega) (by omega) (fun c58 => ?_) (fun c58 => absurd c58 (by omega))
      refine qx_aload_n d_Pl_findGroup_94 rfl rfl ?_
      refine qx_getI d_Pl_findGroup_95 fI_Pl_123 rfl rfl (show _ = nI G.2.2.2 from rfl) ?_
      refine qx_bipushN (v := 13) d_Pl_findGroup_98 rfl ?_
      refine qx_icmp_geN (t := 134) d_Pl_findGroup_100 rfl (by omega) (by omega) (fun c100 => absurd c100 (by omega)) (fun c100 => ?_)
      refine qx_aload_n d_Pl_findGroup_103 rfl rfl ?_
      refine qx_getR d_Pl_findGroup_104 fR_Pl_48 rfl rfl (congrFun hC.1.1 8) ?_
      refine qx_aload_n d_Pl_findGroup_107 rfl rfl ?_
      refine qx_getI d_Pl_findGroup_108 fI_Pl_123 rfl rfl (show _ = nI G.2.2.2 from rfl) ?_
      refine qx_lload_n d_Pl_findGroup_111 rfl rfl ?_
      refine qx_last d_Pl_findGroup_112 rfl rfl rfl rfl (by omega) ?_
      refine qx_eq (h1 := nR (lR (gC (kC h st) (va_up G.1 G.2.2.2 (cv1 g), G.2)) cv1 cb1) vs ns) rfl rfl rfl (by rw [nR_L (by omega), lR_L (by omega), gC_v]) ?_
      refine qx_aload_n d_Pl_findGroup_113 rfl rfl ?_
      refine qx_getR d_Pl_findGroup_114 fR_Pl_52 rfl rfl (congrFun hC.1.1 9) ?_
      refine qx_aload_n d_Pl_findGroup_117 rfl rfl ?_
      refine qx_getI d_Pl_findGroup_118 fI_Pl_123 rfl rfl (show _ = nI G.2.2.2 from rfl) ?_
      refine qx_iload d_Pl_findGroup_121 rfl ?_
      refine qx_zast d_Pl_findGroup_123 rfl rfl rfl rfl (by omega) (b2i_nar _) ?_
      refine qx_eq (h1 := nR (lR (gC (kC h st) (va_up G.1 G.2.2.2 (cv1 g), va_up G.2.1 G.2.2.2 (cb1 g), G.2.2)) cv1 cb1) vs ns) rfl rfl rfl (by rw [nR_I (by omega), lR_I (by omega), gC_b]) ?_
      refine qx_aload_n d_Pl_findGroup_124 rfl rfl ?_
      refine qx_dup d_Pl_findGroup_125 rfl ?_
      refine qx_getI d_Pl_findGroup_126 fI_Pl_123 rfl rfl (show _ = nI G.2.2.2 from rfl) ?_
      refine qx_iconstN (v := 1) d_Pl_findGroup_129 rfl ?_
      refine qx_iaddN d_Pl_findGroup_130 ?_
      refine qx_putI d_Pl_findGroup_131 fI_Pl_123 rfl rfl ⟨rfl, rfl⟩ ?_
      refine qx_eq (h1 := nR (lR (gC (kC h st) (va_up G.1 G.2.2.2 (cv1 g), va_up G.2.1 G.2.2.2 (cb1 g), G.2.2.1, G.2.2.2 + 1)) cv1 cb1) vs ns) rfl rfl rfl (by rw [nR_I (by omega), lR_I (by omega), gC_n]) ?_
      refine qx_aload_n d_Pl_findGroup_134 rfl rfl ?_
      refine qx_getI d_Pl_findGroup_135 fI_Pl_123 rfl rfl (show _ = nI (G.2.2.2 + 1) from rfl) ?_
      refine qx_iconstN (v := 1) d_Pl_findGroup_138 rfl ?_
      refine qx_isubN d_Pl_findGroup_139 (by omega) ?_
      exact qx_iret d_Pl_findGroup_140 rfl rfl (by omega) (by omega) ⟨⟨cv1, cb1, Or.inr ⟨hno, rfl, cv1 g, cb1 g, hr.2, hr.1, rfl⟩⟩, rfl⟩
    | succ m ih =>
      intro i hi hno
      have hs : gCell G.1 G.2.1 i = ((rowK ti tn fi se st) k g) ↔ G.2.1 i = cb1 g ∧ G.1 i = cv1 g := by rw [hr.1]; exact gCell_eq (hG i (by omega)) hr.2
      refine qx_iload d_Pl_findGroup_52 rfl ?_
      refine qx_aload_n d_Pl_findGroup_54 rfl rfl ?_
      refine qx_getI d_Pl_findGroup_55 fI_Pl_123 rfl rfl (show _ = nI G.2.2.2 from rfl) ?_
      refine qx_icmp_geN (t := 94) d_Pl_findGroup_58 rfl (by omega) (by omega) (fun c58 => absurd c58 (by omega)) (fun c58 => ?_)
      refine qx_aload_n d_Pl_findGroup_61 rfl rfl ?_
      refine qx_getR d_Pl_findGroup_62 fR_Pl_52 rfl rfl (congrFun hC.1.1 9) ?_
      refine qx_iload d_Pl_findGroup_65 rfl ?_
      refine qx_zald (j := i) d_Pl_findGroup_67 rfl rfl rfl rfl (by omega) (show _ = b2i (G.2.1 i) from rfl) ?_
      refine qx_iload d_Pl_findGroup_68 rfl ?_
      refine qx_icmp_neE (t := 88) d_Pl_findGroup_70 rfl (fun c70 => ?_) (fun c70 => ?_)
      · refine qx_iincN (w := 1) (lv1 := [_, _, _, _, _, _]) d_Pl_findGroup_88 rfl rfl (by decide) rfl ?_
        refine qx_goto (t := 52) d_Pl_findGroup_91 rfl ?_
        refine ih (i + 1) (by omega) (fun j hj => ?_)
        by_cases e : j = i
        · subst e
          first
            | (have z := c82; exact fun w => z (hs.mp w).2)
            | exact fun w => c70 (hs.mp w).1
        · exact hno j (by omega)
      · refine qx_aload_n d_Pl_findGroup_73 rfl rfl ?_
        refine qx_getR d_Pl_findGroup_74 fR_Pl_48 rfl rfl (congrFun hC.1.1 8) ?_
        refine qx_iload d_Pl_findGroup_77 rfl ?_
        refine qx_lald (j := i) d_Pl_findGroup_79 rfl rfl rfl rfl (by omega) (show _ = G.1 i from rfl) ?_
        refine qx_lload_n d_Pl_findGroup_80 rfl rfl ?_
        refine qx_lcmp d_Pl_findGroup_81 ?_
        refine qx_if_neC (t := 88) d_Pl_findGroup_82 rfl (fun c82 => ?_) (fun c82 => ?_)
        · refine qx_iincN (w := 1) (lv1 := [_, _, _, _, _, _]) d_Pl_findGroup_88 rfl rfl (by decide) rfl ?_
          refine qx_goto (t := 52) d_Pl_findGroup_91 rfl ?_
          refine ih (i + 1) (by omega) (fun j hj => ?_)
          by_cases e : j = i
          · subst e
            first
              | (have z := c82; exact fun w => z (hs.mp w).2)
              | exact fun w => c70 (hs.mp w).1
          · exact hno j (by omega)
        · refine qx_iload d_Pl_findGroup_85 rfl ?_
          exact qx_iret d_Pl_findGroup_87 rfl rfl (by omega) (by omega) ⟨⟨cv1, cb1, Or.inl ⟨i, by omega, rfl, hs.mpr ⟨c70, c82⟩, rfl⟩⟩, rfl⟩
  refine qx_aload_n d_Pl_findGroup_0 rfl rfl ?_
  refine qx_aload_n d_Pl_findGroup_1 rfl rfl ?_
  refine qx_getR d_Pl_findGroup_2 fR_Pl_38 rfl rfl (congrFun hC.1.1 4) ?_
  refine qx_iload_n d_Pl_findGroup_5 rfl rfl ?_
  refine qx_iald (j := k) d_Pl_findGroup_6 rfl rfl rfl rfl (by omega) (show _ = nI (st.1 k) from rfl) ?_
  refine qx_aload_n d_Pl_findGroup_7 rfl rfl ?_
  refine qx_getR d_Pl_findGroup_8 fR_Pl_42 rfl rfl (congrFun hC.1.1 5) ?_
  refine qx_iload_n d_Pl_findGroup_11 rfl rfl ?_
  refine qx_iald (j := k) d_Pl_findGroup_12 rfl rfl rfl rfl (by omega) (show _ = oI (st.2.1 k) from rfl) ?_
  refine qx_callV (As := [_, _]) (rest := _) d_Pl_findGroup_13 lk_Pl_99 y_Pl_loadJoined v_Pl_loadJoined rfl rfl rfl (by decide) rfl rfl rfl rfl (by decide) (by decide) (ct_Pl_loadJoined (h := gC (kC h st) G) ti tn rw kd fi se le ri nc CE pc (plC_g (plC_k hC)) cv cb vs ns (st.1 k) (hst.2 k hk).1 (st.2.1 k) (hst.2 k hk).2) ?_
  rintro _ _ _ ⟨rfl, ⟨cv1, cb1, rfl, hrow⟩, rfl⟩
  refine qx_aload_n d_Pl_findGroup_16 rfl rfl ?_
  refine qx_getR d_Pl_findGroup_17 fR_Pl_27 rfl rfl (congrFun hC.1.1 2) ?_
  refine qx_getR d_Pl_findGroup_20 fR_Pl_130 rfl rfl (congrFun hC.1.2.2.1 0) ?_
  refine qx_aload_n d_Pl_findGroup_23 rfl rfl ?_
  refine qx_getR d_Pl_findGroup_24 fR_Pl_20 rfl rfl (congrFun hC.1.1 1) ?_
  refine qx_getI d_Pl_findGroup_27 fI_Pl_133 rfl rfl hgr ?_
  refine qx_lald (j := g) d_Pl_findGroup_30 rfl rfl rfl rfl hg4 (show _ = cv1 g from rfl) ?_
  refine qx_lstore_n (lv1 := [_, _, _, _, _, _]) d_Pl_findGroup_31 rfl (by decide) rfl ?_
  refine qx_aload_n d_Pl_findGroup_32 rfl rfl ?_
  refine qx_getR d_Pl_findGroup_33 fR_Pl_27 rfl rfl (congrFun hC.1.1 2) ?_
  refine qx_getR d_Pl_findGroup_36 fR_Pl_136 rfl rfl (congrFun hC.1.2.2.1 1) ?_
  refine qx_aload_n d_Pl_findGroup_39 rfl rfl ?_
  refine qx_getR d_Pl_findGroup_40 fR_Pl_20 rfl rfl (congrFun hC.1.1 1) ?_
  refine qx_getI d_Pl_findGroup_43 fI_Pl_133 rfl rfl hgr ?_
  refine qx_zald (j := g) d_Pl_findGroup_46 rfl rfl rfl rfl hg4 (show _ = b2i (cb1 g) from rfl) ?_
  refine qx_istore (lv1 := [_, _, _, _, _, _]) d_Pl_findGroup_47 (by decide) rfl ?_
  refine qx_iconstN (v := 0) d_Pl_findGroup_49 rfl ?_
  refine qx_istore (lv1 := [_, _, _, _, _, _]) d_Pl_findGroup_50 (by decide) rfl ?_
  exact key cv1 cb1 hrow G.2.2.2 0 (by omega) (fun j hj => absurd hj (Nat.not_lt_zero _))
