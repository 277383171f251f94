def gInv (row : Nat → Nat → Option Int64) (g : Nat) (G : sG) (i : Nat) : Prop := G.2.2.2 = (gIt (fun a b => decide (row a g = row b g)) i).1 ∧ (∀ j, j < G.2.2.2 → gCell G.1 G.2.1 j = row ((gIt (fun a b => decide (row a g = row b g)) i).2 j) g ∧ (G.2.1 j = true → G.1 j = 0)) ∧ ∀ a, a < i → G.2.2.1 a < G.2.2.2 ∧ row ((gIt (fun a b => decide (row a g = row b g)) i).2 (G.2.2.1 a)) g = row a g
theorem gIt_S {tg : Nat → Nat → Bool} {k : Nat} : gIt tg (k + 1) = if fog tg k k = true then ((gIt tg k).1 + 1, va_up (gIt tg k).2 (gIt tg k).1 k) else gIt tg k := rfl
theorem gInv_old {row : Nat → Nat → Option Int64} {g : Nat} {G : sG} {i j : Nat} (h : gInv row g G i) (hj : j < G.2.2.2) (hc : gCell G.1 G.2.1 j = row i g) : gInv row g (G.1, G.2.1, va_up G.2.2.1 i j, G.2.2.2) (i + 1) := by
  obtain ⟨h1, h2, h3⟩ := h
  have hk := gIt_ok (cell := fun a => row a g) i
  have ef : fog (fun a b => decide (row a g = row b g)) i i = false := fog_f (i := (gIt (fun a b => decide (row a g = row b g)) i).2 j) (hk.1 j (by rw [← h1]; exact hj)) (decide_eq_true (((h2 j hj).1).symm.trans hc))
  have eg : gIt (fun a b => decide (row a g = row b g)) (i + 1) = gIt (fun a b => decide (row a g = row b g)) i := by rw [gIt_S, ef]; rfl
  unfold gInv
  rw [eg]
  refine ⟨h1, h2, fun a ha => ?_⟩
  dsimp only
  by_cases e : a = i
  · subst e; rw [qus]; exact ⟨hj, ((h2 j hj).1).symm.trans hc⟩
  · rw [qun e]; exact h3 a (by omega)
theorem gInv_fog {row : Nat → Nat → Option Int64} {g : Nat} {G : sG} {i : Nat} (h : gInv row g G i) (hn : ∀ j, j < G.2.2.2 → gCell G.1 G.2.1 j ≠ row i g) : gIt (fun a b => decide (row a g = row b g)) (i + 1) = (G.2.2.2 + 1, va_up (gIt (fun a b => decide (row a g = row b g)) i).2 G.2.2.2 i) := by
  obtain ⟨h1, h2, h3⟩ := h
  have ef : fog (fun a b => decide (row a g = row b g)) i i = true := fog_t (fun a ha => decide_eq_false (fun e => by
    have q := h3 a ha
    exact hn _ q.1 ((h2 _ q.1).1.trans (q.2.trans e))))
  rw [gIt_S, ef, if_pos rfl, ← h1]
theorem gInv_new {row : Nat → Nat → Option Int64} {g : Nat} {G : sG} {i : Nat} {x : Int64} {b : Bool} (h : gInv row g G i) (hn : ∀ j, j < G.2.2.2 → gCell G.1 G.2.1 j ≠ row i g) (hx : b = true → x = 0) (hc : row i g = (if b = true then none else some x)) : gInv row g (va_up G.1 G.2.2.2 x, va_up G.2.1 G.2.2.2 b, va_up G.2.2.1 i G.2.2.2, G.2.2.2 + 1) (i + 1) := by
  have eg := gInv_fog h hn
  obtain ⟨h1, h2, h3⟩ := h
  unfold gInv
  rw [eg]
  dsimp only
  refine ⟨rfl, fun j hj => ?_, fun a ha => ?_⟩
  · unfold gCell
    by_cases e : j = G.2.2.2
    · subst e; rw [qus, qus, qus]; exact ⟨hc.symm, hx⟩
    · rw [qun e, qun e, qun e]; exact h2 j (by omega)
  · by_cases e : a = i
    · subst e; rw [qus, qus]; exact ⟨by omega, rfl⟩
    · rw [qun e]
      have q := h3 a (by omega)
      rw [qun (by omega)]
      exact ⟨by omega, q.2⟩
def gOk (gr : Option Nat) (row : Nat → Nat → Option Int64) (kp : Nat) (G : sG) : Prop := G.2.2.2 = rWn 1 gr row kp ∧ (∀ j, j < G.2.2.2 → ∀ i, i < kp → decide (G.2.2.1 i = j) = togR gr row i (gF gr row kp j)) ∧ (∀ g, gr = some g → ∀ j, j < G.2.2.2 → gCell G.1 G.2.1 j = row (gF gr row kp j) g) ∧ ∀ i, i < kp → G.2.2.1 i < G.2.2.2
theorem gOk_s {row : Nat → Nat → Option Int64} {g kp : Nat} {G : sG} (h : gInv row g G kp) : gOk (some g) row kp G := by
  obtain ⟨h1, h2, h3⟩ := h
  have hk := gIt_ok (cell := fun a => row a g) kp
  refine ⟨h1, fun j hj i hi => ?_, fun g2 e j hj => ?_, fun i hi => (h3 i hi).1⟩
  · show decide (G.2.2.1 i = j) = decide (row i g = row ((gIt (fun a b => decide (row a g = row b g)) kp).2 j) g)
    have q := h3 i hi
    refine decide_eq_decide.mpr ⟨fun e => ?_, fun e => ?_⟩
    · rw [← e]; exact q.2.symm
    · exact hk.2.2 _ (by rw [← h1]; exact q.1) _ (by rw [← h1]; exact hj) (q.2.trans e)
  · cases e; exact (h2 j hj).1
theorem gOk_n {row : Nat → Nat → Option Int64} {kp : Nat} {G : sG} (h1 : G.2.2.2 = 1) (h2 : ∀ i, i < kp → G.2.2.1 i = 0) : gOk none row kp G := by
  refine ⟨h1, fun j hj i hi => ?_, fun g e => (by cases e), fun i hi => by rw [h1, h2 i hi]; omega⟩
  show decide (G.2.2.1 i = j) = true
  rw [h2 i hi]
  exact decide_eq_true (by omega)
def gCode (g : Nat) (st : sK) (a : Nat) : Nat := if g < 2 then st.1 a else match st.2.1 a with
  | none => 12
  | some s => s
theorem gCode_ok {ti : Nat → Int32} {tn : Nat → Bool} {fi se g : Nat} {st : sK} (hst : stOk st) : ∀ a, a < st.2.2 → gCode g st a < 13 ∧ rowK ti tn fi se st a g = (fun c => if g < 2 then jRow (fun k => (ti k).toInt64) tn fi se c none g else jRow (fun k => (ti k).toInt64) tn fi se 0 (if c = 12 then none else some c) g) (gCode g st a) := by
  intro a ha
  obtain ⟨h1, h2⟩ := hst.2 a ha
  unfold gCode rowK
  by_cases hg : g < 2
  · rw [if_pos hg]
    refine ⟨by omega, ?_⟩
    dsimp only
    rw [if_pos hg]
    unfold jRow
    rw [jB_lo hg, jB_lo hg, jV_lo hg, jV_lo hg]
  · rw [if_neg hg]
    dsimp only
    rw [if_neg hg]
    cases e : st.2.1 a with
    | none =>
      refine ⟨by dsimp only; omega, ?_⟩
      dsimp only
      rw [if_pos rfl]
      unfold jRow jB jV
      rw [if_neg hg, if_neg hg, if_neg hg, if_neg hg]
    | some q =>
      have := h2 q e
      refine ⟨by dsimp only; omega, ?_⟩
      dsimp only
      rw [if_neg (by omega)]
      unfold jRow jB jV
      rw [if_neg hg, if_neg hg, if_neg hg, if_neg hg]
set_option maxRecDepth 100000 in
set_option maxHeartbeats 4000000 in
theorem ct_Pl_makeGroups_n {h : qH} (ti : Nat → Int32) (tn : Nat → Bool) (rw : Nat → Nat) (kd fi se le ri nc : Nat) (CE : Nat → List xP) (pc : Nat → Nat) (hC : plC h ti tn rw kd fi se le ri nc CE pc) (hgr : h.1 3 13 = grI none) (st : sK) (hst : stOk st) (G : sG) (cv : Nat → Int64) (cb : Nat → Bool) (vs : Nat → Int64) (ns : Nat → Bool) : qT mi_Pl_makeGroups 4 0 0 [.ref 1] (nR (lR (gC (kC h st) G) cv cb) vs ns) NN (fun v1 h1 n1 => v1 = none ∧ (∃ G2 cv2 cb2, h1 = nR (lR (gC (kC h st) G2) cv2 cb2) vs ns ∧ gOk none (rowK ti tn fi se st) st.2.2 G2) ∧ n1 = NN) := by
  have hk144 := hst.1
  have hg4x : ∀ q, none = some q → q < 4 := fun q e => by cases e
  refine qT.of (lv0 := [_, _]) (by decide +kernel) (fun _ _ => Nat.le_of_ble_eq_true rfl) rfl ?_
  have key : ∀ (m i : Nat) (G : sG) (cv : Nat → Int64) (cb : Nat → Bool), i + m = st.2.2 → (G.2.2.2 = 1 ∧ (∀ a, a < i → G.2.2.1 a = 0)) → qX mi_Pl_makeGroups 4 none 0 0 21 [.ref 1, .int (nI i)] [] (nR (lR (gC (kC h st) G) cv cb) vs ns) NN 0 0 (fun v1 h1 n1 => v1 = none ∧ (∃ G2 cv2 cb2, h1 = nR (lR (gC (kC h st) G2) cv2 cb2) vs ns ∧ gOk none (rowK ti tn fi se st) st.2.2 G2) ∧ n1 = NN) := by
    intro m
    induction m with
    | zero =>
      intro i G cv cb hi hv
      have ei : i = st.2.2 := by omega
      refine qx_iload_n d_Pl_makeGroups_21 rfl rfl ?_
      refine qx_aload_n d_Pl_makeGroups_22 rfl rfl ?_
      refine qx_getI d_Pl_makeGroups_23 fI_Pl_71 rfl rfl (show _ = nI st.2.2 from rfl) ?_
      refine qx_icmp_geN (t := 60) d_Pl_makeGroups_26 rfl (by omega) (by omega) (fun c26 => ?_) (fun c26 => absurd c26 (by omega))
      exact qx_ret d_Pl_makeGroups_60 rfl (by omega) (by omega) ⟨rfl, ⟨G, cv, cb, rfl, by rw [← ei]; exact gOk_n hv.1 hv.2⟩, rfl⟩
    | succ m ih =>
      intro i G cv cb hi hv
      refine qx_iload_n d_Pl_makeGroups_21 rfl rfl ?_
      refine qx_aload_n d_Pl_makeGroups_22 rfl rfl ?_
      refine qx_getI d_Pl_makeGroups_23 fI_Pl_71 rfl rfl (show _ = nI st.2.2 from rfl) ?_
      refine qx_icmp_geN (t := 60) d_Pl_makeGroups_26 rfl (by omega) (by omega) (fun c26 => absurd c26 (by omega)) (fun c26 => ?_)
      refine qx_aload_n d_Pl_makeGroups_29 rfl rfl ?_
      refine qx_getR d_Pl_makeGroups_30 fR_Pl_45 rfl rfl (congrFun hC.1.1 7) ?_
      refine qx_iload_n d_Pl_makeGroups_33 rfl rfl ?_
      refine qx_aload_n d_Pl_makeGroups_34 rfl rfl ?_
      refine qx_getR d_Pl_makeGroups_35 fR_Pl_20 rfl rfl (congrFun hC.1.1 1) ?_
      refine qx_callV (As := []) (rest := _) d_Pl_makeGroups_38 lk_Pl_120 y_Qu_isGrouped v_Qu_isGrouped rfl rfl rfl (by decide) rfl rfl rfl rfl (by decide) (by decide) (ct_Qu_isGrouped (h := (nR (lR (gC (kC h st) G) cv cb) vs ns)) none hg4x hgr) ?_
      rintro _ _ _ ⟨rfl, rfl, rfl⟩
      refine qx_if_eqB (t := 52) d_Pl_makeGroups_41 rfl (fun c41 => ?_) (fun c41 => by cases c41)
      refine qx_iconstN (v := 0) d_Pl_makeGroups_52 rfl ?_
      refine qx_iast d_Pl_makeGroups_53 rfl rfl rfl rfl (by omega) ?_
      refine qx_eq (h1 := nR (lR (gC (kC h st) (G.1, G.2.1, va_up G.2.2.1 i 0, G.2.2.2)) cv cb) vs ns) rfl rfl rfl (by rw [nR_I (by omega), lR_I (by omega), gC_o]) ?_
      refine qx_iincN (w := 1) (lv1 := [_, _]) d_Pl_makeGroups_54 rfl rfl (by decide) rfl ?_
      refine qx_goto (t := 21) d_Pl_makeGroups_57 rfl ?_
      refine ih (i + 1) _ cv cb (by omega) ⟨hv.1, fun a ha => ?_⟩
      show va_up G.2.2.1 i 0 a = 0
      by_cases e : a = i
      · subst e; rw [qus]
      · rw [qun e]; exact hv.2 a (by omega)
  refine qx_aload_n d_Pl_makeGroups_0 rfl rfl ?_
  refine qx_aload_n d_Pl_makeGroups_1 rfl rfl ?_
  refine qx_getR d_Pl_makeGroups_2 fR_Pl_20 rfl rfl (congrFun hC.1.1 1) ?_
  refine qx_callV (As := []) (rest := _) d_Pl_makeGroups_5 lk_Pl_120 y_Qu_isGrouped v_Qu_isGrouped rfl rfl rfl (by decide) rfl rfl rfl rfl (by decide) (by decide) (ct_Qu_isGrouped (h := (nR (lR (gC (kC h st) G) cv cb) vs ns)) none hg4x hgr) ?_
  rintro _ _ _ ⟨rfl, rfl, rfl⟩
  refine qx_if_eqB (t := 15) d_Pl_makeGroups_8 rfl (fun c8 => ?_) (fun c8 => by cases c8)
  refine qx_iconstN (v := 1) d_Pl_makeGroups_15 rfl ?_
  refine qx_putI d_Pl_makeGroups_16 fI_Pl_123 rfl rfl ⟨rfl, rfl⟩ ?_
  refine qx_eq (h1 := nR (lR (gC (kC h st) (G.1, G.2.1, G.2.2.1, 1)) cv cb) vs ns) rfl rfl rfl (by rw [nR_I (by omega), lR_I (by omega), gC_n]) ?_
  refine qx_iconstN (v := 0) d_Pl_makeGroups_19 rfl ?_
  refine qx_istore_n (lv1 := [_, _]) d_Pl_makeGroups_20 rfl (by decide) rfl ?_
  exact key st.2.2 0 _ cv cb (by omega) ⟨rfl, fun a ha => absurd ha (Nat.not_lt_zero _)⟩
set_option maxRecDepth 100000 in
set_option maxHeartbeats 4000000 in
theorem ct_Pl_makeGroups_s {h : qH} (ti : Nat → Int32) (tn : Nat → Bool) (rw : Nat → Nat) (kd fi se le ri nc : Nat) (CE : Nat → List xP) (pc : Nat → Nat) (hC : plC h ti tn rw kd fi se le ri nc CE pc) (g : Nat) (hg4 : g < 4) (hgr : h.1 3 13 = grI (some g)) (st : sK) (hst : stOk st) (G : sG) (cv : Nat → Int64) (cb : Nat → Bool) (vs : Nat → Int64) (ns : Nat → Bool) : qT mi_Pl_makeGroups 4 0 0 [.ref 1] (nR (lR (gC (kC h st) G) cv cb) vs ns) NN (fun v1 h1 n1 => v1 = none ∧ (∃ G2 cv2 cb2, h1 = nR (lR (gC (kC h st) G2) cv2 cb2) vs ns ∧ gOk (some g) (rowK ti tn fi se st) st.2.2 G2) ∧ n1 = NN) := by
  have hk144 := hst.1
  have hg4x : ∀ q, (some g) = some q → q < 4 := fun q e => by cases e; exact hg4
  refine qT.of (lv0 := [_, _]) (by decide +kernel) (fun _ _ => Nat.le_of_ble_eq_true rfl) rfl ?_
  have key : ∀ (m i : Nat) (G : sG) (cv : Nat → Int64) (cb : Nat → Bool), i + m = st.2.2 → (gInv (rowK ti tn fi se st) g G i) → qX mi_Pl_makeGroups 4 none 0 0 21 [.ref 1, .int (nI i)] [] (nR (lR (gC (kC h st) G) cv cb) vs ns) NN 0 0 (fun v1 h1 n1 => v1 = none ∧ (∃ G2 cv2 cb2, h1 = nR (lR (gC (kC h st) G2) cv2 cb2) vs ns ∧ gOk (some g) (rowK ti tn fi se st) st.2.2 G2) ∧ n1 = NN) := by
    intro m
    induction m with
    | zero =>
      intro i G cv cb hi hv
      have ei : i = st.2.2 := by omega
      refine qx_iload_n d_Pl_makeGroups_21 rfl rfl ?_
      refine qx_aload_n d_Pl_makeGroups_22 rfl rfl ?_
      refine qx_getI d_Pl_makeGroups_23 fI_Pl_71 rfl rfl (show _ = nI st.2.2 from rfl) ?_
      refine qx_icmp_geN (t := 60) d_Pl_makeGroups_26 rfl (by omega) (by omega) (fun c26 => ?_) (fun c26 => absurd c26 (by omega))
      exact qx_ret d_Pl_makeGroups_60 rfl (by omega) (by omega) ⟨rfl, ⟨G, cv, cb, rfl, by rw [← ei]; exact gOk_s hv⟩, rfl⟩
    | succ m ih =>
      intro i G cv cb hi hv
      have g13 := gIt_13 (cell := fun a => (rowK ti tn fi se st) a g) (code := gCode g st) (F := (fun c => if g < 2 then jRow (fun k => (ti k).toInt64) tn fi se c none g else jRow (fun k => (ti k).toInt64) tn fi se 0 (if c = 12 then none else some c) g)) (k := i) (K := st.2.2) (by omega) (gCode_ok (ti := ti) (tn := tn) (fi := fi) (se := se) (g := g) hst)
      have g13n := gIt_13 (cell := fun a => (rowK ti tn fi se st) a g) (code := gCode g st) (F := (fun c => if g < 2 then jRow (fun k => (ti k).toInt64) tn fi se c none g else jRow (fun k => (ti k).toInt64) tn fi se 0 (if c = 12 then none else some c) g)) (k := i + 1) (K := st.2.2) (by omega) (gCode_ok (ti := ti) (tn := tn) (fi := fi) (se := se) (g := g) hst)
      refine qx_iload_n d_Pl_makeGroups_21 rfl rfl ?_
      refine qx_aload_n d_Pl_makeGroups_22 rfl rfl ?_
      refine qx_getI d_Pl_makeGroups_23 fI_Pl_71 rfl rfl (show _ = nI st.2.2 from rfl) ?_
      refine qx_icmp_geN (t := 60) d_Pl_makeGroups_26 rfl (by omega) (by omega) (fun c26 => absurd c26 (by omega)) (fun c26 => ?_)
      refine qx_aload_n d_Pl_makeGroups_29 rfl rfl ?_
      refine qx_getR d_Pl_makeGroups_30 fR_Pl_45 rfl rfl (congrFun hC.1.1 7) ?_
      refine qx_iload_n d_Pl_makeGroups_33 rfl rfl ?_
      refine qx_aload_n d_Pl_makeGroups_34 rfl rfl ?_
      refine qx_getR d_Pl_makeGroups_35 fR_Pl_20 rfl rfl (congrFun hC.1.1 1) ?_
      refine qx_callV (As := []) (rest := _) d_Pl_makeGroups_38 lk_Pl_120 y_Qu_isGrouped v_Qu_isGrouped rfl rfl rfl (by decide) rfl rfl rfl rfl (by decide) (by decide) (ct_Qu_isGrouped (h := (nR (lR (gC (kC h st) G) cv cb) vs ns)) (some g) hg4x hgr) ?_
      rintro _ _ _ ⟨rfl, rfl, rfl⟩
      refine qx_if_eqB (t := 52) d_Pl_makeGroups_41 rfl (fun c41 => by cases c41) (fun c41 => ?_)
      refine qx_aload_n d_Pl_makeGroups_44 rfl rfl ?_
      refine qx_iload_n d_Pl_makeGroups_45 rfl rfl ?_
      refine qx_callV (As := [_]) (rest := _) d_Pl_makeGroups_46 lk_Pl_126 y_Pl_findGroup v_Pl_findGroup rfl rfl rfl (by decide) rfl rfl rfl rfl (by decide) (by decide) (ct_Pl_findGroup ti tn rw kd fi se le ri nc CE pc hC g hg4 hgr st hst G (fun j hj => (hv.2.1 j hj).2) (by rw [hv.1]; exact g13) (fun hn => by have e := gInv_fog hv hn; rw [e] at g13n; dsimp only at g13n; omega) cv cb vs ns (show i < st.2.2 by omega)) ?_
      rintro _ _ _ ⟨⟨cv2, cb2, ⟨j, hj, rfl, hc, rfl⟩ | ⟨hn, rfl, x, b, hx, hc, rfl⟩⟩, rfl⟩
      · refine qx_goto (t := 53) d_Pl_makeGroups_49 rfl ?_
        refine qx_iast d_Pl_makeGroups_53 rfl rfl rfl rfl (by omega) ?_
        refine qx_eq (h1 := nR (lR (gC (kC h st) (G.1, G.2.1, va_up G.2.2.1 i j, G.2.2.2)) cv2 cb2) vs ns) rfl rfl rfl (by rw [nR_I (by omega), lR_I (by omega), gC_o]) ?_
        refine qx_iincN (w := 1) (lv1 := [_, _]) d_Pl_makeGroups_54 rfl rfl (by decide) rfl ?_
        refine qx_goto (t := 21) d_Pl_makeGroups_57 rfl ?_
        exact ih (i + 1) _ cv2 cb2 (by omega) (gInv_old hv hj hc)
      refine qx_goto (t := 53) d_Pl_makeGroups_49 rfl ?_
      refine qx_iast d_Pl_makeGroups_53 rfl rfl rfl rfl (by omega) ?_
      refine qx_eq (h1 := nR (lR (gC (kC h st) (va_up G.1 G.2.2.2 x, va_up G.2.1 G.2.2.2 b, va_up G.2.2.1 i G.2.2.2, G.2.2.2 + 1)) cv2 cb2) vs ns) rfl rfl rfl (by rw [nR_I (by omega), lR_I (by omega), gC_o]) ?_
      refine qx_iincN (w := 1) (lv1 := [_, _]) d_Pl_makeGroups_54 rfl rfl (by decide) rfl ?_
      refine qx_goto (t := 21) d_Pl_makeGroups_57 rfl ?_
      exact ih (i + 1) _ cv2 cb2 (by omega) (gInv_new hv hn hx hc)
  refine qx_aload_n d_Pl_makeGroups_0 rfl rfl ?_
  refine qx_aload_n d_Pl_makeGroups_1 rfl rfl ?_
  refine qx_getR d_Pl_makeGroups_2 fR_Pl_20 rfl rfl (congrFun hC.1.1 1) ?_
  refine qx_callV (As := []) (rest := _) d_Pl_makeGroups_5 lk_Pl_120 y_Qu_isGrouped v_Qu_isGrouped rfl rfl rfl (by decide) rfl rfl rfl rfl (by decide) (by decide) (ct_Qu_isGrouped (h := (nR (lR (gC (kC h st) G) cv cb) vs ns)) (some g) hg4x hgr) ?_
  rintro _ _ _ ⟨rfl, rfl, rfl⟩
  refine qx_if_eqB (t := 15) d_Pl_makeGroups_8 rfl (fun c8 => by cases c8) (fun c8 => ?_)
  refine qx_iconstN (v := 0) d_Pl_makeGroups_11 rfl ?_
  refine qx_goto (t := 16) d_Pl_makeGroups_12 rfl ?_
  refine qx_putI d_Pl_makeGroups_16 fI_Pl_123 rfl rfl ⟨rfl, rfl⟩ ?_
  refine qx_eq (h1 := nR (lR (gC (kC h st) (G.1, G.2.1, G.2.2.1, 0)) cv cb) vs ns) rfl rfl rfl (by rw [nR_I (by omega), lR_I (by omega), gC_n]) ?_
  refine qx_iconstN (v := 0) d_Pl_makeGroups_19 rfl ?_
  refine qx_istore_n (lv1 := [_, _]) d_Pl_makeGroups_20 rfl (by decide) rfl ?_
  exact key st.2.2 0 _ cv cb (by omega) ⟨rfl, fun a ha => absurd ha (Nat.not_lt_zero _), fun a ha => absurd ha (Nat.not_lt_zero _)⟩
theorem ct_Pl_makeGroups {h : qH} (ti : Nat → Int32) (tn : Nat → Bool) (rw : Nat → Nat) (kd fi se le ri nc : Nat) (CE : Nat → List xP) (pc : Nat → Nat) (hC : plC h ti tn rw kd fi se le ri nc CE pc) (gr : Option Nat) (hgr4 : ∀ g, gr = some g → g < 4) (hgr : h.1 3 13 = grI gr) (st : sK) (hst : stOk st) (G : sG) (cv : Nat → Int64) (cb : Nat → Bool) (vs : Nat → Int64) (ns : Nat → Bool) : qT mi_Pl_makeGroups 4 0 0 [.ref 1] (nR (lR (gC (kC h st) G) cv cb) vs ns) NN (fun v1 h1 n1 => v1 = none ∧ (∃ G2 cv2 cb2, h1 = nR (lR (gC (kC h st) G2) cv2 cb2) vs ns ∧ gOk gr (rowK ti tn fi se st) st.2.2 G2) ∧ n1 = NN) := by
  cases gr with
  | none => exact ct_Pl_makeGroups_n ti tn rw kd fi se le ri nc CE pc hC hgr st hst G cv cb vs ns
  | some g => exact ct_Pl_makeGroups_s ti tn rw kd fi se le ri nc CE pc hC g (hgr4 g rfl) hgr st hst G cv cb vs ns
