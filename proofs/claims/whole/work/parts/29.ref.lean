theorem vR_I {h : qH} {vv : Nat → Int64} {vb : Nat → Bool} {rs a i : Nat} {v : Int32} (h1 : a ≠ 138) (h6 : a = 122 → i ≠ 28) : qpI (vR h vv vb rs) a i v = vR (qpI h a i v) vv vb rs := by
  unfold vR qpI
  dsimp only
  refine Prod.ext ?_ rfl
  funext b
  dsimp only
  by_cases hb : b = a
  · subst hb
    rw [qus]
    simp only [h1, if_false]
    by_cases h7 : b = 122
    · subst h7
      simp only [if_true, qus]
      funext j
      have h8 := h6 rfl
      by_cases hj : j = i
      · subst hj
        rw [qus, qun h8, qus]
      · rw [qun hj]
        by_cases hk : j = 28
        · subst hk
          rw [qus, qus]
        · rw [qun hk, qun hk, qun hj]
    · simp only [h7, if_false, qus]
  · rw [qun hb]
    by_cases h7 : b = 122
    · subst h7
      simp only [qun hb]
    · simp only [h7, if_false, qun hb]
/-- result rows: rs of them are RES, wd wide; of the next the first m cells are rw -/
def vRep (RES : Nat → Nat → Option Int64) (wd : Nat) (vv : Nat → Int64) (vb : Nat → Bool) (rs : Nat) : Prop := ∀ i, i < rs → ∀ c, c < wd → vv (4 * i + c) = (RES i c).getD 0 ∧ vb (4 * i + c) = (RES i c).isNone
def vPar (RES : Nat → Nat → Option Int64) (wd : Nat) (rw : Nat → Option Int64) (m : Nat) (vv : Nat → Int64) (vb : Nat → Bool) (rs : Nat) : Prop := vRep RES wd vv vb rs ∧ ∀ c, c < m → vv (4 * rs + c) = (rw c).getD 0 ∧ vb (4 * rs + c) = (rw c).isNone
theorem vPar_S {RES : Nat → Nat → Option Int64} {wd : Nat} {rw : Nat → Option Int64} {m : Nat} {vv : Nat → Int64} {vb : Nat → Bool} {rs : Nat} {x : Option Int64} (hw : wd ≤ 4) (h : vPar RES wd rw m vv vb rs) (hx : x = rw m) : vPar RES wd rw (m + 1) (va_up vv (4 * rs + m) (x.getD 0)) (va_up vb (4 * rs + m) x.isNone) rs := by
  subst hx
  refine ⟨fun i hi c hc => ?_, fun c hc => ?_⟩
  · rw [qun (by omega), qun (by omega)]
    exact h.1 i hi c hc
  · by_cases e : c = m
    · subst e
      rw [qus, qus]
      exact ⟨rfl, rfl⟩
    · rw [qun (by omega), qun (by omega)]
      exact h.2 c (by omega)
theorem vPar_end {RES : Nat → Nat → Option Int64} {wd : Nat} {rw : Nat → Option Int64} {vv : Nat → Int64} {vb : Nat → Bool} {rs : Nat} (h : vPar RES wd rw wd vv vb rs) : vRep (va_up RES rs rw) wd vv vb (rs + 1) := by
  intro i hi c hc
  by_cases e : i = rs
  · subst e
    rw [qus]
    exact h.2 c hc
  · rw [qun e]
    exact h.1 i (by omega) c hc
/-- an aggregate of the group of kept row k; a group's row -/
def aggV (gr : Option Nat) (OE : Nat → List xP) (ok : Nat → Nat) (kv : Nat → Int64) (kb : Nat → Bool) (kp k o : Nat) : Option Int64 := agR (ok o) (agL (ok o) (fun i => tog gr kv kb i k) (fun i => xVal (kCell kv kb i) (OE o)) kp)
def grS (gr : Option Nat) : Nat := match gr with
  | none => 0
  | some _ => 1
def gRow (gr : Option Nat) (OE : Nat → List xP) (ok : Nat → Nat) (kv : Nat → Int64) (kb : Nat → Bool) (kp k c : Nat) : Option Int64 := match gr with
  | none => aggV gr OE ok kv kb kp k c
  | some g => if c = 0 then kCell kv kb k g else aggV gr OE ok kv kb kp k (c - 1)
theorem gRow_o {gr : Option Nat} {OE : Nat → List xP} {ok : Nat → Nat} {kv : Nat → Int64} {kb : Nat → Bool} {kp k o : Nat} : aggV gr OE ok kv kb kp k o = gRow gr OE ok kv kb kp k (grS gr + o) := by
  cases gr with
  | none => show _ = aggV none OE ok kv kb kp k (0 + o); rw [Nat.zero_add]
  | some g => show _ = if 1 + o = 0 then _ else aggV (some g) OE ok kv kb kp k (1 + o - 1); rw [if_neg (by omega), Nat.add_sub_cancel_left]
set_option maxRecDepth 100000 in
set_option maxHeartbeats 4000000 in
theorem ct_QM_groupRow {h : qH} (hR : h.2.2 122 = qRQM) (vv : Nat → Int64) (vb : Nat → Bool) (rs : Nat) (hv : Nat → Int64) (hb : Nat → Bool) (kv : Nat → Int64) (kb : Nat → Bool) (kp : Nat) (wk : Nat → Int64) (wn : Nat → Int32) (gr : Option Nat) (hgr4 : ∀ g, gr = some g → g < 4) (hgr : h.1 122 9 = grI gr) (OE : Nat → List xP) (ok : Nat → Nat) (no : Nat) (hno3 : no ≤ 3) (hno : h.1 122 15 = nI no) (hoe : ∀ o, o < no → h.1 130 o = nI (ok o) ∧ ok o < 6 ∧ (ok o ≠ 1 → (OE o).length ≤ 24 ∧ h.1 128 (14 + o) = nI (OE o).length ∧ rExp (h.1 126) (h.2.1 127) (24 * (14 + o)) (OE o) ∧ xT 8 [] (OE o) = some [false])) (k : Nat) (hk : k < 144) (hrs : rs < 144) (hkp : kp ≤ 144) (RES : Nat → Nat → Option Int64) (hvr : vRep RES (grS gr + no) vv vb rs) : qT mi_QM_groupRow 4 0 0 [.ref 122, .int (nI k)] (eR (fR (vR h vv vb rs) hv hb kv kb kp) wk wn) NN (fun v1 h1 n1 => v1 = none ∧ (∃ vv1 vb1 hv1 hb1 wk1 wn1, h1 = eR (fR (vR h vv1 vb1 (rs + 1)) hv1 hb1 kv kb kp) wk1 wn1 ∧ vRep (va_up RES rs (gRow gr OE ok kv kb kp k)) (grS gr + no) vv1 vb1 (rs + 1)) ∧ n1 = NN) := by
  refine qT.of (lv0 := [_, _, _, _]) (by decide +kernel) (fun _ _ => Nat.le_of_ble_eq_true rfl) rfl ?_
  have hgs : grS gr ≤ 1 := by
    cases gr with
    | none => exact Nat.zero_le _
    | some g => exact Nat.le_refl _
  have key : ∀ (m q : Nat) (vv : Nat → Int64) (vb : Nat → Bool) (hv : Nat → Int64) (hb : Nat → Bool) (wk : Nat → Int64) (wn : Nat → Int32), q + m = no → vPar RES (grS gr + no) (gRow gr OE ok kv kb kp k) (grS gr + q) vv vb rs → qX mi_QM_groupRow 4 none 0 0 44 [.ref 122, .int (nI k), .int (nI (grS gr)), .int (nI q)] [] (eR (fR (vR h vv vb rs) hv hb kv kb kp) wk wn) NN 0 0 (fun v1 h1 n1 => v1 = none ∧ (∃ vv1 vb1 hv1 hb1 wk1 wn1, h1 = eR (fR (vR h vv1 vb1 (rs + 1)) hv1 hb1 kv kb kp) wk1 wn1 ∧ vRep (va_up RES rs (gRow gr OE ok kv kb kp k)) (grS gr + no) vv1 vb1 (rs + 1)) ∧ n1 = NN) := by
    intro m
    induction m with
    | zero =>
      intro q vv vb hv hb wk wn hq hvp
      have e : q = no := by omega
      subst e
      refine qx_iload_n d_QM_groupRow_44 rfl rfl ?_
      refine qx_aload_n d_QM_groupRow_45 rfl rfl ?_
      refine qx_getI d_QM_groupRow_46 fI_QM_144 rfl rfl hno ?_
      refine qx_icmp_geN (t := 67) d_QM_groupRow_49 rfl (by omega) (by omega) (fun c49 => ?_) (fun c49 => absurd c49 (by omega))
      refine qx_aload_n d_QM_groupRow_67 rfl rfl ?_
      refine qx_dup d_QM_groupRow_68 rfl ?_
      refine qx_getI d_QM_groupRow_69 fI_QM_207 rfl rfl (show _ = nI rs from rfl) ?_
      refine qx_iconstN (v := 1) d_QM_groupRow_72 rfl ?_
      refine qx_iaddN d_QM_groupRow_73 ?_
      refine qx_putI d_QM_groupRow_74 fI_QM_207 rfl rfl ⟨rfl, rfl⟩ ?_
      exact qx_ret d_QM_groupRow_77 rfl (by omega) (by omega) ⟨rfl, ⟨vv, vb, hv, hb, wk, wn, by rw [eR_I (by decide), fR_I (by decide) (by decide) (fun _ => by decide), vR_rs], vPar_end hvp⟩, rfl⟩
    | succ m ih =>
      intro q vv vb hv hb wk wn hq hvp
      refine qx_iload_n d_QM_groupRow_44 rfl rfl ?_
      refine qx_aload_n d_QM_groupRow_45 rfl rfl ?_
      refine qx_getI d_QM_groupRow_46 fI_QM_144 rfl rfl hno ?_
      refine qx_icmp_geN (t := 67) d_QM_groupRow_49 rfl (by omega) (by omega) (fun c49 => absurd c49 (by omega)) (fun c49 => ?_)
      refine qx_aload_n d_QM_groupRow_52 rfl rfl ?_
      refine qx_iload_n d_QM_groupRow_53 rfl rfl ?_
      refine qx_iload_n d_QM_groupRow_54 rfl rfl ?_
      refine qx_iload_n d_QM_groupRow_55 rfl rfl ?_
      refine qx_iload_n d_QM_groupRow_56 rfl rfl ?_
      refine qx_iaddN d_QM_groupRow_57 ?_
      refine qx_callV (As := [_, _, _]) (rest := _) d_QM_groupRow_58 lk_QM_226 y_QM_aggregate v_QM_aggregate rfl rfl rfl (by decide) rfl rfl rfl rfl (by decide) (by decide) (ct_QM_aggregate hR vv vb rs hv hb kv kb kp wk wn gr hgr4 hgr OE ok no hno3 hno hoe q k (grS gr + q) (by omega) hk (by omega) hrs hkp) ?_
      rintro _ _ _ ⟨rfl, ⟨hv1, hb1, wk1, wn1, rfl⟩, rfl⟩
      refine qx_iincN (w := 1) (lv1 := [_, _, _, _]) d_QM_groupRow_61 rfl rfl (by decide) rfl ?_
      refine qx_goto (t := 44) d_QM_groupRow_64 rfl ?_
      exact ih (q + 1) _ _ hv1 hb1 wk1 wn1 (by omega) (vPar_S (by omega) hvp gRow_o)
  have hv0 : vPar RES (grS gr + no) (gRow gr OE ok kv kb kp k) 0 vv vb rs := ⟨hvr, fun c hc => absurd hc (Nat.not_lt_zero _)⟩
  cases gr with
  | none =>
    refine qx_iconstN (v := 0) d_QM_groupRow_0 rfl ?_
    refine qx_istore_n (lv1 := [_, _, _, _]) d_QM_groupRow_1 rfl (by decide) rfl ?_
    refine qx_aload_n d_QM_groupRow_2 rfl rfl ?_
    refine qx_getI d_QM_groupRow_3 fI_QM_126 rfl rfl hgr ?_
    refine qx_if_lt (t := 42) d_QM_groupRow_6 rfl (fun c6 => ?_) (fun c6 => absurd c6 (by decide))
    refine qx_iconstN (v := 0) d_QM_groupRow_42 rfl ?_
    refine qx_istore_n (lv1 := [_, _, _, _]) d_QM_groupRow_43 rfl (by decide) rfl ?_
    exact key no 0 vv vb hv hb wk wn (by omega) hv0
  | some g =>
    have hg4 := hgr4 g rfl
    have hgr2 : h.1 122 9 = nI g := hgr
    refine qx_iconstN (v := 0) d_QM_groupRow_0 rfl ?_
    refine qx_istore_n (lv1 := [_, _, _, _]) d_QM_groupRow_1 rfl (by decide) rfl ?_
    refine qx_aload_n d_QM_groupRow_2 rfl rfl ?_
    refine qx_getI d_QM_groupRow_3 fI_QM_126 rfl rfl hgr2 ?_
    refine qx_if_ltN (t := 42) d_QM_groupRow_6 rfl (by omega) ?_
    refine qx_aload_n d_QM_groupRow_9 rfl rfl ?_
    refine qx_iconstN (v := 0) d_QM_groupRow_10 rfl ?_
    refine qx_aload_n d_QM_groupRow_11 rfl rfl ?_
    refine qx_getR d_QM_groupRow_12 fR_QM_48 rfl rfl (congrFun hR 26) ?_
    refine qx_iconstN (v := 4) d_QM_groupRow_15 rfl ?_
    refine qx_iload_n d_QM_groupRow_16 rfl rfl ?_
    refine qx_imulN d_QM_groupRow_17 ?_
    refine qx_aload_n d_QM_groupRow_18 rfl rfl ?_
    refine qx_getI d_QM_groupRow_19 fI_QM_126 rfl rfl hgr2 ?_
    refine qx_iaddN d_QM_groupRow_22 ?_
    refine qx_lald d_QM_groupRow_23 rfl rfl rfl rfl (by omega) (show _ = kv (4 * k + g) from rfl) ?_
    refine qx_aload_n d_QM_groupRow_24 rfl rfl ?_
    refine qx_getR d_QM_groupRow_25 fR_QM_51 rfl rfl (congrFun hR 27) ?_
    refine qx_iconstN (v := 4) d_QM_groupRow_28 rfl ?_
    refine qx_iload_n d_QM_groupRow_29 rfl rfl ?_
    refine qx_imulN d_QM_groupRow_30 ?_
    refine qx_aload_n d_QM_groupRow_31 rfl rfl ?_
    refine qx_getI d_QM_groupRow_32 fI_QM_126 rfl rfl hgr2 ?_
    refine qx_iaddN d_QM_groupRow_35 ?_
    refine qx_zald d_QM_groupRow_36 rfl rfl rfl rfl (by omega) (show _ = b2i (kb (4 * k + g)) from rfl) ?_
    refine qx_callV (As := [_, _, _]) (rest := _) d_QM_groupRow_37 lk_QM_223 y_QM_give v_QM_give rfl rfl rfl (by decide) rfl rfl rfl rfl (by decide) (by decide) (ct_QM_give hR vv vb rs hv hb kv kb kp wk wn 0 (by omega) hrs _ _) ?_
    rintro _ _ _ ⟨rfl, rfl, rfl⟩
    refine qx_iconstN (v := 1) d_QM_groupRow_40 rfl ?_
    refine qx_istore_n (lv1 := [_, _, _, _]) d_QM_groupRow_41 rfl (by decide) rfl ?_
    refine qx_iconstN (v := 0) d_QM_groupRow_42 rfl ?_
    refine qx_istore_n (lv1 := [_, _, _, _]) d_QM_groupRow_43 rfl (by decide) rfl ?_
    have q1 : (if kb (4 * k + g) = true then 0 else kv (4 * k + g)) = (kCell kv kb k g).getD 0 := by unfold kCell; cases kb (4 * k + g) <;> rfl
    have q2 : kb (4 * k + g) = (kCell kv kb k g).isNone := by unfold kCell; cases kb (4 * k + g) <;> rfl
    refine key no 0 _ _ hv hb wk wn (by omega) ?_
    rw [q1, q2]
    exact vPar_S (by omega) hv0 rfl
/-- the groups: how many, and the first kept row of each, among the first so many kept rows -/
def gIt (tg : Nat → Nat → Bool) : Nat → Nat × (Nat → Nat)
  | 0 => (0, fun _ => 0)
  | k + 1 => if fog tg k k = true then ((gIt tg k).1 + 1, va_up (gIt tg k).2 (gIt tg k).1 k) else gIt tg k
theorem gIt_le (tg : Nat → Nat → Bool) : ∀ k, (gIt tg k).1 ≤ k
  | 0 => Nat.le_refl _
  | k + 1 => by
    have := gIt_le tg k
    unfold gIt
    split
    · dsimp only; omega
    · omega
set_option maxRecDepth 100000 in
set_option maxHeartbeats 4000000 in
theorem ct_QM_makeResults_one {h : qH} (hR : h.2.2 122 = qRQM) (vv : Nat → Int64) (vb : Nat → Bool) (rs : Nat) (hv : Nat → Int64) (hb : Nat → Bool) (kv : Nat → Int64) (kb : Nat → Bool) (kp : Nat) (wk : Nat → Int64) (wn : Nat → Int32) (hgr : h.1 122 9 = grI none) (OE : Nat → List xP) (ok : Nat → Nat) (no : Nat) (hno3 : no ≤ 3) (hno : h.1 122 15 = nI no) (hoe : ∀ o, o < no → h.1 130 o = nI (ok o) ∧ ok o < 6 ∧ (ok o ≠ 1 → (OE o).length ≤ 24 ∧ h.1 128 (14 + o) = nI (OE o).length ∧ rExp (h.1 126) (h.2.1 127) (24 * (14 + o)) (OE o) ∧ xT 8 [] (OE o) = some [false])) (hkp : kp ≤ 144) (hform : rform (h.1 130) no (grI none) = 1) : qT mi_QM_makeResults 5 0 0 [.ref 122] (eR (fR (vR h vv vb rs) hv hb kv kb kp) wk wn) NN (fun v1 h1 n1 => v1 = none ∧ (∃ vv1 vb1 hv1 hb1 wk1 wn1, h1 = eR (fR (vR (qpI h 122 29 (nI (grS none + no))) vv1 vb1 1) hv1 hb1 kv kb kp) wk1 wn1 ∧ vRep (fun _ => gRow none OE ok kv kb kp 0) (grS none + no) vv1 vb1 1) ∧ n1 = NN) := by
  refine qT.of (lv0 := [_, _, _, _]) (by decide +kernel) (fun _ _ => Nat.le_of_ble_eq_true rfl) rfl ?_
  refine qx_aload_n d_QM_makeResults_0 rfl rfl ?_
  refine qx_iconstN (v := 0) d_QM_makeResults_1 rfl ?_
  refine qx_putI d_QM_makeResults_2 fI_QM_207 rfl rfl ⟨rfl, rfl⟩ ?_
  refine qx_eq (h1 := (eR (fR (vR h vv vb 0) hv hb kv kb kp) wk wn)) rfl rfl rfl (by rw [eR_I (by decide), fR_I (by decide) (by decide) (fun _ => by decide), vR_rs]) ?_
  refine qx_aload_n d_QM_makeResults_5 rfl rfl ?_
  refine qx_callV (As := []) (rest := _) d_QM_makeResults_6 lk_QM_229 y_QM_form v_QM_form rfl rfl rfl (by decide) rfl rfl rfl rfl (by decide) (by decide) (ct_QM_form (h := (eR (fR (vR h vv vb 0) hv hb kv kb kp) wk wn)) hR no hno3 hno (grI none) hgr) ?_
  rintro _ _ _ ⟨rfl, rfl, rfl⟩
  rw [show rform ((eR (fR (vR h vv vb 0) hv hb kv kb kp) wk wn).1 130) no (grI none) = _ from hform]
  refine qx_if_ne (t := 16) d_QM_makeResults_9 rfl (fun c9 => ?_) (fun c9 => absurd c9 (by decide))
  refine qx_iconstN (v := 0) d_QM_makeResults_16 rfl ?_
  refine qx_istore_n (lv1 := [_, _, _, _]) d_QM_makeResults_17 rfl (by decide) rfl ?_
  refine qx_aload_n d_QM_makeResults_18 rfl rfl ?_
  refine qx_aload_n d_QM_makeResults_19 rfl rfl ?_
  refine qx_getI d_QM_makeResults_20 fI_QM_144 rfl rfl hno ?_
  refine qx_aload_n d_QM_makeResults_23 rfl rfl ?_
  refine qx_getI d_QM_makeResults_24 fI_QM_126 rfl rfl hgr ?_
  refine qx_if_lt (t := 34) d_QM_makeResults_27 rfl (fun c27 => ?_) (fun c27 => absurd c27 (by decide))
  refine qx_iconstN (v := 0) d_QM_makeResults_34 rfl ?_
  refine qx_iaddN d_QM_makeResults_35 ?_
  refine qx_eq (st1 := [.int (nI (grS none + no)), .ref 122]) rfl rfl (by show _ = [Value.int (nI (no + 0)), Value.ref 122]; rw [Nat.add_comm]; rfl) rfl ?_
  refine qx_putI d_QM_makeResults_36 fI_QM_232 rfl rfl ⟨rfl, rfl⟩ ?_
  refine qx_eq (h1 := (eR (fR (vR (qpI h 122 29 (nI (grS none + no))) vv vb 0) hv hb kv kb kp) wk wn)) rfl rfl rfl (by rw [eR_I (by decide), fR_I (by decide) (by decide) (fun _ => by decide), vR_I (by decide) (fun _ => by decide)]) ?_
  refine qx_iload_n d_QM_makeResults_39 rfl rfl ?_
  refine qx_if_neN (t := 56) d_QM_makeResults_40 rfl (by omega) (fun c40 => absurd c40 (by decide)) (fun c40 => ?_)
  refine qx_aload_n d_QM_makeResults_43 rfl rfl ?_
  refine qx_getI d_QM_makeResults_44 fI_QM_126 rfl rfl hgr ?_
  refine qx_if_ge (t := 56) d_QM_makeResults_47 rfl (fun c47 => absurd c47 (by decide)) (fun c47 => ?_)
  refine qx_aload_n d_QM_makeResults_50 rfl rfl ?_
  refine qx_iconstN (v := 0) d_QM_makeResults_51 rfl ?_
  refine qx_callV (As := [_]) (rest := _) d_QM_makeResults_52 lk_QM_235 y_QM_groupRow v_QM_groupRow rfl rfl rfl (by decide) rfl rfl rfl rfl (by decide) (by decide) (ct_QM_groupRow (h := (qpI h 122 29 (nI (grS none + no)))) hR vv vb 0 hv hb kv kb kp wk wn none (fun g q => by cases q) hgr OE ok no hno3 hno hoe 0 (by omega) (by omega) hkp (fun _ => gRow none OE ok kv kb kp 0) (fun i hi => absurd hi (Nat.not_lt_zero _))) ?_
  rintro _ _ _ ⟨rfl, ⟨vv1, vb1, hv1, hb1, wk1, wn1, rfl, hq⟩, rfl⟩
  exact qx_ret d_QM_makeResults_55 rfl (by omega) (by omega) ⟨rfl, ⟨vv1, vb1, hv1, hb1, wk1, wn1, rfl, fun i hi c hc => by have := hq i hi c hc; rw [show i = 0 by omega, qus] at this; rw [show i = 0 by omega]; exact this⟩, rfl⟩
set_option maxRecDepth 100000 in
set_option maxHeartbeats 4000000 in
theorem ct_QM_makeResults_plain {h : qH} (hR : h.2.2 122 = qRQM) (vv : Nat → Int64) (vb : Nat → Bool) (rs : Nat) (hv : Nat → Int64) (hb : Nat → Bool) (kv : Nat → Int64) (kb : Nat → Bool) (kp : Nat) (wk : Nat → Int64) (wn : Nat → Int32) (hgr : h.1 122 9 = grI none) (OE : Nat → List xP) (ok : Nat → Nat) (no : Nat) (hno3 : no ≤ 3) (hno : h.1 122 15 = nI no) (hoe : ∀ o, o < no → h.1 130 o = nI (ok o) ∧ ok o < 6 ∧ (ok o ≠ 1 → (OE o).length ≤ 24 ∧ h.1 128 (14 + o) = nI (OE o).length ∧ rExp (h.1 126) (h.2.1 127) (24 * (14 + o)) (OE o) ∧ xT 8 [] (OE o) = some [false])) (hok0 : ∀ q, q < no → ok q ≠ 1) (hkp : kp ≤ 144) (hform : rform (h.1 130) no (grI none) = 0) : qT mi_QM_makeResults 5 0 0 [.ref 122] (eR (fR (vR h vv vb rs) hv hb kv kb kp) wk wn) NN (fun v1 h1 n1 => v1 = none ∧ (∃ vv1 vb1 hv1 hb1 wk1 wn1, h1 = eR (fR (vR (qpI h 122 29 (nI (grS none + no))) vv1 vb1 kp) hv1 hb1 kv kb kp) wk1 wn1 ∧ vRep (fun k q => xVal (kCell kv kb k) (OE q)) (grS none + no) vv1 vb1 kp) ∧ n1 = NN) := by
  refine qT.of (lv0 := [_, _, _, _]) (by decide +kernel) (fun _ _ => Nat.le_of_ble_eq_true rfl) rfl ?_
  have inner : ∀ (m q k : Nat) (vv : Nat → Int64) (vb : Nat → Bool) (wk : Nat → Int64) (wn : Nat → Int32) (hv : Nat → Int64) (hb : Nat → Bool), q + m = no → k < kp → (∀ c, c < 4 → kCell kv kb k c = if hb c = true then none else some (hv c)) → vPar (fun k q => xVal (kCell kv kb k) (OE q)) (grS none + no) ((fun k q => xVal (kCell kv kb k) (OE q)) k) q vv vb k →
      (∀ (vv : Nat → Int64) (vb : Nat → Bool) (wk : Nat → Int64) (wn : Nat → Int32) (hv : Nat → Int64) (hb : Nat → Bool), vRep (fun k q => xVal (kCell kv kb k) (OE q)) (grS none + no) vv vb (k + 1) → qX mi_QM_makeResults 5 none 0 0 58 [.ref 122, .int (b2i true), .int (nI (k + 1)), qdead] [] (eR (fR (vR (qpI h 122 29 (nI (grS none + no))) vv vb (k + 1)) hv hb kv kb kp) wk wn) NN 0 0 (fun v1 h1 n1 => v1 = none ∧ (∃ vv1 vb1 hv1 hb1 wk1 wn1, h1 = eR (fR (vR (qpI h 122 29 (nI (grS none + no))) vv1 vb1 kp) hv1 hb1 kv kb kp) wk1 wn1 ∧ vRep (fun k q => xVal (kCell kv kb k) (OE q)) (grS none + no) vv1 vb1 kp) ∧ n1 = NN)) →
      qX mi_QM_makeResults 5 none 0 0 77 [.ref 122, .int (b2i true), .int (nI k), .int (nI q)] [] (eR (fR (vR (qpI h 122 29 (nI (grS none + no))) vv vb k) hv hb kv kb kp) wk wn) NN 0 0 (fun v1 h1 n1 => v1 = none ∧ (∃ vv1 vb1 hv1 hb1 wk1 wn1, h1 = eR (fR (vR (qpI h 122 29 (nI (grS none + no))) vv1 vb1 kp) hv1 hb1 kv kb kp) wk1 wn1 ∧ vRep (fun k q => xVal (kCell kv kb k) (OE q)) (grS none + no) vv1 vb1 kp) ∧ n1 = NN) := by
    intro m
    induction m with
    | zero =>
      intro q k vv vb wk wn hv hb hq hk hrow hvp nxt
      have e : q = no := by omega
      subst e
      refine qx_iload_n d_QM_makeResults_77 rfl rfl ?_
      refine qx_aload_n d_QM_makeResults_78 rfl rfl ?_
      refine qx_getI d_QM_makeResults_79 fI_QM_144 rfl rfl hno ?_
      refine qx_icmp_geN (t := 116) d_QM_makeResults_82 rfl (by omega) (by omega) (fun c82 => ?_) (fun c82 => absurd c82 (by omega))
      refine qx_aload_n d_QM_makeResults_116 rfl rfl ?_
      refine qx_dup d_QM_makeResults_117 rfl ?_
      refine qx_getI d_QM_makeResults_118 fI_QM_207 rfl rfl (show _ = nI k from rfl) ?_
      refine qx_iconstN (v := 1) d_QM_makeResults_121 rfl ?_
      refine qx_iaddN d_QM_makeResults_122 ?_
      refine qx_putI d_QM_makeResults_123 fI_QM_207 rfl rfl ⟨rfl, rfl⟩ ?_
      refine qx_goto (t := 142) d_QM_makeResults_126 rfl ?_
      refine qx_iincN (w := 1) (lv1 := [_, _, _, _]) d_QM_makeResults_142 rfl rfl (by decide) rfl ?_
      refine qx_goto (t := 58) d_QM_makeResults_145 rfl ?_
      refine qx_less (lv1 := [_, _, _, qdead]) ⟨Or.inr rfl, Or.inr rfl, Or.inr rfl, Or.inl rfl, trivial⟩ ?_
      refine qx_eq rfl rfl rfl ?_ (nxt vv vb wk wn hv hb (fun i hi c hc => ?_))
      · rw [eR_I (by decide), fR_I (by decide) (by decide) (fun _ => by decide), vR_rs]
      · have hvp := vPar_end (by rw [show grS none + q = q from Nat.zero_add q] at hvp ⊢; exact hvp) i hi c hc
        by_cases e : i = k
        · rw [e, qus] at hvp; rw [e]; exact hvp
        · rw [qun e] at hvp; exact hvp
    | succ m ih =>
      intro q k vv vb wk wn hv hb hq hk hrow hvp nxt
      obtain ⟨-, hok6, hox⟩ := hoe q (by omega)
      have hox := hox (hok0 q (by omega))
      refine qx_iload_n d_QM_makeResults_77 rfl rfl ?_
      refine qx_aload_n d_QM_makeResults_78 rfl rfl ?_
      refine qx_getI d_QM_makeResults_79 fI_QM_144 rfl rfl hno ?_
      refine qx_icmp_geN (t := 116) d_QM_makeResults_82 rfl (by omega) (by omega) (fun c82 => absurd c82 (by omega)) (fun c82 => ?_)
      refine qx_aload_n d_QM_makeResults_85 rfl rfl ?_
      refine qx_bipushN (v := 14) d_QM_makeResults_86 rfl ?_
      refine qx_iload_n d_QM_makeResults_88 rfl rfl ?_
      refine qx_iaddN d_QM_makeResults_89 ?_
      refine qx_callV (As := [_]) (rest := _) d_QM_makeResults_90 lk_QM_181 y_QM_evaluate v_QM_evaluate rfl rfl rfl (by decide) rfl rfl rfl rfl (by decide) (by decide) (ct_QM_evaluate (h := fR (vR (qpI h 122 29 (nI (grS none + no))) vv vb k) hv hb kv kb kp) hR wk wn (14 + q) (by omega) (OE q) hox.1 hox.2.1 hox.2.2.1 8 (by omega) [false] hox.2.2.2 (kCell kv kb k) hb (fun c hc => ⟨rfl, hrow c hc⟩)) ?_
      rintro _ _ _ ⟨rfl, ⟨wk1, wn1, rfl, hw⟩, rfl⟩
      rw [(xE_one (row := kCell kv kb k) hox.2.2.2).1] at hw
      have hw0 : wk1 0 = (xVal (kCell kv kb k) (OE q)).getD 0 := hw.1
      have hw1 : wn1 0 = b2i (xVal (kCell kv kb k) (OE q)).isNone := hw.2.1
      refine qx_aload_n d_QM_makeResults_93 rfl rfl ?_
      refine qx_iload_n d_QM_makeResults_94 rfl rfl ?_
      refine qx_aload_n d_QM_makeResults_95 rfl rfl ?_
      refine qx_getR d_QM_makeResults_96 fR_QM_36 rfl rfl (congrFun hR 21) ?_
      refine qx_iconstN (v := 0) d_QM_makeResults_99 rfl ?_
      refine qx_lald d_QM_makeResults_100 rfl rfl rfl rfl (by omega) hw0 ?_
      refine qx_aload_n d_QM_makeResults_101 rfl rfl ?_
      refine qx_getR d_QM_makeResults_102 fR_QM_39 rfl rfl (congrFun hR 22) ?_
      refine qx_iconstN (v := 0) d_QM_makeResults_105 rfl ?_
      refine qx_zald d_QM_makeResults_106 rfl rfl rfl rfl (by omega) hw1 ?_
      refine qx_callV (As := [_, _, _]) (rest := _) d_QM_makeResults_107 lk_QM_223 y_QM_give v_QM_give rfl rfl rfl (by decide) rfl rfl rfl rfl (by decide) (by decide) (ct_QM_give (h := (qpI h 122 29 (nI (grS none + no)))) hR vv vb k hv hb kv kb kp wk1 wn1 q (by omega) (by omega) _ _) ?_
      rintro _ _ _ ⟨rfl, rfl, rfl⟩
      refine qx_iincN (w := 1) (lv1 := [_, _, _, _]) d_QM_makeResults_110 rfl rfl (by decide) rfl ?_
      refine qx_goto (t := 77) d_QM_makeResults_113 rfl ?_
      have q1 : (if (xVal (kCell kv kb k) (OE q)).isNone = true then 0 else (xVal (kCell kv kb k) (OE q)).getD 0) = (xVal (kCell kv kb k) (OE q)).getD 0 := by cases xVal (kCell kv kb k) (OE q) <;> rfl
      rw [q1]
      exact ih (q + 1) k _ _ wk1 wn1 hv hb (by omega) hk hrow (vPar_S (by show 0 + no ≤ 4; omega) hvp rfl) nxt
  have outer : ∀ (m k : Nat) (vv : Nat → Int64) (vb : Nat → Bool) (wk : Nat → Int64) (wn : Nat → Int32) (hv : Nat → Int64) (hb : Nat → Bool), k + m = kp → vRep (fun k q => xVal (kCell kv kb k) (OE q)) (grS none + no) vv vb k → qX mi_QM_makeResults 5 none 0 0 58 [.ref 122, .int (b2i true), .int (nI k), qdead] [] (eR (fR (vR (qpI h 122 29 (nI (grS none + no))) vv vb k) hv hb kv kb kp) wk wn) NN 0 0 (fun v1 h1 n1 => v1 = none ∧ (∃ vv1 vb1 hv1 hb1 wk1 wn1, h1 = eR (fR (vR (qpI h 122 29 (nI (grS none + no))) vv1 vb1 kp) hv1 hb1 kv kb kp) wk1 wn1 ∧ vRep (fun k q => xVal (kCell kv kb k) (OE q)) (grS none + no) vv1 vb1 kp) ∧ n1 = NN) := by
    intro m
    induction m with
    | zero =>
      intro k vv vb wk wn hv hb hk hvr
      have e : k = kp := by omega
      subst e
      refine qx_iload_n d_QM_makeResults_58 rfl rfl ?_
      refine qx_aload_n d_QM_makeResults_59 rfl rfl ?_
      refine qx_getI d_QM_makeResults_60 fI_QM_191 rfl rfl (show _ = nI k from rfl) ?_
      refine qx_icmp_geN (t := 148) d_QM_makeResults_63 rfl (by omega) (by omega) (fun c63 => ?_) (fun c63 => absurd c63 (by omega))
      exact qx_ret d_QM_makeResults_148 rfl (by omega) (by omega) ⟨rfl, ⟨vv, vb, hv, hb, wk, wn, rfl, hvr⟩, rfl⟩
    | succ m ih =>
      intro k vv vb wk wn hv hb hk hvr
      refine qx_iload_n d_QM_makeResults_58 rfl rfl ?_
      refine qx_aload_n d_QM_makeResults_59 rfl rfl ?_
      refine qx_getI d_QM_makeResults_60 fI_QM_191 rfl rfl (show _ = nI kp from rfl) ?_
      refine qx_icmp_geN (t := 148) d_QM_makeResults_63 rfl (by omega) (by omega) (fun c63 => absurd c63 (by omega)) (fun c63 => ?_)
      refine qx_iload_n d_QM_makeResults_66 rfl rfl ?_
      refine qx_if_eqB (t := 129) d_QM_makeResults_67 rfl (fun c67 => by cases c67) (fun c67 => ?_)
      refine qx_aload_n d_QM_makeResults_70 rfl rfl ?_
      refine qx_iload_n d_QM_makeResults_71 rfl rfl ?_
      refine qx_callV (As := [_]) (rest := _) d_QM_makeResults_72 lk_QM_214 y_QM_bringKept v_QM_bringKept rfl rfl rfl (by decide) rfl rfl rfl rfl (by decide) (by decide) (ct_QM_bringKept (h := vR (qpI h 122 29 (nI (grS none + no))) vv vb k) hR hv hb kv kb kp wk wn k (by omega)) ?_
      rintro _ _ _ ⟨rfl, rfl, rfl⟩
      refine qx_iconstN (v := 0) d_QM_makeResults_75 rfl ?_
      refine qx_istore_n (lv1 := [_, _, _, _]) d_QM_makeResults_76 rfl (by decide) rfl ?_
      exact inner no 0 k vv vb wk wn _ _ (by omega) (by omega) (fun c hc => by rw [br4_at hc, br4_at hc]; rfl) ⟨hvr, fun c hc => absurd hc (Nat.not_lt_zero _)⟩ (fun vv vb wk wn hv hb q => ih (k + 1) vv vb wk wn hv hb (by omega) q)
  refine qx_aload_n d_QM_makeResults_0 rfl rfl ?_
  refine qx_iconstN (v := 0) d_QM_makeResults_1 rfl ?_
  refine qx_putI d_QM_makeResults_2 fI_QM_207 rfl rfl ⟨rfl, rfl⟩ ?_
  refine qx_eq (h1 := (eR (fR (vR h vv vb 0) hv hb kv kb kp) wk wn)) rfl rfl rfl (by rw [eR_I (by decide), fR_I (by decide) (by decide) (fun _ => by decide), vR_rs]) ?_
  refine qx_aload_n d_QM_makeResults_5 rfl rfl ?_
  refine qx_callV (As := []) (rest := _) d_QM_makeResults_6 lk_QM_229 y_QM_form v_QM_form rfl rfl rfl (by decide) rfl rfl rfl rfl (by decide) (by decide) (ct_QM_form (h := (eR (fR (vR h vv vb 0) hv hb kv kb kp) wk wn)) hR no hno3 hno (grI none) hgr) ?_
  rintro _ _ _ ⟨rfl, rfl, rfl⟩
  rw [show rform ((eR (fR (vR h vv vb 0) hv hb kv kb kp) wk wn).1 130) no (grI none) = _ from hform]
  refine qx_if_ne (t := 16) d_QM_makeResults_9 rfl (fun c9 => absurd rfl c9) (fun c9 => ?_)
  refine qx_iconst (v := b2i true) d_QM_makeResults_12 rfl ?_
  refine qx_goto (t := 17) d_QM_makeResults_13 rfl ?_
  refine qx_istore_n (lv1 := [_, _, _, _]) d_QM_makeResults_17 rfl (by decide) rfl ?_
  refine qx_aload_n d_QM_makeResults_18 rfl rfl ?_
  refine qx_aload_n d_QM_makeResults_19 rfl rfl ?_
  refine qx_getI d_QM_makeResults_20 fI_QM_144 rfl rfl hno ?_
  refine qx_aload_n d_QM_makeResults_23 rfl rfl ?_
  refine qx_getI d_QM_makeResults_24 fI_QM_126 rfl rfl hgr ?_
  refine qx_if_lt (t := 34) d_QM_makeResults_27 rfl (fun c27 => ?_) (fun c27 => absurd c27 (by decide))
  refine qx_iconstN (v := 0) d_QM_makeResults_34 rfl ?_
  refine qx_iaddN d_QM_makeResults_35 ?_
  refine qx_eq (st1 := [.int (nI (grS none + no)), .ref 122]) rfl rfl (by show _ = [Value.int (nI (no + 0)), Value.ref 122]; rw [Nat.add_comm]; rfl) rfl ?_
  refine qx_putI d_QM_makeResults_36 fI_QM_232 rfl rfl ⟨rfl, rfl⟩ ?_
  refine qx_eq (h1 := (eR (fR (vR (qpI h 122 29 (nI (grS none + no))) vv vb 0) hv hb kv kb kp) wk wn)) rfl rfl rfl (by rw [eR_I (by decide), fR_I (by decide) (by decide) (fun _ => by decide), vR_I (by decide) (fun _ => by decide)]) ?_
  refine qx_iload_n d_QM_makeResults_39 rfl rfl ?_
  refine qx_if_neB (t := 56) d_QM_makeResults_40 rfl (fun c40 => ?_) (fun c40 => by cases c40)
  refine qx_iconstN (v := 0) d_QM_makeResults_56 rfl ?_
  refine qx_istore_n (lv1 := [_, _, _, _]) d_QM_makeResults_57 rfl (by decide) rfl ?_
  exact outer kp 0 vv vb wk wn hv hb (by omega) (fun i hi => absurd hi (Nat.not_lt_zero _))
set_option maxRecDepth 100000 in
set_option maxHeartbeats 4000000 in
theorem ct_QM_makeResults_groups {h : qH} (hR : h.2.2 122 = qRQM) (vv : Nat → Int64) (vb : Nat → Bool) (rs : Nat) (hv : Nat → Int64) (hb : Nat → Bool) (kv : Nat → Int64) (kb : Nat → Bool) (kp : Nat) (wk : Nat → Int64) (wn : Nat → Int32) (g : Nat) (hg4 : g < 4) (hgr : h.1 122 9 = nI g) (gr : Option Nat) (hgs : gr = some g) (OE : Nat → List xP) (ok : Nat → Nat) (no : Nat) (hno3 : no ≤ 3) (hno : h.1 122 15 = nI no) (hoe : ∀ o, o < no → h.1 130 o = nI (ok o) ∧ ok o < 6 ∧ (ok o ≠ 1 → (OE o).length ≤ 24 ∧ h.1 128 (14 + o) = nI (OE o).length ∧ rExp (h.1 126) (h.2.1 127) (24 * (14 + o)) (OE o) ∧ xT 8 [] (OE o) = some [false])) (hkp : kp ≤ 144) (hform : rform (h.1 130) no (grI gr) = 1) : qT mi_QM_makeResults 5 0 0 [.ref 122] (eR (fR (vR h vv vb rs) hv hb kv kb kp) wk wn) NN (fun v1 h1 n1 => v1 = none ∧ (∃ vv1 vb1 hv1 hb1 wk1 wn1, h1 = eR (fR (vR (qpI h 122 29 (nI (grS gr + no))) vv1 vb1 (gIt (tog gr kv kb) kp).1) hv1 hb1 kv kb kp) wk1 wn1 ∧ vRep (fun i => gRow gr OE ok kv kb kp ((gIt (tog gr kv kb) kp).2 i)) (grS gr + no) vv1 vb1 (gIt (tog gr kv kb) kp).1) ∧ n1 = NN) := by
  refine qT.of (lv0 := [_, _, _, _]) (by decide +kernel) (fun _ _ => Nat.le_of_ble_eq_true rfl) rfl ?_
  have hgr4 : ∀ g, gr = some g → g < 4 := fun g2 e => by rw [hgs] at e; cases e; exact hg4
  have hgr2 : h.1 122 9 = grI gr := by rw [hgs]; exact hgr
  have outer : ∀ (m k : Nat) (vv : Nat → Int64) (vb : Nat → Bool) (wk : Nat → Int64) (wn : Nat → Int32) (hv : Nat → Int64) (hb : Nat → Bool), k + m = kp → vRep (fun i => gRow gr OE ok kv kb kp ((gIt (tog gr kv kb) k).2 i)) (grS gr + no) vv vb (gIt (tog gr kv kb) k).1 → qX mi_QM_makeResults 5 none 0 0 58 [.ref 122, .int (b2i false), .int (nI k), qdead] [] (eR (fR (vR (qpI h 122 29 (nI (grS gr + no))) vv vb (gIt (tog gr kv kb) k).1) hv hb kv kb kp) wk wn) NN 0 0 (fun v1 h1 n1 => v1 = none ∧ (∃ vv1 vb1 hv1 hb1 wk1 wn1, h1 = eR (fR (vR (qpI h 122 29 (nI (grS gr + no))) vv1 vb1 (gIt (tog gr kv kb) kp).1) hv1 hb1 kv kb kp) wk1 wn1 ∧ vRep (fun i => gRow gr OE ok kv kb kp ((gIt (tog gr kv kb) kp).2 i)) (grS gr + no) vv1 vb1 (gIt (tog gr kv kb) kp).1) ∧ n1 = NN) := by
    intro m
    induction m with
    | zero =>
      intro k vv vb wk wn hv hb hk hvr
      have e : k = kp := by omega
      subst e
      refine qx_iload_n d_QM_makeResults_58 rfl rfl ?_
      refine qx_aload_n d_QM_makeResults_59 rfl rfl ?_
      refine qx_getI d_QM_makeResults_60 fI_QM_191 rfl rfl (show _ = nI k from rfl) ?_
      refine qx_icmp_geN (t := 148) d_QM_makeResults_63 rfl (by omega) (by omega) (fun c63 => ?_) (fun c63 => absurd c63 (by omega))
      exact qx_ret d_QM_makeResults_148 rfl (by omega) (by omega) ⟨rfl, ⟨vv, vb, hv, hb, wk, wn, rfl, hvr⟩, rfl⟩
    | succ m ih =>
      intro k vv vb wk wn hv hb hk hvr
      have hs : (gIt (tog gr kv kb) (k + 1)) = if fog (tog gr kv kb) k k = true then ((gIt (tog gr kv kb) k).1 + 1, va_up (gIt (tog gr kv kb) k).2 (gIt (tog gr kv kb) k).1 k) else (gIt (tog gr kv kb) k) := rfl
      have hl := gIt_le (tog gr kv kb) k
      have ih2 := fun vv vb wk wn hv hb => ih (k + 1) vv vb wk wn hv hb (by omega)
      rw [hs] at ih2
      refine qx_iload_n d_QM_makeResults_58 rfl rfl ?_
      refine qx_aload_n d_QM_makeResults_59 rfl rfl ?_
      refine qx_getI d_QM_makeResults_60 fI_QM_191 rfl rfl (show _ = nI kp from rfl) ?_
      refine qx_icmp_geN (t := 148) d_QM_makeResults_63 rfl (by omega) (by omega) (fun c63 => absurd c63 (by omega)) (fun c63 => ?_)
      refine qx_iload_n d_QM_makeResults_66 rfl rfl ?_
      refine qx_if_eqB (t := 129) d_QM_makeResults_67 rfl (fun c67 => ?_) (fun c67 => by cases c67)
      refine qx_aload_n d_QM_makeResults_129 rfl rfl ?_
      refine qx_iload_n d_QM_makeResults_130 rfl rfl ?_
      refine qx_callV (As := [_]) (rest := _) d_QM_makeResults_131 lk_QM_238 y_QM_firstOfGroup v_QM_firstOfGroup rfl rfl rfl (by decide) rfl rfl rfl rfl (by decide) (by decide) (ct_QM_firstOfGroup (h := vR (qpI h 122 29 (nI (grS gr + no))) vv vb (gIt (tog gr kv kb) k).1) hR hv hb kv kb kp wk wn gr hgr4 hgr2 k (by omega)) ?_
      rintro _ _ _ ⟨rfl, rfl, rfl⟩
      refine qx_if_eqB (t := 142) d_QM_makeResults_134 rfl (fun c134 => ?_) (fun c134 => ?_)
      · refine qx_iincN (w := 1) (lv1 := [_, _, _, _]) d_QM_makeResults_142 rfl rfl (by decide) rfl ?_
        refine qx_goto (t := 58) d_QM_makeResults_145 rfl ?_
        first
          | (have z := hq; rw [if_pos c134] at ih2; refine ih2 _ _ _ _ _ _ (fun i hi c hc => ?_); have := hq i hi c hc; exact (if e : i = (gIt (tog gr kv kb) k).1 then (by rw [e, qus] at this; rw [e]; show _ = (gRow gr OE ok kv kb kp (va_up (gIt (tog gr kv kb) k).2 (gIt (tog gr kv kb) k).1 k (gIt (tog gr kv kb) k).1) c).getD 0 ∧ _ = (gRow gr OE ok kv kb kp (va_up (gIt (tog gr kv kb) k).2 (gIt (tog gr kv kb) k).1 k (gIt (tog gr kv kb) k).1) c).isNone; rw [qus]; exact this) else (by rw [qun e] at this; show _ = (gRow gr OE ok kv kb kp (va_up (gIt (tog gr kv kb) k).2 (gIt (tog gr kv kb) k).1 k i) c).getD 0 ∧ _ = (gRow gr OE ok kv kb kp (va_up (gIt (tog gr kv kb) k).2 (gIt (tog gr kv kb) k).1 k i) c).isNone; rw [qun e]; exact this)))
          | (rw [if_neg (by rw [c134]; decide)] at ih2; exact ih2 _ _ _ _ _ _ hvr)
      · refine qx_aload_n d_QM_makeResults_137 rfl rfl ?_
        refine qx_iload_n d_QM_makeResults_138 rfl rfl ?_
        refine qx_callV (As := [_]) (rest := _) d_QM_makeResults_139 lk_QM_235 y_QM_groupRow v_QM_groupRow rfl rfl rfl (by decide) rfl rfl rfl rfl (by decide) (by decide) (ct_QM_groupRow (h := (qpI h 122 29 (nI (grS gr + no)))) hR vv vb (gIt (tog gr kv kb) k).1 hv hb kv kb kp wk wn gr hgr4 hgr2 OE ok no hno3 hno hoe k (by omega) (by omega) hkp (fun i => gRow gr OE ok kv kb kp ((gIt (tog gr kv kb) k).2 i)) hvr) ?_
        rintro _ _ _ ⟨rfl, ⟨vv1, vb1, hv1, hb1, wk1, wn1, rfl, hq⟩, rfl⟩
        refine qx_iincN (w := 1) (lv1 := [_, _, _, _]) d_QM_makeResults_142 rfl rfl (by decide) rfl ?_
        refine qx_goto (t := 58) d_QM_makeResults_145 rfl ?_
        first
          | (have z := hq; rw [if_pos c134] at ih2; refine ih2 _ _ _ _ _ _ (fun i hi c hc => ?_); have := hq i hi c hc; exact (if e : i = (gIt (tog gr kv kb) k).1 then (by rw [e, qus] at this; rw [e]; show _ = (gRow gr OE ok kv kb kp (va_up (gIt (tog gr kv kb) k).2 (gIt (tog gr kv kb) k).1 k (gIt (tog gr kv kb) k).1) c).getD 0 ∧ _ = (gRow gr OE ok kv kb kp (va_up (gIt (tog gr kv kb) k).2 (gIt (tog gr kv kb) k).1 k (gIt (tog gr kv kb) k).1) c).isNone; rw [qus]; exact this) else (by rw [qun e] at this; show _ = (gRow gr OE ok kv kb kp (va_up (gIt (tog gr kv kb) k).2 (gIt (tog gr kv kb) k).1 k i) c).getD 0 ∧ _ = (gRow gr OE ok kv kb kp (va_up (gIt (tog gr kv kb) k).2 (gIt (tog gr kv kb) k).1 k i) c).isNone; rw [qun e]; exact this)))
          | (rw [if_neg (by rw [c134]; decide)] at ih2; exact ih2 _ _ _ _ _ _ hvr)
  refine qx_aload_n d_QM_makeResults_0 rfl rfl ?_
  refine qx_iconstN (v := 0) d_QM_makeResults_1 rfl ?_
  refine qx_putI d_QM_makeResults_2 fI_QM_207 rfl rfl ⟨rfl, rfl⟩ ?_
  refine qx_eq (h1 := (eR (fR (vR h vv vb 0) hv hb kv kb kp) wk wn)) rfl rfl rfl (by rw [eR_I (by decide), fR_I (by decide) (by decide) (fun _ => by decide), vR_rs]) ?_
  refine qx_aload_n d_QM_makeResults_5 rfl rfl ?_
  refine qx_callV (As := []) (rest := _) d_QM_makeResults_6 lk_QM_229 y_QM_form v_QM_form rfl rfl rfl (by decide) rfl rfl rfl rfl (by decide) (by decide) (ct_QM_form (h := (eR (fR (vR h vv vb 0) hv hb kv kb kp) wk wn)) hR no hno3 hno (grI gr) hgr2) ?_
  rintro _ _ _ ⟨rfl, rfl, rfl⟩
  rw [show rform ((eR (fR (vR h vv vb 0) hv hb kv kb kp) wk wn).1 130) no (grI gr) = _ from hform]
  refine qx_if_ne (t := 16) d_QM_makeResults_9 rfl (fun c9 => ?_) (fun c9 => absurd c9 (by decide))
  refine qx_iconst (v := b2i false) d_QM_makeResults_16 rfl ?_
  refine qx_istore_n (lv1 := [_, _, _, _]) d_QM_makeResults_17 rfl (by decide) rfl ?_
  refine qx_aload_n d_QM_makeResults_18 rfl rfl ?_
  refine qx_aload_n d_QM_makeResults_19 rfl rfl ?_
  refine qx_getI d_QM_makeResults_20 fI_QM_144 rfl rfl hno ?_
  refine qx_aload_n d_QM_makeResults_23 rfl rfl ?_
  refine qx_getI d_QM_makeResults_24 fI_QM_126 rfl rfl hgr ?_
  refine qx_if_ltN (t := 34) d_QM_makeResults_27 rfl (by omega) ?_
  refine qx_iconstN (v := 1) d_QM_makeResults_30 rfl ?_
  refine qx_goto (t := 35) d_QM_makeResults_31 rfl ?_
  refine qx_iaddN d_QM_makeResults_35 ?_
  refine qx_eq (st1 := [.int (nI (grS gr + no)), .ref 122]) rfl rfl (by rw [hgs]; show [Value.int (nI (1 + no)), Value.ref 122] = [Value.int (nI (no + 1)), Value.ref 122]; rw [Nat.add_comm]) rfl ?_
  refine qx_putI d_QM_makeResults_36 fI_QM_232 rfl rfl ⟨rfl, rfl⟩ ?_
  refine qx_eq (h1 := (eR (fR (vR (qpI h 122 29 (nI (grS gr + no))) vv vb 0) hv hb kv kb kp) wk wn)) rfl rfl rfl (by rw [eR_I (by decide), fR_I (by decide) (by decide) (fun _ => by decide), vR_I (by decide) (fun _ => by decide)]) ?_
  refine qx_iload_n d_QM_makeResults_39 rfl rfl ?_
  refine qx_if_neB (t := 56) d_QM_makeResults_40 rfl (fun c40 => by cases c40) (fun c40 => ?_)
  refine qx_aload_n d_QM_makeResults_43 rfl rfl ?_
  refine qx_getI d_QM_makeResults_44 fI_QM_126 rfl rfl hgr ?_
  refine qx_if_geN (t := 56) d_QM_makeResults_47 rfl (by omega) ?_
  refine qx_iconstN (v := 0) d_QM_makeResults_56 rfl ?_
  refine qx_istore_n (lv1 := [_, _, _, _]) d_QM_makeResults_57 rfl (by decide) rfl ?_
  exact outer kp 0 vv vb wk wn hv hb (by omega) (fun i hi => absurd hi (Nat.not_lt_zero _))
