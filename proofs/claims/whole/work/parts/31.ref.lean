/-! which part a value belongs to -/
theorem pn_rem {v w : Int64} {k : Nat} (hw : w.toInt = k) (h1 : 1 ≤ k) (h4 : k ≤ 4) : (v - v / w * w).toInt = v.toInt.tmod k := by
  have b1 := Int64.le_toInt v
  have b2 := Int64.toInt_lt v
  rw [Int64.toInt_sub, Int64.toInt_mul, Int64.toInt_div, hw]
  generalize v.toInt = x at *
  have hk : k = 1 ∨ k = 2 ∨ k = 3 ∨ k = 4 := by omega
  by_cases hx : 0 ≤ x
  · rw [Int.tdiv_eq_ediv_of_nonneg hx, Int.tmod_eq_emod_of_nonneg hx]
    rcases hk with rfl | rfl | rfl | rfl <;> simp only [Int.bmod_def] <;> (repeat' split) <;> omega
  · obtain ⟨y, rfl⟩ : ∃ y, x = -y := ⟨-x, by omega⟩
    rw [Int.neg_tdiv, Int.neg_tmod, Int.tdiv_eq_ediv_of_nonneg (by omega), Int.tmod_eq_emod_of_nonneg (by omega)]
    rcases hk with rfl | rfl | rfl | rfl <;> simp only [Int.bmod_def] <;> (repeat' split) <;> omega
/-- the part of a value: 0 for NULL -/
def pOf (wk : Nat) (x : Option Int64) : Nat := match x with
  | none => 0
  | some v => (v.toInt % (wk : Int)).toNat
theorem pOf_lt {wk : Nat} (h : 1 ≤ wk) (x : Option Int64) : pOf wk x < wk := by
  cases x with
  | none => exact h
  | some v =>
    show (v.toInt % (wk : Int)).toNat < wk
    have h1 := Int.emod_nonneg v.toInt (show (wk : Int) ≠ 0 by omega)
    have h2 := Int.emod_lt_of_pos v.toInt (show (0 : Int) < wk by omega)
    omega
theorem pn_l2i {x : Int64} {m : Nat} (h : x.toInt = m) (hm : m < 4) : x.toInt32 = nI m := by
  have e : x = lN m := Int64.toInt_inj.mp (by rw [h, lN_toInt (by omega)])
  rw [e, lN_i]
theorem pn_part1 {v : Int64} {wk : Nat} (h1 : 1 ≤ wk) (h4 : wk ≤ 4) (hn : 0 ≤ v - v / lN wk * lN wk) : (v - v / lN wk * lN wk).toInt32 = nI (pOf wk (some v)) := by
  have hw : (lN wk).toInt = wk := lN_toInt (by omega)
  have hr := pn_rem (v := v) hw h1 h4
  have hn2 : (0 : Int) ≤ (v - v / lN wk * lN wk).toInt := Int64.le_iff_toInt_le.mp hn
  rw [hr] at hn2
  refine pn_l2i ?_ (Nat.lt_of_lt_of_le (pOf_lt h1 _) h4)
  show _ = (((v.toInt % (wk : Int)).toNat : Nat) : Int)
  rw [hr]
  have e := Int.tmod_eq_emod (a := v.toInt) (b := wk)
  have h5 := Int.emod_nonneg v.toInt (show (wk : Int) ≠ 0 by omega)
  have h6 := Int.emod_lt_of_pos v.toInt (show (0 : Int) < wk by omega)
  rw [Int.toNat_of_nonneg h5]
  rw [e] at hn2 ⊢
  split at hn2
  · next hc => rw [if_pos hc]; omega
  · next hc => exfalso; simp at hn2; omega
theorem pn_part2 {v : Int64} {wk : Nat} (h1 : 1 ≤ wk) (h4 : wk ≤ 4) (hn : v - v / lN wk * lN wk < 0) : (v - v / lN wk * lN wk + lN wk).toInt32 = nI (pOf wk (some v)) := by
  have hw : (lN wk).toInt = wk := lN_toInt (by omega)
  have hr := pn_rem (v := v) hw h1 h4
  have hn2 : (v - v / lN wk * lN wk).toInt < (0 : Int) := Int64.lt_iff_toInt_lt.mp hn
  rw [hr] at hn2
  refine pn_l2i ?_ (Nat.lt_of_lt_of_le (pOf_lt h1 _) h4)
  show _ = (((v.toInt % (wk : Int)).toNat : Nat) : Int)
  have e := Int.tmod_eq_emod (a := v.toInt) (b := wk)
  have h5 := Int.emod_nonneg v.toInt (show (wk : Int) ≠ 0 by omega)
  have h6 := Int.emod_lt_of_pos v.toInt (show (0 : Int) < wk by omega)
  rw [Int64.toInt_add, hr, hw, Int.toNat_of_nonneg h5]
  rw [e] at hn2 ⊢
  split at hn2
  · next hc => omega
  · next hc =>
    rw [if_neg hc]
    simp only [Int.bmod_def]
    split <;> simp at * <;> omega
set_option maxRecDepth 100000 in
set_option maxHeartbeats 4000000 in
theorem ct_QM_partOf {h : qH} (wc : Nat) (h1w : 1 ≤ wc) (hw4 : wc ≤ 4) (hwk : h.1 122 38 = nI wc) (v : Int64) (b : Bool) : qT mi_QM_partOf 0 0 0 [.ref 122, .long v, .int (b2i b)] h NN (fun v1 h1 n1 => v1 = some (.int (nI (pOf wc (if b = true then none else some v)))) ∧ h = h1 ∧ n1 = NN) := by
  refine qT.of (lv0 := [_, _, _, _, _, _]) (by decide +kernel) (fun _ _ => Nat.le_of_ble_eq_true rfl) rfl ?_
  refine qx_iload_n d_QM_partOf_0 rfl rfl ?_
  refine qx_if_eqB (t := 6) d_QM_partOf_1 rfl (fun c1 => ?_) (fun c1 => ?_)
  · refine qx_lload_n d_QM_partOf_6 rfl rfl ?_
    refine qx_aload_n d_QM_partOf_7 rfl rfl ?_
    refine qx_getI d_QM_partOf_8 fI_QM_248 rfl rfl hwk ?_
    refine qx_i2lN d_QM_partOf_11 (by omega) ?_
    refine qx_lrem d_QM_partOf_12 (fun e => absurd (congrArg Int64.toInt e) (by rw [lN_toInt (by omega)]; show ¬ ((wc : Int) = 0); omega)) ?_
    refine qx_lstore (lv1 := [_, _, _, _, _, _]) d_QM_partOf_13 (by decide) rfl ?_
    refine qx_lload d_QM_partOf_15 rfl ?_
    refine qx_lconst (v := 0) d_QM_partOf_17 rfl ?_
    refine qx_lcmp d_QM_partOf_18 ?_
    refine qx_if_geC (t := 33) d_QM_partOf_19 rfl (fun c19 => ?_) (fun c19 => ?_)
    · refine qx_lload d_QM_partOf_33 rfl ?_
      refine qx_l2i d_QM_partOf_35 ?_
      exact qx_iret d_QM_partOf_36 rfl rfl (by omega) (by omega) (by rw [c1]; first | exact ⟨rfl, rfl, rfl⟩ | exact ⟨by rw [pn_part1 h1w hw4 c19]; rfl, rfl, rfl⟩ | exact ⟨by rw [pn_part2 h1w hw4 c19]; rfl, rfl, rfl⟩)
    · refine qx_lload d_QM_partOf_22 rfl ?_
      refine qx_aload_n d_QM_partOf_24 rfl rfl ?_
      refine qx_getI d_QM_partOf_25 fI_QM_248 rfl rfl hwk ?_
      refine qx_i2lN d_QM_partOf_28 (by omega) ?_
      refine qx_ladd d_QM_partOf_29 ?_
      refine qx_goto (t := 35) d_QM_partOf_30 rfl ?_
      refine qx_l2i d_QM_partOf_35 ?_
      exact qx_iret d_QM_partOf_36 rfl rfl (by omega) (by omega) (by rw [c1]; first | exact ⟨rfl, rfl, rfl⟩ | exact ⟨by rw [pn_part1 h1w hw4 c19]; rfl, rfl, rfl⟩ | exact ⟨by rw [pn_part2 h1w hw4 c19]; rfl, rfl, rfl⟩)
  · refine qx_iconstN (v := 0) d_QM_partOf_4 rfl ?_
    exact qx_iret d_QM_partOf_5 rfl rfl (by omega) (by omega) (by rw [c1]; first | exact ⟨rfl, rfl, rfl⟩ | exact ⟨by rw [pn_part1 h1w hw4 c19]; rfl, rfl, rfl⟩ | exact ⟨by rw [pn_part2 h1w hw4 c19]; rfl, rfl, rfl⟩)
/-- how many of the first so many satisfy it -/
def cntB (f : Nat → Bool) : Nat → Nat
  | 0 => 0
  | k + 1 => if f k = true then cntB f k + 1 else cntB f k
theorem cntB_le (f : Nat → Bool) : ∀ k, cntB f k ≤ k
  | 0 => Nat.le_refl _
  | k + 1 => by
    have := cntB_le f k
    unfold cntB
    split <;> omega
set_option maxRecDepth 100000 in
set_option maxHeartbeats 4000000 in
theorem ct_QM_joinRows {h : qH} (hR : h.2.2 122 = qRQM) (hv : Nat → Int64) (hb : Nat → Bool) (kv : Nat → Int64) (kb : Nat → Bool) (kp : Nat) (wk : Nat → Int64) (wn : Nat → Int32) (wc : Nat) (h1w : 1 ≤ wc) (hw4 : wc ≤ 4) (hwk : h.1 122 38 = nI wc) (le : Nat) (hle2 : le < 2) (hle : h.1 122 7 = nI le) (p : Nat) (hp : p < 4) (hkp : kp ≤ 144) : qT mi_QM_joinRows 1 0 0 [.ref 122, .int (nI p)] (eR (fR h hv hb kv kb kp) wk wn) NN (fun v1 h1 n1 => v1 = some (.int (nI (cntB (fun k => decide (pOf wc (kCell kv kb k le) = p)) kp))) ∧ (eR (fR h hv hb kv kb kp) wk wn) = h1 ∧ n1 = NN) := by
  refine qT.of (lv0 := [_, _, _, _]) (by decide +kernel) (fun _ _ => Nat.le_of_ble_eq_true rfl) rfl ?_
  have key : ∀ (m k : Nat), k + m = kp → qX mi_QM_joinRows 1 none 0 0 4 [.ref 122, .int (nI p), .int (nI (cntB (fun k => decide (pOf wc (kCell kv kb k le) = p)) k)), .int (nI k)] [] (eR (fR h hv hb kv kb kp) wk wn) NN 0 0 (fun v1 h1 n1 => v1 = some (.int (nI (cntB (fun k => decide (pOf wc (kCell kv kb k le) = p)) kp))) ∧ (eR (fR h hv hb kv kb kp) wk wn) = h1 ∧ n1 = NN) := by
    intro m
    induction m with
    | zero =>
      intro k hk
      refine qx_iload_n d_QM_joinRows_4 rfl rfl ?_
      refine qx_aload_n d_QM_joinRows_5 rfl rfl ?_
      refine qx_getI d_QM_joinRows_6 fI_QM_191 rfl rfl (show _ = nI kp from rfl) ?_
      refine qx_icmp_geN (t := 55) d_QM_joinRows_9 rfl (by omega) (by omega) (fun c9 => ?_) (fun c9 => absurd c9 (by omega))
      refine qx_iload_n d_QM_joinRows_55 rfl rfl ?_
      exact qx_iret d_QM_joinRows_56 rfl rfl (by omega) (by omega) ⟨by rw [show k = kp by omega], rfl, rfl⟩
    | succ m ih =>
      intro k hk
      have hs : cntB (fun k => decide (pOf wc (kCell kv kb k le) = p)) (k + 1) = if (decide (pOf wc (kCell kv kb k le) = p)) = true then cntB (fun k => decide (pOf wc (kCell kv kb k le) = p)) k + 1 else cntB (fun k => decide (pOf wc (kCell kv kb k le) = p)) k := rfl
      have k2 := ih (k + 1) (by omega)
      rw [hs] at k2
      refine qx_iload_n d_QM_joinRows_4 rfl rfl ?_
      refine qx_aload_n d_QM_joinRows_5 rfl rfl ?_
      refine qx_getI d_QM_joinRows_6 fI_QM_191 rfl rfl (show _ = nI kp from rfl) ?_
      refine qx_icmp_geN (t := 55) d_QM_joinRows_9 rfl (by omega) (by omega) (fun c9 => absurd c9 (by omega)) (fun c9 => ?_)
      refine qx_aload_n d_QM_joinRows_12 rfl rfl ?_
      refine qx_aload_n d_QM_joinRows_13 rfl rfl ?_
      refine qx_getR d_QM_joinRows_14 fR_QM_48 rfl rfl (congrFun hR 26) ?_
      refine qx_iconstN (v := 4) d_QM_joinRows_17 rfl ?_
      refine qx_iload_n d_QM_joinRows_18 rfl rfl ?_
      refine qx_imulN d_QM_joinRows_19 ?_
      refine qx_aload_n d_QM_joinRows_20 rfl rfl ?_
      refine qx_getI d_QM_joinRows_21 fI_QM_120 rfl rfl hle ?_
      refine qx_iaddN d_QM_joinRows_24 ?_
      refine qx_lald d_QM_joinRows_25 rfl rfl rfl rfl (by omega) (show _ = kv (4 * k + le) from rfl) ?_
      refine qx_aload_n d_QM_joinRows_26 rfl rfl ?_
      refine qx_getR d_QM_joinRows_27 fR_QM_51 rfl rfl (congrFun hR 27) ?_
      refine qx_iconstN (v := 4) d_QM_joinRows_30 rfl ?_
      refine qx_iload_n d_QM_joinRows_31 rfl rfl ?_
      refine qx_imulN d_QM_joinRows_32 ?_
      refine qx_aload_n d_QM_joinRows_33 rfl rfl ?_
      refine qx_getI d_QM_joinRows_34 fI_QM_120 rfl rfl hle ?_
      refine qx_iaddN d_QM_joinRows_37 ?_
      refine qx_zald d_QM_joinRows_38 rfl rfl rfl rfl (by omega) (show _ = b2i (kb (4 * k + le)) from rfl) ?_
      refine qx_callV (As := [_, _]) (rest := _) d_QM_joinRows_39 lk_QM_254 y_QM_partOf v_QM_partOf rfl rfl rfl (by decide) rfl rfl rfl rfl (by decide) (by decide) (ct_QM_partOf (h := (eR (fR h hv hb kv kb kp) wk wn)) wc h1w hw4 hwk _ _) ?_
      rintro _ _ _ ⟨rfl, rfl, rfl⟩
      rw [show (if kb (4 * k + le) = true then none else some (kv (4 * k + le))) = kCell kv kb k le from rfl]
      refine qx_iload_n d_QM_joinRows_42 rfl rfl ?_
      refine qx_icmp_neN (t := 49) d_QM_joinRows_43 rfl (by have := pOf_lt h1w (kCell kv kb k le); omega) (by omega) (fun c43 => ?_) (fun c43 => ?_)
      · refine qx_iincN (w := 1) (lv1 := [_, _, _, _]) d_QM_joinRows_49 rfl rfl (by decide) rfl ?_
        refine qx_goto (t := 4) d_QM_joinRows_52 rfl ?_
        first
          | (have z : _ = _ := c43; rw [if_pos (decide_eq_true z)] at k2; exact k2)
          | (rw [if_neg (fun e => c43 (of_decide_eq_true e))] at k2; exact k2)
      · refine qx_iincN (w := 1) (lv1 := [_, _, _, _]) d_QM_joinRows_46 rfl rfl (by decide) rfl ?_
        refine qx_iincN (w := 1) (lv1 := [_, _, _, _]) d_QM_joinRows_49 rfl rfl (by decide) rfl ?_
        refine qx_goto (t := 4) d_QM_joinRows_52 rfl ?_
        first
          | (have z : _ = _ := c43; rw [if_pos (decide_eq_true z)] at k2; exact k2)
          | (rw [if_neg (fun e => c43 (of_decide_eq_true e))] at k2; exact k2)
  refine qx_iconstN (v := 0) d_QM_joinRows_0 rfl ?_
  refine qx_istore_n (lv1 := [_, _, _, _]) d_QM_joinRows_1 rfl (by decide) rfl ?_
  refine qx_iconstN (v := 0) d_QM_joinRows_2 rfl ?_
  refine qx_istore_n (lv1 := [_, _, _, _]) d_QM_joinRows_3 rfl (by decide) rfl ?_
  exact key kp 0 (by omega)
set_option maxRecDepth 100000 in
set_option maxHeartbeats 4000000 in
theorem ct_QM_groupRows_n {h : qH} (hgr : h.1 122 9 = -1) (p : Nat) (hp : p < 4) : qT mi_QM_groupRows 1 0 0 [.ref 122, .int (nI p)] h NN (fun v1 h1 n1 => v1 = some (.int (nI (if p = 0 then 1 else 0))) ∧ h = h1 ∧ n1 = NN) := by
  refine qT.of (lv0 := [_, _, _, _]) (by decide +kernel) (fun _ _ => Nat.le_of_ble_eq_true rfl) rfl ?_
  refine qx_aload_n d_QM_groupRows_0 rfl rfl ?_
  refine qx_getI d_QM_groupRows_1 fI_QM_126 rfl rfl hgr ?_
  refine qx_if_ge (t := 17) d_QM_groupRows_4 rfl (fun c4 => absurd c4 (by decide)) (fun c4 => ?_)
  refine qx_iload_n d_QM_groupRows_7 rfl rfl ?_
  refine qx_if_neN (t := 15) d_QM_groupRows_8 rfl (by omega) (fun c8 => ?_) (fun c8 => ?_)
  · refine qx_iconstN (v := 0) d_QM_groupRows_15 rfl ?_
    exact qx_iret d_QM_groupRows_16 rfl rfl (by omega) (by omega) ⟨by first | rw [if_pos c8] | rw [if_neg (by omega)], rfl, rfl⟩
  · refine qx_iconstN (v := 1) d_QM_groupRows_11 rfl ?_
    refine qx_goto (t := 16) d_QM_groupRows_12 rfl ?_
    exact qx_iret d_QM_groupRows_16 rfl rfl (by omega) (by omega) ⟨by first | rw [if_pos c8] | rw [if_neg (by omega)], rfl, rfl⟩
set_option maxRecDepth 100000 in
set_option maxHeartbeats 4000000 in
theorem ct_QM_groupRows_s {h : qH} (hR : h.2.2 122 = qRQM) (g : Nat) (hg4 : g < 4) (hgr : h.1 122 9 = nI g) (wc : Nat) (h1w : 1 ≤ wc) (hw4 : wc ≤ 4) (hwk : h.1 122 38 = nI wc) (p : Nat) (hp : p < 4) (rs : Nat) (hrs : rs ≤ 144) (hrsf : h.1 122 28 = nI rs) (RES : Nat → Option Int64) (hres : ∀ i, i < rs → h.2.1 137 (4 * i) = (RES i).getD 0 ∧ h.1 138 (4 * i) = b2i (RES i).isNone) : qT mi_QM_groupRows 1 0 0 [.ref 122, .int (nI p)] h NN (fun v1 h1 n1 => v1 = some (.int (nI (cntB (fun k => decide (pOf wc (RES k) = p)) rs))) ∧ h = h1 ∧ n1 = NN) := by
  refine qT.of (lv0 := [_, _, _, _]) (by decide +kernel) (fun _ _ => Nat.le_of_ble_eq_true rfl) rfl ?_
  have key : ∀ (m k : Nat), k + m = rs → qX mi_QM_groupRows 1 none 0 0 21 [.ref 122, .int (nI p), .int (nI (cntB (fun k => decide (pOf wc (RES k) = p)) k)), .int (nI k)] [] h NN 0 0 (fun v1 h1 n1 => v1 = some (.int (nI (cntB (fun k => decide (pOf wc (RES k) = p)) rs))) ∧ h = h1 ∧ n1 = NN) := by
    intro m
    induction m with
    | zero =>
      intro k hk
      refine qx_iload_n d_QM_groupRows_21 rfl rfl ?_
      refine qx_aload_n d_QM_groupRows_22 rfl rfl ?_
      refine qx_getI d_QM_groupRows_23 fI_QM_207 rfl rfl hrsf ?_
      refine qx_icmp_geN (t := 62) d_QM_groupRows_26 rfl (by omega) (by omega) (fun c26 => ?_) (fun c26 => absurd c26 (by omega))
      refine qx_iload_n d_QM_groupRows_62 rfl rfl ?_
      exact qx_iret d_QM_groupRows_63 rfl rfl (by omega) (by omega) ⟨by rw [show k = rs by omega], rfl, rfl⟩
    | succ m ih =>
      intro k hk
      have hs : cntB (fun k => decide (pOf wc (RES k) = p)) (k + 1) = if (decide (pOf wc (RES k) = p)) = true then cntB (fun k => decide (pOf wc (RES k) = p)) k + 1 else cntB (fun k => decide (pOf wc (RES k) = p)) k := rfl
      have k2 := ih (k + 1) (by omega)
      rw [hs] at k2
      refine qx_iload_n d_QM_groupRows_21 rfl rfl ?_
      refine qx_aload_n d_QM_groupRows_22 rfl rfl ?_
      refine qx_getI d_QM_groupRows_23 fI_QM_207 rfl rfl hrsf ?_
      refine qx_icmp_geN (t := 62) d_QM_groupRows_26 rfl (by omega) (by omega) (fun c26 => absurd c26 (by omega)) (fun c26 => ?_)
      refine qx_aload_n d_QM_groupRows_29 rfl rfl ?_
      refine qx_aload_n d_QM_groupRows_30 rfl rfl ?_
      refine qx_getR d_QM_groupRows_31 fR_QM_54 rfl rfl (congrFun hR 30) ?_
      refine qx_iconstN (v := 4) d_QM_groupRows_34 rfl ?_
      refine qx_iload_n d_QM_groupRows_35 rfl rfl ?_
      refine qx_imulN d_QM_groupRows_36 ?_
      refine qx_lald d_QM_groupRows_37 rfl rfl rfl rfl (by omega) (hres k (by omega)).1 ?_
      refine qx_aload_n d_QM_groupRows_38 rfl rfl ?_
      refine qx_getR d_QM_groupRows_39 fR_QM_57 rfl rfl (congrFun hR 31) ?_
      refine qx_iconstN (v := 4) d_QM_groupRows_42 rfl ?_
      refine qx_iload_n d_QM_groupRows_43 rfl rfl ?_
      refine qx_imulN d_QM_groupRows_44 ?_
      refine qx_zald d_QM_groupRows_45 rfl rfl rfl rfl (by omega) (hres k (by omega)).2 ?_
      refine qx_callV (As := [_, _]) (rest := _) d_QM_groupRows_46 lk_QM_254 y_QM_partOf v_QM_partOf rfl rfl rfl (by decide) rfl rfl rfl rfl (by decide) (by decide) (ct_QM_partOf wc h1w hw4 hwk _ _) ?_
      rintro _ _ _ ⟨rfl, rfl, rfl⟩
      rw [show (if (RES k).isNone = true then none else some ((RES k).getD 0)) = RES k by cases RES k <;> rfl]
      refine qx_iload_n d_QM_groupRows_49 rfl rfl ?_
      refine qx_icmp_neN (t := 56) d_QM_groupRows_50 rfl (by have := pOf_lt h1w (RES k); omega) (by omega) (fun c50 => ?_) (fun c50 => ?_)
      · refine qx_iincN (w := 1) (lv1 := [_, _, _, _]) d_QM_groupRows_56 rfl rfl (by decide) rfl ?_
        refine qx_goto (t := 21) d_QM_groupRows_59 rfl ?_
        first
          | (have z : _ = _ := c50; rw [if_pos (decide_eq_true z)] at k2; exact k2)
          | (rw [if_neg (fun e => c50 (of_decide_eq_true e))] at k2; exact k2)
      · refine qx_iincN (w := 1) (lv1 := [_, _, _, _]) d_QM_groupRows_53 rfl rfl (by decide) rfl ?_
        refine qx_iincN (w := 1) (lv1 := [_, _, _, _]) d_QM_groupRows_56 rfl rfl (by decide) rfl ?_
        refine qx_goto (t := 21) d_QM_groupRows_59 rfl ?_
        first
          | (have z : _ = _ := c50; rw [if_pos (decide_eq_true z)] at k2; exact k2)
          | (rw [if_neg (fun e => c50 (of_decide_eq_true e))] at k2; exact k2)
  refine qx_aload_n d_QM_groupRows_0 rfl rfl ?_
  refine qx_getI d_QM_groupRows_1 fI_QM_126 rfl rfl hgr ?_
  refine qx_if_geN (t := 17) d_QM_groupRows_4 rfl (by omega) ?_
  refine qx_iconstN (v := 0) d_QM_groupRows_17 rfl ?_
  refine qx_istore_n (lv1 := [_, _, _, _]) d_QM_groupRows_18 rfl (by decide) rfl ?_
  refine qx_iconstN (v := 0) d_QM_groupRows_19 rfl ?_
  refine qx_istore_n (lv1 := [_, _, _, _]) d_QM_groupRows_20 rfl (by decide) rfl ?_
  exact key rs 0 (by omega)
