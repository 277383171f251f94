/-! order, pure -/
def cmpO (x y : Option Int64) : Int32 := match x, y with
  | none, none => 0
  | none, some _ => -1
  | some _, none => 1
  | some v, some w => if v < w then -1 else if w < v then 1 else 0
theorem cmpO_raw (x y : Option Int64) : cmpO x y = if x.isNone = true ∨ y.isNone = true then (if x.isNone = y.isNone then 0 else if x.isNone = true then -1 else 1) else (if x.getD 0 < y.getD 0 then -1 else if y.getD 0 < x.getD 0 then 1 else 0) := by
  cases x <;> cases y <;> simp [cmpO]
/-- the first difference among the first so many columns -/
def cmpR (x y : Nat → Option Int64) : Nat → Int32
  | 0 => 0
  | c + 1 => if cmpR x y c = 0 then cmpO (x c) (y c) else cmpR x y c
theorem cmpR_mono {x y : Nat → Option Int64} {a : Nat} (h : ¬ cmpR x y a = 0) : ∀ m, cmpR x y (a + m) = cmpR x y a
  | 0 => rfl
  | m + 1 => by
    show (if cmpR x y (a + m) = 0 then _ else cmpR x y (a + m)) = _
    rw [cmpR_mono h m, if_neg h]
def oBy (ob wd : Nat) : Nat := if ob < wd then ob else 0
/-- does row x come ahead of row y? -/
def bef (ob wd : Nat) (dn : Bool) (x y : Nat → Option Int64) : Bool :=
  if cmpO (x (oBy ob wd)) (y (oBy ob wd)) = 0 then decide (cmpR x y wd < 0) else (if dn = true then decide (0 < cmpO (x (oBy ob wd)) (y (oBy ob wd))) else decide (cmpO (x (oBy ob wd)) (y (oBy ob wd)) < 0))
/-- row r goes into its place among the rows in places below k -/
def insL (lt : Nat → Nat → Bool) (r : Nat) : Nat → (Nat → Nat) → (Nat → Nat)
  | 0, p => va_up p 0 r
  | k + 1, p => if lt r (p k) = true then insL lt r k (va_up p (k + 1) (p k)) else va_up p (k + 1) r
def srt (lt : Nat → Nat → Bool) (p0 : Nat → Nat) : Nat → (Nat → Nat)
  | 0 => p0
  | i + 1 => insL lt i i (srt lt p0 i)
theorem insL_lt (lt : Nat → Nat → Bool) (r B i : Nat) (hr : r < B) : ∀ (k : Nat) (p : Nat → Nat), k ≤ i → (∀ j, j < i + 1 → j ≠ k → p j < B) → ∀ j, j < i + 1 → insL lt r k p j < B
  | 0, p, _, hp, j, hj => by
    unfold insL
    by_cases e : j = 0
    · subst e; rw [qus]; exact hr
    · rw [qun e]; exact hp j hj e
  | k + 1, p, hk, hp, j, hj => by
    unfold insL
    split
    · refine insL_lt lt r B i hr k (va_up p (k + 1) (p k)) (by omega) (fun j hj e => ?_) j hj
      by_cases e2 : j = k + 1
      · subst e2; rw [qus]; exact hp k (by omega) (by omega)
      · rw [qun e2]; exact hp j hj e2
    · by_cases e : j = k + 1
      · subst e; rw [qus]; exact hr
      · rw [qun e]; exact hp j hj e
theorem srt_lt (lt : Nat → Nat → Bool) (p0 : Nat → Nat) : ∀ i j, j < i → srt lt p0 i j < i
  | 0, j, h => absurd h (Nat.not_lt_zero _)
  | i + 1, j, h => by
    unfold srt
    exact insL_lt lt i (i + 1) i (by omega) i (srt lt p0 i) (Nat.le_refl _) (fun j hj e => by have := srt_lt lt p0 i j (by omega); omega) j h
set_option maxRecDepth 100000 in
set_option maxHeartbeats 4000000 in
theorem ct_QM_compare {h : qH} (hR : h.2.2 122 = qRQM) (a b c : Nat) (ha : a < 144) (hb : b < 144) (hc : c < 4) (x y : Option Int64) (hx : h.2.1 137 (4 * a + c) = (x).getD 0 ∧ h.1 138 (4 * a + c) = b2i (x).isNone) (hy : h.2.1 137 (4 * b + c) = (y).getD 0 ∧ h.1 138 (4 * b + c) = b2i (y).isNone) : qT mi_QM_compare 0 0 0 [.ref 122, .int (nI a), .int (nI b), .int (nI c)] h NN (fun v1 h1 n1 => v1 = some (.int (cmpO x y)) ∧ h = h1 ∧ n1 = NN) := by
  refine qT.of (lv0 := [_, _, _, _, _, _]) (by decide +kernel) (fun _ _ => Nat.le_of_ble_eq_true rfl) rfl ?_
  refine qx_iconstN (v := 4) d_QM_compare_0 rfl ?_
  refine qx_iload_n d_QM_compare_1 rfl rfl ?_
  refine qx_imulN d_QM_compare_2 ?_
  refine qx_iload_n d_QM_compare_3 rfl rfl ?_
  refine qx_iaddN d_QM_compare_4 ?_
  refine qx_istore (lv1 := [_, _, _, _, _, _]) d_QM_compare_5 (by decide) rfl ?_
  refine qx_iconstN (v := 4) d_QM_compare_7 rfl ?_
  refine qx_iload_n d_QM_compare_8 rfl rfl ?_
  refine qx_imulN d_QM_compare_9 ?_
  refine qx_iload_n d_QM_compare_10 rfl rfl ?_
  refine qx_iaddN d_QM_compare_11 ?_
  refine qx_istore (lv1 := [_, _, _, _, _, _]) d_QM_compare_12 (by decide) rfl ?_
  refine qx_aload_n d_QM_compare_14 rfl rfl ?_
  refine qx_getR d_QM_compare_15 fR_QM_57 rfl rfl (congrFun hR 31) ?_
  refine qx_iload d_QM_compare_18 rfl ?_
  refine qx_zald d_QM_compare_20 rfl rfl rfl rfl (by omega) hx.2 ?_
  refine qx_if_neB (t := 34) d_QM_compare_21 rfl (fun c21 => ?_) (fun c21 => ?_)
  · refine qx_aload_n d_QM_compare_34 rfl rfl ?_
    refine qx_getR d_QM_compare_35 fR_QM_57 rfl rfl (congrFun hR 31) ?_
    refine qx_iload d_QM_compare_38 rfl ?_
    refine qx_zald d_QM_compare_40 rfl rfl rfl rfl (by omega) hx.2 ?_
    refine qx_aload_n d_QM_compare_41 rfl rfl ?_
    refine qx_getR d_QM_compare_42 fR_QM_57 rfl rfl (congrFun hR 31) ?_
    refine qx_iload d_QM_compare_45 rfl ?_
    refine qx_zald d_QM_compare_47 rfl rfl rfl rfl (by omega) hy.2 ?_
    refine qx_icmp_neE (t := 55) d_QM_compare_48 rfl (fun c48 => ?_) (fun c48 => ?_)
    · refine qx_aload_n d_QM_compare_55 rfl rfl ?_
      refine qx_getR d_QM_compare_56 fR_QM_57 rfl rfl (congrFun hR 31) ?_
      refine qx_iload d_QM_compare_59 rfl ?_
      refine qx_zald d_QM_compare_61 rfl rfl rfl rfl (by omega) hx.2 ?_
      refine qx_if_eqB (t := 69) d_QM_compare_62 rfl (fun c62 => ?_) (fun c62 => ?_)
      · refine qx_iconst (v := 1) d_QM_compare_69 rfl ?_
        exact qx_iret d_QM_compare_70 rfl rfl (by omega) (by omega) (by rw [cmpO_raw]; refine ⟨?_, rfl, rfl⟩; first | (rw [if_pos (Or.inl c21), if_pos c48]; done) | (rw [if_pos (Or.inr c31), if_pos c48]; done) | (rw [if_pos (Or.inl c21), if_neg c48, if_pos c62]; done) | (rw [if_pos (Or.inr c31), if_neg c48, if_pos c62]; done) | (rw [if_pos (Or.inl c21), if_neg c48, if_neg (by rw [c62]; decide)]; done) | (rw [if_pos (Or.inr c31), if_neg c48, if_neg (by rw [c62]; decide)]; done) | (rw [if_neg (by rw [c21, c31]; decide), if_pos c86]; done) | (rw [if_neg (by rw [c21, c31]; decide), if_neg (Int64.not_lt.mpr c86), if_pos c108]; done) | (rw [if_neg (by rw [c21, c31]; decide), if_neg (Int64.not_lt.mpr c86), if_neg (Int64.not_lt.mpr c108)]; done))
      · refine qx_iconst (v := (-1)) d_QM_compare_65 rfl ?_
        refine qx_goto (t := 70) d_QM_compare_66 rfl ?_
        exact qx_iret d_QM_compare_70 rfl rfl (by omega) (by omega) (by rw [cmpO_raw]; refine ⟨?_, rfl, rfl⟩; first | (rw [if_pos (Or.inl c21), if_pos c48]; done) | (rw [if_pos (Or.inr c31), if_pos c48]; done) | (rw [if_pos (Or.inl c21), if_neg c48, if_pos c62]; done) | (rw [if_pos (Or.inr c31), if_neg c48, if_pos c62]; done) | (rw [if_pos (Or.inl c21), if_neg c48, if_neg (by rw [c62]; decide)]; done) | (rw [if_pos (Or.inr c31), if_neg c48, if_neg (by rw [c62]; decide)]; done) | (rw [if_neg (by rw [c21, c31]; decide), if_pos c86]; done) | (rw [if_neg (by rw [c21, c31]; decide), if_neg (Int64.not_lt.mpr c86), if_pos c108]; done) | (rw [if_neg (by rw [c21, c31]; decide), if_neg (Int64.not_lt.mpr c86), if_neg (Int64.not_lt.mpr c108)]; done))
    · refine qx_iconst (v := 0) d_QM_compare_51 rfl ?_
      refine qx_goto (t := 70) d_QM_compare_52 rfl ?_
      exact qx_iret d_QM_compare_70 rfl rfl (by omega) (by omega) (by rw [cmpO_raw]; refine ⟨?_, rfl, rfl⟩; first | (rw [if_pos (Or.inl c21), if_pos c48]; done) | (rw [if_pos (Or.inr c31), if_pos c48]; done) | (rw [if_pos (Or.inl c21), if_neg c48, if_pos c62]; done) | (rw [if_pos (Or.inr c31), if_neg c48, if_pos c62]; done) | (rw [if_pos (Or.inl c21), if_neg c48, if_neg (by rw [c62]; decide)]; done) | (rw [if_pos (Or.inr c31), if_neg c48, if_neg (by rw [c62]; decide)]; done) | (rw [if_neg (by rw [c21, c31]; decide), if_pos c86]; done) | (rw [if_neg (by rw [c21, c31]; decide), if_neg (Int64.not_lt.mpr c86), if_pos c108]; done) | (rw [if_neg (by rw [c21, c31]; decide), if_neg (Int64.not_lt.mpr c86), if_neg (Int64.not_lt.mpr c108)]; done))
  · refine qx_aload_n d_QM_compare_24 rfl rfl ?_
    refine qx_getR d_QM_compare_25 fR_QM_57 rfl rfl (congrFun hR 31) ?_
    refine qx_iload d_QM_compare_28 rfl ?_
    refine qx_zald d_QM_compare_30 rfl rfl rfl rfl (by omega) hy.2 ?_
    refine qx_if_eqB (t := 71) d_QM_compare_31 rfl (fun c31 => ?_) (fun c31 => ?_)
    · refine qx_aload_n d_QM_compare_71 rfl rfl ?_
      refine qx_getR d_QM_compare_72 fR_QM_54 rfl rfl (congrFun hR 30) ?_
      refine qx_iload d_QM_compare_75 rfl ?_
      refine qx_lald d_QM_compare_77 rfl rfl rfl rfl (by omega) hx.1 ?_
      refine qx_aload_n d_QM_compare_78 rfl rfl ?_
      refine qx_getR d_QM_compare_79 fR_QM_54 rfl rfl (congrFun hR 30) ?_
      refine qx_iload d_QM_compare_82 rfl ?_
      refine qx_lald d_QM_compare_84 rfl rfl rfl rfl (by omega) hy.1 ?_
      refine qx_lcmp d_QM_compare_85 ?_
      refine qx_if_geC (t := 93) d_QM_compare_86 rfl (fun c86 => ?_) (fun c86 => ?_)
      · refine qx_aload_n d_QM_compare_93 rfl rfl ?_
        refine qx_getR d_QM_compare_94 fR_QM_54 rfl rfl (congrFun hR 30) ?_
        refine qx_iload d_QM_compare_97 rfl ?_
        refine qx_lald d_QM_compare_99 rfl rfl rfl rfl (by omega) hx.1 ?_
        refine qx_aload_n d_QM_compare_100 rfl rfl ?_
        refine qx_getR d_QM_compare_101 fR_QM_54 rfl rfl (congrFun hR 30) ?_
        refine qx_iload d_QM_compare_104 rfl ?_
        refine qx_lald d_QM_compare_106 rfl rfl rfl rfl (by omega) hy.1 ?_
        refine qx_lcmp d_QM_compare_107 ?_
        refine qx_if_leC (t := 115) d_QM_compare_108 rfl (fun c108 => ?_) (fun c108 => ?_)
        · refine qx_iconst (v := 0) d_QM_compare_115 rfl ?_
          exact qx_iret d_QM_compare_116 rfl rfl (by omega) (by omega) (by rw [cmpO_raw]; refine ⟨?_, rfl, rfl⟩; first | (rw [if_pos (Or.inl c21), if_pos c48]; done) | (rw [if_pos (Or.inr c31), if_pos c48]; done) | (rw [if_pos (Or.inl c21), if_neg c48, if_pos c62]; done) | (rw [if_pos (Or.inr c31), if_neg c48, if_pos c62]; done) | (rw [if_pos (Or.inl c21), if_neg c48, if_neg (by rw [c62]; decide)]; done) | (rw [if_pos (Or.inr c31), if_neg c48, if_neg (by rw [c62]; decide)]; done) | (rw [if_neg (by rw [c21, c31]; decide), if_pos c86]; done) | (rw [if_neg (by rw [c21, c31]; decide), if_neg (Int64.not_lt.mpr c86), if_pos c108]; done) | (rw [if_neg (by rw [c21, c31]; decide), if_neg (Int64.not_lt.mpr c86), if_neg (Int64.not_lt.mpr c108)]; done))
        · refine qx_iconst (v := 1) d_QM_compare_111 rfl ?_
          refine qx_goto (t := 116) d_QM_compare_112 rfl ?_
          exact qx_iret d_QM_compare_116 rfl rfl (by omega) (by omega) (by rw [cmpO_raw]; refine ⟨?_, rfl, rfl⟩; first | (rw [if_pos (Or.inl c21), if_pos c48]; done) | (rw [if_pos (Or.inr c31), if_pos c48]; done) | (rw [if_pos (Or.inl c21), if_neg c48, if_pos c62]; done) | (rw [if_pos (Or.inr c31), if_neg c48, if_pos c62]; done) | (rw [if_pos (Or.inl c21), if_neg c48, if_neg (by rw [c62]; decide)]; done) | (rw [if_pos (Or.inr c31), if_neg c48, if_neg (by rw [c62]; decide)]; done) | (rw [if_neg (by rw [c21, c31]; decide), if_pos c86]; done) | (rw [if_neg (by rw [c21, c31]; decide), if_neg (Int64.not_lt.mpr c86), if_pos c108]; done) | (rw [if_neg (by rw [c21, c31]; decide), if_neg (Int64.not_lt.mpr c86), if_neg (Int64.not_lt.mpr c108)]; done))
      · refine qx_iconst (v := (-1)) d_QM_compare_89 rfl ?_
        refine qx_goto (t := 116) d_QM_compare_90 rfl ?_
        exact qx_iret d_QM_compare_116 rfl rfl (by omega) (by omega) (by rw [cmpO_raw]; refine ⟨?_, rfl, rfl⟩; first | (rw [if_pos (Or.inl c21), if_pos c48]; done) | (rw [if_pos (Or.inr c31), if_pos c48]; done) | (rw [if_pos (Or.inl c21), if_neg c48, if_pos c62]; done) | (rw [if_pos (Or.inr c31), if_neg c48, if_pos c62]; done) | (rw [if_pos (Or.inl c21), if_neg c48, if_neg (by rw [c62]; decide)]; done) | (rw [if_pos (Or.inr c31), if_neg c48, if_neg (by rw [c62]; decide)]; done) | (rw [if_neg (by rw [c21, c31]; decide), if_pos c86]; done) | (rw [if_neg (by rw [c21, c31]; decide), if_neg (Int64.not_lt.mpr c86), if_pos c108]; done) | (rw [if_neg (by rw [c21, c31]; decide), if_neg (Int64.not_lt.mpr c86), if_neg (Int64.not_lt.mpr c108)]; done))
    · refine qx_aload_n d_QM_compare_34 rfl rfl ?_
      refine qx_getR d_QM_compare_35 fR_QM_57 rfl rfl (congrFun hR 31) ?_
      refine qx_iload d_QM_compare_38 rfl ?_
      refine qx_zald d_QM_compare_40 rfl rfl rfl rfl (by omega) hx.2 ?_
      refine qx_aload_n d_QM_compare_41 rfl rfl ?_
      refine qx_getR d_QM_compare_42 fR_QM_57 rfl rfl (congrFun hR 31) ?_
      refine qx_iload d_QM_compare_45 rfl ?_
      refine qx_zald d_QM_compare_47 rfl rfl rfl rfl (by omega) hy.2 ?_
      refine qx_icmp_neE (t := 55) d_QM_compare_48 rfl (fun c48 => ?_) (fun c48 => ?_)
      · refine qx_aload_n d_QM_compare_55 rfl rfl ?_
        refine qx_getR d_QM_compare_56 fR_QM_57 rfl rfl (congrFun hR 31) ?_
        refine qx_iload d_QM_compare_59 rfl ?_
        refine qx_zald d_QM_compare_61 rfl rfl rfl rfl (by omega) hx.2 ?_
        refine qx_if_eqB (t := 69) d_QM_compare_62 rfl (fun c62 => ?_) (fun c62 => ?_)
        · refine qx_iconst (v := 1) d_QM_compare_69 rfl ?_
          exact qx_iret d_QM_compare_70 rfl rfl (by omega) (by omega) (by rw [cmpO_raw]; refine ⟨?_, rfl, rfl⟩; first | (rw [if_pos (Or.inl c21), if_pos c48]; done) | (rw [if_pos (Or.inr c31), if_pos c48]; done) | (rw [if_pos (Or.inl c21), if_neg c48, if_pos c62]; done) | (rw [if_pos (Or.inr c31), if_neg c48, if_pos c62]; done) | (rw [if_pos (Or.inl c21), if_neg c48, if_neg (by rw [c62]; decide)]; done) | (rw [if_pos (Or.inr c31), if_neg c48, if_neg (by rw [c62]; decide)]; done) | (rw [if_neg (by rw [c21, c31]; decide), if_pos c86]; done) | (rw [if_neg (by rw [c21, c31]; decide), if_neg (Int64.not_lt.mpr c86), if_pos c108]; done) | (rw [if_neg (by rw [c21, c31]; decide), if_neg (Int64.not_lt.mpr c86), if_neg (Int64.not_lt.mpr c108)]; done))
        · refine qx_iconst (v := (-1)) d_QM_compare_65 rfl ?_
          refine qx_goto (t := 70) d_QM_compare_66 rfl ?_
          exact qx_iret d_QM_compare_70 rfl rfl (by omega) (by omega) (by rw [cmpO_raw]; refine ⟨?_, rfl, rfl⟩; first | (rw [if_pos (Or.inl c21), if_pos c48]; done) | (rw [if_pos (Or.inr c31), if_pos c48]; done) | (rw [if_pos (Or.inl c21), if_neg c48, if_pos c62]; done) | (rw [if_pos (Or.inr c31), if_neg c48, if_pos c62]; done) | (rw [if_pos (Or.inl c21), if_neg c48, if_neg (by rw [c62]; decide)]; done) | (rw [if_pos (Or.inr c31), if_neg c48, if_neg (by rw [c62]; decide)]; done) | (rw [if_neg (by rw [c21, c31]; decide), if_pos c86]; done) | (rw [if_neg (by rw [c21, c31]; decide), if_neg (Int64.not_lt.mpr c86), if_pos c108]; done) | (rw [if_neg (by rw [c21, c31]; decide), if_neg (Int64.not_lt.mpr c86), if_neg (Int64.not_lt.mpr c108)]; done))
      · refine qx_iconst (v := 0) d_QM_compare_51 rfl ?_
        refine qx_goto (t := 70) d_QM_compare_52 rfl ?_
        exact qx_iret d_QM_compare_70 rfl rfl (by omega) (by omega) (by rw [cmpO_raw]; refine ⟨?_, rfl, rfl⟩; first | (rw [if_pos (Or.inl c21), if_pos c48]; done) | (rw [if_pos (Or.inr c31), if_pos c48]; done) | (rw [if_pos (Or.inl c21), if_neg c48, if_pos c62]; done) | (rw [if_pos (Or.inr c31), if_neg c48, if_pos c62]; done) | (rw [if_pos (Or.inl c21), if_neg c48, if_neg (by rw [c62]; decide)]; done) | (rw [if_pos (Or.inr c31), if_neg c48, if_neg (by rw [c62]; decide)]; done) | (rw [if_neg (by rw [c21, c31]; decide), if_pos c86]; done) | (rw [if_neg (by rw [c21, c31]; decide), if_neg (Int64.not_lt.mpr c86), if_pos c108]; done) | (rw [if_neg (by rw [c21, c31]; decide), if_neg (Int64.not_lt.mpr c86), if_neg (Int64.not_lt.mpr c108)]; done))
set_option maxRecDepth 100000 in
set_option maxHeartbeats 4000000 in
theorem ct_QM_before {h : qH} (hR : h.2.2 122 = qRQM) (RES : Nat → Nat → Option Int64) (rs wd : Nat) (h1d : 1 ≤ wd) (hd4 : wd ≤ 4) (hrs : rs ≤ 144) (hres : ∀ i, i < rs → ∀ c, c < wd → h.2.1 137 (4 * i + c) = (RES i c).getD 0 ∧ h.1 138 (4 * i + c) = b2i (RES i c).isNone) (hwd : h.1 122 29 = nI wd) (ob : Nat) (hob4 : ob < 4) (hob : h.1 122 10 = nI ob) (dn : Bool) (hdn : h.1 122 11 = b2i dn) (a b : Nat) (ha : a < rs) (hb : b < rs) : qT mi_QM_before 1 0 0 [.ref 122, .int (nI a), .int (nI b)] h NN (fun v1 h1 n1 => v1 = some (.int (b2i (bef ob wd dn (RES a) (RES b)))) ∧ h = h1 ∧ n1 = NN) := by
  refine qT.of (lv0 := [_, _, _, _, _, _]) (by decide +kernel) (fun _ _ => Nat.le_of_ble_eq_true rfl) rfl ?_
  have hby : oBy ob wd < wd := by unfold oBy; split <;> omega
  have hby4 : oBy ob wd < 4 := by omega
  have loop : ∀ (m c : Nat), c + m = wd → (cmpO (RES a (oBy ob wd)) (RES b (oBy ob wd))) = 0 → qX mi_QM_before 1 none 0 0 68 [.ref 122, .int (nI a), .int (nI b), qdead, .int (cmpR (RES a) (RES b) c), .int (nI c)] [] h NN 0 0 (fun v1 h1 n1 => v1 = some (.int (b2i (bef ob wd dn (RES a) (RES b)))) ∧ h = h1 ∧ n1 = NN) := by
    intro m
    induction m with
    | zero =>
      intro c hc h0
      have e : c = wd := by omega
      subst e
      refine qx_iload d_QM_before_68 rfl ?_
      refine qx_aload_n d_QM_before_70 rfl rfl ?_
      refine qx_getI d_QM_before_71 fI_QM_232 rfl rfl hwd ?_
      refine qx_icmp_geN (t := 98) d_QM_before_74 rfl (by omega) (by omega) (fun c74 => ?_) (fun c74 => absurd c74 (by omega))
      refine qx_iload d_QM_before_98 rfl ?_
      refine qx_if_ge (t := 107) d_QM_before_100 rfl (fun c100 => ?_) (fun c100 => ?_)
      · refine qx_iconstN (v := 0) d_QM_before_107 rfl ?_
        exact qx_iret d_QM_before_108 rfl rfl (by omega) (by omega) (by refine ⟨?_, rfl, rfl⟩; unfold bef; rw [if_pos h0]; first | (rw [decide_eq_true (Int32.not_le.mp c100)]; rfl) | (rw [decide_eq_false (Int32.not_lt.mpr c100)]; rfl))
      · refine qx_iconstN (v := 1) d_QM_before_103 rfl ?_
        refine qx_goto (t := 108) d_QM_before_104 rfl ?_
        exact qx_iret d_QM_before_108 rfl rfl (by omega) (by omega) (by refine ⟨?_, rfl, rfl⟩; unfold bef; rw [if_pos h0]; first | (rw [decide_eq_true (Int32.not_le.mp c100)]; rfl) | (rw [decide_eq_false (Int32.not_lt.mpr c100)]; rfl))
    | succ m ih =>
      intro c hc h0
      have hs : cmpR (RES a) (RES b) (c + 1) = if cmpR (RES a) (RES b) c = 0 then cmpO (RES a c) (RES b c) else cmpR (RES a) (RES b) c := rfl
      refine qx_iload d_QM_before_68 rfl ?_
      refine qx_aload_n d_QM_before_70 rfl rfl ?_
      refine qx_getI d_QM_before_71 fI_QM_232 rfl rfl hwd ?_
      refine qx_icmp_geN (t := 98) d_QM_before_74 rfl (by omega) (by omega) (fun c74 => absurd c74 (by omega)) (fun c74 => ?_)
      refine qx_iload d_QM_before_77 rfl ?_
      refine qx_if_ne (t := 98) d_QM_before_79 rfl (fun c79 => ?_) (fun c79 => ?_)
      · refine qx_iload d_QM_before_98 rfl ?_
        refine qx_if_ge (t := 107) d_QM_before_100 rfl (fun c100 => ?_) (fun c100 => ?_)
        · refine qx_iconstN (v := 0) d_QM_before_107 rfl ?_
          exact qx_iret d_QM_before_108 rfl rfl (by omega) (by omega) (by refine ⟨?_, rfl, rfl⟩; have q := cmpR_mono c79 (m + 1); rw [show c + (m + 1) = wd by omega] at q; unfold bef; rw [if_pos h0, q]; first | (rw [decide_eq_true (Int32.not_le.mp c100)]; rfl) | (rw [decide_eq_false (Int32.not_lt.mpr c100)]; rfl))
        · refine qx_iconstN (v := 1) d_QM_before_103 rfl ?_
          refine qx_goto (t := 108) d_QM_before_104 rfl ?_
          exact qx_iret d_QM_before_108 rfl rfl (by omega) (by omega) (by refine ⟨?_, rfl, rfl⟩; have q := cmpR_mono c79 (m + 1); rw [show c + (m + 1) = wd by omega] at q; unfold bef; rw [if_pos h0, q]; first | (rw [decide_eq_true (Int32.not_le.mp c100)]; rfl) | (rw [decide_eq_false (Int32.not_lt.mpr c100)]; rfl))
      · refine qx_aload_n d_QM_before_82 rfl rfl ?_
        refine qx_iload_n d_QM_before_83 rfl rfl ?_
        refine qx_iload_n d_QM_before_84 rfl rfl ?_
        refine qx_iload d_QM_before_85 rfl ?_
        refine qx_callV (As := [_, _, _]) (rest := _) d_QM_before_87 lk_QM_241 y_QM_compare v_QM_compare rfl rfl rfl (by decide) rfl rfl rfl rfl (by decide) (by decide) (ct_QM_compare hR a b c (by omega) (by omega) (by omega) (RES a c) (RES b c) (hres a ha c (by omega)) (hres b hb c (by omega))) ?_
        rintro _ _ _ ⟨rfl, rfl, rfl⟩
        refine qx_istore (lv1 := [_, _, _, _, _, _]) d_QM_before_90 (by decide) rfl ?_
        refine qx_iincN (w := 1) (lv1 := [_, _, _, _, _, _]) d_QM_before_92 rfl rfl (by decide) rfl ?_
        refine qx_goto (t := 68) d_QM_before_95 rfl ?_
        have k2 := ih (c + 1) (by omega) h0
        rw [hs, if_pos c79] at k2
        exact k2
  refine qx_aload_n d_QM_before_0 rfl rfl ?_
  refine qx_getI d_QM_before_1 fI_QM_129 rfl rfl hob ?_
  refine qx_aload_n d_QM_before_4 rfl rfl ?_
  refine qx_getI d_QM_before_5 fI_QM_232 rfl rfl hwd ?_
  refine qx_icmp_geN (t := 18) d_QM_before_8 rfl (by omega) (by omega) (fun c8 => ?_) (fun c8 => ?_)
  · refine qx_iconstN (v := 0) d_QM_before_18 rfl ?_
    refine qx_istore_n (lv1 := [_, _, _, _, _, _]) d_QM_before_19 rfl (by decide) rfl ?_
    first
      | (refine qx_eq (lv1 := [_, _, _, .int (nI (oBy ob wd)), qdead, qdead]) rfl (by rw [show oBy ob wd = 0 by unfold oBy; rw [if_neg (by omega)]]) rfl rfl ?_)
      | (refine qx_eq (lv1 := [_, _, _, .int (nI (oBy ob wd)), qdead, qdead]) rfl (by rw [show oBy ob wd = ob by unfold oBy; rw [if_pos (by omega)]]) rfl rfl ?_)
    refine qx_aload_n d_QM_before_20 rfl rfl ?_
    refine qx_iload_n d_QM_before_21 rfl rfl ?_
    refine qx_iload_n d_QM_before_22 rfl rfl ?_
    refine qx_iload_n d_QM_before_23 rfl rfl ?_
    refine qx_callV (As := [_, _, _]) (rest := _) d_QM_before_24 lk_QM_241 y_QM_compare v_QM_compare rfl rfl rfl (by decide) rfl rfl rfl rfl (by decide) (by decide) (ct_QM_compare hR a b (oBy ob wd) (by omega) (by omega) (by omega) (RES a (oBy ob wd)) (RES b (oBy ob wd)) (hres a ha (oBy ob wd) hby) (hres b hb (oBy ob wd) hby)) ?_
    rintro _ _ _ ⟨rfl, rfl, rfl⟩
    refine qx_istore (lv1 := [_, _, _, _, _, _]) d_QM_before_27 (by decide) rfl ?_
    refine qx_iload d_QM_before_29 rfl ?_
    refine qx_if_eq (t := 65) d_QM_before_31 rfl (fun c31 => ?_) (fun c31 => ?_)
    · refine qx_iconstN (v := 0) d_QM_before_65 rfl ?_
      refine qx_istore (lv1 := [_, _, _, _, _, _]) d_QM_before_66 (by decide) rfl ?_
      refine qx_less (lv1 := [_, _, _, qdead, _, _]) ⟨Or.inr rfl, Or.inr rfl, Or.inr rfl, Or.inl rfl, Or.inr rfl, Or.inr rfl, trivial⟩ ?_
      exact qx_eq rfl (by rw [c31]; rfl) rfl rfl (loop wd 0 (by omega) c31)
    · refine qx_aload_n d_QM_before_34 rfl rfl ?_
      refine qx_getI d_QM_before_35 fI_QM_132 rfl rfl hdn ?_
      refine qx_if_eqB (t := 54) d_QM_before_38 rfl (fun c38 => ?_) (fun c38 => ?_)
      · refine qx_iload d_QM_before_54 rfl ?_
        refine qx_if_ge (t := 63) d_QM_before_56 rfl (fun c56 => ?_) (fun c56 => ?_)
        · refine qx_iconstN (v := 0) d_QM_before_63 rfl ?_
          exact qx_iret d_QM_before_64 rfl rfl (by omega) (by omega) (by refine ⟨?_, rfl, rfl⟩; unfold bef; rw [if_neg c31, c38]; first | (rw [if_pos rfl, decide_eq_false (Int32.not_lt.mpr c43)]; rfl) | (rw [if_pos rfl, decide_eq_true (Int32.not_le.mp c43)]; rfl) | (rw [if_neg (by decide), decide_eq_true (Int32.not_le.mp c56)]; rfl) | (rw [if_neg (by decide), decide_eq_false (Int32.not_lt.mpr c56)]; rfl))
        · refine qx_iconstN (v := 1) d_QM_before_59 rfl ?_
          refine qx_goto (t := 64) d_QM_before_60 rfl ?_
          exact qx_iret d_QM_before_64 rfl rfl (by omega) (by omega) (by refine ⟨?_, rfl, rfl⟩; unfold bef; rw [if_neg c31, c38]; first | (rw [if_pos rfl, decide_eq_false (Int32.not_lt.mpr c43)]; rfl) | (rw [if_pos rfl, decide_eq_true (Int32.not_le.mp c43)]; rfl) | (rw [if_neg (by decide), decide_eq_true (Int32.not_le.mp c56)]; rfl) | (rw [if_neg (by decide), decide_eq_false (Int32.not_lt.mpr c56)]; rfl))
      · refine qx_iload d_QM_before_41 rfl ?_
        refine qx_if_le (t := 50) d_QM_before_43 rfl (fun c43 => ?_) (fun c43 => ?_)
        · refine qx_iconstN (v := 0) d_QM_before_50 rfl ?_
          refine qx_goto (t := 64) d_QM_before_51 rfl ?_
          exact qx_iret d_QM_before_64 rfl rfl (by omega) (by omega) (by refine ⟨?_, rfl, rfl⟩; unfold bef; rw [if_neg c31, c38]; first | (rw [if_pos rfl, decide_eq_false (Int32.not_lt.mpr c43)]; rfl) | (rw [if_pos rfl, decide_eq_true (Int32.not_le.mp c43)]; rfl) | (rw [if_neg (by decide), decide_eq_true (Int32.not_le.mp c56)]; rfl) | (rw [if_neg (by decide), decide_eq_false (Int32.not_lt.mpr c56)]; rfl))
        · refine qx_iconstN (v := 1) d_QM_before_46 rfl ?_
          refine qx_goto (t := 64) d_QM_before_47 rfl ?_
          exact qx_iret d_QM_before_64 rfl rfl (by omega) (by omega) (by refine ⟨?_, rfl, rfl⟩; unfold bef; rw [if_neg c31, c38]; first | (rw [if_pos rfl, decide_eq_false (Int32.not_lt.mpr c43)]; rfl) | (rw [if_pos rfl, decide_eq_true (Int32.not_le.mp c43)]; rfl) | (rw [if_neg (by decide), decide_eq_true (Int32.not_le.mp c56)]; rfl) | (rw [if_neg (by decide), decide_eq_false (Int32.not_lt.mpr c56)]; rfl))
  · refine qx_aload_n d_QM_before_11 rfl rfl ?_
    refine qx_getI d_QM_before_12 fI_QM_129 rfl rfl hob ?_
    refine qx_goto (t := 19) d_QM_before_15 rfl ?_
    refine qx_istore_n (lv1 := [_, _, _, _, _, _]) d_QM_before_19 rfl (by decide) rfl ?_
    first
      | (refine qx_eq (lv1 := [_, _, _, .int (nI (oBy ob wd)), qdead, qdead]) rfl (by rw [show oBy ob wd = 0 by unfold oBy; rw [if_neg (by omega)]]) rfl rfl ?_)
      | (refine qx_eq (lv1 := [_, _, _, .int (nI (oBy ob wd)), qdead, qdead]) rfl (by rw [show oBy ob wd = ob by unfold oBy; rw [if_pos (by omega)]]) rfl rfl ?_)
    refine qx_aload_n d_QM_before_20 rfl rfl ?_
    refine qx_iload_n d_QM_before_21 rfl rfl ?_
    refine qx_iload_n d_QM_before_22 rfl rfl ?_
    refine qx_iload_n d_QM_before_23 rfl rfl ?_
    refine qx_callV (As := [_, _, _]) (rest := _) d_QM_before_24 lk_QM_241 y_QM_compare v_QM_compare rfl rfl rfl (by decide) rfl rfl rfl rfl (by decide) (by decide) (ct_QM_compare hR a b (oBy ob wd) (by omega) (by omega) (by omega) (RES a (oBy ob wd)) (RES b (oBy ob wd)) (hres a ha (oBy ob wd) hby) (hres b hb (oBy ob wd) hby)) ?_
    rintro _ _ _ ⟨rfl, rfl, rfl⟩
    refine qx_istore (lv1 := [_, _, _, _, _, _]) d_QM_before_27 (by decide) rfl ?_
    refine qx_iload d_QM_before_29 rfl ?_
    refine qx_if_eq (t := 65) d_QM_before_31 rfl (fun c31 => ?_) (fun c31 => ?_)
    · refine qx_iconstN (v := 0) d_QM_before_65 rfl ?_
      refine qx_istore (lv1 := [_, _, _, _, _, _]) d_QM_before_66 (by decide) rfl ?_
      refine qx_less (lv1 := [_, _, _, qdead, _, _]) ⟨Or.inr rfl, Or.inr rfl, Or.inr rfl, Or.inl rfl, Or.inr rfl, Or.inr rfl, trivial⟩ ?_
      exact qx_eq rfl (by rw [c31]; rfl) rfl rfl (loop wd 0 (by omega) c31)
    · refine qx_aload_n d_QM_before_34 rfl rfl ?_
      refine qx_getI d_QM_before_35 fI_QM_132 rfl rfl hdn ?_
      refine qx_if_eqB (t := 54) d_QM_before_38 rfl (fun c38 => ?_) (fun c38 => ?_)
      · refine qx_iload d_QM_before_54 rfl ?_
        refine qx_if_ge (t := 63) d_QM_before_56 rfl (fun c56 => ?_) (fun c56 => ?_)
        · refine qx_iconstN (v := 0) d_QM_before_63 rfl ?_
          exact qx_iret d_QM_before_64 rfl rfl (by omega) (by omega) (by refine ⟨?_, rfl, rfl⟩; unfold bef; rw [if_neg c31, c38]; first | (rw [if_pos rfl, decide_eq_false (Int32.not_lt.mpr c43)]; rfl) | (rw [if_pos rfl, decide_eq_true (Int32.not_le.mp c43)]; rfl) | (rw [if_neg (by decide), decide_eq_true (Int32.not_le.mp c56)]; rfl) | (rw [if_neg (by decide), decide_eq_false (Int32.not_lt.mpr c56)]; rfl))
        · refine qx_iconstN (v := 1) d_QM_before_59 rfl ?_
          refine qx_goto (t := 64) d_QM_before_60 rfl ?_
          exact qx_iret d_QM_before_64 rfl rfl (by omega) (by omega) (by refine ⟨?_, rfl, rfl⟩; unfold bef; rw [if_neg c31, c38]; first | (rw [if_pos rfl, decide_eq_false (Int32.not_lt.mpr c43)]; rfl) | (rw [if_pos rfl, decide_eq_true (Int32.not_le.mp c43)]; rfl) | (rw [if_neg (by decide), decide_eq_true (Int32.not_le.mp c56)]; rfl) | (rw [if_neg (by decide), decide_eq_false (Int32.not_lt.mpr c56)]; rfl))
      · refine qx_iload d_QM_before_41 rfl ?_
        refine qx_if_le (t := 50) d_QM_before_43 rfl (fun c43 => ?_) (fun c43 => ?_)
        · refine qx_iconstN (v := 0) d_QM_before_50 rfl ?_
          refine qx_goto (t := 64) d_QM_before_51 rfl ?_
          exact qx_iret d_QM_before_64 rfl rfl (by omega) (by omega) (by refine ⟨?_, rfl, rfl⟩; unfold bef; rw [if_neg c31, c38]; first | (rw [if_pos rfl, decide_eq_false (Int32.not_lt.mpr c43)]; rfl) | (rw [if_pos rfl, decide_eq_true (Int32.not_le.mp c43)]; rfl) | (rw [if_neg (by decide), decide_eq_true (Int32.not_le.mp c56)]; rfl) | (rw [if_neg (by decide), decide_eq_false (Int32.not_lt.mpr c56)]; rfl))
        · refine qx_iconstN (v := 1) d_QM_before_46 rfl ?_
          refine qx_goto (t := 64) d_QM_before_47 rfl ?_
          exact qx_iret d_QM_before_64 rfl rfl (by omega) (by omega) (by refine ⟨?_, rfl, rfl⟩; unfold bef; rw [if_neg c31, c38]; first | (rw [if_pos rfl, decide_eq_false (Int32.not_lt.mpr c43)]; rfl) | (rw [if_pos rfl, decide_eq_true (Int32.not_le.mp c43)]; rfl) | (rw [if_neg (by decide), decide_eq_true (Int32.not_le.mp c56)]; rfl) | (rw [if_neg (by decide), decide_eq_false (Int32.not_lt.mpr c56)]; rfl))
def pR (h : qH) (p : Nat → Nat) : qH := (va_up h.1 139 (iN p), h.2.1, h.2.2)
theorem pR_p {h : qH} {p : Nat → Nat} {i v : Nat} : qpI (pR h p) 139 i (nI v) = pR h (va_up p i v) := by
  unfold pR qpI
  dsimp only
  rw [qv_up, qus, iN_up]
theorem pR_of {h : qH} {p : Nat → Nat} (e : h.1 139 = iN p) : pR h p = h := by
  unfold pR
  rw [← e, qv_self]
set_option maxRecDepth 100000 in
set_option maxHeartbeats 4000000 in
theorem ct_QM_sort {h : qH} (hR : h.2.2 122 = qRQM) (RES : Nat → Nat → Option Int64) (rs wd : Nat) (h1d : 1 ≤ wd) (hd4 : wd ≤ 4) (hrs : rs ≤ 144) (hres : ∀ i, i < rs → ∀ c, c < wd → h.2.1 137 (4 * i + c) = (RES i c).getD 0 ∧ h.1 138 (4 * i + c) = b2i (RES i c).isNone) (hwd : h.1 122 29 = nI wd) (ob : Nat) (hob4 : ob < 4) (hob : h.1 122 10 = nI ob) (dn : Bool) (hdn : h.1 122 11 = b2i dn) (hrsf : h.1 122 28 = nI rs) (p0 : Nat → Nat) : qT mi_QM_sort 2 0 0 [.ref 122] (pR h p0) NN (fun v1 h1 n1 => v1 = none ∧ h1 = pR h (srt (fun a b => bef ob wd dn (RES a) (RES b)) p0 rs) ∧ n1 = NN) := by
  refine qT.of (lv0 := [_, _, _]) (by decide +kernel) (fun _ _ => Nat.le_of_ble_eq_true rfl) rfl ?_
  have inner : ∀ (k i : Nat) (p : Nat → Nat), k ≤ i → i < rs → (∀ j, j < k → p j < i) → (qX mi_QM_sort 2 none 0 0 2 [.ref 122, .int (nI (i + 1)), qdead] [] (pR h (insL (fun a b => bef ob wd dn (RES a) (RES b)) i k p)) NN 0 0 (fun v1 h1 n1 => v1 = none ∧ h1 = pR h (srt (fun a b => bef ob wd dn (RES a) (RES b)) p0 rs) ∧ n1 = NN)) → qX mi_QM_sort 2 none 0 0 12 [.ref 122, .int (nI i), .int (nI k)] [] (pR h p) NN 0 0 (fun v1 h1 n1 => v1 = none ∧ h1 = pR h (srt (fun a b => bef ob wd dn (RES a) (RES b)) p0 rs) ∧ n1 = NN) := by
    intro k
    induction k with
    | zero =>
      intro i p hk hi hp nxt
      refine qx_iload_n d_QM_sort_12 rfl rfl ?_
      refine qx_if_leN (t := 52) d_QM_sort_13 rfl (by omega) (fun c13 => ?_) (fun c13 => absurd c13 (by decide))
      refine qx_aload_n d_QM_sort_52 rfl rfl ?_
      refine qx_getR d_QM_sort_53 fR_QM_60 rfl rfl (congrFun hR 32) ?_
      refine qx_iload_n d_QM_sort_56 rfl rfl ?_
      refine qx_iload_n d_QM_sort_57 rfl rfl ?_
      refine qx_iast d_QM_sort_58 rfl rfl rfl rfl (by omega) ?_
      refine qx_iincN (w := 1) (lv1 := [_, _, _]) d_QM_sort_59 rfl rfl (by decide) rfl ?_
      refine qx_goto (t := 2) d_QM_sort_62 rfl ?_
      refine qx_less (lv1 := [_, _, qdead]) ⟨Or.inr rfl, Or.inr rfl, Or.inl rfl, trivial⟩ ?_
      refine qx_eq rfl rfl rfl ?_ nxt
      exact pR_p.symm
    | succ k ih =>
      intro i p hk hi hp nxt
      have hpk := hp k (by omega)
      have hs : insL (fun a b => bef ob wd dn (RES a) (RES b)) i (k + 1) p = if bef ob wd dn (RES i) (RES (p k)) = true then insL (fun a b => bef ob wd dn (RES a) (RES b)) i k (va_up p (k + 1) (p k)) else va_up p (k + 1) i := rfl
      rw [hs] at nxt
      refine qx_iload_n d_QM_sort_12 rfl rfl ?_
      refine qx_if_leN (t := 52) d_QM_sort_13 rfl (by omega) (fun c13 => absurd c13 (by omega)) (fun c13 => ?_)
      refine qx_aload_n d_QM_sort_16 rfl rfl ?_
      refine qx_iload_n d_QM_sort_17 rfl rfl ?_
      refine qx_aload_n d_QM_sort_18 rfl rfl ?_
      refine qx_getR d_QM_sort_19 fR_QM_60 rfl rfl (congrFun hR 32) ?_
      refine qx_iload_n d_QM_sort_22 rfl rfl ?_
      refine qx_iconstN (v := 1) d_QM_sort_23 rfl ?_
      refine qx_isubN d_QM_sort_24 (by omega) ?_
      refine qx_iald (j := k) d_QM_sort_25 rfl rfl rfl rfl (by omega) (show _ = nI (p k) from rfl) ?_
      refine qx_callV (As := [_, _]) (rest := _) d_QM_sort_26 lk_QM_245 y_QM_before v_QM_before rfl rfl rfl (by decide) rfl rfl rfl rfl (by decide) (by decide) (ct_QM_before (h := pR h p) hR RES rs wd h1d hd4 hrs hres hwd ob hob4 hob dn hdn i (p k) hi (by omega)) ?_
      rintro _ _ _ ⟨rfl, rfl, rfl⟩
      refine qx_if_eqB (t := 52) d_QM_sort_29 rfl (fun c29 => ?_) (fun c29 => ?_)
      · refine qx_aload_n d_QM_sort_52 rfl rfl ?_
        refine qx_getR d_QM_sort_53 fR_QM_60 rfl rfl (congrFun hR 32) ?_
        refine qx_iload_n d_QM_sort_56 rfl rfl ?_
        refine qx_iload_n d_QM_sort_57 rfl rfl ?_
        refine qx_iast d_QM_sort_58 rfl rfl rfl rfl (by omega) ?_
        refine qx_iincN (w := 1) (lv1 := [_, _, _]) d_QM_sort_59 rfl rfl (by decide) rfl ?_
        refine qx_goto (t := 2) d_QM_sort_62 rfl ?_
        refine qx_less (lv1 := [_, _, qdead]) ⟨Or.inr rfl, Or.inr rfl, Or.inl rfl, trivial⟩ ?_
        rw [if_neg (by rw [c29]; decide)] at nxt
        refine qx_eq rfl rfl rfl ?_ nxt
        exact pR_p.symm
      · refine qx_aload_n d_QM_sort_32 rfl rfl ?_
        refine qx_getR d_QM_sort_33 fR_QM_60 rfl rfl (congrFun hR 32) ?_
        refine qx_iload_n d_QM_sort_36 rfl rfl ?_
        refine qx_aload_n d_QM_sort_37 rfl rfl ?_
        refine qx_getR d_QM_sort_38 fR_QM_60 rfl rfl (congrFun hR 32) ?_
        refine qx_iload_n d_QM_sort_41 rfl rfl ?_
        refine qx_iconstN (v := 1) d_QM_sort_42 rfl ?_
        refine qx_isubN d_QM_sort_43 (by omega) ?_
        refine qx_iald (j := k) d_QM_sort_44 rfl rfl rfl rfl (by omega) (show _ = nI (p k) from rfl) ?_
        refine qx_iast d_QM_sort_45 rfl rfl rfl rfl (by omega) ?_
        refine qx_idecN (lv1 := [_, _, _]) d_QM_sort_46 rfl (by decide) rfl ?_
        refine qx_goto (t := 12) d_QM_sort_49 rfl ?_
        rw [if_pos c29] at nxt
        refine qx_eq rfl rfl rfl ?_ (ih i (va_up p (k + 1) (p k)) (by omega) hi (fun j hj => by rw [qun (by omega)]; exact hp j (by omega)) nxt)
        exact pR_p.symm
  have outer : ∀ (m i : Nat), i + m = rs → qX mi_QM_sort 2 none 0 0 2 [.ref 122, .int (nI i), qdead] [] (pR h (srt (fun a b => bef ob wd dn (RES a) (RES b)) p0 i)) NN 0 0 (fun v1 h1 n1 => v1 = none ∧ h1 = pR h (srt (fun a b => bef ob wd dn (RES a) (RES b)) p0 rs) ∧ n1 = NN) := by
    intro m
    induction m with
    | zero =>
      intro i hi
      have e : i = rs := by omega
      subst e
      refine qx_iload_n d_QM_sort_2 rfl rfl ?_
      refine qx_aload_n d_QM_sort_3 rfl rfl ?_
      refine qx_getI d_QM_sort_4 fI_QM_207 rfl rfl hrsf ?_
      refine qx_icmp_geN (t := 65) d_QM_sort_7 rfl (by omega) (by omega) (fun c7 => ?_) (fun c7 => absurd c7 (by omega))
      exact qx_ret d_QM_sort_65 rfl (by omega) (by omega) ⟨rfl, rfl, rfl⟩
    | succ m ih =>
      intro i hi
      refine qx_iload_n d_QM_sort_2 rfl rfl ?_
      refine qx_aload_n d_QM_sort_3 rfl rfl ?_
      refine qx_getI d_QM_sort_4 fI_QM_207 rfl rfl hrsf ?_
      refine qx_icmp_geN (t := 65) d_QM_sort_7 rfl (by omega) (by omega) (fun c7 => absurd c7 (by omega)) (fun c7 => ?_)
      refine qx_iload_n d_QM_sort_10 rfl rfl ?_
      refine qx_istore_n (lv1 := [_, _, _]) d_QM_sort_11 rfl (by decide) rfl ?_
      exact inner i i (srt (fun a b => bef ob wd dn (RES a) (RES b)) p0 i) (Nat.le_refl _) (by omega) (fun j hj => srt_lt (fun a b => bef ob wd dn (RES a) (RES b)) p0 i j hj) (ih (i + 1) (by omega))
  refine qx_iconstN (v := 0) d_QM_sort_0 rfl ?_
  refine qx_istore_n (lv1 := [_, _, _]) d_QM_sort_1 rfl (by decide) rfl ?_
  exact outer rs 0 (by omega)
