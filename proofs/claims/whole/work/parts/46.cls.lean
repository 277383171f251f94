/-! the class's result rows -/
def qRRe : Nat → Option Nat := fun f => (([some 80, some 81, some 82] : List (Option Nat))[f]?).getD none
def uR (h : qH) (vv : Nat → Int64) (vb : Nat → Bool) : qH := (va_up h.1 81 (iB vb), va_up h.2.1 80 vv, h.2.2)
theorem uR_of {h : qH} {vb : Nat → Bool} (e : h.1 81 = iB vb) : uR h (h.2.1 80) vb = h := by
  unfold uR
  rw [← e, qv_self, qv_self]
theorem uR_set {h : qH} {vv : Nat → Int64} {vb : Nat → Bool} {i : Nat} {x : Int64} {b : Bool} : qpI (qpL (uR h vv vb) 80 i x) 81 i (b2i b) = uR h (va_up vv i x) (va_up vb i b) := by
  unfold uR qpI qpL
  dsimp only
  rw [qv_up, qv_up, qus, qus, iB_up]
theorem lg_O (x y : Int64) : lg_cmp x y = cmpO (some x) (some y) := by
  show _ = if x < y then -1 else if y < x then 1 else 0
  unfold lg_cmp
  by_cases h1 : x < y
  · have h2 : ¬ y < x := fun e => Int64.lt_irrefl (Int64.lt_trans h1 e)
    have h3 : ¬ x = y := fun e => Int64.lt_irrefl (e ▸ h1)
    simp [h1, h2, h3]
  · by_cases h2 : y < x
    · have h3 : ¬ x = y := fun e => Int64.lt_irrefl (e ▸ h2)
      simp [h1, h2, h3]
    · have h3 : x = y := Int64.le_antisymm (Int64.not_lt.mp h2) (Int64.not_lt.mp h1)
      subst h3
      simp [h1]
set_option maxRecDepth 100000 in
set_option maxHeartbeats 4000000 in
theorem ct_Re_set {h : qH} (hR : h.2.2 79 = qRRe) (vv : Nat → Int64) (vb : Nat → Bool) (i c : Nat) (hi : i < 144) (hc : c < 4) (x : Int64) (b : Bool) : qT mi_Re_set 0 0 0 [.ref 79, .int (nI i), .int (nI c), .long x, .int (b2i b)] (uR h vv vb) NN (fun v1 h1 n1 => v1 = none ∧ h1 = uR h (va_up vv (i * 4 + c) x) (va_up vb (i * 4 + c) b) ∧ n1 = NN) := by
  refine qT.of (lv0 := [_, _, _, _, _, _]) (by decide +kernel) (fun _ _ => Nat.le_of_ble_eq_true rfl) rfl ?_
  refine qx_aload_n d_Re_set_0 rfl rfl ?_
  refine qx_getR d_Re_set_1 fR_Re_9 rfl rfl (congrFun hR 0) ?_
  refine qx_iload_n d_Re_set_4 rfl rfl ?_
  refine qx_iconstN (v := 4) d_Re_set_5 rfl ?_
  refine qx_imulN d_Re_set_6 ?_
  refine qx_iload_n d_Re_set_7 rfl rfl ?_
  refine qx_iaddN d_Re_set_8 ?_
  refine qx_lload_n d_Re_set_9 rfl rfl ?_
  refine qx_last d_Re_set_10 rfl rfl rfl rfl (by omega) ?_
  refine qx_aload_n d_Re_set_11 rfl rfl ?_
  refine qx_getR d_Re_set_12 fR_Re_15 rfl rfl (congrFun hR 1) ?_
  refine qx_iload_n d_Re_set_15 rfl rfl ?_
  refine qx_iconstN (v := 4) d_Re_set_16 rfl ?_
  refine qx_imulN d_Re_set_17 ?_
  refine qx_iload_n d_Re_set_18 rfl rfl ?_
  refine qx_iaddN d_Re_set_19 ?_
  refine qx_iload d_Re_set_20 rfl ?_
  refine qx_zast d_Re_set_22 rfl rfl rfl rfl (by omega) (b2i_nar b) ?_
  exact qx_ret d_Re_set_23 rfl (by omega) (by omega) ⟨rfl, uR_set, rfl⟩
set_option maxRecDepth 100000 in
set_option maxHeartbeats 4000000 in
theorem ct_Re_compareAt {h : qH} (hR : h.2.2 79 = qRRe) (a b c : Nat) (ha : a < 144) (hb : b < 144) (hc : c < 4) (x y : Option Int64) (hx : h.1 81 (a * 4 + c) = b2i (x).isNone ∧ ∀ z, x = some z → h.2.1 80 (a * 4 + c) = z) (hy : h.1 81 (b * 4 + c) = b2i (y).isNone ∧ ∀ z, y = some z → h.2.1 80 (b * 4 + c) = z) : qT mi_Re_compareAt 1 0 0 [.ref 79, .int (nI a), .int (nI b), .int (nI c)] h NN (fun v1 h1 n1 => v1 = some (.int (cmpO x y)) ∧ h = h1 ∧ n1 = NN) := by
  refine qT.of (lv0 := [_, _, _, _, _, _]) (by decide +kernel) (fun _ _ => Nat.le_of_ble_eq_true rfl) rfl ?_
  obtain ⟨hx1, hx2⟩ := hx
  obtain ⟨hy1, hy2⟩ := hy
  cases x with
  | none =>
    cases y with
    | none =>
      refine qx_iload_n d_Re_compareAt_0 rfl rfl ?_
      refine qx_iconstN (v := 4) d_Re_compareAt_1 rfl ?_
      refine qx_imulN d_Re_compareAt_2 ?_
      refine qx_iload_n d_Re_compareAt_3 rfl rfl ?_
      refine qx_iaddN d_Re_compareAt_4 ?_
      refine qx_istore (lv1 := [_, _, _, _, _, _]) d_Re_compareAt_5 (by decide) rfl ?_
      refine qx_iload_n d_Re_compareAt_7 rfl rfl ?_
      refine qx_iconstN (v := 4) d_Re_compareAt_8 rfl ?_
      refine qx_imulN d_Re_compareAt_9 ?_
      refine qx_iload_n d_Re_compareAt_10 rfl rfl ?_
      refine qx_iaddN d_Re_compareAt_11 ?_
      refine qx_istore (lv1 := [_, _, _, _, _, _]) d_Re_compareAt_12 (by decide) rfl ?_
      refine qx_aload_n d_Re_compareAt_14 rfl rfl ?_
      refine qx_getR d_Re_compareAt_15 fR_Re_15 rfl rfl (congrFun hR 1) ?_
      refine qx_iload d_Re_compareAt_18 rfl ?_
      refine qx_zald d_Re_compareAt_20 rfl rfl rfl rfl (by omega) (show _ = b2i true from hx1) ?_
      refine qx_if_neB (t := 34) d_Re_compareAt_21 rfl (fun c21 => ?_) (fun c21 => absurd c21 (by decide))
      refine qx_aload_n d_Re_compareAt_34 rfl rfl ?_
      refine qx_getR d_Re_compareAt_35 fR_Re_15 rfl rfl (congrFun hR 1) ?_
      refine qx_iload d_Re_compareAt_38 rfl ?_
      refine qx_zald d_Re_compareAt_40 rfl rfl rfl rfl (by omega) (show _ = b2i true from hx1) ?_
      refine qx_if_eqB (t := 48) d_Re_compareAt_41 rfl (fun c41 => absurd c41 (by decide)) (fun c41 => ?_)
      refine qx_iconst (v := 0) d_Re_compareAt_44 rfl ?_
      refine qx_goto (t := 49) d_Re_compareAt_45 rfl ?_
      refine qx_aload_n d_Re_compareAt_49 rfl rfl ?_
      refine qx_getR d_Re_compareAt_50 fR_Re_15 rfl rfl (congrFun hR 1) ?_
      refine qx_iload d_Re_compareAt_53 rfl ?_
      refine qx_zald d_Re_compareAt_55 rfl rfl rfl rfl (by omega) (show _ = b2i true from hy1) ?_
      refine qx_if_eqB (t := 63) d_Re_compareAt_56 rfl (fun c56 => absurd c56 (by decide)) (fun c56 => ?_)
      refine qx_iconst (v := 0) d_Re_compareAt_59 rfl ?_
      refine qx_goto (t := 64) d_Re_compareAt_60 rfl ?_
      refine qx_isub d_Re_compareAt_64 ?_
      exact qx_iret d_Re_compareAt_65 rfl rfl (by omega) (by omega) ⟨by first | rfl | rw [lg_O], rfl, rfl⟩
    | some w =>
      refine qx_iload_n d_Re_compareAt_0 rfl rfl ?_
      refine qx_iconstN (v := 4) d_Re_compareAt_1 rfl ?_
      refine qx_imulN d_Re_compareAt_2 ?_
      refine qx_iload_n d_Re_compareAt_3 rfl rfl ?_
      refine qx_iaddN d_Re_compareAt_4 ?_
      refine qx_istore (lv1 := [_, _, _, _, _, _]) d_Re_compareAt_5 (by decide) rfl ?_
      refine qx_iload_n d_Re_compareAt_7 rfl rfl ?_
      refine qx_iconstN (v := 4) d_Re_compareAt_8 rfl ?_
      refine qx_imulN d_Re_compareAt_9 ?_
      refine qx_iload_n d_Re_compareAt_10 rfl rfl ?_
      refine qx_iaddN d_Re_compareAt_11 ?_
      refine qx_istore (lv1 := [_, _, _, _, _, _]) d_Re_compareAt_12 (by decide) rfl ?_
      refine qx_aload_n d_Re_compareAt_14 rfl rfl ?_
      refine qx_getR d_Re_compareAt_15 fR_Re_15 rfl rfl (congrFun hR 1) ?_
      refine qx_iload d_Re_compareAt_18 rfl ?_
      refine qx_zald d_Re_compareAt_20 rfl rfl rfl rfl (by omega) (show _ = b2i true from hx1) ?_
      refine qx_if_neB (t := 34) d_Re_compareAt_21 rfl (fun c21 => ?_) (fun c21 => absurd c21 (by decide))
      refine qx_aload_n d_Re_compareAt_34 rfl rfl ?_
      refine qx_getR d_Re_compareAt_35 fR_Re_15 rfl rfl (congrFun hR 1) ?_
      refine qx_iload d_Re_compareAt_38 rfl ?_
      refine qx_zald d_Re_compareAt_40 rfl rfl rfl rfl (by omega) (show _ = b2i true from hx1) ?_
      refine qx_if_eqB (t := 48) d_Re_compareAt_41 rfl (fun c41 => absurd c41 (by decide)) (fun c41 => ?_)
      refine qx_iconst (v := 0) d_Re_compareAt_44 rfl ?_
      refine qx_goto (t := 49) d_Re_compareAt_45 rfl ?_
      refine qx_aload_n d_Re_compareAt_49 rfl rfl ?_
      refine qx_getR d_Re_compareAt_50 fR_Re_15 rfl rfl (congrFun hR 1) ?_
      refine qx_iload d_Re_compareAt_53 rfl ?_
      refine qx_zald d_Re_compareAt_55 rfl rfl rfl rfl (by omega) (show _ = b2i false from hy1) ?_
      refine qx_if_eqB (t := 63) d_Re_compareAt_56 rfl (fun c56 => ?_) (fun c56 => absurd c56 (by decide))
      refine qx_iconst (v := 1) d_Re_compareAt_63 rfl ?_
      refine qx_isub d_Re_compareAt_64 ?_
      exact qx_iret d_Re_compareAt_65 rfl rfl (by omega) (by omega) ⟨by first | rfl | rw [lg_O], rfl, rfl⟩
  | some u =>
    cases y with
    | none =>
      refine qx_iload_n d_Re_compareAt_0 rfl rfl ?_
      refine qx_iconstN (v := 4) d_Re_compareAt_1 rfl ?_
      refine qx_imulN d_Re_compareAt_2 ?_
      refine qx_iload_n d_Re_compareAt_3 rfl rfl ?_
      refine qx_iaddN d_Re_compareAt_4 ?_
      refine qx_istore (lv1 := [_, _, _, _, _, _]) d_Re_compareAt_5 (by decide) rfl ?_
      refine qx_iload_n d_Re_compareAt_7 rfl rfl ?_
      refine qx_iconstN (v := 4) d_Re_compareAt_8 rfl ?_
      refine qx_imulN d_Re_compareAt_9 ?_
      refine qx_iload_n d_Re_compareAt_10 rfl rfl ?_
      refine qx_iaddN d_Re_compareAt_11 ?_
      refine qx_istore (lv1 := [_, _, _, _, _, _]) d_Re_compareAt_12 (by decide) rfl ?_
      refine qx_aload_n d_Re_compareAt_14 rfl rfl ?_
      refine qx_getR d_Re_compareAt_15 fR_Re_15 rfl rfl (congrFun hR 1) ?_
      refine qx_iload d_Re_compareAt_18 rfl ?_
      refine qx_zald d_Re_compareAt_20 rfl rfl rfl rfl (by omega) (show _ = b2i false from hx1) ?_
      refine qx_if_neB (t := 34) d_Re_compareAt_21 rfl (fun c21 => absurd c21 (by decide)) (fun c21 => ?_)
      refine qx_aload_n d_Re_compareAt_24 rfl rfl ?_
      refine qx_getR d_Re_compareAt_25 fR_Re_15 rfl rfl (congrFun hR 1) ?_
      refine qx_iload d_Re_compareAt_28 rfl ?_
      refine qx_zald d_Re_compareAt_30 rfl rfl rfl rfl (by omega) (show _ = b2i true from hy1) ?_
      refine qx_if_eqB (t := 66) d_Re_compareAt_31 rfl (fun c31 => absurd c31 (by decide)) (fun c31 => ?_)
      refine qx_aload_n d_Re_compareAt_34 rfl rfl ?_
      refine qx_getR d_Re_compareAt_35 fR_Re_15 rfl rfl (congrFun hR 1) ?_
      refine qx_iload d_Re_compareAt_38 rfl ?_
      refine qx_zald d_Re_compareAt_40 rfl rfl rfl rfl (by omega) (show _ = b2i false from hx1) ?_
      refine qx_if_eqB (t := 48) d_Re_compareAt_41 rfl (fun c41 => ?_) (fun c41 => absurd c41 (by decide))
      refine qx_iconst (v := 1) d_Re_compareAt_48 rfl ?_
      refine qx_aload_n d_Re_compareAt_49 rfl rfl ?_
      refine qx_getR d_Re_compareAt_50 fR_Re_15 rfl rfl (congrFun hR 1) ?_
      refine qx_iload d_Re_compareAt_53 rfl ?_
      refine qx_zald d_Re_compareAt_55 rfl rfl rfl rfl (by omega) (show _ = b2i true from hy1) ?_
      refine qx_if_eqB (t := 63) d_Re_compareAt_56 rfl (fun c56 => absurd c56 (by decide)) (fun c56 => ?_)
      refine qx_iconst (v := 0) d_Re_compareAt_59 rfl ?_
      refine qx_goto (t := 64) d_Re_compareAt_60 rfl ?_
      refine qx_isub d_Re_compareAt_64 ?_
      exact qx_iret d_Re_compareAt_65 rfl rfl (by omega) (by omega) ⟨by first | rfl | rw [lg_O], rfl, rfl⟩
    | some w =>
      refine qx_iload_n d_Re_compareAt_0 rfl rfl ?_
      refine qx_iconstN (v := 4) d_Re_compareAt_1 rfl ?_
      refine qx_imulN d_Re_compareAt_2 ?_
      refine qx_iload_n d_Re_compareAt_3 rfl rfl ?_
      refine qx_iaddN d_Re_compareAt_4 ?_
      refine qx_istore (lv1 := [_, _, _, _, _, _]) d_Re_compareAt_5 (by decide) rfl ?_
      refine qx_iload_n d_Re_compareAt_7 rfl rfl ?_
      refine qx_iconstN (v := 4) d_Re_compareAt_8 rfl ?_
      refine qx_imulN d_Re_compareAt_9 ?_
      refine qx_iload_n d_Re_compareAt_10 rfl rfl ?_
      refine qx_iaddN d_Re_compareAt_11 ?_
      refine qx_istore (lv1 := [_, _, _, _, _, _]) d_Re_compareAt_12 (by decide) rfl ?_
      refine qx_aload_n d_Re_compareAt_14 rfl rfl ?_
      refine qx_getR d_Re_compareAt_15 fR_Re_15 rfl rfl (congrFun hR 1) ?_
      refine qx_iload d_Re_compareAt_18 rfl ?_
      refine qx_zald d_Re_compareAt_20 rfl rfl rfl rfl (by omega) (show _ = b2i false from hx1) ?_
      refine qx_if_neB (t := 34) d_Re_compareAt_21 rfl (fun c21 => absurd c21 (by decide)) (fun c21 => ?_)
      refine qx_aload_n d_Re_compareAt_24 rfl rfl ?_
      refine qx_getR d_Re_compareAt_25 fR_Re_15 rfl rfl (congrFun hR 1) ?_
      refine qx_iload d_Re_compareAt_28 rfl ?_
      refine qx_zald d_Re_compareAt_30 rfl rfl rfl rfl (by omega) (show _ = b2i false from hy1) ?_
      refine qx_if_eqB (t := 66) d_Re_compareAt_31 rfl (fun c31 => ?_) (fun c31 => absurd c31 (by decide))
      refine qx_aload_n d_Re_compareAt_66 rfl rfl ?_
      refine qx_getR d_Re_compareAt_67 fR_Re_9 rfl rfl (congrFun hR 0) ?_
      refine qx_iload d_Re_compareAt_70 rfl ?_
      refine qx_lald d_Re_compareAt_72 rfl rfl rfl rfl (by omega) (hx2 _ rfl) ?_
      refine qx_aload_n d_Re_compareAt_73 rfl rfl ?_
      refine qx_getR d_Re_compareAt_74 fR_Re_9 rfl rfl (congrFun hR 0) ?_
      refine qx_iload d_Re_compareAt_77 rfl ?_
      refine qx_lald d_Re_compareAt_79 rfl rfl rfl rfl (by omega) (hy2 _ rfl) ?_
      refine qx_callS (As := [_, _]) (rest := _) d_Re_compareAt_80 lk_Re_59 y_JL_compare s_JL_compare rfl rfl rfl rfl (by decide) (by decide) (ct_JL_compare _ _) ?_
      rintro _ _ _ ⟨rfl, rfl, rfl⟩
      exact qx_iret d_Re_compareAt_83 rfl rfl (by omega) (by omega) ⟨by first | rfl | rw [lg_O], rfl, rfl⟩
