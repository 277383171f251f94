theorem fR_I {h : qH} {hv : Nat → Int64} {hb : Nat → Bool} {kv : Nat → Int64} {kb : Nat → Bool} {kp a i : Nat} {v : Int32} (h1 : a ≠ 134) (h2 : a ≠ 136) (h6 : a = 122 → i ≠ 25) : qpI (fR h hv hb kv kb kp) a i v = fR (qpI h a i v) hv hb kv kb kp := by
  unfold fR qpI
  dsimp only
  refine Prod.ext ?_ rfl
  funext b
  dsimp only
  by_cases hb : b = a
  · subst hb
    rw [qus]
    simp only [h1, h2, if_false]
    by_cases h7 : b = 122
    · subst h7
      simp only [if_true, qus]
      funext j
      have h8 := h6 rfl
      by_cases hj : j = i
      · subst hj
        rw [qus, qun h8, qus]
      · rw [qun hj]
        by_cases hk : j = 25
        · subst hk
          rw [qus, qus]
        · rw [qun hk, qun hk, qun hj]
    · simp only [h7, if_false, qus]
  · rw [qun hb]
    by_cases h7 : b = 122
    · subst h7
      simp only [qun hb]
    · simp only [h7, if_false, qun hb]
theorem fR_L {h : qH} {hv : Nat → Int64} {hb : Nat → Bool} {kv : Nat → Int64} {kb : Nat → Bool} {kp a i : Nat} {v : Int64} (h1 : a ≠ 133) (h2 : a ≠ 135) : qpL (fR h hv hb kv kb kp) a i v = fR (qpL h a i v) hv hb kv kb kp := by
  unfold fR qpL
  dsimp only
  refine Prod.ext rfl (Prod.ext ?_ rfl)
  funext b
  dsimp only
  by_cases hb : b = a
  · subst hb
    rw [qus]
    simp only [h1, h2, if_false, qus]
  · rw [qun hb]
    simp only [qun hb]
/-- the reference's result rows, over a heap -/
def vR (h : qH) (vv : Nat → Int64) (vb : Nat → Bool) (rs : Nat) : qH := (fun a => if a = 138 then iB vb else if a = 122 then va_up (h.1 122) 28 (nI rs) else h.1 a, fun a => if a = 137 then vv else h.2.1 a, h.2.2)
theorem vR_vb {h : qH} {vv : Nat → Int64} {vb : Nat → Bool} {rs i : Nat} {v : Bool} : qpI (vR h vv vb rs) 138 i (b2i v) = vR h vv (va_up vb i v) rs := by
  unfold vR qpI
  dsimp only
  refine Prod.ext ?_ rfl
  funext a
  dsimp only
  by_cases ha : a = 138
  · subst ha
    simp only [qus]
    exact iB_up
  · rw [qun ha]
    simp only [ha, if_false]
theorem vR_rs {h : qH} {vv : Nat → Int64} {vb : Nat → Bool} {rs : Nat} {v : Nat} : qpI (vR h vv vb rs) 122 28 (nI v) = vR h vv vb v := by
  unfold vR qpI
  dsimp only
  refine Prod.ext ?_ rfl
  funext a
  dsimp only
  by_cases ha : a = 122
  · subst ha
    simp only [qus]
    exact qv_up
  · rw [qun ha]
    simp only [ha, if_false]
theorem vR_vv {h : qH} {vv : Nat → Int64} {vb : Nat → Bool} {rs i : Nat} {v : Int64} : qpL (vR h vv vb rs) 137 i v = vR h (va_up vv i v) vb rs := by
  unfold vR qpL
  dsimp only
  refine Prod.ext rfl (Prod.ext ?_ rfl)
  funext a
  dsimp only
  by_cases ha : a = 137
  · subst ha
    simp only [qus]
    rfl
  · rw [qun ha]
    simp only [ha, if_false]
set_option maxRecDepth 100000 in
set_option maxHeartbeats 4000000 in
theorem ct_QM_give {h : qH} (hR : h.2.2 122 = qRQM) (vv : Nat → Int64) (vb : Nat → Bool) (rs : Nat) (hv : Nat → Int64) (hb : Nat → Bool) (kv : Nat → Int64) (kb : Nat → Bool) (kp : Nat) (wk : Nat → Int64) (wn : Nat → Int32) (c : Nat) (hc : c < 4) (hrs : rs < 144) (x : Int64) (b : Bool) : qT mi_QM_give 0 0 0 [.ref 122, .int (nI c), .long x, .int (b2i b)] (eR (fR (vR h vv vb rs) hv hb kv kb kp) wk wn) NN (fun v1 h1 n1 => v1 = none ∧ h1 = eR (fR (vR h (va_up vv (4 * rs + c) (if b = true then 0 else x)) (va_up vb (4 * rs + c) b) rs) hv hb kv kb kp) wk wn ∧ n1 = NN) := by
  refine qT.of (lv0 := [_, _, _, _, _]) (by decide +kernel) (fun _ _ => Nat.le_of_ble_eq_true rfl) rfl ?_
  refine qx_aload_n d_QM_give_0 rfl rfl ?_
  refine qx_getR d_QM_give_1 fR_QM_54 rfl rfl (congrFun hR 30) ?_
  refine qx_iconstN (v := 4) d_QM_give_4 rfl ?_
  refine qx_aload_n d_QM_give_5 rfl rfl ?_
  refine qx_getI d_QM_give_6 fI_QM_207 rfl rfl (show _ = nI rs from rfl) ?_
  refine qx_imulN d_QM_give_9 ?_
  refine qx_iload_n d_QM_give_10 rfl rfl ?_
  refine qx_iaddN d_QM_give_11 ?_
  refine qx_iload d_QM_give_12 rfl ?_
  refine qx_if_eqB (t := 21) d_QM_give_14 rfl (fun c14 => ?_) (fun c14 => ?_)
  · refine qx_lload_n d_QM_give_21 rfl rfl ?_
    refine qx_last d_QM_give_22 rfl rfl rfl rfl (by omega) ?_
    refine qx_aload_n d_QM_give_23 rfl rfl ?_
    refine qx_getR d_QM_give_24 fR_QM_57 rfl rfl (congrFun hR 31) ?_
    refine qx_iconstN (v := 4) d_QM_give_27 rfl ?_
    refine qx_aload_n d_QM_give_28 rfl rfl ?_
    refine qx_getI d_QM_give_29 fI_QM_207 rfl rfl (show _ = nI rs from rfl) ?_
    refine qx_imulN d_QM_give_32 ?_
    refine qx_iload_n d_QM_give_33 rfl rfl ?_
    refine qx_iaddN d_QM_give_34 ?_
    refine qx_iload d_QM_give_35 rfl ?_
    refine qx_zast d_QM_give_37 rfl rfl rfl rfl (by omega) (b2i_nar b) ?_
    exact qx_ret d_QM_give_38 rfl (by omega) (by omega) (by rw [c14, eR_L (by decide), fR_L (by decide) (by decide), vR_vv, eR_I (by decide), fR_I (by decide) (by decide) (fun e => by cases e), vR_vb]; exact ⟨rfl, rfl, rfl⟩)
  · refine qx_lconst (v := 0) d_QM_give_17 rfl ?_
    refine qx_goto (t := 22) d_QM_give_18 rfl ?_
    refine qx_last d_QM_give_22 rfl rfl rfl rfl (by omega) ?_
    refine qx_aload_n d_QM_give_23 rfl rfl ?_
    refine qx_getR d_QM_give_24 fR_QM_57 rfl rfl (congrFun hR 31) ?_
    refine qx_iconstN (v := 4) d_QM_give_27 rfl ?_
    refine qx_aload_n d_QM_give_28 rfl rfl ?_
    refine qx_getI d_QM_give_29 fI_QM_207 rfl rfl (show _ = nI rs from rfl) ?_
    refine qx_imulN d_QM_give_32 ?_
    refine qx_iload_n d_QM_give_33 rfl rfl ?_
    refine qx_iaddN d_QM_give_34 ?_
    refine qx_iload d_QM_give_35 rfl ?_
    refine qx_zast d_QM_give_37 rfl rfl rfl rfl (by omega) (b2i_nar b) ?_
    exact qx_ret d_QM_give_38 rfl (by omega) (by omega) (by rw [c14, eR_L (by decide), fR_L (by decide) (by decide), vR_vv, eR_I (by decide), fR_I (by decide) (by decide) (fun e => by cases e), vR_vb]; exact ⟨rfl, rfl, rfl⟩)
/-- a kept row's cell -/
def kCell (kv : Nat → Int64) (kb : Nat → Bool) (k c : Nat) : Option Int64 := if kb (4 * k + c) = true then none else some (kv (4 * k + c))
def br4 {α : Type} (f : Nat → α) (g : Nat → α) (b : Nat) : Nat → α := va_up (va_up (va_up (va_up f 0 (g b)) 1 (g (b + 1))) 2 (g (b + 2))) 3 (g (b + 3))
theorem br4_at {α : Type} {f g : Nat → α} {b c : Nat} (h : c < 4) : br4 f g b c = g (b + c) := by
  have h : c = 0 ∨ c = 1 ∨ c = 2 ∨ c = 3 := by omega
  rcases h with rfl | rfl | rfl | rfl <;> rfl
/-- are two kept rows in one group? -/
def tog (gr : Option Nat) (kv : Nat → Int64) (kb : Nat → Bool) (a b : Nat) : Bool := match gr with
  | none => true
  | some g => decide (kCell kv kb a g = kCell kv kb b g)
theorem tog_s {g : Nat} {kv : Nat → Int64} {kb : Nat → Bool} {a b : Nat} : tog (some g) kv kb a b = ((kb (4 * a + g) == kb (4 * b + g)) && (kb (4 * a + g) || decide (kv (4 * a + g) = kv (4 * b + g)))) := by
  show decide (kCell kv kb a g = kCell kv kb b g) = _
  unfold kCell
  generalize kb (4 * a + g) = x
  generalize kb (4 * b + g) = y
  cases x <;> cases y <;> simp
set_option maxRecDepth 100000 in
set_option maxHeartbeats 4000000 in
theorem ct_QM_bringKept {h : qH} (hR : h.2.2 122 = qRQM) (hv : Nat → Int64) (hb : Nat → Bool) (kv : Nat → Int64) (kb : Nat → Bool) (kp : Nat) (wk : Nat → Int64) (wn : Nat → Int32) (k : Nat) (hk : k < 144) : qT mi_QM_bringKept 0 0 0 [.ref 122, .int (nI k)] (eR (fR h hv hb kv kb kp) wk wn) NN (fun v1 h1 n1 => v1 = none ∧ h1 = eR (fR h (br4 hv kv (4 * k)) (br4 hb kb (4 * k)) kv kb kp) wk wn ∧ n1 = NN) := by
  refine qT.of (lv0 := [_, _, _]) (by decide +kernel) (fun _ _ => Nat.le_of_ble_eq_true rfl) rfl ?_
  refine qx_iconstN (v := 0) d_QM_bringKept_0 rfl ?_
  refine qx_istore_n (lv1 := [_, _, _]) d_QM_bringKept_1 rfl (by decide) rfl ?_
  refine qx_iload_n d_QM_bringKept_2 rfl rfl ?_
  refine qx_iconstN (v := 4) d_QM_bringKept_3 rfl ?_
  refine qx_icmp_geN (t := 45) d_QM_bringKept_4 rfl (by omega) (by omega) (fun c4 => absurd c4 (by decide)) (fun c4 => ?_)
  refine qx_aload_n d_QM_bringKept_7 rfl rfl ?_
  refine qx_getR d_QM_bringKept_8 fR_QM_42 rfl rfl (congrFun hR 23) ?_
  refine qx_iload_n d_QM_bringKept_11 rfl rfl ?_
  refine qx_aload_n d_QM_bringKept_12 rfl rfl ?_
  refine qx_getR d_QM_bringKept_13 fR_QM_48 rfl rfl (congrFun hR 26) ?_
  refine qx_iconstN (v := 4) d_QM_bringKept_16 rfl ?_
  refine qx_iload_n d_QM_bringKept_17 rfl rfl ?_
  refine qx_imulN d_QM_bringKept_18 ?_
  refine qx_iload_n d_QM_bringKept_19 rfl rfl ?_
  refine qx_iaddN d_QM_bringKept_20 ?_
  refine qx_lald d_QM_bringKept_21 rfl rfl rfl rfl (by omega) (show _ = kv (4 * k + 0) from rfl) ?_
  refine qx_last d_QM_bringKept_22 rfl rfl rfl rfl (by omega) ?_
  refine qx_aload_n d_QM_bringKept_23 rfl rfl ?_
  refine qx_getR d_QM_bringKept_24 fR_QM_45 rfl rfl (congrFun hR 24) ?_
  refine qx_iload_n d_QM_bringKept_27 rfl rfl ?_
  refine qx_aload_n d_QM_bringKept_28 rfl rfl ?_
  refine qx_getR d_QM_bringKept_29 fR_QM_51 rfl rfl (congrFun hR 27) ?_
  refine qx_iconstN (v := 4) d_QM_bringKept_32 rfl ?_
  refine qx_iload_n d_QM_bringKept_33 rfl rfl ?_
  refine qx_imulN d_QM_bringKept_34 ?_
  refine qx_iload_n d_QM_bringKept_35 rfl rfl ?_
  refine qx_iaddN d_QM_bringKept_36 ?_
  refine qx_zald d_QM_bringKept_37 rfl rfl rfl rfl (by omega) (show _ = b2i (kb (4 * k + 0)) from rfl) ?_
  refine qx_zast d_QM_bringKept_38 rfl rfl rfl rfl (by omega) (b2i_nar _) ?_
  refine qx_iincN (w := 1) (lv1 := [_, _, _]) d_QM_bringKept_39 rfl rfl (by decide) rfl ?_
  refine qx_goto (t := 2) d_QM_bringKept_42 rfl ?_
  refine qx_iload_n d_QM_bringKept_2 rfl rfl ?_
  refine qx_iconstN (v := 4) d_QM_bringKept_3 rfl ?_
  refine qx_icmp_geN (t := 45) d_QM_bringKept_4 rfl (by omega) (by omega) (fun c4 => absurd c4 (by decide)) (fun c4 => ?_)
  refine qx_aload_n d_QM_bringKept_7 rfl rfl ?_
  refine qx_getR d_QM_bringKept_8 fR_QM_42 rfl rfl (congrFun hR 23) ?_
  refine qx_iload_n d_QM_bringKept_11 rfl rfl ?_
  refine qx_aload_n d_QM_bringKept_12 rfl rfl ?_
  refine qx_getR d_QM_bringKept_13 fR_QM_48 rfl rfl (congrFun hR 26) ?_
  refine qx_iconstN (v := 4) d_QM_bringKept_16 rfl ?_
  refine qx_iload_n d_QM_bringKept_17 rfl rfl ?_
  refine qx_imulN d_QM_bringKept_18 ?_
  refine qx_iload_n d_QM_bringKept_19 rfl rfl ?_
  refine qx_iaddN d_QM_bringKept_20 ?_
  refine qx_lald d_QM_bringKept_21 rfl rfl rfl rfl (by omega) (show _ = kv (4 * k + 1) from rfl) ?_
  refine qx_last d_QM_bringKept_22 rfl rfl rfl rfl (by omega) ?_
  refine qx_aload_n d_QM_bringKept_23 rfl rfl ?_
  refine qx_getR d_QM_bringKept_24 fR_QM_45 rfl rfl (congrFun hR 24) ?_
  refine qx_iload_n d_QM_bringKept_27 rfl rfl ?_
  refine qx_aload_n d_QM_bringKept_28 rfl rfl ?_
  refine qx_getR d_QM_bringKept_29 fR_QM_51 rfl rfl (congrFun hR 27) ?_
  refine qx_iconstN (v := 4) d_QM_bringKept_32 rfl ?_
  refine qx_iload_n d_QM_bringKept_33 rfl rfl ?_
  refine qx_imulN d_QM_bringKept_34 ?_
  refine qx_iload_n d_QM_bringKept_35 rfl rfl ?_
  refine qx_iaddN d_QM_bringKept_36 ?_
  refine qx_zald d_QM_bringKept_37 rfl rfl rfl rfl (by omega) (show _ = b2i (kb (4 * k + 1)) from rfl) ?_
  refine qx_zast d_QM_bringKept_38 rfl rfl rfl rfl (by omega) (b2i_nar _) ?_
  refine qx_iincN (w := 1) (lv1 := [_, _, _]) d_QM_bringKept_39 rfl rfl (by decide) rfl ?_
  refine qx_goto (t := 2) d_QM_bringKept_42 rfl ?_
  refine qx_iload_n d_QM_bringKept_2 rfl rfl ?_
  refine qx_iconstN (v := 4) d_QM_bringKept_3 rfl ?_
  refine qx_icmp_geN (t := 45) d_QM_bringKept_4 rfl (by omega) (by omega) (fun c4 => absurd c4 (by decide)) (fun c4 => ?_)
  refine qx_aload_n d_QM_bringKept_7 rfl rfl ?_
  refine qx_getR d_QM_bringKept_8 fR_QM_42 rfl rfl (congrFun hR 23) ?_
  refine qx_iload_n d_QM_bringKept_11 rfl rfl ?_
  refine qx_aload_n d_QM_bringKept_12 rfl rfl ?_
  refine qx_getR d_QM_bringKept_13 fR_QM_48 rfl rfl (congrFun hR 26) ?_
  refine qx_iconstN (v := 4) d_QM_bringKept_16 rfl ?_
  refine qx_iload_n d_QM_bringKept_17 rfl rfl ?_
  refine qx_imulN d_QM_bringKept_18 ?_
  refine qx_iload_n d_QM_bringKept_19 rfl rfl ?_
  refine qx_iaddN d_QM_bringKept_20 ?_
  refine qx_lald d_QM_bringKept_21 rfl rfl rfl rfl (by omega) (show _ = kv (4 * k + 2) from rfl) ?_
  refine qx_last d_QM_bringKept_22 rfl rfl rfl rfl (by omega) ?_
  refine qx_aload_n d_QM_bringKept_23 rfl rfl ?_
  refine qx_getR d_QM_bringKept_24 fR_QM_45 rfl rfl (congrFun hR 24) ?_
  refine qx_iload_n d_QM_bringKept_27 rfl rfl ?_
  refine qx_aload_n d_QM_bringKept_28 rfl rfl ?_
  refine qx_getR d_QM_bringKept_29 fR_QM_51 rfl rfl (congrFun hR 27) ?_
  refine qx_iconstN (v := 4) d_QM_bringKept_32 rfl ?_
  refine qx_iload_n d_QM_bringKept_33 rfl rfl ?_
  refine qx_imulN d_QM_bringKept_34 ?_
  refine qx_iload_n d_QM_bringKept_35 rfl rfl ?_
  refine qx_iaddN d_QM_bringKept_36 ?_
  refine qx_zald d_QM_bringKept_37 rfl rfl rfl rfl (by omega) (show _ = b2i (kb (4 * k + 2)) from rfl) ?_
  refine qx_zast d_QM_bringKept_38 rfl rfl rfl rfl (by omega) (b2i_nar _) ?_
  refine qx_iincN (w := 1) (lv1 := [_, _, _]) d_QM_bringKept_39 rfl rfl (by decide) rfl ?_
  refine qx_goto (t := 2) d_QM_bringKept_42 rfl ?_
  refine qx_iload_n d_QM_bringKept_2 rfl rfl ?_
  refine qx_iconstN (v := 4) d_QM_bringKept_3 rfl ?_
  refine qx_icmp_geN (t := 45) d_QM_bringKept_4 rfl (by omega) (by omega) (fun c4 => absurd c4 (by decide)) (fun c4 => ?_)
  refine qx_aload_n d_QM_bringKept_7 rfl rfl ?_
  refine qx_getR d_QM_bringKept_8 fR_QM_42 rfl rfl (congrFun hR 23) ?_
  refine qx_iload_n d_QM_bringKept_11 rfl rfl ?_
  refine qx_aload_n d_QM_bringKept_12 rfl rfl ?_
  refine qx_getR d_QM_bringKept_13 fR_QM_48 rfl rfl (congrFun hR 26) ?_
  refine qx_iconstN (v := 4) d_QM_bringKept_16 rfl ?_
  refine qx_iload_n d_QM_bringKept_17 rfl rfl ?_
  refine qx_imulN d_QM_bringKept_18 ?_
  refine qx_iload_n d_QM_bringKept_19 rfl rfl ?_
  refine qx_iaddN d_QM_bringKept_20 ?_
  refine qx_lald d_QM_bringKept_21 rfl rfl rfl rfl (by omega) (show _ = kv (4 * k + 3) from rfl) ?_
  refine qx_last d_QM_bringKept_22 rfl rfl rfl rfl (by omega) ?_
  refine qx_aload_n d_QM_bringKept_23 rfl rfl ?_
  refine qx_getR d_QM_bringKept_24 fR_QM_45 rfl rfl (congrFun hR 24) ?_
  refine qx_iload_n d_QM_bringKept_27 rfl rfl ?_
  refine qx_aload_n d_QM_bringKept_28 rfl rfl ?_
  refine qx_getR d_QM_bringKept_29 fR_QM_51 rfl rfl (congrFun hR 27) ?_
  refine qx_iconstN (v := 4) d_QM_bringKept_32 rfl ?_
  refine qx_iload_n d_QM_bringKept_33 rfl rfl ?_
  refine qx_imulN d_QM_bringKept_34 ?_
  refine qx_iload_n d_QM_bringKept_35 rfl rfl ?_
  refine qx_iaddN d_QM_bringKept_36 ?_
  refine qx_zald d_QM_bringKept_37 rfl rfl rfl rfl (by omega) (show _ = b2i (kb (4 * k + 3)) from rfl) ?_
  refine qx_zast d_QM_bringKept_38 rfl rfl rfl rfl (by omega) (b2i_nar _) ?_
  refine qx_iincN (w := 1) (lv1 := [_, _, _]) d_QM_bringKept_39 rfl rfl (by decide) rfl ?_
  refine qx_goto (t := 2) d_QM_bringKept_42 rfl ?_
  refine qx_iload_n d_QM_bringKept_2 rfl rfl ?_
  refine qx_iconstN (v := 4) d_QM_bringKept_3 rfl ?_
  refine qx_icmp_geN (t := 45) d_QM_bringKept_4 rfl (by omega) (by omega) (fun c4 => ?_) (fun c4 => absurd c4 (by decide))
  exact qx_ret d_QM_bringKept_45 rfl (by omega) (by omega) (by rw [eR_L (by decide), fR_hv, eR_I (by decide), fR_hb, eR_L (by decide), fR_hv, eR_I (by decide), fR_hb, eR_L (by decide), fR_hv, eR_I (by decide), fR_hb, eR_L (by decide), fR_hv, eR_I (by decide), fR_hb]; exact ⟨rfl, rfl, rfl⟩)
def grI (gr : Option Nat) : Int32 := match gr with
  | none => -1
  | some g => nI g
set_option maxRecDepth 100000 in
set_option maxHeartbeats 4000000 in
theorem ct_QM_together_n {h : qH} (hR : h.2.2 122 = qRQM) (hv : Nat → Int64) (hb : Nat → Bool) (kv : Nat → Int64) (kb : Nat → Bool) (kp : Nat) (wk : Nat → Int64) (wn : Nat → Int32) (hgr : h.1 122 9 = -1) (a b : Nat) : qT mi_QM_together 0 0 0 [.ref 122, .int (nI a), .int (nI b)] (eR (fR h hv hb kv kb kp) wk wn) NN (fun v1 h1 n1 => v1 = some (.int (b2i (tog none kv kb a b))) ∧ h1 = (eR (fR h hv hb kv kb kp) wk wn) ∧ n1 = NN) := by
  refine qT.of (lv0 := [_, _, _, _, _]) (by decide +kernel) (fun _ _ => Nat.le_of_ble_eq_true rfl) rfl ?_
  refine qx_aload_n d_QM_together_0 rfl rfl ?_
  refine qx_getI d_QM_together_1 fI_QM_126 rfl rfl hgr ?_
  refine qx_if_ge (t := 9) d_QM_together_4 rfl (fun c4 => absurd c4 (by decide)) (fun c4 => ?_)
  refine qx_iconstN (v := 1) d_QM_together_7 rfl ?_
  exact qx_iret d_QM_together_8 rfl rfl (by omega) (by omega) ⟨rfl, rfl, rfl⟩
set_option maxRecDepth 100000 in
set_option maxHeartbeats 4000000 in
theorem ct_QM_together_s {h : qH} (hR : h.2.2 122 = qRQM) (hv : Nat → Int64) (hb : Nat → Bool) (kv : Nat → Int64) (kb : Nat → Bool) (kp : Nat) (wk : Nat → Int64) (wn : Nat → Int32) (g : Nat) (hg4 : g < 4) (hgr : h.1 122 9 = nI g) (a b : Nat) (ha : a < 144) (hb4 : b < 144) : qT mi_QM_together 0 0 0 [.ref 122, .int (nI a), .int (nI b)] (eR (fR h hv hb kv kb kp) wk wn) NN (fun v1 h1 n1 => v1 = some (.int (b2i (tog (some g) kv kb a b))) ∧ h1 = (eR (fR h hv hb kv kb kp) wk wn) ∧ n1 = NN) := by
  refine qT.of (lv0 := [_, _, _, _, _]) (by decide +kernel) (fun _ _ => Nat.le_of_ble_eq_true rfl) rfl ?_
  refine qx_aload_n d_QM_together_0 rfl rfl ?_
  refine qx_getI d_QM_together_1 fI_QM_126 rfl rfl hgr ?_
  refine qx_if_geN (t := 9) d_QM_together_4 rfl (by omega) ?_
  refine qx_iconstN (v := 4) d_QM_together_9 rfl ?_
  refine qx_iload_n d_QM_together_10 rfl rfl ?_
  refine qx_imulN d_QM_together_11 ?_
  refine qx_aload_n d_QM_together_12 rfl rfl ?_
  refine qx_getI d_QM_together_13 fI_QM_126 rfl rfl hgr ?_
  refine qx_iaddN d_QM_together_16 ?_
  refine qx_istore_n (lv1 := [_, _, _, _, _]) d_QM_together_17 rfl (by decide) rfl ?_
  refine qx_iconstN (v := 4) d_QM_together_18 rfl ?_
  refine qx_iload_n d_QM_together_19 rfl rfl ?_
  refine qx_imulN d_QM_together_20 ?_
  refine qx_aload_n d_QM_together_21 rfl rfl ?_
  refine qx_getI d_QM_together_22 fI_QM_126 rfl rfl hgr ?_
  refine qx_iaddN d_QM_together_25 ?_
  refine qx_istore (lv1 := [_, _, _, _, _]) d_QM_together_26 (by decide) rfl ?_
  refine qx_aload_n d_QM_together_28 rfl rfl ?_
  refine qx_getR d_QM_together_29 fR_QM_51 rfl rfl (congrFun hR 27) ?_
  refine qx_iload_n d_QM_together_32 rfl rfl ?_
  refine qx_zald d_QM_together_33 rfl rfl rfl rfl (by omega) (show _ = b2i (kb (4 * a + g)) from rfl) ?_
  refine qx_aload_n d_QM_together_34 rfl rfl ?_
  refine qx_getR d_QM_together_35 fR_QM_51 rfl rfl (congrFun hR 27) ?_
  refine qx_iload d_QM_together_38 rfl ?_
  refine qx_zald d_QM_together_40 rfl rfl rfl rfl (by omega) (show _ = b2i (kb (4 * b + g)) from rfl) ?_
  refine qx_icmp_neE (t := 74) d_QM_together_41 rfl (fun c41 => ?_) (fun c41 => ?_)
  · refine qx_iconstN (v := 0) d_QM_together_74 rfl ?_
    exact qx_iret d_QM_together_75 rfl rfl (by omega) (by omega) (by rw [tog_s]; first | (rw [q_beq_f c41]; exact ⟨rfl, rfl, rfl⟩) | (rw [q_beq_t c41, c50]; exact ⟨rfl, rfl, rfl⟩) | (rw [q_beq_t c41, c50, decide_eq_true c67]; exact ⟨rfl, rfl, rfl⟩) | (rw [q_beq_t c41, c50, decide_eq_false c67]; exact ⟨rfl, rfl, rfl⟩))
  · refine qx_aload_n d_QM_together_44 rfl rfl ?_
    refine qx_getR d_QM_together_45 fR_QM_51 rfl rfl (congrFun hR 27) ?_
    refine qx_iload_n d_QM_together_48 rfl rfl ?_
    refine qx_zald d_QM_together_49 rfl rfl rfl rfl (by omega) (show _ = b2i (kb (4 * a + g)) from rfl) ?_
    refine qx_if_neB (t := 70) d_QM_together_50 rfl (fun c50 => ?_) (fun c50 => ?_)
    · refine qx_iconstN (v := 1) d_QM_together_70 rfl ?_
      refine qx_goto (t := 75) d_QM_together_71 rfl ?_
      exact qx_iret d_QM_together_75 rfl rfl (by omega) (by omega) (by rw [tog_s]; first | (rw [q_beq_f c41]; exact ⟨rfl, rfl, rfl⟩) | (rw [q_beq_t c41, c50]; exact ⟨rfl, rfl, rfl⟩) | (rw [q_beq_t c41, c50, decide_eq_true c67]; exact ⟨rfl, rfl, rfl⟩) | (rw [q_beq_t c41, c50, decide_eq_false c67]; exact ⟨rfl, rfl, rfl⟩))
    · refine qx_aload_n d_QM_together_53 rfl rfl ?_
      refine qx_getR d_QM_together_54 fR_QM_48 rfl rfl (congrFun hR 26) ?_
      refine qx_iload_n d_QM_together_57 rfl rfl ?_
      refine qx_lald d_QM_together_58 rfl rfl rfl rfl (by omega) (show _ = kv (4 * a + g) from rfl) ?_
      refine qx_aload_n d_QM_together_59 rfl rfl ?_
      refine qx_getR d_QM_together_60 fR_QM_48 rfl rfl (congrFun hR 26) ?_
      refine qx_iload d_QM_together_63 rfl ?_
      refine qx_lald d_QM_together_65 rfl rfl rfl rfl (by omega) (show _ = kv (4 * b + g) from rfl) ?_
      refine qx_lcmp d_QM_together_66 ?_
      refine qx_if_neC (t := 74) d_QM_together_67 rfl (fun c67 => ?_) (fun c67 => ?_)
      · refine qx_iconstN (v := 0) d_QM_together_74 rfl ?_
        exact qx_iret d_QM_together_75 rfl rfl (by omega) (by omega) (by rw [tog_s]; first | (rw [q_beq_f c41]; exact ⟨rfl, rfl, rfl⟩) | (rw [q_beq_t c41, c50]; exact ⟨rfl, rfl, rfl⟩) | (rw [q_beq_t c41, c50, decide_eq_true c67]; exact ⟨rfl, rfl, rfl⟩) | (rw [q_beq_t c41, c50, decide_eq_false c67]; exact ⟨rfl, rfl, rfl⟩))
      · refine qx_iconstN (v := 1) d_QM_together_70 rfl ?_
        refine qx_goto (t := 75) d_QM_together_71 rfl ?_
        exact qx_iret d_QM_together_75 rfl rfl (by omega) (by omega) (by rw [tog_s]; first | (rw [q_beq_f c41]; exact ⟨rfl, rfl, rfl⟩) | (rw [q_beq_t c41, c50]; exact ⟨rfl, rfl, rfl⟩) | (rw [q_beq_t c41, c50, decide_eq_true c67]; exact ⟨rfl, rfl, rfl⟩) | (rw [q_beq_t c41, c50, decide_eq_false c67]; exact ⟨rfl, rfl, rfl⟩))
set_option maxRecDepth 100000 in
set_option maxHeartbeats 4000000 in
theorem ct_QM_together {h : qH} (hR : h.2.2 122 = qRQM) (hv : Nat → Int64) (hb : Nat → Bool) (kv : Nat → Int64) (kb : Nat → Bool) (kp : Nat) (wk : Nat → Int64) (wn : Nat → Int32) (gr : Option Nat) (hgr4 : ∀ g, gr = some g → g < 4) (hgr : h.1 122 9 = grI gr) (a b : Nat) (ha : a < 144) (hb4 : b < 144) : qT mi_QM_together 0 0 0 [.ref 122, .int (nI a), .int (nI b)] (eR (fR h hv hb kv kb kp) wk wn) NN (fun v1 h1 n1 => v1 = some (.int (b2i (tog gr kv kb a b))) ∧ h1 = (eR (fR h hv hb kv kb kp) wk wn) ∧ n1 = NN) := by
  cases gr with
  | none => exact ct_QM_together_n hR hv hb kv kb kp wk wn hgr a b
  | some g => exact ct_QM_together_s hR hv hb kv kb kp wk wn g (hgr4 g rfl) hgr a b ha hb4
def fog (tg : Nat → Nat → Bool) (k : Nat) : Nat → Bool
  | 0 => true
  | i + 1 => fog tg k i && !tg i k
theorem fog_mono (tg : Nat → Nat → Bool) (k : Nat) {a : Nat} (h : fog tg k a = false) : ∀ m, fog tg k (a + m) = false
  | 0 => h
  | m + 1 => by
    show (fog tg k (a + m) && _) = false
    rw [fog_mono tg k h m]
    rfl
set_option maxRecDepth 100000 in
set_option maxHeartbeats 4000000 in
theorem ct_QM_firstOfGroup {h : qH} (hR : h.2.2 122 = qRQM) (hv : Nat → Int64) (hb : Nat → Bool) (kv : Nat → Int64) (kb : Nat → Bool) (kp : Nat) (wk : Nat → Int64) (wn : Nat → Int32) (gr : Option Nat) (hgr4 : ∀ g, gr = some g → g < 4) (hgr : h.1 122 9 = grI gr) (k : Nat) (hk : k < 144) : qT mi_QM_firstOfGroup 1 0 0 [.ref 122, .int (nI k)] (eR (fR h hv hb kv kb kp) wk wn) NN (fun v1 h1 n1 => v1 = some (.int (b2i (fog (tog gr kv kb) k k))) ∧ h1 = (eR (fR h hv hb kv kb kp) wk wn) ∧ n1 = NN) := by
  refine qT.of (lv0 := [_, _, _, _]) (by decide +kernel) (fun _ _ => Nat.le_of_ble_eq_true rfl) rfl ?_
  have key : ∀ (m i : Nat), i + m = k → qX mi_QM_firstOfGroup 1 none 0 0 4 [.ref 122, .int (nI k), .int (b2i (fog (tog gr kv kb) k i)), .int (nI i)] [] (eR (fR h hv hb kv kb kp) wk wn) NN 0 0 (fun v1 h1 n1 => v1 = some (.int (b2i (fog (tog gr kv kb) k k))) ∧ h1 = (eR (fR h hv hb kv kb kp) wk wn) ∧ n1 = NN) := by
    intro m
    induction m with
    | zero =>
      intro i hi
      refine qx_iload_n d_QM_firstOfGroup_4 rfl rfl ?_
      refine qx_iload_n d_QM_firstOfGroup_5 rfl rfl ?_
      refine qx_icmp_geN (t := 34) d_QM_firstOfGroup_6 rfl (by omega) (by omega) (fun c6 => ?_) (fun c6 => absurd c6 (by omega))
      refine qx_iload_n d_QM_firstOfGroup_34 rfl rfl ?_
      exact qx_iret d_QM_firstOfGroup_35 rfl (b2i_nar _) (by omega) (by omega) ⟨by rw [show i = k by omega], rfl, rfl⟩
    | succ m ih =>
      intro i hi
      refine qx_iload_n d_QM_firstOfGroup_4 rfl rfl ?_
      refine qx_iload_n d_QM_firstOfGroup_5 rfl rfl ?_
      refine qx_icmp_geN (t := 34) d_QM_firstOfGroup_6 rfl (by omega) (by omega) (fun c6 => absurd c6 (by omega)) (fun c6 => ?_)
      refine qx_iload_n d_QM_firstOfGroup_9 rfl rfl ?_
      refine qx_if_eqB (t := 34) d_QM_firstOfGroup_10 rfl (fun c10 => ?_) (fun c10 => ?_)
      · refine qx_iload_n d_QM_firstOfGroup_34 rfl rfl ?_
        exact qx_iret d_QM_firstOfGroup_35 rfl (b2i_nar _) (by omega) (by omega) (by refine ⟨?_, rfl, rfl⟩; have q := fog_mono (tog gr kv kb) k c10 (m + 1); rw [show i + (m + 1) = k by omega] at q; rw [c10, q])
      · refine qx_aload_n d_QM_firstOfGroup_13 rfl rfl ?_
        refine qx_iload_n d_QM_firstOfGroup_14 rfl rfl ?_
        refine qx_iload_n d_QM_firstOfGroup_15 rfl rfl ?_
        refine qx_callV (As := [_, _]) (rest := _) d_QM_firstOfGroup_16 lk_QM_210 y_QM_together v_QM_together rfl rfl rfl (by decide) rfl rfl rfl rfl (by decide) (by decide) (ct_QM_together hR hv hb kv kb kp wk wn gr hgr4 hgr i k (by omega) (by omega)) ?_
        rintro _ _ _ ⟨rfl, rfl, rfl⟩
        refine qx_if_neB (t := 26) d_QM_firstOfGroup_19 rfl (fun c19 => ?_) (fun c19 => ?_)
        · refine qx_iconst (v := b2i false) d_QM_firstOfGroup_26 rfl ?_
          refine qx_istore_n (lv1 := [_, _, _, _]) d_QM_firstOfGroup_27 rfl (by decide) rfl ?_
          refine qx_iincN (w := 1) (lv1 := [_, _, _, _]) d_QM_firstOfGroup_28 rfl rfl (by decide) rfl ?_
          refine qx_goto (t := 4) d_QM_firstOfGroup_31 rfl ?_
          have k2 := ih (i + 1) (by omega)
          have hs : fog (tog gr kv kb) k (i + 1) = (fog (tog gr kv kb) k i && !(tog gr kv kb) i k) := rfl
          rw [hs, c10, c19] at k2
          exact k2
        · refine qx_iconst (v := b2i true) d_QM_firstOfGroup_22 rfl ?_
          refine qx_goto (t := 27) d_QM_firstOfGroup_23 rfl ?_
          refine qx_istore_n (lv1 := [_, _, _, _]) d_QM_firstOfGroup_27 rfl (by decide) rfl ?_
          refine qx_iincN (w := 1) (lv1 := [_, _, _, _]) d_QM_firstOfGroup_28 rfl rfl (by decide) rfl ?_
          refine qx_goto (t := 4) d_QM_firstOfGroup_31 rfl ?_
          have k2 := ih (i + 1) (by omega)
          have hs : fog (tog gr kv kb) k (i + 1) = (fog (tog gr kv kb) k i && !(tog gr kv kb) i k) := rfl
          rw [hs, c10, c19] at k2
          exact k2
  refine qx_iconst (v := b2i true) d_QM_firstOfGroup_0 rfl ?_
  refine qx_istore_n (lv1 := [_, _, _, _]) d_QM_firstOfGroup_1 rfl (by decide) rfl ?_
  refine qx_iconstN (v := 0) d_QM_firstOfGroup_2 rfl ?_
  refine qx_istore_n (lv1 := [_, _, _, _]) d_QM_firstOfGroup_3 rfl (by decide) rfl ?_
  exact key k 0 (by omega)
