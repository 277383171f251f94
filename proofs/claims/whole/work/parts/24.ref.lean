theorem xE_ty {m : Nat} {row : Nat → Option Int64} : ∀ (E : List xP) (st : List xV) (ts : List Bool), xT m (st.map (fun v => v.1)) E = some ts → (∀ v ∈ st, xTr v) → (xE row st E).map (fun v => v.1) = ts ∧ ∀ v ∈ xE row st E, xTr v
  | [], st, ts, h, ht => ⟨Option.some.inj h, ht⟩
  | p :: E, st, ts, h, ht => by
    have h : (xT1 m (st.map (fun v => v.1)) p).bind (fun ts => xT m ts E) = some ts := h
    cases hx : xT1 m (st.map (fun v => v.1)) p with
    | none => rw [hx] at h; cases h
    | some ts1 =>
      rw [hx] at h
      have h : xT m ts1 E = some ts := h
      exact xE_ty E (xS row st p) ts (by rw [xS_ty hx]; exact h) (xS_tr hx ht)
/-- is the condition true of the row? -/
def xTru (row : Nat → Option Int64) (E : List xP) : Bool := decide ((xE row [] E).map (fun v => v.2) = [some 1])
/-- what it comes to -/
def xVal (row : Nat → Option Int64) (E : List xP) : Option Int64 := ((xE row [] E).map (fun v => v.2)).headD none
theorem xE_one {m : Nat} {row : Nat → Option Int64} {E : List xP} {t : Bool} (h : xT m [] E = some [t]) : xE row [] E = [(t, xVal row E)] ∧ xTr (t, xVal row E) := by
  obtain ⟨h1, h2⟩ := xE_ty (row := row) E [] [t] h (fun v hv => by cases hv)
  unfold xVal
  cases hx : xE row [] E with
  | nil => rw [hx] at h1; cases h1
  | cons v l =>
    rw [hx] at h1 h2
    cases l with
    | nil =>
      obtain ⟨a, b⟩ := v
      simp at h1
      subst h1
      exact ⟨rfl, h2 _ List.mem_cons_self⟩
    | cons w l => simp at h1
theorem xTru_of {m : Nat} {row : Nat → Option Int64} {E : List xP} {t : Bool} (h : xT m [] E = some [t]) : xTru row E = decide (xVal row E = some 1) := by
  unfold xTru
  rw [(xE_one (row := row) h).1]
  simp
def iB (f : Nat → Bool) : Nat → Int32 := fun i => b2i (f i)
theorem iB_up {f : Nat → Bool} {k : Nat} {v : Bool} : va_up (iB f) k (b2i v) = iB (va_up f k v) := by
  funext j
  unfold iB
  by_cases h : j = k
  · subst h; rw [qus, qus]
  · rw [qun h, qun h]
/-- the reference's row at hand and kept rows, over a heap -/
def fR (h : qH) (hv : Nat → Int64) (hb : Nat → Bool) (kv : Nat → Int64) (kb : Nat → Bool) (kp : Nat) : qH := (fun a => if a = 134 then iB hb else if a = 136 then iB kb else if a = 122 then va_up (h.1 122) 25 (nI kp) else h.1 a, fun a => if a = 133 then hv else if a = 135 then kv else h.2.1 a, h.2.2)
theorem eR_I {h : qH} {wk : Nat → Int64} {wn : Nat → Int32} {a i : Nat} {v : Int32} (ha : a ≠ 132) : qpI (eR h wk wn) a i v = eR (qpI h a i v) wk wn := by
  unfold eR qpI
  dsimp only
  refine Prod.ext ?_ rfl
  funext b
  dsimp only
  by_cases h1 : b = a
  · subst h1
    rw [qus, qun ha, qun ha, qus]
  · rw [qun h1]
    by_cases h2 : b = 132
    · subst h2; rw [qus, qus]
    · rw [qun h2, qun h2, qun h1]
theorem eR_L {h : qH} {wk : Nat → Int64} {wn : Nat → Int32} {a i : Nat} {v : Int64} (ha : a ≠ 131) : qpL (eR h wk wn) a i v = eR (qpL h a i v) wk wn := by
  unfold eR qpL
  dsimp only
  refine Prod.ext rfl (Prod.ext ?_ rfl)
  funext b
  dsimp only
  by_cases h1 : b = a
  · subst h1
    rw [qus, qun ha, qun ha, qus]
  · rw [qun h1]
    by_cases h2 : b = 131
    · subst h2; rw [qus, qus]
    · rw [qun h2, qun h2, qun h1]
theorem fR_hb {h : qH} {hv : Nat → Int64} {hb : Nat → Bool} {kv : Nat → Int64} {kb : Nat → Bool} {kp i : Nat} {v : Bool} : qpI (fR h hv hb kv kb kp) 134 i (b2i v) = fR h hv (va_up hb i v) kv kb kp := by
  unfold fR qpI
  dsimp only
  refine Prod.ext ?_ rfl
  funext a
  dsimp only
  by_cases ha : a = 134
  · subst ha
    simp only [qus]
    exact iB_up
  · rw [qun ha]
    simp only [ha, if_false]
theorem fR_kb {h : qH} {hv : Nat → Int64} {hb : Nat → Bool} {kv : Nat → Int64} {kb : Nat → Bool} {kp i : Nat} {v : Bool} : qpI (fR h hv hb kv kb kp) 136 i (b2i v) = fR h hv hb kv (va_up kb i v) kp := by
  unfold fR qpI
  dsimp only
  refine Prod.ext ?_ rfl
  funext a
  dsimp only
  by_cases ha : a = 136
  · subst ha
    simp only [qus]
    exact iB_up
  · rw [qun ha]
    simp only [ha, if_false]
theorem fR_kp {h : qH} {hv : Nat → Int64} {hb : Nat → Bool} {kv : Nat → Int64} {kb : Nat → Bool} {kp : Nat} {v : Nat} : qpI (fR h hv hb kv kb kp) 122 25 (nI v) = fR h hv hb kv kb v := by
  unfold fR qpI
  dsimp only
  refine Prod.ext ?_ rfl
  funext a
  dsimp only
  by_cases ha : a = 122
  · subst ha
    simp only [qus]
    exact qv_up
  · rw [qun ha]
    simp only [ha, if_false]
theorem fR_hv {h : qH} {hv : Nat → Int64} {hb : Nat → Bool} {kv : Nat → Int64} {kb : Nat → Bool} {kp i : Nat} {v : Int64} : qpL (fR h hv hb kv kb kp) 133 i v = fR h (va_up hv i v) hb kv kb kp := by
  unfold fR qpL
  dsimp only
  refine Prod.ext rfl (Prod.ext ?_ rfl)
  funext a
  dsimp only
  by_cases ha : a = 133
  · subst ha
    simp only [qus]
    rfl
  · rw [qun ha]
    simp only [ha, if_false]
theorem fR_kv {h : qH} {hv : Nat → Int64} {hb : Nat → Bool} {kv : Nat → Int64} {kb : Nat → Bool} {kp i : Nat} {v : Int64} : qpL (fR h hv hb kv kb kp) 135 i v = fR h hv hb (va_up kv i v) kb kp := by
  unfold fR qpL
  dsimp only
  refine Prod.ext rfl (Prod.ext ?_ rfl)
  funext a
  dsimp only
  by_cases ha : a = 135
  · subst ha
    simp only [qus]
    rfl
  · rw [qun ha]
    simp only [ha, if_false]
set_option maxRecDepth 100000 in
set_option maxHeartbeats 4000000 in
theorem ct_QM_isTrue {h : qH} (hR : h.2.2 122 = qRQM) (hv : Nat → Int64) (hb : Nat → Bool) (kv : Nat → Int64) (kb : Nat → Bool) (kp : Nat) (wk : Nat → Int64) (wn : Nat → Int32) (nc : Nat) (hnc6 : nc ≤ 6) (hnc : h.1 122 14 = nI nc) (CE : Nat → List xP) (hce : ∀ c, c < nc → (CE c).length ≤ 24 ∧ h.1 128 (8 + c) = nI (CE c).length ∧ rExp (h.1 126) (h.2.1 127) (24 * (8 + c)) (CE c) ∧ xT 8 [] (CE c) = some [true]) (row : Nat → Option Int64) (hrow : ∀ c, c < 4 → row c = if hb c = true then none else some (hv c)) (c : Nat) (hc : c < nc) : qT mi_QM_isTrue 3 0 0 [.ref 122, .int (nI c)] (eR (fR h hv hb kv kb kp) wk wn) NN (fun v1 h1 n1 => v1 = some (.int (b2i (xTru row (CE c)))) ∧ (∃ wk1 wn1, h1 = eR (fR h hv hb kv kb kp) wk1 wn1) ∧ n1 = NN) := by
  refine qT.of (lv0 := [_, _]) (by decide +kernel) (fun _ _ => Nat.le_of_ble_eq_true rfl) rfl ?_
  refine qx_aload_n d_QM_isTrue_0 rfl rfl ?_
  refine qx_bipushN (v := 8) d_QM_isTrue_1 rfl ?_
  refine qx_iload_n d_QM_isTrue_3 rfl rfl ?_
  refine qx_iaddN d_QM_isTrue_4 ?_
  refine qx_callV (As := [_]) (rest := _) d_QM_isTrue_5 lk_QM_181 y_QM_evaluate v_QM_evaluate rfl rfl rfl (by decide) rfl rfl rfl rfl (by decide) (by decide) (ct_QM_evaluate (h := fR h hv hb kv kb kp) hR wk wn (8 + c) (by omega) (CE c) (hce c hc).1 (hce c hc).2.1 (hce c hc).2.2.1 8 (by omega) [true] (hce c hc).2.2.2 row hb (fun c hc => ⟨rfl, hrow c hc⟩)) ?_
  rintro _ _ _ ⟨rfl, ⟨wk1, wn1, rfl, hw⟩, rfl⟩
  obtain ⟨q1, q2⟩ := xE_one (row := row) (hce c hc).2.2.2
  rw [q1] at hw
  rw [xTru_of (row := row) (hce c hc).2.2.2]
  have hw0 : wk1 0 = rvV (true, xVal row (CE c)) := hw.1
  refine qx_aload_n d_QM_isTrue_8 rfl rfl ?_
  refine qx_getR d_QM_isTrue_9 fR_QM_36 rfl rfl (congrFun hR 21) ?_
  refine qx_iconstN (v := 0) d_QM_isTrue_12 rfl ?_
  refine qx_lald d_QM_isTrue_13 rfl rfl rfl rfl (by omega) hw0 ?_
  refine qx_ldc2 d_QM_isTrue_14 kl_QM_175 ?_
  refine qx_lcmp d_QM_isTrue_17 ?_
  refine qx_if_neC (t := 25) d_QM_isTrue_18 rfl (fun c18 => ?_) (fun c18 => ?_)
  · refine qx_iconst (v := b2i false) d_QM_isTrue_25 rfl ?_
    exact qx_iret d_QM_isTrue_26 rfl rfl (by omega) (by omega) (by refine ⟨?_, ⟨wk1, wn1, rfl⟩, rfl⟩; rcases q2 rfl with e | e | e <;> (dsimp only at e; rw [e] at c18 ⊢; first | rfl | exact absurd c18 (by decide) | exact absurd rfl c18))
  · refine qx_iconst (v := b2i true) d_QM_isTrue_21 rfl ?_
    refine qx_goto (t := 26) d_QM_isTrue_22 rfl ?_
    exact qx_iret d_QM_isTrue_26 rfl rfl (by omega) (by omega) (by refine ⟨?_, ⟨wk1, wn1, rfl⟩, rfl⟩; rcases q2 rfl with e | e | e <;> (dsimp only at e; rw [e] at c18 ⊢; first | rfl | exact absurd c18 (by decide) | exact absurd rfl c18))
def allT (row : Nat → Option Int64) (CE : Nat → List xP) : Nat → Bool
  | 0 => true
  | c + 1 => allT row CE c && xTru row (CE c)
theorem allT_mono (row : Nat → Option Int64) (CE : Nat → List xP) {a : Nat} (h : allT row CE a = false) : ∀ m, allT row CE (a + m) = false
  | 0 => h
  | m + 1 => by
    show (allT row CE (a + m) && _) = false
    rw [allT_mono row CE h m]
    rfl
set_option maxRecDepth 100000 in
set_option maxHeartbeats 4000000 in
theorem ct_QM_passesAll {h : qH} (hR : h.2.2 122 = qRQM) (hv : Nat → Int64) (hb : Nat → Bool) (kv : Nat → Int64) (kb : Nat → Bool) (kp : Nat) (wk : Nat → Int64) (wn : Nat → Int32) (nc : Nat) (hnc6 : nc ≤ 6) (hnc : h.1 122 14 = nI nc) (CE : Nat → List xP) (hce : ∀ c, c < nc → (CE c).length ≤ 24 ∧ h.1 128 (8 + c) = nI (CE c).length ∧ rExp (h.1 126) (h.2.1 127) (24 * (8 + c)) (CE c) ∧ xT 8 [] (CE c) = some [true]) (row : Nat → Option Int64) (hrow : ∀ c, c < 4 → row c = if hb c = true then none else some (hv c)) : qT mi_QM_passesAll 4 0 0 [.ref 122] (eR (fR h hv hb kv kb kp) wk wn) NN (fun v1 h1 n1 => v1 = some (.int (b2i (allT row CE nc))) ∧ (∃ wk1 wn1, h1 = eR (fR h hv hb kv kb kp) wk1 wn1) ∧ n1 = NN) := by
  refine qT.of (lv0 := [_, _, _]) (by decide +kernel) (fun _ _ => Nat.le_of_ble_eq_true rfl) rfl ?_
  have key : ∀ (m c : Nat) (wk : Nat → Int64) (wn : Nat → Int32), c + m = nc → qX mi_QM_passesAll 4 none 0 0 4 [.ref 122, .int (b2i (allT row CE c)), .int (nI c)] [] (eR (fR h hv hb kv kb kp) wk wn) NN 0 0 (fun v1 h1 n1 => v1 = some (.int (b2i (allT row CE nc))) ∧ (∃ wk1 wn1, h1 = eR (fR h hv hb kv kb kp) wk1 wn1) ∧ n1 = NN) := by
    intro m
    induction m with
    | zero =>
      intro c wk wn hc
      refine qx_iload_n d_QM_passesAll_4 rfl rfl ?_
      refine qx_aload_n d_QM_passesAll_5 rfl rfl ?_
      refine qx_getI d_QM_passesAll_6 fI_QM_141 rfl rfl hnc ?_
      refine qx_icmp_geN (t := 28) d_QM_passesAll_9 rfl (by omega) (by omega) (fun c9 => ?_) (fun c9 => absurd c9 (by omega))
      refine qx_iload_n d_QM_passesAll_28 rfl rfl ?_
      exact qx_iret d_QM_passesAll_29 rfl (b2i_nar _) (by omega) (by omega) ⟨by rw [show c = nc by omega], ⟨wk, wn, rfl⟩, rfl⟩
    | succ m ih =>
      intro c wk wn hc
      refine qx_iload_n d_QM_passesAll_4 rfl rfl ?_
      refine qx_aload_n d_QM_passesAll_5 rfl rfl ?_
      refine qx_getI d_QM_passesAll_6 fI_QM_141 rfl rfl hnc ?_
      refine qx_icmp_geN (t := 28) d_QM_passesAll_9 rfl (by omega) (by omega) (fun c9 => absurd c9 (by omega)) (fun c9 => ?_)
      refine qx_iload_n d_QM_passesAll_12 rfl rfl ?_
      refine qx_if_eqB (t := 28) d_QM_passesAll_13 rfl (fun c13 => ?_) (fun c13 => ?_)
      · refine qx_iload_n d_QM_passesAll_28 rfl rfl ?_
        exact qx_iret d_QM_passesAll_29 rfl (b2i_nar _) (by omega) (by omega) ⟨by rw [c13, show nc = c + (m + 1) by omega, allT_mono row CE c13], ⟨wk, wn, rfl⟩, rfl⟩
      · refine qx_aload_n d_QM_passesAll_16 rfl rfl ?_
        refine qx_iload_n d_QM_passesAll_17 rfl rfl ?_
        refine qx_callV (As := [_]) (rest := _) d_QM_passesAll_18 lk_QM_185 y_QM_isTrue v_QM_isTrue rfl rfl rfl (by decide) rfl rfl rfl rfl (by decide) (by decide) (ct_QM_isTrue hR hv hb kv kb kp wk wn nc hnc6 hnc CE hce row hrow c (by omega)) ?_
        rintro _ _ _ ⟨rfl, ⟨wk1, wn1, rfl⟩, rfl⟩
        refine qx_istore_n (lv1 := [_, _, _]) d_QM_passesAll_21 rfl (by decide) rfl ?_
        refine qx_iincN (w := 1) (lv1 := [_, _, _]) d_QM_passesAll_22 rfl rfl (by decide) rfl ?_
        refine qx_goto (t := 4) d_QM_passesAll_25 rfl ?_
        have k2 := ih (c + 1) wk1 wn1 (by omega)
        have hs : allT row CE (c + 1) = (allT row CE c && xTru row (CE c)) := rfl
        rw [hs, c13] at k2
        exact k2
  refine qx_iconst (v := b2i true) d_QM_passesAll_0 rfl ?_
  refine qx_istore_n (lv1 := [_, _, _]) d_QM_passesAll_1 rfl (by decide) rfl ?_
  refine qx_iconstN (v := 0) d_QM_passesAll_2 rfl ?_
  refine qx_istore_n (lv1 := [_, _, _]) d_QM_passesAll_3 rfl (by decide) rfl ?_
  exact key nc 0 wk wn (by omega)
set_option maxRecDepth 100000 in
set_option maxHeartbeats 4000000 in
theorem ct_QM_second0 {h : qH} (kd fi se : Nat) (hk3 : kd < 3) (hkd : h.1 122 4 = nI kd) (hfi : h.1 122 5 = nI fi) (hse : kd ≠ 0 → h.1 122 6 = nI se) : qT mi_QM_second0 0 0 0 [.ref 122] h NN (fun v1 h1 n1 => v1 = some (.int (nI (if kd = 0 then fi else se))) ∧ h = h1 ∧ n1 = NN) := by
  refine qT.of (lv0 := [_]) (by decide +kernel) (fun _ _ => Nat.le_of_ble_eq_true rfl) rfl ?_
  refine qx_aload_n d_QM_second0_0 rfl rfl ?_
  refine qx_getI d_QM_second0_1 fI_QM_110 rfl rfl hkd ?_
  refine qx_if_neN (t := 14) d_QM_second0_4 rfl (by omega) (fun c4 => ?_) (fun c4 => ?_)
  · refine qx_aload_n d_QM_second0_14 rfl rfl ?_
    refine qx_getI d_QM_second0_15 fI_QM_117 rfl rfl (hse (by omega)) ?_
    exact qx_iret d_QM_second0_18 rfl rfl (by omega) (by omega) ⟨by first | rw [if_pos c4] | rw [if_neg (by omega)], rfl, rfl⟩
  · refine qx_aload_n d_QM_second0_7 rfl rfl ?_
    refine qx_getI d_QM_second0_8 fI_QM_114 rfl rfl hfi ?_
    refine qx_goto (t := 18) d_QM_second0_11 rfl ?_
    exact qx_iret d_QM_second0_18 rfl rfl (by omega) (by omega) ⟨by first | rw [if_pos c4] | rw [if_neg (by omega)], rfl, rfl⟩
set_option maxRecDepth 100000 in
set_option maxHeartbeats 4000000 in
theorem ct_QM_bring_0 {h : qH} (hR : h.2.2 122 = qRQM) (hv : Nat → Int64) (hb : Nat → Bool) (kv : Nat → Int64) (kb : Nat → Bool) (kp : Nat) (wk : Nat → Int64) (wn : Nat → Int32) (tv : Nat → Int64) (tn : Nat → Bool) (htv : ∀ k, k < 72 → h.2.1 124 k = tv k ∧ h.1 125 k = b2i (tn k)) (t : Nat) (ht3 : t < 3) (ht : h.1 122 5 = nI t) (q : Nat) (hq : q < 12) : qT mi_QM_bring 0 0 0 [.ref 122, .int (nI 0), .int (nI q)] (eR (fR h hv hb kv kb kp) wk wn) NN (fun v1 h1 n1 => v1 = none ∧ h1 = eR (fR h (va_up (va_up hv 0 (tv (24 * t + 2 * q))) 1 (tv ((24 * t + 2 * q) + 1))) (va_up (va_up hb 0 (tn (24 * t + 2 * q))) 1 (tn ((24 * t + 2 * q) + 1))) kv kb kp) wk wn ∧ n1 = NN) := by
  refine qT.of (lv0 := [_, _, _, _, _]) (by decide +kernel) (fun _ _ => Nat.le_of_ble_eq_true rfl) rfl ?_
  refine qx_bipushN (v := 24) d_QM_bring_0 rfl ?_
  refine qx_iload_n d_QM_bring_2 rfl rfl ?_
  refine qx_if_neN (t := 13) d_QM_bring_3 rfl (by omega) (fun c3 => absurd c3 (by decide)) (fun c3 => ?_)
  refine qx_aload_n d_QM_bring_6 rfl rfl ?_
  refine qx_getI d_QM_bring_7 fI_QM_114 rfl rfl ht ?_
  refine qx_goto (t := 17) d_QM_bring_10 rfl ?_
  refine qx_imulN d_QM_bring_17 ?_
  refine qx_iconstN (v := 2) d_QM_bring_18 rfl ?_
  refine qx_iload_n d_QM_bring_19 rfl rfl ?_
  refine qx_imulN d_QM_bring_20 ?_
  refine qx_iaddN d_QM_bring_21 ?_
  refine qx_istore_n (lv1 := [_, _, _, _, _]) d_QM_bring_22 rfl (by decide) rfl ?_
  refine qx_iconstN (v := 0) d_QM_bring_23 rfl ?_
  refine qx_istore (lv1 := [_, _, _, _, _]) d_QM_bring_24 (by decide) rfl ?_
  refine qx_iload d_QM_bring_26 rfl ?_
  refine qx_iconstN (v := 2) d_QM_bring_28 rfl ?_
  refine qx_icmp_geN (t := 98) d_QM_bring_29 rfl (by omega) (by omega) (fun c29 => absurd c29 (by decide)) (fun c29 => ?_)
  refine qx_aload_n d_QM_bring_32 rfl rfl ?_
  refine qx_getR d_QM_bring_33 fR_QM_42 rfl rfl (congrFun hR 23) ?_
  refine qx_iconstN (v := 2) d_QM_bring_36 rfl ?_
  refine qx_iload_n d_QM_bring_37 rfl rfl ?_
  refine qx_imulN d_QM_bring_38 ?_
  refine qx_iload d_QM_bring_39 rfl ?_
  refine qx_iaddN d_QM_bring_41 ?_
  refine qx_iload_n d_QM_bring_42 rfl rfl ?_
  refine qx_if_geN (t := 50) d_QM_bring_43 rfl (by omega) ?_
  refine qx_aload_n d_QM_bring_50 rfl rfl ?_
  refine qx_getR d_QM_bring_51 fR_QM_13 rfl rfl (congrFun hR 1) ?_
  refine qx_iload_n d_QM_bring_54 rfl rfl ?_
  refine qx_iload d_QM_bring_55 rfl ?_
  refine qx_iaddN d_QM_bring_57 ?_
  refine qx_lald d_QM_bring_58 rfl rfl rfl rfl (by omega) (htv _ (by omega)).1 ?_
  refine qx_last d_QM_bring_59 rfl rfl rfl rfl (by omega) ?_
  refine qx_aload_n d_QM_bring_60 rfl rfl ?_
  refine qx_getR d_QM_bring_61 fR_QM_45 rfl rfl (congrFun hR 24) ?_
  refine qx_iconstN (v := 2) d_QM_bring_64 rfl ?_
  refine qx_iload_n d_QM_bring_65 rfl rfl ?_
  refine qx_imulN d_QM_bring_66 ?_
  refine qx_iload d_QM_bring_67 rfl ?_
  refine qx_iaddN d_QM_bring_69 ?_
  refine qx_iload_n d_QM_bring_70 rfl rfl ?_
  refine qx_if_ltN (t := 86) d_QM_bring_71 rfl (by omega) ?_
  refine qx_aload_n d_QM_bring_74 rfl rfl ?_
  refine qx_getR d_QM_bring_75 fR_QM_17 rfl rfl (congrFun hR 2) ?_
  refine qx_iload_n d_QM_bring_78 rfl rfl ?_
  refine qx_iload d_QM_bring_79 rfl ?_
  refine qx_iaddN d_QM_bring_81 ?_
  refine qx_zald d_QM_bring_82 rfl rfl rfl rfl (by omega) (htv _ (by omega)).2 ?_
  refine qx_if_eqB (t := 90) d_QM_bring_83 rfl (fun e0 => ?_) (fun e0 => ?_)
  · refine qx_iconst (v := b2i false) d_QM_bring_90 rfl ?_
    refine qx_zast d_QM_bring_91 rfl rfl rfl rfl (by omega) rfl ?_
    refine qx_iincN (w := 1) (lv1 := [_, _, _, _, _]) d_QM_bring_92 rfl rfl (by decide) rfl ?_
    refine qx_goto (t := 26) d_QM_bring_95 rfl ?_
    refine qx_iload d_QM_bring_26 rfl ?_
    refine qx_iconstN (v := 2) d_QM_bring_28 rfl ?_
    refine qx_icmp_geN (t := 98) d_QM_bring_29 rfl (by omega) (by omega) (fun c29 => absurd c29 (by decide)) (fun c29 => ?_)
    refine qx_aload_n d_QM_bring_32 rfl rfl ?_
    refine qx_getR d_QM_bring_33 fR_QM_42 rfl rfl (congrFun hR 23) ?_
    refine qx_iconstN (v := 2) d_QM_bring_36 rfl ?_
    refine qx_iload_n d_QM_bring_37 rfl rfl ?_
    refine qx_imulN d_QM_bring_38 ?_
    refine qx_iload d_QM_bring_39 rfl ?_
    refine qx_iaddN d_QM_bring_41 ?_
    refine qx_iload_n d_QM_bring_42 rfl rfl ?_
    refine qx_if_geN (t := 50) d_QM_bring_43 rfl (by omega) ?_
    refine qx_aload_n d_QM_bring_50 rfl rfl ?_
    refine qx_getR d_QM_bring_51 fR_QM_13 rfl rfl (congrFun hR 1) ?_
    refine qx_iload_n d_QM_bring_54 rfl rfl ?_
    refine qx_iload d_QM_bring_55 rfl ?_
    refine qx_iaddN d_QM_bring_57 ?_
    refine qx_lald d_QM_bring_58 rfl rfl rfl rfl (by omega) (htv _ (by omega)).1 ?_
    refine qx_last d_QM_bring_59 rfl rfl rfl rfl (by omega) ?_
    refine qx_aload_n d_QM_bring_60 rfl rfl ?_
    refine qx_getR d_QM_bring_61 fR_QM_45 rfl rfl (congrFun hR 24) ?_
    refine qx_iconstN (v := 2) d_QM_bring_64 rfl ?_
    refine qx_iload_n d_QM_bring_65 rfl rfl ?_
    refine qx_imulN d_QM_bring_66 ?_
    refine qx_iload d_QM_bring_67 rfl ?_
    refine qx_iaddN d_QM_bring_69 ?_
    refine qx_iload_n d_QM_bring_70 rfl rfl ?_
    refine qx_if_ltN (t := 86) d_QM_bring_71 rfl (by omega) ?_
    refine qx_aload_n d_QM_bring_74 rfl rfl ?_
    refine qx_getR d_QM_bring_75 fR_QM_17 rfl rfl (congrFun hR 2) ?_
    refine qx_iload_n d_QM_bring_78 rfl rfl ?_
    refine qx_iload d_QM_bring_79 rfl ?_
    refine qx_iaddN d_QM_bring_81 ?_
    refine qx_zald d_QM_bring_82 rfl rfl rfl rfl (by omega) (htv _ (by omega)).2 ?_
    refine qx_if_eqB (t := 90) d_QM_bring_83 rfl (fun e1 => ?_) (fun e1 => ?_)
    · refine qx_iconst (v := b2i false) d_QM_bring_90 rfl ?_
      refine qx_zast d_QM_bring_91 rfl rfl rfl rfl (by omega) rfl ?_
      refine qx_iincN (w := 1) (lv1 := [_, _, _, _, _]) d_QM_bring_92 rfl rfl (by decide) rfl ?_
      refine qx_goto (t := 26) d_QM_bring_95 rfl ?_
      refine qx_iload d_QM_bring_26 rfl ?_
      refine qx_iconstN (v := 2) d_QM_bring_28 rfl ?_
      refine qx_icmp_geN (t := 98) d_QM_bring_29 rfl (by omega) (by omega) (fun c29 => ?_) (fun c29 => absurd c29 (by decide))
      exact qx_ret d_QM_bring_98 rfl (by omega) (by omega) (by rw [eR_L (by decide), fR_hv, eR_I (by decide), fR_hb, eR_L (by decide), fR_hv, eR_I (by decide), fR_hb]; rw [show tn (24 * t + 2 * q) = _ from e0, show tn (24 * t + 2 * q + 1) = _ from e1]; exact ⟨rfl, rfl, rfl⟩)
    · refine qx_iconst (v := b2i true) d_QM_bring_86 rfl ?_
      refine qx_goto (t := 91) d_QM_bring_87 rfl ?_
      refine qx_zast d_QM_bring_91 rfl rfl rfl rfl (by omega) rfl ?_
      refine qx_iincN (w := 1) (lv1 := [_, _, _, _, _]) d_QM_bring_92 rfl rfl (by decide) rfl ?_
      refine qx_goto (t := 26) d_QM_bring_95 rfl ?_
      refine qx_iload d_QM_bring_26 rfl ?_
      refine qx_iconstN (v := 2) d_QM_bring_28 rfl ?_
      refine qx_icmp_geN (t := 98) d_QM_bring_29 rfl (by omega) (by omega) (fun c29 => ?_) (fun c29 => absurd c29 (by decide))
      exact qx_ret d_QM_bring_98 rfl (by omega) (by omega) (by rw [eR_L (by decide), fR_hv, eR_I (by decide), fR_hb, eR_L (by decide), fR_hv, eR_I (by decide), fR_hb]; rw [show tn (24 * t + 2 * q) = _ from e0, show tn (24 * t + 2 * q + 1) = _ from e1]; exact ⟨rfl, rfl, rfl⟩)
  · refine qx_iconst (v := b2i true) d_QM_bring_86 rfl ?_
    refine qx_goto (t := 91) d_QM_bring_87 rfl ?_
    refine qx_zast d_QM_bring_91 rfl rfl rfl rfl (by omega) rfl ?_
    refine qx_iincN (w := 1) (lv1 := [_, _, _, _, _]) d_QM_bring_92 rfl rfl (by decide) rfl ?_
    refine qx_goto (t := 26) d_QM_bring_95 rfl ?_
    refine qx_iload d_QM_bring_26 rfl ?_
    refine qx_iconstN (v := 2) d_QM_bring_28 rfl ?_
    refine qx_icmp_geN (t := 98) d_QM_bring_29 rfl (by omega) (by omega) (fun c29 => absurd c29 (by decide)) (fun c29 => ?_)
    refine qx_aload_n d_QM_bring_32 rfl rfl ?_
    refine qx_getR d_QM_bring_33 fR_QM_42 rfl rfl (congrFun hR 23) ?_
    refine qx_iconstN (v := 2) d_QM_bring_36 rfl ?_
    refine qx_iload_n d_QM_bring_37 rfl rfl ?_
    refine qx_imulN d_QM_bring_38 ?_
    refine qx_iload d_QM_bring_39 rfl ?_
    refine qx_iaddN d_QM_bring_41 ?_
    refine qx_iload_n d_QM_bring_42 rfl rfl ?_
    refine qx_if_geN (t := 50) d_QM_bring_43 rfl (by omega) ?_
    refine qx_aload_n d_QM_bring_50 rfl rfl ?_
    refine qx_getR d_QM_bring_51 fR_QM_13 rfl rfl (congrFun hR 1) ?_
    refine qx_iload_n d_QM_bring_54 rfl rfl ?_
    refine qx_iload d_QM_bring_55 rfl ?_
    refine qx_iaddN d_QM_bring_57 ?_
    refine qx_lald d_QM_bring_58 rfl rfl rfl rfl (by omega) (htv _ (by omega)).1 ?_
    refine qx_last d_QM_bring_59 rfl rfl rfl rfl (by omega) ?_
    refine qx_aload_n d_QM_bring_60 rfl rfl ?_
    refine qx_getR d_QM_bring_61 fR_QM_45 rfl rfl (congrFun hR 24) ?_
    refine qx_iconstN (v := 2) d_QM_bring_64 rfl ?_
    refine qx_iload_n d_QM_bring_65 rfl rfl ?_
    refine qx_imulN d_QM_bring_66 ?_
    refine qx_iload d_QM_bring_67 rfl ?_
    refine qx_iaddN d_QM_bring_69 ?_
    refine qx_iload_n d_QM_bring_70 rfl rfl ?_
    refine qx_if_ltN (t := 86) d_QM_bring_71 rfl (by omega) ?_
    refine qx_aload_n d_QM_bring_74 rfl rfl ?_
    refine qx_getR d_QM_bring_75 fR_QM_17 rfl rfl (congrFun hR 2) ?_
    refine qx_iload_n d_QM_bring_78 rfl rfl ?_
    refine qx_iload d_QM_bring_79 rfl ?_
    refine qx_iaddN d_QM_bring_81 ?_
    refine qx_zald d_QM_bring_82 rfl rfl rfl rfl (by omega) (htv _ (by omega)).2 ?_
    refine qx_if_eqB (t := 90) d_QM_bring_83 rfl (fun e1 => ?_) (fun e1 => ?_)
    · refine qx_iconst (v := b2i false) d_QM_bring_90 rfl ?_
      refine qx_zast d_QM_bring_91 rfl rfl rfl rfl (by omega) rfl ?_
      refine qx_iincN (w := 1) (lv1 := [_, _, _, _, _]) d_QM_bring_92 rfl rfl (by decide) rfl ?_
      refine qx_goto (t := 26) d_QM_bring_95 rfl ?_
      refine qx_iload d_QM_bring_26 rfl ?_
      refine qx_iconstN (v := 2) d_QM_bring_28 rfl ?_
      refine qx_icmp_geN (t := 98) d_QM_bring_29 rfl (by omega) (by omega) (fun c29 => ?_) (fun c29 => absurd c29 (by decide))
      exact qx_ret d_QM_bring_98 rfl (by omega) (by omega) (by rw [eR_L (by decide), fR_hv, eR_I (by decide), fR_hb, eR_L (by decide), fR_hv, eR_I (by decide), fR_hb]; rw [show tn (24 * t + 2 * q) = _ from e0, show tn (24 * t + 2 * q + 1) = _ from e1]; exact ⟨rfl, rfl, rfl⟩)
    · refine qx_iconst (v := b2i true) d_QM_bring_86 rfl ?_
      refine qx_goto (t := 91) d_QM_bring_87 rfl ?_
      refine qx_zast d_QM_bring_91 rfl rfl rfl rfl (by omega) rfl ?_
      refine qx_iincN (w := 1) (lv1 := [_, _, _, _, _]) d_QM_bring_92 rfl rfl (by decide) rfl ?_
      refine qx_goto (t := 26) d_QM_bring_95 rfl ?_
      refine qx_iload d_QM_bring_26 rfl ?_
      refine qx_iconstN (v := 2) d_QM_bring_28 rfl ?_
      refine qx_icmp_geN (t := 98) d_QM_bring_29 rfl (by omega) (by omega) (fun c29 => ?_) (fun c29 => absurd c29 (by decide))
      exact qx_ret d_QM_bring_98 rfl (by omega) (by omega) (by rw [eR_L (by decide), fR_hv, eR_I (by decide), fR_hb, eR_L (by decide), fR_hv, eR_I (by decide), fR_hb]; rw [show tn (24 * t + 2 * q) = _ from e0, show tn (24 * t + 2 * q + 1) = _ from e1]; exact ⟨rfl, rfl, rfl⟩)
set_option maxRecDepth 100000 in
set_option maxHeartbeats 4000000 in
theorem ct_QM_bring_1 {h : qH} (hR : h.2.2 122 = qRQM) (hv : Nat → Int64) (hb : Nat → Bool) (kv : Nat → Int64) (kb : Nat → Bool) (kp : Nat) (wk : Nat → Int64) (wn : Nat → Int32) (tv : Nat → Int64) (tn : Nat → Bool) (htv : ∀ k, k < 72 → h.2.1 124 k = tv k ∧ h.1 125 k = b2i (tn k)) (t : Nat) (ht3 : t < 3) (ht : h.1 122 6 = nI t) (q : Nat) (hq : q < 12) : qT mi_QM_bring 0 0 0 [.ref 122, .int (nI 1), .int (nI q)] (eR (fR h hv hb kv kb kp) wk wn) NN (fun v1 h1 n1 => v1 = none ∧ h1 = eR (fR h (va_up (va_up hv 2 (tv (24 * t + 2 * q))) 3 (tv ((24 * t + 2 * q) + 1))) (va_up (va_up hb 2 (tn (24 * t + 2 * q))) 3 (tn ((24 * t + 2 * q) + 1))) kv kb kp) wk wn ∧ n1 = NN) := by
  refine qT.of (lv0 := [_, _, _, _, _]) (by decide +kernel) (fun _ _ => Nat.le_of_ble_eq_true rfl) rfl ?_
  refine qx_bipushN (v := 24) d_QM_bring_0 rfl ?_
  refine qx_iload_n d_QM_bring_2 rfl rfl ?_
  refine qx_if_neN (t := 13) d_QM_bring_3 rfl (by omega) (fun c3 => ?_) (fun c3 => absurd c3 (by decide))
  refine qx_aload_n d_QM_bring_13 rfl rfl ?_
  refine qx_getI d_QM_bring_14 fI_QM_117 rfl rfl ht ?_
  refine qx_imulN d_QM_bring_17 ?_
  refine qx_iconstN (v := 2) d_QM_bring_18 rfl ?_
  refine qx_iload_n d_QM_bring_19 rfl rfl ?_
  refine qx_imulN d_QM_bring_20 ?_
  refine qx_iaddN d_QM_bring_21 ?_
  refine qx_istore_n (lv1 := [_, _, _, _, _]) d_QM_bring_22 rfl (by decide) rfl ?_
  refine qx_iconstN (v := 0) d_QM_bring_23 rfl ?_
  refine qx_istore (lv1 := [_, _, _, _, _]) d_QM_bring_24 (by decide) rfl ?_
  refine qx_iload d_QM_bring_26 rfl ?_
  refine qx_iconstN (v := 2) d_QM_bring_28 rfl ?_
  refine qx_icmp_geN (t := 98) d_QM_bring_29 rfl (by omega) (by omega) (fun c29 => absurd c29 (by decide)) (fun c29 => ?_)
  refine qx_aload_n d_QM_bring_32 rfl rfl ?_
  refine qx_getR d_QM_bring_33 fR_QM_42 rfl rfl (congrFun hR 23) ?_
  refine qx_iconstN (v := 2) d_QM_bring_36 rfl ?_
  refine qx_iload_n d_QM_bring_37 rfl rfl ?_
  refine qx_imulN d_QM_bring_38 ?_
  refine qx_iload d_QM_bring_39 rfl ?_
  refine qx_iaddN d_QM_bring_41 ?_
  refine qx_iload_n d_QM_bring_42 rfl rfl ?_
  refine qx_if_geN (t := 50) d_QM_bring_43 rfl (by omega) ?_
  refine qx_aload_n d_QM_bring_50 rfl rfl ?_
  refine qx_getR d_QM_bring_51 fR_QM_13 rfl rfl (congrFun hR 1) ?_
  refine qx_iload_n d_QM_bring_54 rfl rfl ?_
  refine qx_iload d_QM_bring_55 rfl ?_
  refine qx_iaddN d_QM_bring_57 ?_
  refine qx_lald d_QM_bring_58 rfl rfl rfl rfl (by omega) (htv _ (by omega)).1 ?_
  refine qx_last d_QM_bring_59 rfl rfl rfl rfl (by omega) ?_
  refine qx_aload_n d_QM_bring_60 rfl rfl ?_
  refine qx_getR d_QM_bring_61 fR_QM_45 rfl rfl (congrFun hR 24) ?_
  refine qx_iconstN (v := 2) d_QM_bring_64 rfl ?_
  refine qx_iload_n d_QM_bring_65 rfl rfl ?_
  refine qx_imulN d_QM_bring_66 ?_
  refine qx_iload d_QM_bring_67 rfl ?_
  refine qx_iaddN d_QM_bring_69 ?_
  refine qx_iload_n d_QM_bring_70 rfl rfl ?_
  refine qx_if_ltN (t := 86) d_QM_bring_71 rfl (by omega) ?_
  refine qx_aload_n d_QM_bring_74 rfl rfl ?_
  refine qx_getR d_QM_bring_75 fR_QM_17 rfl rfl (congrFun hR 2) ?_
  refine qx_iload_n d_QM_bring_78 rfl rfl ?_
  refine qx_iload d_QM_bring_79 rfl ?_
  refine qx_iaddN d_QM_bring_81 ?_
  refine qx_zald d_QM_bring_82 rfl rfl rfl rfl (by omega) (htv _ (by omega)).2 ?_
  refine qx_if_eqB (t := 90) d_QM_bring_83 rfl (fun e0 => ?_) (fun e0 => ?_)
  · refine qx_iconst (v := b2i false) d_QM_bring_90 rfl ?_
    refine qx_zast d_QM_bring_91 rfl rfl rfl rfl (by omega) rfl ?_
    refine qx_iincN (w := 1) (lv1 := [_, _, _, _, _]) d_QM_bring_92 rfl rfl (by decide) rfl ?_
    refine qx_goto (t := 26) d_QM_bring_95 rfl ?_
    refine qx_iload d_QM_bring_26 rfl ?_
    refine qx_iconstN (v := 2) d_QM_bring_28 rfl ?_
    refine qx_icmp_geN (t := 98) d_QM_bring_29 rfl (by omega) (by omega) (fun c29 => absurd c29 (by decide)) (fun c29 => ?_)
    refine qx_aload_n d_QM_bring_32 rfl rfl ?_
    refine qx_getR d_QM_bring_33 fR_QM_42 rfl rfl (congrFun hR 23) ?_
    refine qx_iconstN (v := 2) d_QM_bring_36 rfl ?_
    refine qx_iload_n d_QM_bring_37 rfl rfl ?_
    refine qx_imulN d_QM_bring_38 ?_
    refine qx_iload d_QM_bring_39 rfl ?_
    refine qx_iaddN d_QM_bring_41 ?_
    refine qx_iload_n d_QM_bring_42 rfl rfl ?_
    refine qx_if_geN (t := 50) d_QM_bring_43 rfl (by omega) ?_
    refine qx_aload_n d_QM_bring_50 rfl rfl ?_
    refine qx_getR d_QM_bring_51 fR_QM_13 rfl rfl (congrFun hR 1) ?_
    refine qx_iload_n d_QM_bring_54 rfl rfl ?_
    refine qx_iload d_QM_bring_55 rfl ?_
    refine qx_iaddN d_QM_bring_57 ?_
    refine qx_lald d_QM_bring_58 rfl rfl rfl rfl (by omega) (htv _ (by omega)).1 ?_
    refine qx_last d_QM_bring_59 rfl rfl rfl rfl (by omega) ?_
    refine qx_aload_n d_QM_bring_60 rfl rfl ?_
    refine qx_getR d_QM_bring_61 fR_QM_45 rfl rfl (congrFun hR 24) ?_
    refine qx_iconstN (v := 2) d_QM_bring_64 rfl ?_
    refine qx_iload_n d_QM_bring_65 rfl rfl ?_
    refine qx_imulN d_QM_bring_66 ?_
    refine qx_iload d_QM_bring_67 rfl ?_
    refine qx_iaddN d_QM_bring_69 ?_
    refine qx_iload_n d_QM_bring_70 rfl rfl ?_
    refine qx_if_ltN (t := 86) d_QM_bring_71 rfl (by omega) ?_
    refine qx_aload_n d_QM_bring_74 rfl rfl ?_
    refine qx_getR d_QM_bring_75 fR_QM_17 rfl rfl (congrFun hR 2) ?_
    refine qx_iload_n d_QM_bring_78 rfl rfl ?_
    refine qx_iload d_QM_bring_79 rfl ?_
    refine qx_iaddN d_QM_bring_81 ?_
    refine qx_zald d_QM_bring_82 rfl rfl rfl rfl (by omega) (htv _ (by omega)).2 ?_
    refine qx_if_eqB (t := 90) d_QM_bring_83 rfl (fun e1 => ?_) (fun e1 => ?_)
    · refine qx_iconst (v := b2i false) d_QM_bring_90 rfl ?_
      refine qx_zast d_QM_bring_91 rfl rfl rfl rfl (by omega) rfl ?_
      refine qx_iincN (w := 1) (lv1 := [_, _, _, _, _]) d_QM_bring_92 rfl rfl (by decide) rfl ?_
      refine qx_goto (t := 26) d_QM_bring_95 rfl ?_
      refine qx_iload d_QM_bring_26 rfl ?_
      refine qx_iconstN (v := 2) d_QM_bring_28 rfl ?_
      refine qx_icmp_geN (t := 98) d_QM_bring_29 rfl (by omega) (by omega) (fun c29 => ?_) (fun c29 => absurd c29 (by decide))
      exact qx_ret d_QM_bring_98 rfl (by omega) (by omega) (by rw [eR_L (by decide), fR_hv, eR_I (by decide), fR_hb, eR_L (by decide), fR_hv, eR_I (by decide), fR_hb]; rw [show tn (24 * t + 2 * q) = _ from e0, show tn (24 * t + 2 * q + 1) = _ from e1]; exact ⟨rfl, rfl, rfl⟩)
    · refine qx_iconst (v := b2i true) d_QM_bring_86 rfl ?_
      refine qx_goto (t := 91) d_QM_bring_87 rfl ?_
      refine qx_zast d_QM_bring_91 rfl rfl rfl rfl (by omega) rfl ?_
      refine qx_iincN (w := 1) (lv1 := [_, _, _, _, _]) d_QM_bring_92 rfl rfl (by decide) rfl ?_
      refine qx_goto (t := 26) d_QM_bring_95 rfl ?_
      refine qx_iload d_QM_bring_26 rfl ?_
      refine qx_iconstN (v := 2) d_QM_bring_28 rfl ?_
      refine qx_icmp_geN (t := 98) d_QM_bring_29 rfl (by omega) (by omega) (fun c29 => ?_) (fun c29 => absurd c29 (by decide))
      exact qx_ret d_QM_bring_98 rfl (by omega) (by omega) (by rw [eR_L (by decide), fR_hv, eR_I (by decide), fR_hb, eR_L (by decide), fR_hv, eR_I (by decide), fR_hb]; rw [show tn (24 * t + 2 * q) = _ from e0, show tn (24 * t + 2 * q + 1) = _ from e1]; exact ⟨rfl, rfl, rfl⟩)
  · refine qx_iconst (v := b2i true) d_QM_bring_86 rfl ?_
    refine qx_goto (t := 91) d_QM_bring_87 rfl ?_
    refine qx_zast d_QM_bring_91 rfl rfl rfl rfl (by omega) rfl ?_
    refine qx_iincN (w := 1) (lv1 := [_, _, _, _, _]) d_QM_bring_92 rfl rfl (by decide) rfl ?_
    refine qx_goto (t := 26) d_QM_bring_95 rfl ?_
    refine qx_iload d_QM_bring_26 rfl ?_
    refine qx_iconstN (v := 2) d_QM_bring_28 rfl ?_
    refine qx_icmp_geN (t := 98) d_QM_bring_29 rfl (by omega) (by omega) (fun c29 => absurd c29 (by decide)) (fun c29 => ?_)
    refine qx_aload_n d_QM_bring_32 rfl rfl ?_
    refine qx_getR d_QM_bring_33 fR_QM_42 rfl rfl (congrFun hR 23) ?_
    refine qx_iconstN (v := 2) d_QM_bring_36 rfl ?_
    refine qx_iload_n d_QM_bring_37 rfl rfl ?_
    refine qx_imulN d_QM_bring_38 ?_
    refine qx_iload d_QM_bring_39 rfl ?_
    refine qx_iaddN d_QM_bring_41 ?_
    refine qx_iload_n d_QM_bring_42 rfl rfl ?_
    refine qx_if_geN (t := 50) d_QM_bring_43 rfl (by omega) ?_
    refine qx_aload_n d_QM_bring_50 rfl rfl ?_
    refine qx_getR d_QM_bring_51 fR_QM_13 rfl rfl (congrFun hR 1) ?_
    refine qx_iload_n d_QM_bring_54 rfl rfl ?_
    refine qx_iload d_QM_bring_55 rfl ?_
    refine qx_iaddN d_QM_bring_57 ?_
    refine qx_lald d_QM_bring_58 rfl rfl rfl rfl (by omega) (htv _ (by omega)).1 ?_
    refine qx_last d_QM_bring_59 rfl rfl rfl rfl (by omega) ?_
    refine qx_aload_n d_QM_bring_60 rfl rfl ?_
    refine qx_getR d_QM_bring_61 fR_QM_45 rfl rfl (congrFun hR 24) ?_
    refine qx_iconstN (v := 2) d_QM_bring_64 rfl ?_
    refine qx_iload_n d_QM_bring_65 rfl rfl ?_
    refine qx_imulN d_QM_bring_66 ?_
    refine qx_iload d_QM_bring_67 rfl ?_
    refine qx_iaddN d_QM_bring_69 ?_
    refine qx_iload_n d_QM_bring_70 rfl rfl ?_
    refine qx_if_ltN (t := 86) d_QM_bring_71 rfl (by omega) ?_
    refine qx_aload_n d_QM_bring_74 rfl rfl ?_
    refine qx_getR d_QM_bring_75 fR_QM_17 rfl rfl (congrFun hR 2) ?_
    refine qx_iload_n d_QM_bring_78 rfl rfl ?_
    refine qx_iload d_QM_bring_79 rfl ?_
    refine qx_iaddN d_QM_bring_81 ?_
    refine qx_zald d_QM_bring_82 rfl rfl rfl rfl (by omega) (htv _ (by omega)).2 ?_
    refine qx_if_eqB (t := 90) d_QM_bring_83 rfl (fun e1 => ?_) (fun e1 => ?_)
    · refine qx_iconst (v := b2i false) d_QM_bring_90 rfl ?_
      refine qx_zast d_QM_bring_91 rfl rfl rfl rfl (by omega) rfl ?_
      refine qx_iincN (w := 1) (lv1 := [_, _, _, _, _]) d_QM_bring_92 rfl rfl (by decide) rfl ?_
      refine qx_goto (t := 26) d_QM_bring_95 rfl ?_
      refine qx_iload d_QM_bring_26 rfl ?_
      refine qx_iconstN (v := 2) d_QM_bring_28 rfl ?_
      refine qx_icmp_geN (t := 98) d_QM_bring_29 rfl (by omega) (by omega) (fun c29 => ?_) (fun c29 => absurd c29 (by decide))
      exact qx_ret d_QM_bring_98 rfl (by omega) (by omega) (by rw [eR_L (by decide), fR_hv, eR_I (by decide), fR_hb, eR_L (by decide), fR_hv, eR_I (by decide), fR_hb]; rw [show tn (24 * t + 2 * q) = _ from e0, show tn (24 * t + 2 * q + 1) = _ from e1]; exact ⟨rfl, rfl, rfl⟩)
    · refine qx_iconst (v := b2i true) d_QM_bring_86 rfl ?_
      refine qx_goto (t := 91) d_QM_bring_87 rfl ?_
      refine qx_zast d_QM_bring_91 rfl rfl rfl rfl (by omega) rfl ?_
      refine qx_iincN (w := 1) (lv1 := [_, _, _, _, _]) d_QM_bring_92 rfl rfl (by decide) rfl ?_
      refine qx_goto (t := 26) d_QM_bring_95 rfl ?_
      refine qx_iload d_QM_bring_26 rfl ?_
      refine qx_iconstN (v := 2) d_QM_bring_28 rfl ?_
      refine qx_icmp_geN (t := 98) d_QM_bring_29 rfl (by omega) (by omega) (fun c29 => ?_) (fun c29 => absurd c29 (by decide))
      exact qx_ret d_QM_bring_98 rfl (by omega) (by omega) (by rw [eR_L (by decide), fR_hv, eR_I (by decide), fR_hb, eR_L (by decide), fR_hv, eR_I (by decide), fR_hb]; rw [show tn (24 * t + 2 * q) = _ from e0, show tn (24 * t + 2 * q + 1) = _ from e1]; exact ⟨rfl, rfl, rfl⟩)
set_option maxRecDepth 100000 in
set_option maxHeartbeats 4000000 in
theorem ct_QM_bring_none {h : qH} (hR : h.2.2 122 = qRQM) (hv : Nat → Int64) (hb : Nat → Bool) (kv : Nat → Int64) (kb : Nat → Bool) (kp : Nat) (wk : Nat → Int64) (wn : Nat → Int32) (t : Int32) (ht : h.1 122 6 = t) : qT mi_QM_bring 0 0 0 [.ref 122, .int (nI 1), .int (-1)] (eR (fR h hv hb kv kb kp) wk wn) NN (fun v1 h1 n1 => v1 = none ∧ h1 = eR (fR h (va_up (va_up hv 2 0) 3 0) (va_up (va_up hb 2 true) 3 true) kv kb kp) wk wn ∧ n1 = NN) := by
  refine qT.of (lv0 := [_, _, _, _, _]) (by decide +kernel) (fun _ _ => Nat.le_of_ble_eq_true rfl) rfl ?_
  refine qx_bipushN (v := 24) d_QM_bring_0 rfl ?_
  refine qx_iload_n d_QM_bring_2 rfl rfl ?_
  refine qx_if_neN (t := 13) d_QM_bring_3 rfl (by omega) (fun c3 => ?_) (fun c3 => absurd c3 (by decide))
  refine qx_aload_n d_QM_bring_13 rfl rfl ?_
  refine qx_getI d_QM_bring_14 fI_QM_117 rfl rfl ht ?_
  refine qx_imul d_QM_bring_17 ?_
  refine qx_iconstN (v := 2) d_QM_bring_18 rfl ?_
  refine qx_iload_n d_QM_bring_19 rfl rfl ?_
  refine qx_imul d_QM_bring_20 ?_
  refine qx_iadd d_QM_bring_21 ?_
  refine qx_istore_n (lv1 := [_, _, _, _, _]) d_QM_bring_22 rfl (by decide) rfl ?_
  refine qx_iconstN (v := 0) d_QM_bring_23 rfl ?_
  refine qx_istore (lv1 := [_, _, _, _, _]) d_QM_bring_24 (by decide) rfl ?_
  refine qx_iload d_QM_bring_26 rfl ?_
  refine qx_iconstN (v := 2) d_QM_bring_28 rfl ?_
  refine qx_icmp_geN (t := 98) d_QM_bring_29 rfl (by omega) (by omega) (fun c29 => absurd c29 (by decide)) (fun c29 => ?_)
  refine qx_aload_n d_QM_bring_32 rfl rfl ?_
  refine qx_getR d_QM_bring_33 fR_QM_42 rfl rfl (congrFun hR 23) ?_
  refine qx_iconstN (v := 2) d_QM_bring_36 rfl ?_
  refine qx_iload_n d_QM_bring_37 rfl rfl ?_
  refine qx_imulN d_QM_bring_38 ?_
  refine qx_iload d_QM_bring_39 rfl ?_
  refine qx_iaddN d_QM_bring_41 ?_
  refine qx_iload_n d_QM_bring_42 rfl rfl ?_
  refine qx_if_ge (t := 50) d_QM_bring_43 rfl (fun c43 => absurd c43 (by decide)) (fun c43 => ?_)
  refine qx_lconst (v := 0) d_QM_bring_46 rfl ?_
  refine qx_goto (t := 59) d_QM_bring_47 rfl ?_
  refine qx_last d_QM_bring_59 rfl rfl rfl rfl (by omega) ?_
  refine qx_aload_n d_QM_bring_60 rfl rfl ?_
  refine qx_getR d_QM_bring_61 fR_QM_45 rfl rfl (congrFun hR 24) ?_
  refine qx_iconstN (v := 2) d_QM_bring_64 rfl ?_
  refine qx_iload_n d_QM_bring_65 rfl rfl ?_
  refine qx_imulN d_QM_bring_66 ?_
  refine qx_iload d_QM_bring_67 rfl ?_
  refine qx_iaddN d_QM_bring_69 ?_
  refine qx_iload_n d_QM_bring_70 rfl rfl ?_
  refine qx_if_lt (t := 86) d_QM_bring_71 rfl (fun c71 => ?_) (fun c71 => absurd c71 (by decide))
  refine qx_iconst (v := b2i true) d_QM_bring_86 rfl ?_
  refine qx_goto (t := 91) d_QM_bring_87 rfl ?_
  refine qx_zast d_QM_bring_91 rfl rfl rfl rfl (by omega) rfl ?_
  refine qx_iincN (w := 1) (lv1 := [_, _, _, _, _]) d_QM_bring_92 rfl rfl (by decide) rfl ?_
  refine qx_goto (t := 26) d_QM_bring_95 rfl ?_
  refine qx_iload d_QM_bring_26 rfl ?_
  refine qx_iconstN (v := 2) d_QM_bring_28 rfl ?_
  refine qx_icmp_geN (t := 98) d_QM_bring_29 rfl (by omega) (by omega) (fun c29 => absurd c29 (by decide)) (fun c29 => ?_)
  refine qx_aload_n d_QM_bring_32 rfl rfl ?_
  refine qx_getR d_QM_bring_33 fR_QM_42 rfl rfl (congrFun hR 23) ?_
  refine qx_iconstN (v := 2) d_QM_bring_36 rfl ?_
  refine qx_iload_n d_QM_bring_37 rfl rfl ?_
  refine qx_imulN d_QM_bring_38 ?_
  refine qx_iload d_QM_bring_39 rfl ?_
  refine qx_iaddN d_QM_bring_41 ?_
  refine qx_iload_n d_QM_bring_42 rfl rfl ?_
  refine qx_if_ge (t := 50) d_QM_bring_43 rfl (fun c43 => absurd c43 (by decide)) (fun c43 => ?_)
  refine qx_lconst (v := 0) d_QM_bring_46 rfl ?_
  refine qx_goto (t := 59) d_QM_bring_47 rfl ?_
  refine qx_last d_QM_bring_59 rfl rfl rfl rfl (by omega) ?_
  refine qx_aload_n d_QM_bring_60 rfl rfl ?_
  refine qx_getR d_QM_bring_61 fR_QM_45 rfl rfl (congrFun hR 24) ?_
  refine qx_iconstN (v := 2) d_QM_bring_64 rfl ?_
  refine qx_iload_n d_QM_bring_65 rfl rfl ?_
  refine qx_imulN d_QM_bring_66 ?_
  refine qx_iload d_QM_bring_67 rfl ?_
  refine qx_iaddN d_QM_bring_69 ?_
  refine qx_iload_n d_QM_bring_70 rfl rfl ?_
  refine qx_if_lt (t := 86) d_QM_bring_71 rfl (fun c71 => ?_) (fun c71 => absurd c71 (by decide))
  refine qx_iconst (v := b2i true) d_QM_bring_86 rfl ?_
  refine qx_goto (t := 91) d_QM_bring_87 rfl ?_
  refine qx_zast d_QM_bring_91 rfl rfl rfl rfl (by omega) rfl ?_
  refine qx_iincN (w := 1) (lv1 := [_, _, _, _, _]) d_QM_bring_92 rfl rfl (by decide) rfl ?_
  refine qx_goto (t := 26) d_QM_bring_95 rfl ?_
  refine qx_iload d_QM_bring_26 rfl ?_
  refine qx_iconstN (v := 2) d_QM_bring_28 rfl ?_
  refine qx_icmp_geN (t := 98) d_QM_bring_29 rfl (by omega) (by omega) (fun c29 => ?_) (fun c29 => absurd c29 (by decide))
  exact qx_ret d_QM_bring_98 rfl (by omega) (by omega) (by rw [eR_L (by decide), fR_hv, eR_I (by decide), fR_hb, eR_L (by decide), fR_hv, eR_I (by decide), fR_hb]; exact ⟨rfl, rfl, rfl⟩)
set_option maxRecDepth 100000 in
set_option maxHeartbeats 4000000 in
theorem ct_QM_matches {h : qH} (hR : h.2.2 122 = qRQM) (hv : Nat → Int64) (hb : Nat → Bool) (kv : Nat → Int64) (kb : Nat → Bool) (kp : Nat) (wk : Nat → Int64) (wn : Nat → Int32) (le ri : Nat) (hle2 : le < 2) (hri2 : ri < 2) (hle : h.1 122 7 = nI le) (hri : h.1 122 8 = nI ri) : qT mi_QM_matches 0 0 0 [.ref 122] (eR (fR h hv hb kv kb kp) wk wn) NN (fun v1 h1 n1 => v1 = some (.int (b2i (!hb le && (!hb (2 + ri) && decide (hv le = hv (2 + ri)))))) ∧ h1 = (eR (fR h hv hb kv kb kp) wk wn) ∧ n1 = NN) := by
  refine qT.of (lv0 := [_]) (by decide +kernel) (fun _ _ => Nat.le_of_ble_eq_true rfl) rfl ?_
  refine qx_aload_n d_QM_matches_0 rfl rfl ?_
  refine qx_getR d_QM_matches_1 fR_QM_45 rfl rfl (congrFun hR 24) ?_
  refine qx_aload_n d_QM_matches_4 rfl rfl ?_
  refine qx_getI d_QM_matches_5 fI_QM_120 rfl rfl hle ?_
  refine qx_zald d_QM_matches_8 rfl rfl rfl rfl (by omega) (show _ = b2i (hb le) from rfl) ?_
  refine qx_if_neB (t := 54) d_QM_matches_9 rfl (fun c9 => ?_) (fun c9 => ?_)
  · refine qx_iconstN (v := 0) d_QM_matches_54 rfl ?_
    exact qx_iret d_QM_matches_55 rfl rfl (by omega) (by omega) (by first | (rw [c9]; exact ⟨rfl, rfl, rfl⟩) | (rw [c9, c23]; exact ⟨rfl, rfl, rfl⟩) | (rw [c9, c23, decide_eq_true c47]; exact ⟨rfl, rfl, rfl⟩) | (rw [c9, c23, decide_eq_false c47]; exact ⟨rfl, rfl, rfl⟩))
  · refine qx_aload_n d_QM_matches_12 rfl rfl ?_
    refine qx_getR d_QM_matches_13 fR_QM_45 rfl rfl (congrFun hR 24) ?_
    refine qx_iconstN (v := 2) d_QM_matches_16 rfl ?_
    refine qx_aload_n d_QM_matches_17 rfl rfl ?_
    refine qx_getI d_QM_matches_18 fI_QM_123 rfl rfl hri ?_
    refine qx_iaddN d_QM_matches_21 ?_
    refine qx_zald d_QM_matches_22 rfl rfl rfl rfl (by omega) (show _ = b2i (hb (2 + ri)) from rfl) ?_
    refine qx_if_neB (t := 54) d_QM_matches_23 rfl (fun c23 => ?_) (fun c23 => ?_)
    · refine qx_iconstN (v := 0) d_QM_matches_54 rfl ?_
      exact qx_iret d_QM_matches_55 rfl rfl (by omega) (by omega) (by first | (rw [c9]; exact ⟨rfl, rfl, rfl⟩) | (rw [c9, c23]; exact ⟨rfl, rfl, rfl⟩) | (rw [c9, c23, decide_eq_true c47]; exact ⟨rfl, rfl, rfl⟩) | (rw [c9, c23, decide_eq_false c47]; exact ⟨rfl, rfl, rfl⟩))
    · refine qx_aload_n d_QM_matches_26 rfl rfl ?_
      refine qx_getR d_QM_matches_27 fR_QM_42 rfl rfl (congrFun hR 23) ?_
      refine qx_aload_n d_QM_matches_30 rfl rfl ?_
      refine qx_getI d_QM_matches_31 fI_QM_120 rfl rfl hle ?_
      refine qx_lald d_QM_matches_34 rfl rfl rfl rfl (by omega) (show _ = hv le from rfl) ?_
      refine qx_aload_n d_QM_matches_35 rfl rfl ?_
      refine qx_getR d_QM_matches_36 fR_QM_42 rfl rfl (congrFun hR 23) ?_
      refine qx_iconstN (v := 2) d_QM_matches_39 rfl ?_
      refine qx_aload_n d_QM_matches_40 rfl rfl ?_
      refine qx_getI d_QM_matches_41 fI_QM_123 rfl rfl hri ?_
      refine qx_iaddN d_QM_matches_44 ?_
      refine qx_lald d_QM_matches_45 rfl rfl rfl rfl (by omega) (show _ = hv (2 + ri) from rfl) ?_
      refine qx_lcmp d_QM_matches_46 ?_
      refine qx_if_neC (t := 54) d_QM_matches_47 rfl (fun c47 => ?_) (fun c47 => ?_)
      · refine qx_iconstN (v := 0) d_QM_matches_54 rfl ?_
        exact qx_iret d_QM_matches_55 rfl rfl (by omega) (by omega) (by first | (rw [c9]; exact ⟨rfl, rfl, rfl⟩) | (rw [c9, c23]; exact ⟨rfl, rfl, rfl⟩) | (rw [c9, c23, decide_eq_true c47]; exact ⟨rfl, rfl, rfl⟩) | (rw [c9, c23, decide_eq_false c47]; exact ⟨rfl, rfl, rfl⟩))
      · refine qx_iconstN (v := 1) d_QM_matches_50 rfl ?_
        refine qx_goto (t := 55) d_QM_matches_51 rfl ?_
        exact qx_iret d_QM_matches_55 rfl rfl (by omega) (by omega) (by first | (rw [c9]; exact ⟨rfl, rfl, rfl⟩) | (rw [c9, c23]; exact ⟨rfl, rfl, rfl⟩) | (rw [c9, c23, decide_eq_true c47]; exact ⟨rfl, rfl, rfl⟩) | (rw [c9, c23, decide_eq_false c47]; exact ⟨rfl, rfl, rfl⟩))
