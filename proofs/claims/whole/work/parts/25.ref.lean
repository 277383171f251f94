/-! kept rows, pure: row k is row kf k of the first table and row ks k of the second, or none -/
def tCell (tv : Nat → Int64) (tn : Nat → Bool) (t q c : Nat) : Option Int64 := if tn (24 * t + 2 * q + c) = true then none else some (tv (24 * t + 2 * q + c))
/-- a joined row's cell: value and mark, as the reference holds them -/
def jV (tv : Nat → Int64) (fi se : Nat) (f : Nat) (s : Option Nat) (c : Nat) : Int64 := if c < 2 then tv (24 * fi + 2 * f + c) else match s with
  | none => 0
  | some s => tv (24 * se + 2 * s + (c - 2))
def jB (tn : Nat → Bool) (fi se : Nat) (f : Nat) (s : Option Nat) (c : Nat) : Bool := if c < 2 then tn (24 * fi + 2 * f + c) else match s with
  | none => true
  | some s => tn (24 * se + 2 * s + (c - 2))
def jRow (tv : Nat → Int64) (tn : Nat → Bool) (fi se : Nat) (f : Nat) (s : Option Nat) (c : Nat) : Option Int64 := if jB tn fi se f s c = true then none else some (jV tv fi se f s c)
abbrev sK : Type := (Nat → Nat) × (Nat → Option Nat) × Nat
def kAdd (st : sK) (f : Nat) (s : Option Nat) : sK := (va_up st.1 st.2.2 f, va_up st.2.1 st.2.2 s, st.2.2 + 1)
/-- do they pair? -/
def jM (tv : Nat → Int64) (tn : Nat → Bool) (fi se le ri f s : Nat) : Bool := !tn (24 * fi + 2 * f + le) && (!tn (24 * se + 2 * s + ri) && decide (tv (24 * fi + 2 * f + le) = tv (24 * se + 2 * s + ri)))
def kIf (ok : Nat → Option Nat → Bool) (st : sK) (f : Nat) (s : Option Nat) : sK := if ok f s = true then kAdd st f s else st
def jIn (ok : Nat → Option Nat → Bool) (mt : Nat → Nat → Bool) (f : Nat) (st : sK) : Nat → sK × Nat
  | 0 => (st, 0)
  | s + 1 => if mt f s = true then (kIf ok (jIn ok mt f st s).1 f (some s), (jIn ok mt f st s).2 + 1) else jIn ok mt f st s
def jOut (ok : Nat → Option Nat → Bool) (mt : Nat → Nat → Bool) (n2 kd : Nat) : Nat → sK
  | 0 => ((fun _ => 0), (fun _ => none), 0)
  | f + 1 => if kd = 0 ∨ (kd = 2 ∧ (jIn ok mt f (jOut ok mt n2 kd f) n2).2 = 0) then kIf ok (jIn ok mt f (jOut ok mt n2 kd f) n2).1 f none else (jIn ok mt f (jOut ok mt n2 kd f) n2).1
theorem kIf_le (ok : Nat → Option Nat → Bool) (st : sK) (f : Nat) (s : Option Nat) : (kIf ok st f s).2.2 ≤ st.2.2 + 1 := by
  unfold kIf
  split
  · exact Nat.le_refl _
  · omega
theorem jIn_le (ok : Nat → Option Nat → Bool) (mt : Nat → Nat → Bool) (f : Nat) (st : sK) : ∀ s, (jIn ok mt f st s).1.2.2 ≤ st.2.2 + (jIn ok mt f st s).2 ∧ (jIn ok mt f st s).2 ≤ s
  | 0 => ⟨Nat.le_refl _, Nat.le_refl _⟩
  | s + 1 => by
    have h := jIn_le ok mt f st s
    unfold jIn
    split
    · have := kIf_le ok (jIn ok mt f st s).1 f (some s)
      dsimp only
      omega
    · omega
theorem jOut_le (ok : Nat → Option Nat → Bool) (mt : Nat → Nat → Bool) (n2 kd : Nat) (h12 : n2 ≤ 12) (h0 : kd = 0 → n2 = 0) : ∀ f, (jOut ok mt n2 kd f).2.2 ≤ 12 * f
  | 0 => Nat.le_refl _
  | f + 1 => by
    have h := jOut_le ok mt n2 kd h12 h0 f
    have h2 := jIn_le ok mt f (jOut ok mt n2 kd f) n2
    unfold jOut
    split
    · next hc =>
      have := kIf_le ok (jIn ok mt f (jOut ok mt n2 kd f) n2).1 f none
      have h3 : (jIn ok mt f (jOut ok mt n2 kd f) n2).2 = 0 := by
        rcases hc with e | e
        · have := h0 e
          omega
        · exact e.2
      omega
    · omega
def cp4 {α : Type} (f : Nat → α) (b : Nat) (g : Nat → α) : Nat → α := va_up (va_up (va_up (va_up f b (g 0)) (b + 1) (g 1)) (b + 2) (g 2)) (b + 3) (g 3)
theorem cp4_at {α : Type} {f g : Nat → α} {b c : Nat} (h : c < 4) : cp4 f b g (b + c) = g c := by
  unfold cp4
  have h : c = 0 ∨ c = 1 ∨ c = 2 ∨ c = 3 := by omega
  rcases h with rfl | rfl | rfl | rfl
  · rw [qun (by omega), qun (by omega), qun (by omega)]; exact qus
  · rw [qun (by omega), qun (by omega), qus]
  · rw [qun (by omega), qus]
  · rw [qus]
theorem cp4_ne {α : Type} {f g : Nat → α} {b j : Nat} (h : j < b ∨ b + 4 ≤ j) : cp4 f b g j = f j := by
  unfold cp4
  rw [qun (by omega), qun (by omega), qun (by omega), qun (by omega)]
/-- the reference's kept rows hold what the pure ones say -/
def kRep (V : Nat → Option Nat → Nat → Int64) (B : Nat → Option Nat → Nat → Bool) (kv : Nat → Int64) (kb : Nat → Bool) (st : sK) : Prop := ∀ k, k < st.2.2 → ∀ c, c < 4 → kv (4 * k + c) = V (st.1 k) (st.2.1 k) c ∧ kb (4 * k + c) = B (st.1 k) (st.2.1 k) c
theorem kRep_add {V : Nat → Option Nat → Nat → Int64} {B : Nat → Option Nat → Nat → Bool} {kv hv : Nat → Int64} {kb hb : Nat → Bool} {st : sK} {f : Nat} {s : Option Nat} (h : kRep V B kv kb st) (hr : ∀ c, c < 4 → hv c = V f s c ∧ hb c = B f s c) : kRep V B (cp4 kv (4 * st.2.2) hv) (cp4 kb (4 * st.2.2) hb) (kAdd st f s) := by
  intro k hk c hc
  have hk : k < st.2.2 + 1 := hk
  show _ = V (va_up st.1 st.2.2 f k) (va_up st.2.1 st.2.2 s k) c ∧ _ = B (va_up st.1 st.2.2 f k) (va_up st.2.1 st.2.2 s k) c
  by_cases e : k = st.2.2
  · subst e
    rw [qus, qus, cp4_at hc, cp4_at hc]
    exact hr c hc
  · rw [qun e, qun e, cp4_ne (by omega), cp4_ne (by omega)]
    exact h k (by omega) c hc
theorem kIf_t {ok : Nat → Option Nat → Bool} {st : sK} {f : Nat} {s : Option Nat} (h : ok f s = true) : kIf ok st f s = kAdd st f s := by unfold kIf; rw [h]; rfl
theorem kIf_f {ok : Nat → Option Nat → Bool} {st : sK} {f : Nat} {s : Option Nat} (h : ok f s = false) : kIf ok st f s = st := by unfold kIf; rw [h]; rfl
set_option maxRecDepth 100000 in
set_option maxHeartbeats 4000000 in
theorem ct_QM_keep {h : qH} (hR : h.2.2 122 = qRQM) (hv : Nat → Int64) (hb : Nat → Bool) (kv : Nat → Int64) (kb : Nat → Bool) (wk : Nat → Int64) (wn : Nat → Int32) (st : sK) (hst : st.2.2 < 144) (V : Nat → Option Nat → Nat → Int64) (B : Nat → Option Nat → Nat → Bool) (f : Nat) (s : Option Nat) (hvb : ∀ c, c < 4 → hv c = V f s c ∧ hb c = B f s c) (hkr : kRep V B kv kb st) (nc : Nat) (hnc6 : nc ≤ 6) (hnc : h.1 122 14 = nI nc) (CE : Nat → List xP) (hce : ∀ c, c < nc → (CE c).length ≤ 24 ∧ h.1 128 (8 + c) = nI (CE c).length ∧ rExp (h.1 126) (h.2.1 127) (24 * (8 + c)) (CE c) ∧ xT 8 [] (CE c) = some [true]) (ok : Nat → Option Nat → Bool) (hok : ok f s = allT (fun c => if B f s c = true then none else some (V f s c)) CE nc) : qT mi_QM_keep 5 0 0 [.ref 122] (eR (fR h hv hb kv kb st.2.2) wk wn) NN (fun v1 h1 n1 => v1 = none ∧ (∃ kv1 kb1 wk1 wn1, h1 = eR (fR h hv hb kv1 kb1 (kIf ok st f s).2.2) wk1 wn1 ∧ kRep V B kv1 kb1 (kIf ok st f s)) ∧ n1 = NN) := by
  refine qT.of (lv0 := [_, _]) (by decide +kernel) (fun _ _ => Nat.le_of_ble_eq_true rfl) rfl ?_
  refine qx_aload_n d_QM_keep_0 rfl rfl ?_
  refine qx_callV (As := []) (rest := _) d_QM_keep_1 lk_QM_188 y_QM_passesAll v_QM_passesAll rfl rfl rfl (by decide) rfl rfl rfl rfl (by decide) (by decide) (ct_QM_passesAll hR hv hb kv kb st.2.2 wk wn nc hnc6 hnc CE hce (fun c => if B f s c = true then none else some (V f s c)) (fun c hc => by rw [(hvb c hc).1, (hvb c hc).2])) ?_
  rintro _ _ _ ⟨rfl, ⟨wk1, wn1, rfl⟩, rfl⟩
  rw [← hok]
  refine qx_if_neB (t := 8) d_QM_keep_4 rfl (fun c4 => ?_) (fun c4 => ?_)
  · refine qx_iconstN (v := 0) d_QM_keep_8 rfl ?_
    refine qx_istore_n (lv1 := [_, _]) d_QM_keep_9 rfl (by decide) rfl ?_
    refine qx_iload_n d_QM_keep_10 rfl rfl ?_
    refine qx_iconstN (v := 4) d_QM_keep_11 rfl ?_
    refine qx_icmp_geN (t := 59) d_QM_keep_12 rfl (by omega) (by omega) (fun c12 => absurd c12 (by decide)) (fun c12 => ?_)
    refine qx_aload_n d_QM_keep_15 rfl rfl ?_
    refine qx_getR d_QM_keep_16 fR_QM_48 rfl rfl (congrFun hR 26) ?_
    refine qx_iconstN (v := 4) d_QM_keep_19 rfl ?_
    refine qx_aload_n d_QM_keep_20 rfl rfl ?_
    refine qx_getI d_QM_keep_21 fI_QM_191 rfl rfl (show _ = nI st.2.2 from rfl) ?_
    refine qx_imulN d_QM_keep_24 ?_
    refine qx_iload_n d_QM_keep_25 rfl rfl ?_
    refine qx_iaddN d_QM_keep_26 ?_
    refine qx_aload_n d_QM_keep_27 rfl rfl ?_
    refine qx_getR d_QM_keep_28 fR_QM_42 rfl rfl (congrFun hR 23) ?_
    refine qx_iload_n d_QM_keep_31 rfl rfl ?_
    refine qx_lald d_QM_keep_32 rfl rfl rfl rfl (by omega) (show _ = hv 0 from rfl) ?_
    refine qx_last d_QM_keep_33 rfl rfl rfl rfl (by omega) ?_
    refine qx_aload_n d_QM_keep_34 rfl rfl ?_
    refine qx_getR d_QM_keep_35 fR_QM_51 rfl rfl (congrFun hR 27) ?_
    refine qx_iconstN (v := 4) d_QM_keep_38 rfl ?_
    refine qx_aload_n d_QM_keep_39 rfl rfl ?_
    refine qx_getI d_QM_keep_40 fI_QM_191 rfl rfl (show _ = nI st.2.2 from rfl) ?_
    refine qx_imulN d_QM_keep_43 ?_
    refine qx_iload_n d_QM_keep_44 rfl rfl ?_
    refine qx_iaddN d_QM_keep_45 ?_
    refine qx_aload_n d_QM_keep_46 rfl rfl ?_
    refine qx_getR d_QM_keep_47 fR_QM_45 rfl rfl (congrFun hR 24) ?_
    refine qx_iload_n d_QM_keep_50 rfl rfl ?_
    refine qx_zald d_QM_keep_51 rfl rfl rfl rfl (by omega) (show _ = b2i (hb 0) from rfl) ?_
    refine qx_zast d_QM_keep_52 rfl rfl rfl rfl (by omega) (b2i_nar _) ?_
    refine qx_iincN (w := 1) (lv1 := [_, _]) d_QM_keep_53 rfl rfl (by decide) rfl ?_
    refine qx_goto (t := 10) d_QM_keep_56 rfl ?_
    refine qx_iload_n d_QM_keep_10 rfl rfl ?_
    refine qx_iconstN (v := 4) d_QM_keep_11 rfl ?_
    refine qx_icmp_geN (t := 59) d_QM_keep_12 rfl (by omega) (by omega) (fun c12 => absurd c12 (by decide)) (fun c12 => ?_)
    refine qx_aload_n d_QM_keep_15 rfl rfl ?_
    refine qx_getR d_QM_keep_16 fR_QM_48 rfl rfl (congrFun hR 26) ?_
    refine qx_iconstN (v := 4) d_QM_keep_19 rfl ?_
    refine qx_aload_n d_QM_keep_20 rfl rfl ?_
    refine qx_getI d_QM_keep_21 fI_QM_191 rfl rfl (show _ = nI st.2.2 from rfl) ?_
    refine qx_imulN d_QM_keep_24 ?_
    refine qx_iload_n d_QM_keep_25 rfl rfl ?_
    refine qx_iaddN d_QM_keep_26 ?_
    refine qx_aload_n d_QM_keep_27 rfl rfl ?_
    refine qx_getR d_QM_keep_28 fR_QM_42 rfl rfl (congrFun hR 23) ?_
    refine qx_iload_n d_QM_keep_31 rfl rfl ?_
    refine qx_lald d_QM_keep_32 rfl rfl rfl rfl (by omega) (show _ = hv 1 from rfl) ?_
    refine qx_last d_QM_keep_33 rfl rfl rfl rfl (by omega) ?_
    refine qx_aload_n d_QM_keep_34 rfl rfl ?_
    refine qx_getR d_QM_keep_35 fR_QM_51 rfl rfl (congrFun hR 27) ?_
    refine qx_iconstN (v := 4) d_QM_keep_38 rfl ?_
    refine qx_aload_n d_QM_keep_39 rfl rfl ?_
    refine qx_getI d_QM_keep_40 fI_QM_191 rfl rfl (show _ = nI st.2.2 from rfl) ?_
    refine qx_imulN d_QM_keep_43 ?_
    refine qx_iload_n d_QM_keep_44 rfl rfl ?_
    refine qx_iaddN d_QM_keep_45 ?_
    refine qx_aload_n d_QM_keep_46 rfl rfl ?_
    refine qx_getR d_QM_keep_47 fR_QM_45 rfl rfl (congrFun hR 24) ?_
    refine qx_iload_n d_QM_keep_50 rfl rfl ?_
    refine qx_zald d_QM_keep_51 rfl rfl rfl rfl (by omega) (show _ = b2i (hb 1) from rfl) ?_
    refine qx_zast d_QM_keep_52 rfl rfl rfl rfl (by omega) (b2i_nar _) ?_
    refine qx_iincN (w := 1) (lv1 := [_, _]) d_QM_keep_53 rfl rfl (by decide) rfl ?_
    refine qx_goto (t := 10) d_QM_keep_56 rfl ?_
    refine qx_iload_n d_QM_keep_10 rfl rfl ?_
    refine qx_iconstN (v := 4) d_QM_keep_11 rfl ?_
    refine qx_icmp_geN (t := 59) d_QM_keep_12 rfl (by omega) (by omega) (fun c12 => absurd c12 (by decide)) (fun c12 => ?_)
    refine qx_aload_n d_QM_keep_15 rfl rfl ?_
    refine qx_getR d_QM_keep_16 fR_QM_48 rfl rfl (congrFun hR 26) ?_
    refine qx_iconstN (v := 4) d_QM_keep_19 rfl ?_
    refine qx_aload_n d_QM_keep_20 rfl rfl ?_
    refine qx_getI d_QM_keep_21 fI_QM_191 rfl rfl (show _ = nI st.2.2 from rfl) ?_
    refine qx_imulN d_QM_keep_24 ?_
    refine qx_iload_n d_QM_keep_25 rfl rfl ?_
    refine qx_iaddN d_QM_keep_26 ?_
    refine qx_aload_n d_QM_keep_27 rfl rfl ?_
    refine qx_getR d_QM_keep_28 fR_QM_42 rfl rfl (congrFun hR 23) ?_
    refine qx_iload_n d_QM_keep_31 rfl rfl ?_
    refine qx_lald d_QM_keep_32 rfl rfl rfl rfl (by omega) (show _ = hv 2 from rfl) ?_
    refine qx_last d_QM_keep_33 rfl rfl rfl rfl (by omega) ?_
    refine qx_aload_n d_QM_keep_34 rfl rfl ?_
    refine qx_getR d_QM_keep_35 fR_QM_51 rfl rfl (congrFun hR 27) ?_
    refine qx_iconstN (v := 4) d_QM_keep_38 rfl ?_
    refine qx_aload_n d_QM_keep_39 rfl rfl ?_
    refine qx_getI d_QM_keep_40 fI_QM_191 rfl rfl (show _ = nI st.2.2 from rfl) ?_
    refine qx_imulN d_QM_keep_43 ?_
    refine qx_iload_n d_QM_keep_44 rfl rfl ?_
    refine qx_iaddN d_QM_keep_45 ?_
    refine qx_aload_n d_QM_keep_46 rfl rfl ?_
    refine qx_getR d_QM_keep_47 fR_QM_45 rfl rfl (congrFun hR 24) ?_
    refine qx_iload_n d_QM_keep_50 rfl rfl ?_
    refine qx_zald d_QM_keep_51 rfl rfl rfl rfl (by omega) (show _ = b2i (hb 2) from rfl) ?_
    refine qx_zast d_QM_keep_52 rfl rfl rfl rfl (by omega) (b2i_nar _) ?_
    refine qx_iincN (w := 1) (lv1 := [_, _]) d_QM_keep_53 rfl rfl (by decide) rfl ?_
    refine qx_goto (t := 10) d_QM_keep_56 rfl ?_
    refine qx_iload_n d_QM_keep_10 rfl rfl ?_
    refine qx_iconstN (v := 4) d_QM_keep_11 rfl ?_
    refine qx_icmp_geN (t := 59) d_QM_keep_12 rfl (by omega) (by omega) (fun c12 => absurd c12 (by decide)) (fun c12 => ?_)
    refine qx_aload_n d_QM_keep_15 rfl rfl ?_
    refine qx_getR d_QM_keep_16 fR_QM_48 rfl rfl (congrFun hR 26) ?_
    refine qx_iconstN (v := 4) d_QM_keep_19 rfl ?_
    refine qx_aload_n d_QM_keep_20 rfl rfl ?_
    refine qx_getI d_QM_keep_21 fI_QM_191 rfl rfl (show _ = nI st.2.2 from rfl) ?_
    refine qx_imulN d_QM_keep_24 ?_
    refine qx_iload_n d_QM_keep_25 rfl rfl ?_
    refine qx_iaddN d_QM_keep_26 ?_
    refine qx_aload_n d_QM_keep_27 rfl rfl ?_
    refine qx_getR d_QM_keep_28 fR_QM_42 rfl rfl (congrFun hR 23) ?_
    refine qx_iload_n d_QM_keep_31 rfl rfl ?_
    refine qx_lald d_QM_keep_32 rfl rfl rfl rfl (by omega) (show _ = hv 3 from rfl) ?_
    refine qx_last d_QM_keep_33 rfl rfl rfl rfl (by omega) ?_
    refine qx_aload_n d_QM_keep_34 rfl rfl ?_
    refine qx_getR d_QM_keep_35 fR_QM_51 rfl rfl (congrFun hR 27) ?_
    refine qx_iconstN (v := 4) d_QM_keep_38 rfl ?_
    refine qx_aload_n d_QM_keep_39 rfl rfl ?_
    refine qx_getI d_QM_keep_40 fI_QM_191 rfl rfl (show _ = nI st.2.2 from rfl) ?_
    refine qx_imulN d_QM_keep_43 ?_
    refine qx_iload_n d_QM_keep_44 rfl rfl ?_
    refine qx_iaddN d_QM_keep_45 ?_
    refine qx_aload_n d_QM_keep_46 rfl rfl ?_
    refine qx_getR d_QM_keep_47 fR_QM_45 rfl rfl (congrFun hR 24) ?_
    refine qx_iload_n d_QM_keep_50 rfl rfl ?_
    refine qx_zald d_QM_keep_51 rfl rfl rfl rfl (by omega) (show _ = b2i (hb 3) from rfl) ?_
    refine qx_zast d_QM_keep_52 rfl rfl rfl rfl (by omega) (b2i_nar _) ?_
    refine qx_iincN (w := 1) (lv1 := [_, _]) d_QM_keep_53 rfl rfl (by decide) rfl ?_
    refine qx_goto (t := 10) d_QM_keep_56 rfl ?_
    refine qx_iload_n d_QM_keep_10 rfl rfl ?_
    refine qx_iconstN (v := 4) d_QM_keep_11 rfl ?_
    refine qx_icmp_geN (t := 59) d_QM_keep_12 rfl (by omega) (by omega) (fun c12 => ?_) (fun c12 => absurd c12 (by decide))
    refine qx_aload_n d_QM_keep_59 rfl rfl ?_
    refine qx_dup d_QM_keep_60 rfl ?_
    refine qx_getI d_QM_keep_61 fI_QM_191 rfl rfl (show _ = nI st.2.2 from rfl) ?_
    refine qx_iconstN (v := 1) d_QM_keep_64 rfl ?_
    refine qx_iaddN d_QM_keep_65 ?_
    refine qx_putI d_QM_keep_66 fI_QM_191 rfl rfl ⟨rfl, rfl⟩ ?_
    exact qx_ret d_QM_keep_69 rfl (by omega) (by omega) (by rw [kIf_t c4]; exact ⟨rfl, ⟨_, _, wk1, wn1, by rw [eR_L (by decide), fR_kv, eR_I (by decide), fR_kb, eR_L (by decide), fR_kv, eR_I (by decide), fR_kb, eR_L (by decide), fR_kv, eR_I (by decide), fR_kb, eR_L (by decide), fR_kv, eR_I (by decide), fR_kb, eR_I (by decide), fR_kp]; rfl, kRep_add hkr hvb⟩, rfl⟩)
  · exact qx_ret d_QM_keep_7 rfl (by omega) (by omega) (by rw [kIf_f c4]; exact ⟨rfl, ⟨kv, kb, wk1, wn1, rfl, hkr⟩, rfl⟩)
