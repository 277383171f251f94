/-! aggregates, pure: how many rows, how many numbers, the sum's two halves, the best -/
abbrev sA : Type := Nat × Nat × Int64 × Int64 × Int64
abbrev S32 : Int64 := (nI 32).toInt64 &&& 63
abbrev M32 : Int64 := 4294967295
def agS (w : Nat) (a : sA) (x : Option Int64) : sA := if w = 1 then (a.1 + 1, a.2) else match x with
  | none => (a.1 + 1, a.2)
  | some v => (a.1 + 1, a.2.1 + 1, a.2.2.1 + (v >>> S32), a.2.2.2.1 + (v &&& M32), if a.2.1 = 0 ∨ (w = 4 ∧ v < a.2.2.2.2) ∨ (w ≠ 4 ∧ a.2.2.2.2 < v) then v else a.2.2.2.2)
def agL (w : Nat) (tg : Nat → Bool) (val : Nat → Option Int64) : Nat → sA
  | 0 => (0, 0, 0, 0, 0)
  | i + 1 => if tg i = true then agS w (agL w tg val i) (val i) else agL w tg val i
def agH (a : sA) : Int64 := a.2.2.1 + (a.2.2.2.1 >>> S32)
def agR (w : Nat) (a : sA) : Option Int64 :=
  if w = 1 then some (lN a.1)
  else if w = 2 then some (lN a.2.1)
  else if w = 3 then (if a.2.1 = 0 ∨ ¬ (-2147483648 ≤ agH a ∧ agH a ≤ 2147483647) then none else some ((agH a <<< S32) ||| (a.2.2.2.1 &&& M32)))
  else (if a.2.1 = 0 then none else some a.2.2.2.2)
theorem agS_1 {w : Nat} {a : sA} {x : Option Int64} (h : w = 1) : agS w a x = (a.1 + 1, a.2) := by unfold agS; rw [if_pos h]
theorem agS_n {w : Nat} {a : sA} {x : Option Int64} (h : w ≠ 1) (hx : x.isNone = true) : agS w a x = (a.1 + 1, a.2) := by
  unfold agS
  rw [if_neg h]
  cases x with
  | none => rfl
  | some v => cases hx
theorem agS_s {w : Nat} {a : sA} {x : Option Int64} (h : w ≠ 1) (hx : x.isNone = false) : agS w a x = (a.1 + 1, a.2.1 + 1, a.2.2.1 + (x.getD 0 >>> S32), a.2.2.2.1 + (x.getD 0 &&& M32), if a.2.1 = 0 ∨ (w = 4 ∧ x.getD 0 < a.2.2.2.2) ∨ (w ≠ 4 ∧ a.2.2.2.2 < x.getD 0) then x.getD 0 else a.2.2.2.2) := by
  unfold agS
  rw [if_neg h]
  cases x with
  | none => cases hx
  | some v => rfl
theorem agS_le (w : Nat) (a : sA) (x : Option Int64) : (agS w a x).1 ≤ a.1 + 1 ∧ (agS w a x).2.1 ≤ a.2.1 + 1 := by
  unfold agS
  split
  · exact ⟨Nat.le_refl _, Nat.le_succ _⟩
  · split
    · exact ⟨Nat.le_refl _, Nat.le_succ _⟩
    · exact ⟨Nat.le_refl _, Nat.le_refl _⟩
theorem agL_le (w : Nat) (tg : Nat → Bool) (val : Nat → Option Int64) : ∀ i, (agL w tg val i).1 ≤ i ∧ (agL w tg val i).2.1 ≤ i
  | 0 => ⟨Nat.le_refl _, Nat.le_refl _⟩
  | i + 1 => by
    have h := agL_le w tg val i
    unfold agL
    split
    · have := agS_le w (agL w tg val i) (val i)
      omega
    · omega
set_option maxRecDepth 100000 in
set_option maxHeartbeats 4000000 in
theorem ct_QM_aggregate {h : qH} (hR : h.2.2 122 = qRQM) (vv : Nat → Int64) (vb : Nat → Bool) (rs : Nat) (hv : Nat → Int64) (hb : Nat → Bool) (kv : Nat → Int64) (kb : Nat → Bool) (kp : Nat) (wk : Nat → Int64) (wn : Nat → Int32) (gr : Option Nat) (hgr4 : ∀ g, gr = some g → g < 4) (hgr : h.1 122 9 = grI gr) (OE : Nat → List xP) (ok : Nat → Nat) (no : Nat) (hno3 : no ≤ 3) (hno : h.1 122 15 = nI no) (hoe : ∀ o, o < no → h.1 130 o = nI (ok o) ∧ ok o < 6 ∧ (ok o ≠ 1 → (OE o).length ≤ 24 ∧ h.1 128 (14 + o) = nI (OE o).length ∧ rExp (h.1 126) (h.2.1 127) (24 * (14 + o)) (OE o) ∧ xT 8 [] (OE o) = some [false])) (o k c : Nat) (ho : o < no) (hk : k < 144) (hc : c < 4) (hrs : rs < 144) (hkp : kp ≤ 144) : qT mi_QM_aggregate 3 0 0 [.ref 122, .int (nI o), .int (nI k), .int (nI c)] (eR (fR (vR h vv vb rs) hv hb kv kb kp) wk wn) NN (fun v1 h1 n1 => v1 = none ∧ (∃ hv1 hb1 wk1 wn1, h1 = eR (fR (vR h (va_up vv (4 * rs + c) ((agR (ok o) (agL (ok o) (fun i => tog gr kv kb i k) (fun i => xVal (kCell kv kb i) (OE o)) kp)).getD 0)) (va_up vb (4 * rs + c) (agR (ok o) (agL (ok o) (fun i => tog gr kv kb i k) (fun i => xVal (kCell kv kb i) (OE o)) kp)).isNone) rs) hv1 hb1 kv kb kp) wk1 wn1) ∧ n1 = NN) := by
  refine qT.of (lv0 := [_, _, _, _, _, _, _, _, _, _, _, _, _, _, _, _]) (by decide +kernel) (fun _ _ => Nat.le_of_ble_eq_true rfl) rfl ?_
  obtain ⟨hok, hok6, hox⟩ := hoe o ho
  have key : ∀ (m i : Nat) (hv : Nat → Int64) (hb : Nat → Bool) (wk : Nat → Int64) (wn : Nat → Int32), i + m = kp → qX mi_QM_aggregate 3 none 0 0 26 [.ref 122, .int (nI o), .int (nI k), .int (nI c), .int (nI (ok o)), .int (nI (agL (ok o) (fun i => tog gr kv kb i k) (fun i => xVal (kCell kv kb i) (OE o)) i).1), .int (nI (agL (ok o) (fun i => tog gr kv kb i k) (fun i => xVal (kCell kv kb i) (OE o)) i).2.1), .long (agL (ok o) (fun i => tog gr kv kb i k) (fun i => xVal (kCell kv kb i) (OE o)) i).2.2.1, qdead, .long (agL (ok o) (fun i => tog gr kv kb i k) (fun i => xVal (kCell kv kb i) (OE o)) i).2.2.2.1, qdead, .long (agL (ok o) (fun i => tog gr kv kb i k) (fun i => xVal (kCell kv kb i) (OE o)) i).2.2.2.2, qdead, .int (nI i), qdead, qdead] [] (eR (fR (vR h vv vb rs) hv hb kv kb kp) wk wn) NN 0 0 (fun v1 h1 n1 => v1 = none ∧ (∃ hv1 hb1 wk1 wn1, h1 = eR (fR (vR h (va_up vv (4 * rs + c) ((agR (ok o) (agL (ok o) (fun i => tog gr kv kb i k) (fun i => xVal (kCell kv kb i) (OE o)) kp)).getD 0)) (va_up vb (4 * rs + c) (agR (ok o) (agL (ok o) (fun i => tog gr kv kb i k) (fun i => xVal (kCell kv kb i) (OE o)) kp)).isNone) rs) hv1 hb1 kv kb kp) wk1 wn1) ∧ n1 = NN) := by
    intro m
    induction m with
    | zero =>
      intro i hv hb wk wn hi
      have e : i = kp := by omega
      subst e
      have hle := agL_le (ok o) (fun i => tog gr kv kb i k) (fun i => xVal (kCell kv kb i) (OE o)) i
      generalize ha : (agL (ok o) (fun i => tog gr kv kb i k) (fun i => xVal (kCell kv kb i) (OE o)) i) = a at hle ⊢
      refine qx_iload d_QM_aggregate_26 rfl ?_
      refine qx_aload_n d_QM_aggregate_28 rfl rfl ?_
      refine qx_getI d_QM_aggregate_29 fI_QM_191 rfl rfl (show _ = nI i from rfl) ?_
      refine qx_icmp_geN (t := 163) d_QM_aggregate_32 rfl (by omega) (by omega) (fun c32 => ?_) (fun c32 => absurd c32 (by omega))
      refine qx_lload d_QM_aggregate_163 rfl ?_
      refine qx_lload d_QM_aggregate_165 rfl ?_
      refine qx_bipushN (v := 32) d_QM_aggregate_167 rfl ?_
      refine qx_lshr d_QM_aggregate_169 ?_
      refine qx_ladd d_QM_aggregate_170 ?_
      refine qx_lstore (lv1 := [_, _, _, _, _, _, _, _, _, _, _, _, _, _, _, _]) d_QM_aggregate_171 (by decide) rfl ?_
      refine qx_lload d_QM_aggregate_173 rfl ?_
      refine qx_ldc2 d_QM_aggregate_175 kl_QM_219 ?_
      refine qx_lcmp d_QM_aggregate_178 ?_
      refine qx_if_ltC (t := 195) d_QM_aggregate_179 rfl (fun c179 => ?_) (fun c179 => ?_)
      · refine qx_iconst (v := b2i false) d_QM_aggregate_195 rfl ?_
        refine qx_istore (lv1 := [_, _, _, _, _, _, _, _, _, _, _, _, _, _, _, _]) d_QM_aggregate_196 (by decide) rfl ?_
        refine qx_lload d_QM_aggregate_198 rfl ?_
        refine qx_bipushN (v := 32) d_QM_aggregate_200 rfl ?_
        refine qx_lshl d_QM_aggregate_202 ?_
        refine qx_lload d_QM_aggregate_203 rfl ?_
        refine qx_ldc2 d_QM_aggregate_205 kl_QM_217 ?_
        refine qx_land d_QM_aggregate_208 ?_
        refine qx_lor d_QM_aggregate_209 ?_
        refine qx_lstore (lv1 := [_, _, _, _, _, _, _, _, _, _, _, _, _, _, _, _]) d_QM_aggregate_210 (by decide) rfl ?_
        refine qx_iload d_QM_aggregate_212 rfl ?_
        refine qx_iconstN (v := 1) d_QM_aggregate_214 rfl ?_
        refine qx_icmp_neN (t := 230) d_QM_aggregate_215 rfl (by omega) (by omega) (fun c215 => ?_) (fun c215 => ?_)
        · refine qx_iload d_QM_aggregate_230 rfl ?_
          refine qx_iconstN (v := 2) d_QM_aggregate_232 rfl ?_
          refine qx_icmp_neN (t := 248) d_QM_aggregate_233 rfl (by omega) (by omega) (fun c233 => ?_) (fun c233 => ?_)
          · refine qx_iload d_QM_aggregate_248 rfl ?_
            refine qx_iconstN (v := 3) d_QM_aggregate_250 rfl ?_
            refine qx_icmp_neN (t := 279) d_QM_aggregate_251 rfl (by omega) (by omega) (fun c251 => ?_) (fun c251 => ?_)
            · refine qx_aload_n d_QM_aggregate_279 rfl rfl ?_
              refine qx_iload_n d_QM_aggregate_280 rfl rfl ?_
              refine qx_lload d_QM_aggregate_281 rfl ?_
              refine qx_iload d_QM_aggregate_283 rfl ?_
              refine qx_if_neN (t := 292) d_QM_aggregate_285 rfl (by omega) (fun c285 => ?_) (fun c285 => ?_)
              · refine qx_iconst (v := b2i false) d_QM_aggregate_292 rfl ?_
                refine qx_callV (As := [_, _, _]) (rest := _) d_QM_aggregate_293 lk_QM_223 y_QM_give v_QM_give rfl rfl rfl (by decide) rfl rfl rfl rfl (by decide) (by decide) (ct_QM_give hR vv vb rs hv hb kv kb i wk wn c hc hrs _ _) ?_
                rintro _ _ _ ⟨rfl, rfl, rfl⟩
                exact qx_ret d_QM_aggregate_296 rfl (by omega) (by omega) (by first | exact absurd c265 (by decide) | (rw [show agR (ok o) a = some (lN a.1) from by unfold agR; rw [if_pos c215]]; exact ⟨rfl, ⟨hv, hb, wk, wn, rfl⟩, rfl⟩) | (rw [show agR (ok o) a = some (lN a.2.1) from by unfold agR; rw [if_neg c215, if_pos c233]]; exact ⟨rfl, ⟨hv, hb, wk, wn, rfl⟩, rfl⟩) | (rw [show agR (ok o) a = none from by unfold agR; rw [if_neg c215, if_neg c233, if_pos c251, if_pos (Or.inl c260)]]; exact ⟨rfl, ⟨hv, hb, wk, wn, rfl⟩, rfl⟩) | (rw [show agR (ok o) a = none from by unfold agR; rw [if_neg c215, if_neg c233, if_pos c251, if_pos (Or.inr (fun q => absurd q.1 (Int64.not_le.mpr c179)))]]; exact ⟨rfl, ⟨hv, hb, wk, wn, rfl⟩, rfl⟩) | (rw [show agR (ok o) a = none from by unfold agR; rw [if_neg c215, if_neg c233, if_pos c251, if_pos (Or.inr (fun q => absurd q.2 (Int64.not_le.mpr c188)))]]; exact ⟨rfl, ⟨hv, hb, wk, wn, rfl⟩, rfl⟩) | (rw [show agR (ok o) a = some ((agH a <<< S32) ||| (a.2.2.2.1 &&& M32)) from by unfold agR; rw [if_neg c215, if_neg c233, if_pos c251, if_neg (fun q => q.elim (fun e => by omega) (fun e => e ⟨c179, c188⟩))]]; exact ⟨rfl, ⟨hv, hb, wk, wn, rfl⟩, rfl⟩) | (rw [show agR (ok o) a = none from by unfold agR; rw [if_neg c215, if_neg c233, if_neg c251, if_pos c285]]; exact ⟨rfl, ⟨hv, hb, wk, wn, rfl⟩, rfl⟩) | (rw [show agR (ok o) a = some a.2.2.2.2 from by unfold agR; rw [if_neg c215, if_neg c233, if_neg c251, if_neg (Nat.ne_of_gt c285)]]; exact ⟨rfl, ⟨hv, hb, wk, wn, rfl⟩, rfl⟩))
              · refine qx_iconst (v := b2i true) d_QM_aggregate_288 rfl ?_
                refine qx_goto (t := 293) d_QM_aggregate_289 rfl ?_
                refine qx_callV (As := [_, _, _]) (rest := _) d_QM_aggregate_293 lk_QM_223 y_QM_give v_QM_give rfl rfl rfl (by decide) rfl rfl rfl rfl (by decide) (by decide) (ct_QM_give hR vv vb rs hv hb kv kb i wk wn c hc hrs _ _) ?_
                rintro _ _ _ ⟨rfl, rfl, rfl⟩
                exact qx_ret d_QM_aggregate_296 rfl (by omega) (by omega) (by first | exact absurd c265 (by decide) | (rw [show agR (ok o) a = some (lN a.1) from by unfold agR; rw [if_pos c215]]; exact ⟨rfl, ⟨hv, hb, wk, wn, rfl⟩, rfl⟩) | (rw [show agR (ok o) a = some (lN a.2.1) from by unfold agR; rw [if_neg c215, if_pos c233]]; exact ⟨rfl, ⟨hv, hb, wk, wn, rfl⟩, rfl⟩) | (rw [show agR (ok o) a = none from by unfold agR; rw [if_neg c215, if_neg c233, if_pos c251, if_pos (Or.inl c260)]]; exact ⟨rfl, ⟨hv, hb, wk, wn, rfl⟩, rfl⟩) | (rw [show agR (ok o) a = none from by unfold agR; rw [if_neg c215, if_neg c233, if_pos c251, if_pos (Or.inr (fun q => absurd q.1 (Int64.not_le.mpr c179)))]]; exact ⟨rfl, ⟨hv, hb, wk, wn, rfl⟩, rfl⟩) | (rw [show agR (ok o) a = none from by unfold agR; rw [if_neg c215, if_neg c233, if_pos c251, if_pos (Or.inr (fun q => absurd q.2 (Int64.not_le.mpr c188)))]]; exact ⟨rfl, ⟨hv, hb, wk, wn, rfl⟩, rfl⟩) | (rw [show agR (ok o) a = some ((agH a <<< S32) ||| (a.2.2.2.1 &&& M32)) from by unfold agR; rw [if_neg c215, if_neg c233, if_pos c251, if_neg (fun q => q.elim (fun e => by omega) (fun e => e ⟨c179, c188⟩))]]; exact ⟨rfl, ⟨hv, hb, wk, wn, rfl⟩, rfl⟩) | (rw [show agR (ok o) a = none from by unfold agR; rw [if_neg c215, if_neg c233, if_neg c251, if_pos c285]]; exact ⟨rfl, ⟨hv, hb, wk, wn, rfl⟩, rfl⟩) | (rw [show agR (ok o) a = some a.2.2.2.2 from by unfold agR; rw [if_neg c215, if_neg c233, if_neg c251, if_neg (Nat.ne_of_gt c285)]]; exact ⟨rfl, ⟨hv, hb, wk, wn, rfl⟩, rfl⟩))
            · refine qx_aload_n d_QM_aggregate_254 rfl rfl ?_
              refine qx_iload_n d_QM_aggregate_255 rfl rfl ?_
              refine qx_lload d_QM_aggregate_256 rfl ?_
              refine qx_iload d_QM_aggregate_258 rfl ?_
              refine qx_if_eqN (t := 268) d_QM_aggregate_260 rfl (by omega) (fun c260 => ?_) (fun c260 => ?_)
              · refine qx_iconst (v := b2i true) d_QM_aggregate_268 rfl ?_
                refine qx_goto (t := 273) d_QM_aggregate_269 rfl ?_
                refine qx_callV (As := [_, _, _]) (rest := _) d_QM_aggregate_273 lk_QM_223 y_QM_give v_QM_give rfl rfl rfl (by decide) rfl rfl rfl rfl (by decide) (by decide) (ct_QM_give hR vv vb rs hv hb kv kb i wk wn c hc hrs _ _) ?_
                rintro _ _ _ ⟨rfl, rfl, rfl⟩
                refine qx_goto (t := 296) d_QM_aggregate_276 rfl ?_
                exact qx_ret d_QM_aggregate_296 rfl (by omega) (by omega) (by first | exact absurd c265 (by decide) | (rw [show agR (ok o) a = some (lN a.1) from by unfold agR; rw [if_pos c215]]; exact ⟨rfl, ⟨hv, hb, wk, wn, rfl⟩, rfl⟩) | (rw [show agR (ok o) a = some (lN a.2.1) from by unfold agR; rw [if_neg c215, if_pos c233]]; exact ⟨rfl, ⟨hv, hb, wk, wn, rfl⟩, rfl⟩) | (rw [show agR (ok o) a = none from by unfold agR; rw [if_neg c215, if_neg c233, if_pos c251, if_pos (Or.inl c260)]]; exact ⟨rfl, ⟨hv, hb, wk, wn, rfl⟩, rfl⟩) | (rw [show agR (ok o) a = none from by unfold agR; rw [if_neg c215, if_neg c233, if_pos c251, if_pos (Or.inr (fun q => absurd q.1 (Int64.not_le.mpr c179)))]]; exact ⟨rfl, ⟨hv, hb, wk, wn, rfl⟩, rfl⟩) | (rw [show agR (ok o) a = none from by unfold agR; rw [if_neg c215, if_neg c233, if_pos c251, if_pos (Or.inr (fun q => absurd q.2 (Int64.not_le.mpr c188)))]]; exact ⟨rfl, ⟨hv, hb, wk, wn, rfl⟩, rfl⟩) | (rw [show agR (ok o) a = some ((agH a <<< S32) ||| (a.2.2.2.1 &&& M32)) from by unfold agR; rw [if_neg c215, if_neg c233, if_pos c251, if_neg (fun q => q.elim (fun e => by omega) (fun e => e ⟨c179, c188⟩))]]; exact ⟨rfl, ⟨hv, hb, wk, wn, rfl⟩, rfl⟩) | (rw [show agR (ok o) a = none from by unfold agR; rw [if_neg c215, if_neg c233, if_neg c251, if_pos c285]]; exact ⟨rfl, ⟨hv, hb, wk, wn, rfl⟩, rfl⟩) | (rw [show agR (ok o) a = some a.2.2.2.2 from by unfold agR; rw [if_neg c215, if_neg c233, if_neg c251, if_neg (Nat.ne_of_gt c285)]]; exact ⟨rfl, ⟨hv, hb, wk, wn, rfl⟩, rfl⟩))
              · refine qx_iload d_QM_aggregate_263 rfl ?_
                refine qx_if_neB (t := 272) d_QM_aggregate_265 rfl (fun c265 => ?_) (fun c265 => ?_)
                · refine qx_iconst (v := b2i false) d_QM_aggregate_272 rfl ?_
                  refine qx_callV (As := [_, _, _]) (rest := _) d_QM_aggregate_273 lk_QM_223 y_QM_give v_QM_give rfl rfl rfl (by decide) rfl rfl rfl rfl (by decide) (by decide) (ct_QM_give hR vv vb rs hv hb kv kb i wk wn c hc hrs _ _) ?_
                  rintro _ _ _ ⟨rfl, rfl, rfl⟩
                  refine qx_goto (t := 296) d_QM_aggregate_276 rfl ?_
                  exact qx_ret d_QM_aggregate_296 rfl (by omega) (by omega) (by first | exact absurd c265 (by decide) | (rw [show agR (ok o) a = some (lN a.1) from by unfold agR; rw [if_pos c215]]; exact ⟨rfl, ⟨hv, hb, wk, wn, rfl⟩, rfl⟩) | (rw [show agR (ok o) a = some (lN a.2.1) from by unfold agR; rw [if_neg c215, if_pos c233]]; exact ⟨rfl, ⟨hv, hb, wk, wn, rfl⟩, rfl⟩) | (rw [show agR (ok o) a = none from by unfold agR; rw [if_neg c215, if_neg c233, if_pos c251, if_pos (Or.inl c260)]]; exact ⟨rfl, ⟨hv, hb, wk, wn, rfl⟩, rfl⟩) | (rw [show agR (ok o) a = none from by unfold agR; rw [if_neg c215, if_neg c233, if_pos c251, if_pos (Or.inr (fun q => absurd q.1 (Int64.not_le.mpr c179)))]]; exact ⟨rfl, ⟨hv, hb, wk, wn, rfl⟩, rfl⟩) | (rw [show agR (ok o) a = none from by unfold agR; rw [if_neg c215, if_neg c233, if_pos c251, if_pos (Or.inr (fun q => absurd q.2 (Int64.not_le.mpr c188)))]]; exact ⟨rfl, ⟨hv, hb, wk, wn, rfl⟩, rfl⟩) | (rw [show agR (ok o) a = some ((agH a <<< S32) ||| (a.2.2.2.1 &&& M32)) from by unfold agR; rw [if_neg c215, if_neg c233, if_pos c251, if_neg (fun q => q.elim (fun e => by omega) (fun e => e ⟨c179, c188⟩))]]; exact ⟨rfl, ⟨hv, hb, wk, wn, rfl⟩, rfl⟩) | (rw [show agR (ok o) a = none from by unfold agR; rw [if_neg c215, if_neg c233, if_neg c251, if_pos c285]]; exact ⟨rfl, ⟨hv, hb, wk, wn, rfl⟩, rfl⟩) | (rw [show agR (ok o) a = some a.2.2.2.2 from by unfold agR; rw [if_neg c215, if_neg c233, if_neg c251, if_neg (Nat.ne_of_gt c285)]]; exact ⟨rfl, ⟨hv, hb, wk, wn, rfl⟩, rfl⟩))
                · refine qx_iconst (v := b2i true) d_QM_aggregate_268 rfl ?_
                  refine qx_goto (t := 273) d_QM_aggregate_269 rfl ?_
                  refine qx_callV (As := [_, _, _]) (rest := _) d_QM_aggregate_273 lk_QM_223 y_QM_give v_QM_give rfl rfl rfl (by decide) rfl rfl rfl rfl (by decide) (by decide) (ct_QM_give hR vv vb rs hv hb kv kb i wk wn c hc hrs _ _) ?_
                  rintro _ _ _ ⟨rfl, rfl, rfl⟩
                  refine qx_goto (t := 296) d_QM_aggregate_276 rfl ?_
                  exact qx_ret d_QM_aggregate_296 rfl (by omega) (by omega) (by first | exact absurd c265 (by decide) | (rw [show agR (ok o) a = some (lN a.1) from by unfold agR; rw [if_pos c215]]; exact ⟨rfl, ⟨hv, hb, wk, wn, rfl⟩, rfl⟩) | (rw [show agR (ok o) a = some (lN a.2.1) from by unfold agR; rw [if_neg c215, if_pos c233]]; exact ⟨rfl, ⟨hv, hb, wk, wn, rfl⟩, rfl⟩) | (rw [show agR (ok o) a = none from by unfold agR; rw [if_neg c215, if_neg c233, if_pos c251, if_pos (Or.inl c260)]]; exact ⟨rfl, ⟨hv, hb, wk, wn, rfl⟩, rfl⟩) | (rw [show agR (ok o) a = none from by unfold agR; rw [if_neg c215, if_neg c233, if_pos c251, if_pos (Or.inr (fun q => absurd q.1 (Int64.not_le.mpr c179)))]]; exact ⟨rfl, ⟨hv, hb, wk, wn, rfl⟩, rfl⟩) | (rw [show agR (ok o) a = none from by unfold agR; rw [if_neg c215, if_neg c233, if_pos c251, if_pos (Or.inr (fun q => absurd q.2 (Int64.not_le.mpr c188)))]]; exact ⟨rfl, ⟨hv, hb, wk, wn, rfl⟩, rfl⟩) | (rw [show agR (ok o) a = some ((agH a <<< S32) ||| (a.2.2.2.1 &&& M32)) from by unfold agR; rw [if_neg c215, if_neg c233, if_pos c251, if_neg (fun q => q.elim (fun e => by omega) (fun e => e ⟨c179, c188⟩))]]; exact ⟨rfl, ⟨hv, hb, wk, wn, rfl⟩, rfl⟩) | (rw [show agR (ok o) a = none from by unfold agR; rw [if_neg c215, if_neg c233, if_neg c251, if_pos c285]]; exact ⟨rfl, ⟨hv, hb, wk, wn, rfl⟩, rfl⟩) | (rw [show agR (ok o) a = some a.2.2.2.2 from by unfold agR; rw [if_neg c215, if_neg c233, if_neg c251, if_neg (Nat.ne_of_gt c285)]]; exact ⟨rfl, ⟨hv, hb, wk, wn, rfl⟩, rfl⟩))
          · refine qx_aload_n d_QM_aggregate_236 rfl rfl ?_
            refine qx_iload_n d_QM_aggregate_237 rfl rfl ?_
            refine qx_iload d_QM_aggregate_238 rfl ?_
            refine qx_i2lN d_QM_aggregate_240 (by omega) ?_
            refine qx_iconst (v := b2i false) d_QM_aggregate_241 rfl ?_
            refine qx_callV (As := [_, _, _]) (rest := _) d_QM_aggregate_242 lk_QM_223 y_QM_give v_QM_give rfl rfl rfl (by decide) rfl rfl rfl rfl (by decide) (by decide) (ct_QM_give hR vv vb rs hv hb kv kb i wk wn c hc hrs _ _) ?_
            rintro _ _ _ ⟨rfl, rfl, rfl⟩
            refine qx_goto (t := 296) d_QM_aggregate_245 rfl ?_
            exact qx_ret d_QM_aggregate_296 rfl (by omega) (by omega) (by first | exact absurd c265 (by decide) | (rw [show agR (ok o) a = some (lN a.1) from by unfold agR; rw [if_pos c215]]; exact ⟨rfl, ⟨hv, hb, wk, wn, rfl⟩, rfl⟩) | (rw [show agR (ok o) a = some (lN a.2.1) from by unfold agR; rw [if_neg c215, if_pos c233]]; exact ⟨rfl, ⟨hv, hb, wk, wn, rfl⟩, rfl⟩) | (rw [show agR (ok o) a = none from by unfold agR; rw [if_neg c215, if_neg c233, if_pos c251, if_pos (Or.inl c260)]]; exact ⟨rfl, ⟨hv, hb, wk, wn, rfl⟩, rfl⟩) | (rw [show agR (ok o) a = none from by unfold agR; rw [if_neg c215, if_neg c233, if_pos c251, if_pos (Or.inr (fun q => absurd q.1 (Int64.not_le.mpr c179)))]]; exact ⟨rfl, ⟨hv, hb, wk, wn, rfl⟩, rfl⟩) | (rw [show agR (ok o) a = none from by unfold agR; rw [if_neg c215, if_neg c233, if_pos c251, if_pos (Or.inr (fun q => absurd q.2 (Int64.not_le.mpr c188)))]]; exact ⟨rfl, ⟨hv, hb, wk, wn, rfl⟩, rfl⟩) | (rw [show agR (ok o) a = some ((agH a <<< S32) ||| (a.2.2.2.1 &&& M32)) from by unfold agR; rw [if_neg c215, if_neg c233, if_pos c251, if_neg (fun q => q.elim (fun e => by omega) (fun e => e ⟨c179, c188⟩))]]; exact ⟨rfl, ⟨hv, hb, wk, wn, rfl⟩, rfl⟩) | (rw [show agR (ok o) a = none from by unfold agR; rw [if_neg c215, if_neg c233, if_neg c251, if_pos c285]]; exact ⟨rfl, ⟨hv, hb, wk, wn, rfl⟩, rfl⟩) | (rw [show agR (ok o) a = some a.2.2.2.2 from by unfold agR; rw [if_neg c215, if_neg c233, if_neg c251, if_neg (Nat.ne_of_gt c285)]]; exact ⟨rfl, ⟨hv, hb, wk, wn, rfl⟩, rfl⟩))
        · refine qx_aload_n d_QM_aggregate_218 rfl rfl ?_
          refine qx_iload_n d_QM_aggregate_219 rfl rfl ?_
          refine qx_iload d_QM_aggregate_220 rfl ?_
          refine qx_i2lN d_QM_aggregate_222 (by omega) ?_
          refine qx_iconst (v := b2i false) d_QM_aggregate_223 rfl ?_
          refine qx_callV (As := [_, _, _]) (rest := _) d_QM_aggregate_224 lk_QM_223 y_QM_give v_QM_give rfl rfl rfl (by decide) rfl rfl rfl rfl (by decide) (by decide) (ct_QM_give hR vv vb rs hv hb kv kb i wk wn c hc hrs _ _) ?_
          rintro _ _ _ ⟨rfl, rfl, rfl⟩
          refine qx_goto (t := 296) d_QM_aggregate_227 rfl ?_
          exact qx_ret d_QM_aggregate_296 rfl (by omega) (by omega) (by first | exact absurd c265 (by decide) | (rw [show agR (ok o) a = some (lN a.1) from by unfold agR; rw [if_pos c215]]; exact ⟨rfl, ⟨hv, hb, wk, wn, rfl⟩, rfl⟩) | (rw [show agR (ok o) a = some (lN a.2.1) from by unfold agR; rw [if_neg c215, if_pos c233]]; exact ⟨rfl, ⟨hv, hb, wk, wn, rfl⟩, rfl⟩) | (rw [show agR (ok o) a = none from by unfold agR; rw [if_neg c215, if_neg c233, if_pos c251, if_pos (Or.inl c260)]]; exact ⟨rfl, ⟨hv, hb, wk, wn, rfl⟩, rfl⟩) | (rw [show agR (ok o) a = none from by unfold agR; rw [if_neg c215, if_neg c233, if_pos c251, if_pos (Or.inr (fun q => absurd q.1 (Int64.not_le.mpr c179)))]]; exact ⟨rfl, ⟨hv, hb, wk, wn, rfl⟩, rfl⟩) | (rw [show agR (ok o) a = none from by unfold agR; rw [if_neg c215, if_neg c233, if_pos c251, if_pos (Or.inr (fun q => absurd q.2 (Int64.not_le.mpr c188)))]]; exact ⟨rfl, ⟨hv, hb, wk, wn, rfl⟩, rfl⟩) | (rw [show agR (ok o) a = some ((agH a <<< S32) ||| (a.2.2.2.1 &&& M32)) from by unfold agR; rw [if_neg c215, if_neg c233, if_pos c251, if_neg (fun q => q.elim (fun e => by omega) (fun e => e ⟨c179, c188⟩))]]; exact ⟨rfl, ⟨hv, hb, wk, wn, rfl⟩, rfl⟩) | (rw [show agR (ok o) a = none from by unfold agR; rw [if_neg c215, if_neg c233, if_neg c251, if_pos c285]]; exact ⟨rfl, ⟨hv, hb, wk, wn, rfl⟩, rfl⟩) | (rw [show agR (ok o) a = some a.2.2.2.2 from by unfold agR; rw [if_neg c215, if_neg c233, if_neg c251, if_neg (Nat.ne_of_gt c285)]]; exact ⟨rfl, ⟨hv, hb, wk, wn, rfl⟩, rfl⟩))
      · refine qx_lload d_QM_aggregate_182 rfl ?_
        refine qx_ldc2 d_QM_aggregate_184 kl_QM_221 ?_
        refine qx_lcmp d_QM_aggregate_187 ?_
        refine qx_if_gtC (t := 195) d_QM_aggregate_188 rfl (fun c188 => ?_) (fun c188 => ?_)
        · refine qx_iconst (v := b2i false) d_QM_aggregate_195 rfl ?_
          refine qx_istore (lv1 := [_, _, _, _, _, _, _, _, _, _, _, _, _, _, _, _]) d_QM_aggregate_196 (by decide) rfl ?_
          refine qx_lload d_QM_aggregate_198 rfl ?_
          refine qx_bipushN (v := 32) d_QM_aggregate_200 rfl ?_
          refine qx_lshl d_QM_aggregate_202 ?_
          refine qx_lload d_QM_aggregate_203 rfl ?_
          refine qx_ldc2 d_QM_aggregate_205 kl_QM_217 ?_
          refine qx_land d_QM_aggregate_208 ?_
          refine qx_lor d_QM_aggregate_209 ?_
          refine qx_lstore (lv1 := [_, _, _, _, _, _, _, _, _, _, _, _, _, _, _, _]) d_QM_aggregate_210 (by decide) rfl ?_
          refine qx_iload d_QM_aggregate_212 rfl ?_
          refine qx_iconstN (v := 1) d_QM_aggregate_214 rfl ?_
          refine qx_icmp_neN (t := 230) d_QM_aggregate_215 rfl (by omega) (by omega) (fun c215 => ?_) (fun c215 => ?_)
          · refine qx_iload d_QM_aggregate_230 rfl ?_
            refine qx_iconstN (v := 2) d_QM_aggregate_232 rfl ?_
            refine qx_icmp_neN (t := 248) d_QM_aggregate_233 rfl (by omega) (by omega) (fun c233 => ?_) (fun c233 => ?_)
            · refine qx_iload d_QM_aggregate_248 rfl ?_
              refine qx_iconstN (v := 3) d_QM_aggregate_250 rfl ?_
              refine qx_icmp_neN (t := 279) d_QM_aggregate_251 rfl (by omega) (by omega) (fun c251 => ?_) (fun c251 => ?_)
              · refine qx_aload_n d_QM_aggregate_279 rfl rfl ?_
                refine qx_iload_n d_QM_aggregate_280 rfl rfl ?_
                refine qx_lload d_QM_aggregate_281 rfl ?_
                refine qx_iload d_QM_aggregate_283 rfl ?_
                refine qx_if_neN (t := 292) d_QM_aggregate_285 rfl (by omega) (fun c285 => ?_) (fun c285 => ?_)
                · refine qx_iconst (v := b2i false) d_QM_aggregate_292 rfl ?_
                  refine qx_callV (As := [_, _, _]) (rest := _) d_QM_aggregate_293 lk_QM_223 y_QM_give v_QM_give rfl rfl rfl (by decide) rfl rfl rfl rfl (by decide) (by decide) (ct_QM_give hR vv vb rs hv hb kv kb i wk wn c hc hrs _ _) ?_
                  rintro _ _ _ ⟨rfl, rfl, rfl⟩
                  exact qx_ret d_QM_aggregate_296 rfl (by omega) (by omega) (by first | exact absurd c265 (by decide) | (rw [show agR (ok o) a = some (lN a.1) from by unfold agR; rw [if_pos c215]]; exact ⟨rfl, ⟨hv, hb, wk, wn, rfl⟩, rfl⟩) | (rw [show agR (ok o) a = some (lN a.2.1) from by unfold agR; rw [if_neg c215, if_pos c233]]; exact ⟨rfl, ⟨hv, hb, wk, wn, rfl⟩, rfl⟩) | (rw [show agR (ok o) a = none from by unfold agR; rw [if_neg c215, if_neg c233, if_pos c251, if_pos (Or.inl c260)]]; exact ⟨rfl, ⟨hv, hb, wk, wn, rfl⟩, rfl⟩) | (rw [show agR (ok o) a = none from by unfold agR; rw [if_neg c215, if_neg c233, if_pos c251, if_pos (Or.inr (fun q => absurd q.1 (Int64.not_le.mpr c179)))]]; exact ⟨rfl, ⟨hv, hb, wk, wn, rfl⟩, rfl⟩) | (rw [show agR (ok o) a = none from by unfold agR; rw [if_neg c215, if_neg c233, if_pos c251, if_pos (Or.inr (fun q => absurd q.2 (Int64.not_le.mpr c188)))]]; exact ⟨rfl, ⟨hv, hb, wk, wn, rfl⟩, rfl⟩) | (rw [show agR (ok o) a = some ((agH a <<< S32) ||| (a.2.2.2.1 &&& M32)) from by unfold agR; rw [if_neg c215, if_neg c233, if_pos c251, if_neg (fun q => q.elim (fun e => by omega) (fun e => e ⟨c179, c188⟩))]]; exact ⟨rfl, ⟨hv, hb, wk, wn, rfl⟩, rfl⟩) | (rw [show agR (ok o) a = none from by unfold agR; rw [if_neg c215, if_neg c233, if_neg c251, if_pos c285]]; exact ⟨rfl, ⟨hv, hb, wk, wn, rfl⟩, rfl⟩) | (rw [show agR (ok o) a = some a.2.2.2.2 from by unfold agR; rw [if_neg c215, if_neg c233, if_neg c251, if_neg (Nat.ne_of_gt c285)]]; exact ⟨rfl, ⟨hv, hb, wk, wn, rfl⟩, rfl⟩))
                · refine qx_iconst (v := b2i true) d_QM_aggregate_288 rfl ?_
                  refine qx_goto (t := 293) d_QM_aggregate_289 rfl ?_
                  refine qx_callV (As := [_, _, _]) (rest := _) d_QM_aggregate_293 lk_QM_223 y_QM_give v_QM_give rfl rfl rfl (by decide) rfl rfl rfl rfl (by decide) (by decide) (ct_QM_give hR vv vb rs hv hb kv kb i wk wn c hc hrs _ _) ?_
                  rintro _ _ _ ⟨rfl, rfl, rfl⟩
                  exact qx_ret d_QM_aggregate_296 rfl (by omega) (by omega) (by first | exact absurd c265 (by decide) | (rw [show agR (ok o) a = some (lN a.1) from by unfold agR; rw [if_pos c215]]; exact ⟨rfl, ⟨hv, hb, wk, wn, rfl⟩, rfl⟩) | (rw [show agR (ok o) a = some (lN a.2.1) from by unfold agR; rw [if_neg c215, if_pos c233]]; exact ⟨rfl, ⟨hv, hb, wk, wn, rfl⟩, rfl⟩) | (rw [show agR (ok o) a = none from by unfold agR; rw [if_neg c215, if_neg c233, if_pos c251, if_pos (Or.inl c260)]]; exact ⟨rfl, ⟨hv, hb, wk, wn, rfl⟩, rfl⟩) | (rw [show agR (ok o) a = none from by unfold agR; rw [if_neg c215, if_neg c233, if_pos c251, if_pos (Or.inr (fun q => absurd q.1 (Int64.not_le.mpr c179)))]]; exact ⟨rfl, ⟨hv, hb, wk, wn, rfl⟩, rfl⟩) | (rw [show agR (ok o) a = none from by unfold agR; rw [if_neg c215, if_neg c233, if_pos c251, if_pos (Or.inr (fun q => absurd q.2 (Int64.not_le.mpr c188)))]]; exact ⟨rfl, ⟨hv, hb, wk, wn, rfl⟩, rfl⟩) | (rw [show agR (ok o) a = some ((agH a <<< S32) ||| (a.2.2.2.1 &&& M32)) from by unfold agR; rw [if_neg c215, if_neg c233, if_pos c251, if_neg (fun q => q.elim (fun e => by omega) (fun e => e ⟨c179, c188⟩))]]; exact ⟨rfl, ⟨hv, hb, wk, wn, rfl⟩, rfl⟩) | (rw [show agR (ok o) a = none from by unfold agR; rw [if_neg c215, if_neg c233, if_neg c251, if_pos c285]]; exact ⟨rfl, ⟨hv, hb, wk, wn, rfl⟩, rfl⟩) | (rw [show agR (ok o) a = some a.2.2.2.2 from by unfold agR; rw [if_neg c215, if_neg c233, if_neg c251, if_neg (Nat.ne_of_gt c285)]]; exact ⟨rfl, ⟨hv, hb, wk, wn, rfl⟩, rfl⟩))
              · refine qx_aload_n d_QM_aggregate_254 rfl rfl ?_
                refine qx_iload_n d_QM_aggregate_255 rfl rfl ?_
                refine qx_lload d_QM_aggregate_256 rfl ?_
                refine qx_iload d_QM_aggregate_258 rfl ?_
                refine qx_if_eqN (t := 268) d_QM_aggregate_260 rfl (by omega) (fun c260 => ?_) (fun c260 => ?_)
                · refine qx_iconst (v := b2i true) d_QM_aggregate_268 rfl ?_
                  refine qx_goto (t := 273) d_QM_aggregate_269 rfl ?_
                  refine qx_callV (As := [_, _, _]) (rest := _) d_QM_aggregate_273 lk_QM_223 y_QM_give v_QM_give rfl rfl rfl (by decide) rfl rfl rfl rfl (by decide) (by decide) (ct_QM_give hR vv vb rs hv hb kv kb i wk wn c hc hrs _ _) ?_
                  rintro _ _ _ ⟨rfl, rfl, rfl⟩
                  refine qx_goto (t := 296) d_QM_aggregate_276 rfl ?_
                  exact qx_ret d_QM_aggregate_296 rfl (by omega) (by omega) (by first | exact absurd c265 (by decide) | (rw [show agR (ok o) a = some (lN a.1) from by unfold agR; rw [if_pos c215]]; exact ⟨rfl, ⟨hv, hb, wk, wn, rfl⟩, rfl⟩) | (rw [show agR (ok o) a = some (lN a.2.1) from by unfold agR; rw [if_neg c215, if_pos c233]]; exact ⟨rfl, ⟨hv, hb, wk, wn, rfl⟩, rfl⟩) | (rw [show agR (ok o) a = none from by unfold agR; rw [if_neg c215, if_neg c233, if_pos c251, if_pos (Or.inl c260)]]; exact ⟨rfl, ⟨hv, hb, wk, wn, rfl⟩, rfl⟩) | (rw [show agR (ok o) a = none from by unfold agR; rw [if_neg c215, if_neg c233, if_pos c251, if_pos (Or.inr (fun q => absurd q.1 (Int64.not_le.mpr c179)))]]; exact ⟨rfl, ⟨hv, hb, wk, wn, rfl⟩, rfl⟩) | (rw [show agR (ok o) a = none from by unfold agR; rw [if_neg c215, if_neg c233, if_pos c251, if_pos (Or.inr (fun q => absurd q.2 (Int64.not_le.mpr c188)))]]; exact ⟨rfl, ⟨hv, hb, wk, wn, rfl⟩, rfl⟩) | (rw [show agR (ok o) a = some ((agH a <<< S32) ||| (a.2.2.2.1 &&& M32)) from by unfold agR; rw [if_neg c215, if_neg c233, if_pos c251, if_neg (fun q => q.elim (fun e => by omega) (fun e => e ⟨c179, c188⟩))]]; exact ⟨rfl, ⟨hv, hb, wk, wn, rfl⟩, rfl⟩) | (rw [show agR (ok o) a = none from by unfold agR; rw [if_neg c215, if_neg c233, if_neg c251, if_pos c285]]; exact ⟨rfl, ⟨hv, hb, wk, wn, rfl⟩, rfl⟩) | (rw [show agR (ok o) a = some a.2.2.2.2 from by unfold agR; rw [if_neg c215, if_neg c233, if_neg c251, if_neg (Nat.ne_of_gt c285)]]; exact ⟨rfl, ⟨hv, hb, wk, wn, rfl⟩, rfl⟩))
                · refine qx_iload d_QM_aggregate_263 rfl ?_
                  refine qx_if_neB (t := 272) d_QM_aggregate_265 rfl (fun c265 => ?_) (fun c265 => ?_)
                  · refine qx_iconst (v := b2i false) d_QM_aggregate_272 rfl ?_
                    refine qx_callV (As := [_, _, _]) (rest := _) d_QM_aggregate_273 lk_QM_223 y_QM_give v_QM_give rfl rfl rfl (by decide) rfl rfl rfl rfl (by decide) (by decide) (ct_QM_give hR vv vb rs hv hb kv kb i wk wn c hc hrs _ _) ?_
                    rintro _ _ _ ⟨rfl, rfl, rfl⟩
                    refine qx_goto (t := 296) d_QM_aggregate_276 rfl ?_
                    exact qx_ret d_QM_aggregate_296 rfl (by omega) (by omega) (by first | exact absurd c265 (by decide) | (rw [show agR (ok o) a = some (lN a.1) from by unfold agR; rw [if_pos c215]]; exact ⟨rfl, ⟨hv, hb, wk, wn, rfl⟩, rfl⟩) | (rw [show agR (ok o) a = some (lN a.2.1) from by unfold agR; rw [if_neg c215, if_pos c233]]; exact ⟨rfl, ⟨hv, hb, wk, wn, rfl⟩, rfl⟩) | (rw [show agR (ok o) a = none from by unfold agR; rw [if_neg c215, if_neg c233, if_pos c251, if_pos (Or.inl c260)]]; exact ⟨rfl, ⟨hv, hb, wk, wn, rfl⟩, rfl⟩) | (rw [show agR (ok o) a = none from by unfold agR; rw [if_neg c215, if_neg c233, if_pos c251, if_pos (Or.inr (fun q => absurd q.1 (Int64.not_le.mpr c179)))]]; exact ⟨rfl, ⟨hv, hb, wk, wn, rfl⟩, rfl⟩) | (rw [show agR (ok o) a = none from by unfold agR; rw [if_neg c215, if_neg c233, if_pos c251, if_pos (Or.inr (fun q => absurd q.2 (Int64.not_le.mpr c188)))]]; exact ⟨rfl, ⟨hv, hb, wk, wn, rfl⟩, rfl⟩) | (rw [show agR (ok o) a = some ((agH a <<< S32) ||| (a.2.2.2.1 &&& M32)) from by unfold agR; rw [if_neg c215, if_neg c233, if_pos c251, if_neg (fun q => q.elim (fun e => by omega) (fun e => e ⟨c179, c188⟩))]]; exact ⟨rfl, ⟨hv, hb, wk, wn, rfl⟩, rfl⟩) | (rw [show agR (ok o) a = none from by unfold agR; rw [if_neg c215, if_neg c233, if_neg c251, if_pos c285]]; exact ⟨rfl, ⟨hv, hb, wk, wn, rfl⟩, rfl⟩) | (rw [show agR (ok o) a = some a.2.2.2.2 from by unfold agR; rw [if_neg c215, if_neg c233, if_neg c251, if_neg (Nat.ne_of_gt c285)]]; exact ⟨rfl, ⟨hv, hb, wk, wn, rfl⟩, rfl⟩))
                  · refine qx_iconst (v := b2i true) d_QM_aggregate_268 rfl ?_
                    refine qx_goto (t := 273) d_QM_aggregate_269 rfl ?_
                    refine qx_callV (As := [_, _, _]) (rest := _) d_QM_aggregate_273 lk_QM_223 y_QM_give v_QM_give rfl rfl rfl (by decide) rfl rfl rfl rfl (by decide) (by decide) (ct_QM_give hR vv vb rs hv hb kv kb i wk wn c hc hrs _ _) ?_
                    rintro _ _ _ ⟨rfl, rfl, rfl⟩
                    refine qx_goto (t := 296) d_QM_aggregate_276 rfl ?_
                    exact qx_ret d_QM_aggregate_296 rfl (by omega) (by omega) (by first | exact absurd c265 (by decide) | (rw [show agR (ok o) a = some (lN a.1) from by unfold agR; rw [if_pos c215]]; exact ⟨rfl, ⟨hv, hb, wk, wn, rfl⟩, rfl⟩) | (rw [show agR (ok o) a = some (lN a.2.1) from by unfold agR; rw [if_neg c215, if_pos c233]]; exact ⟨rfl, ⟨hv, hb, wk, wn, rfl⟩, rfl⟩) | (rw [show agR (ok o) a = none from by unfold agR; rw [if_neg c215, if_neg c233, if_pos c251, if_pos (Or.inl c260)]]; exact ⟨rfl, ⟨hv, hb, wk, wn, rfl⟩, rfl⟩) | (rw [show agR (ok o) a = none from by unfold agR; rw [if_neg c215, if_neg c233, if_pos c251, if_pos (Or.inr (fun q => absurd q.1 (Int64.not_le.mpr c179)))]]; exact ⟨rfl, ⟨hv, hb, wk, wn, rfl⟩, rfl⟩) | (rw [show agR (ok o) a = none from by unfold agR; rw [if_neg c215, if_neg c233, if_pos c251, if_pos (Or.inr (fun q => absurd q.2 (Int64.not_le.mpr c188)))]]; exact ⟨rfl, ⟨hv, hb, wk, wn, rfl⟩, rfl⟩) | (rw [show agR (ok o) a = some ((agH a <<< S32) ||| (a.2.2.2.1 &&& M32)) from by unfold agR; rw [if_neg c215, if_neg c233, if_pos c251, if_neg (fun q => q.elim (fun e => by omega) (fun e => e ⟨c179, c188⟩))]]; exact ⟨rfl, ⟨hv, hb, wk, wn, rfl⟩, rfl⟩) | (rw [show agR (ok o) a = none from by unfold agR; rw [if_neg c215, if_neg c233, if_neg c251, if_pos c285]]; exact ⟨rfl, ⟨hv, hb, wk, wn, rfl⟩, rfl⟩) | (rw [show agR (ok o) a = some a.2.2.2.2 from by unfold agR; rw [if_neg c215, if_neg c233, if_neg c251, if_neg (Nat.ne_of_gt c285)]]; exact ⟨rfl, ⟨hv, hb, wk, wn, rfl⟩, rfl⟩))
            · refine qx_aload_n d_QM_aggregate_236 rfl rfl ?_
              refine qx_iload_n d_QM_aggregate_237 rfl rfl ?_
              refine qx_iload d_QM_aggregate_238 rfl ?_
              refine qx_i2lN d_QM_aggregate_240 (by omega) ?_
              refine qx_iconst (v := b2i false) d_QM_aggregate_241 rfl ?_
              refine qx_callV (As := [_, _, _]) (rest := _) d_QM_aggregate_242 lk_QM_223 y_QM_give v_QM_give rfl rfl rfl (by decide) rfl rfl rfl rfl (by decide) (by decide) (ct_QM_give hR vv vb rs hv hb kv kb i wk wn c hc hrs _ _) ?_
              rintro _ _ _ ⟨rfl, rfl, rfl⟩
              refine qx_goto (t := 296) d_QM_aggregate_245 rfl ?_
              exact qx_ret d_QM_aggregate_296 rfl (by omega) (by omega) (by first | exact absurd c265 (by decide) | (rw [show agR (ok o) a = some (lN a.1) from by unfold agR; rw [if_pos c215]]; exact ⟨rfl, ⟨hv, hb, wk, wn, rfl⟩, rfl⟩) | (rw [show agR (ok o) a = some (lN a.2.1) from by unfold agR; rw [if_neg c215, if_pos c233]]; exact ⟨rfl, ⟨hv, hb, wk, wn, rfl⟩, rfl⟩) | (rw [show agR (ok o) a = none from by unfold agR; rw [if_neg c215, if_neg c233, if_pos c251, if_pos (Or.inl c260)]]; exact ⟨rfl, ⟨hv, hb, wk, wn, rfl⟩, rfl⟩) | (rw [show agR (ok o) a = none from by unfold agR; rw [if_neg c215, if_neg c233, if_pos c251, if_pos (Or.inr (fun q => absurd q.1 (Int64.not_le.mpr c179)))]]; exact ⟨rfl, ⟨hv, hb, wk, wn, rfl⟩, rfl⟩) | (rw [show agR (ok o) a = none from by unfold agR; rw [if_neg c215, if_neg c233, if_pos c251, if_pos (Or.inr (fun q => absurd q.2 (Int64.not_le.mpr c188)))]]; exact ⟨rfl, ⟨hv, hb, wk, wn, rfl⟩, rfl⟩) | (rw [show agR (ok o) a = some ((agH a <<< S32) ||| (a.2.2.2.1 &&& M32)) from by unfold agR; rw [if_neg c215, if_neg c233, if_pos c251, if_neg (fun q => q.elim (fun e => by omega) (fun e => e ⟨c179, c188⟩))]]; exact ⟨rfl, ⟨hv, hb, wk, wn, rfl⟩, rfl⟩) | (rw [show agR (ok o) a = none from by unfold agR; rw [if_neg c215, if_neg c233, if_neg c251, if_pos c285]]; exact ⟨rfl, ⟨hv, hb, wk, wn, rfl⟩, rfl⟩) | (rw [show agR (ok o) a = some a.2.2.2.2 from by unfold agR; rw [if_neg c215, if_neg c233, if_neg c251, if_neg (Nat.ne_of_gt c285)]]; exact ⟨rfl, ⟨hv, hb, wk, wn, rfl⟩, rfl⟩))
          · refine qx_aload_n d_QM_aggregate_218 rfl rfl ?_
            refine qx_iload_n d_QM_aggregate_219 rfl rfl ?_
            refine qx_iload d_QM_aggregate_220 rfl ?_
            refine qx_i2lN d_QM_aggregate_222 (by omega) ?_
            refine qx_iconst (v := b2i false) d_QM_aggregate_223 rfl ?_
            refine qx_callV (As := [_, _, _]) (rest := _) d_QM_aggregate_224 lk_QM_223 y_QM_give v_QM_give rfl rfl rfl (by decide) rfl rfl rfl rfl (by decide) (by decide) (ct_QM_give hR vv vb rs hv hb kv kb i wk wn c hc hrs _ _) ?_
            rintro _ _ _ ⟨rfl, rfl, rfl⟩
            refine qx_goto (t := 296) d_QM_aggregate_227 rfl ?_
            exact qx_ret d_QM_aggregate_296 rfl (by omega) (by omega) (by first | exact absurd c265 (by decide) | (rw [show agR (ok o) a = some (lN a.1) from by unfold agR; rw [if_pos c215]]; exact ⟨rfl, ⟨hv, hb, wk, wn, rfl⟩, rfl⟩) | (rw [show agR (ok o) a = some (lN a.2.1) from by unfold agR; rw [if_neg c215, if_pos c233]]; exact ⟨rfl, ⟨hv, hb, wk, wn, rfl⟩, rfl⟩) | (rw [show agR (ok o) a = none from by unfold agR; rw [if_neg c215, if_neg c233, if_pos c251, if_pos (Or.inl c260)]]; exact ⟨rfl, ⟨hv, hb, wk, wn, rfl⟩, rfl⟩) | (rw [show agR (ok o) a = none from by unfold agR; rw [if_neg c215, if_neg c233, if_pos c251, if_pos (Or.inr (fun q => absurd q.1 (Int64.not_le.mpr c179)))]]; exact ⟨rfl, ⟨hv, hb, wk, wn, rfl⟩, rfl⟩) | (rw [show agR (ok o) a = none from by unfold agR; rw [if_neg c215, if_neg c233, if_pos c251, if_pos (Or.inr (fun q => absurd q.2 (Int64.not_le.mpr c188)))]]; exact ⟨rfl, ⟨hv, hb, wk, wn, rfl⟩, rfl⟩) | (rw [show agR (ok o) a = some ((agH a <<< S32) ||| (a.2.2.2.1 &&& M32)) from by unfold agR; rw [if_neg c215, if_neg c233, if_pos c251, if_neg (fun q => q.elim (fun e => by omega) (fun e => e ⟨c179, c188⟩))]]; exact ⟨rfl, ⟨hv, hb, wk, wn, rfl⟩, rfl⟩) | (rw [show agR (ok o) a = none from by unfold agR; rw [if_neg c215, if_neg c233, if_neg c251, if_pos c285]]; exact ⟨rfl, ⟨hv, hb, wk, wn, rfl⟩, rfl⟩) | (rw [show agR (ok o) a = some a.2.2.2.2 from by unfold agR; rw [if_neg c215, if_neg c233, if_neg c251, if_neg (Nat.ne_of_gt c285)]]; exact ⟨rfl, ⟨hv, hb, wk, wn, rfl⟩, rfl⟩))
        · refine qx_iconst (v := b2i true) d_QM_aggregate_191 rfl ?_
          refine qx_goto (t := 196) d_QM_aggregate_192 rfl ?_
          refine qx_istore (lv1 := [_, _, _, _, _, _, _, _, _, _, _, _, _, _, _, _]) d_QM_aggregate_196 (by decide) rfl ?_
          refine qx_lload d_QM_aggregate_198 rfl ?_
          refine qx_bipushN (v := 32) d_QM_aggregate_200 rfl ?_
          refine qx_lshl d_QM_aggregate_202 ?_
          refine qx_lload d_QM_aggregate_203 rfl ?_
          refine qx_ldc2 d_QM_aggregate_205 kl_QM_217 ?_
          refine qx_land d_QM_aggregate_208 ?_
          refine qx_lor d_QM_aggregate_209 ?_
          refine qx_lstore (lv1 := [_, _, _, _, _, _, _, _, _, _, _, _, _, _, _, _]) d_QM_aggregate_210 (by decide) rfl ?_
          refine qx_iload d_QM_aggregate_212 rfl ?_
          refine qx_iconstN (v := 1) d_QM_aggregate_214 rfl ?_
          refine qx_icmp_neN (t := 230) d_QM_aggregate_215 rfl (by omega) (by omega) (fun c215 => ?_) (fun c215 => ?_)
          · refine qx_iload d_QM_aggregate_230 rfl ?_
            refine qx_iconstN (v := 2) d_QM_aggregate_232 rfl ?_
            refine qx_icmp_neN (t := 248) d_QM_aggregate_233 rfl (by omega) (by omega) (fun c233 => ?_) (fun c233 => ?_)
            · refine qx_iload d_QM_aggregate_248 rfl ?_
              refine qx_iconstN (v := 3) d_QM_aggregate_250 rfl ?_
              refine qx_icmp_neN (t := 279) d_QM_aggregate_251 rfl (by omega) (by omega) (fun c251 => ?_) (fun c251 => ?_)
              · refine qx_aload_n d_QM_aggregate_279 rfl rfl ?_
                refine qx_iload_n d_QM_aggregate_280 rfl rfl ?_
                refine qx_lload d_QM_aggregate_281 rfl ?_
                refine qx_iload d_QM_aggregate_283 rfl ?_
                refine qx_if_neN (t := 292) d_QM_aggregate_285 rfl (by omega) (fun c285 => ?_) (fun c285 => ?_)
                · refine qx_iconst (v := b2i false) d_QM_aggregate_292 rfl ?_
                  refine qx_callV (As := [_, _, _]) (rest := _) d_QM_aggregate_293 lk_QM_223 y_QM_give v_QM_give rfl rfl rfl (by decide) rfl rfl rfl rfl (by decide) (by decide) (ct_QM_give hR vv vb rs hv hb kv kb i wk wn c hc hrs _ _) ?_
                  rintro _ _ _ ⟨rfl, rfl, rfl⟩
                  exact qx_ret d_QM_aggregate_296 rfl (by omega) (by omega) (by first | exact absurd c265 (by decide) | (rw [show agR (ok o) a = some (lN a.1) from by unfold agR; rw [if_pos c215]]; exact ⟨rfl, ⟨hv, hb, wk, wn, rfl⟩, rfl⟩) | (rw [show agR (ok o) a = some (lN a.2.1) from by unfold agR; rw [if_neg c215, if_pos c233]]; exact ⟨rfl, ⟨hv, hb, wk, wn, rfl⟩, rfl⟩) | (rw [show agR (ok o) a = none from by unfold agR; rw [if_neg c215, if_neg c233, if_pos c251, if_pos (Or.inl c260)]]; exact ⟨rfl, ⟨hv, hb, wk, wn, rfl⟩, rfl⟩) | (rw [show agR (ok o) a = none from by unfold agR; rw [if_neg c215, if_neg c233, if_pos c251, if_pos (Or.inr (fun q => absurd q.1 (Int64.not_le.mpr c179)))]]; exact ⟨rfl, ⟨hv, hb, wk, wn, rfl⟩, rfl⟩) | (rw [show agR (ok o) a = none from by unfold agR; rw [if_neg c215, if_neg c233, if_pos c251, if_pos (Or.inr (fun q => absurd q.2 (Int64.not_le.mpr c188)))]]; exact ⟨rfl, ⟨hv, hb, wk, wn, rfl⟩, rfl⟩) | (rw [show agR (ok o) a = some ((agH a <<< S32) ||| (a.2.2.2.1 &&& M32)) from by unfold agR; rw [if_neg c215, if_neg c233, if_pos c251, if_neg (fun q => q.elim (fun e => by omega) (fun e => e ⟨c179, c188⟩))]]; exact ⟨rfl, ⟨hv, hb, wk, wn, rfl⟩, rfl⟩) | (rw [show agR (ok o) a = none from by unfold agR; rw [if_neg c215, if_neg c233, if_neg c251, if_pos c285]]; exact ⟨rfl, ⟨hv, hb, wk, wn, rfl⟩, rfl⟩) | (rw [show agR (ok o) a = some a.2.2.2.2 from by unfold agR; rw [if_neg c215, if_neg c233, if_neg c251, if_neg (Nat.ne_of_gt c285)]]; exact ⟨rfl, ⟨hv, hb, wk, wn, rfl⟩, rfl⟩))
                · refine qx_iconst (v := b2i true) d_QM_aggregate_288 rfl ?_
                  refine qx_goto (t := 293) d_QM_aggregate_289 rfl ?_
                  refine qx_callV (As := [_, _, _]) (rest := _) d_QM_aggregate_293 lk_QM_223 y_QM_give v_QM_give rfl rfl rfl (by decide) rfl rfl rfl rfl (by decide) (by decide) (ct_QM_give hR vv vb rs hv hb kv kb i wk wn c hc hrs _ _) ?_
                  rintro _ _ _ ⟨rfl, rfl, rfl⟩
                  exact qx_ret d_QM_aggregate_296 rfl (by omega) (by omega) (by first | exact absurd c265 (by decide) | (rw [show agR (ok o) a = some (lN a.1) from by unfold agR; rw [if_pos c215]]; exact ⟨rfl, ⟨hv, hb, wk, wn, rfl⟩, rfl⟩) | (rw [show agR (ok o) a = some (lN a.2.1) from by unfold agR; rw [if_neg c215, if_pos c233]]; exact ⟨rfl, ⟨hv, hb, wk, wn, rfl⟩, rfl⟩) | (rw [show agR (ok o) a = none from by unfold agR; rw [if_neg c215, if_neg c233, if_pos c251, if_pos (Or.inl c260)]]; exact ⟨rfl, ⟨hv, hb, wk, wn, rfl⟩, rfl⟩) | (rw [show agR (ok o) a = none from by unfold agR; rw [if_neg c215, if_neg c233, if_pos c251, if_pos (Or.inr (fun q => absurd q.1 (Int64.not_le.mpr c179)))]]; exact ⟨rfl, ⟨hv, hb, wk, wn, rfl⟩, rfl⟩) | (rw [show agR (ok o) a = none from by unfold agR; rw [if_neg c215, if_neg c233, if_pos c251, if_pos (Or.inr (fun q => absurd q.2 (Int64.not_le.mpr c188)))]]; exact ⟨rfl, ⟨hv, hb, wk, wn, rfl⟩, rfl⟩) | (rw [show agR (ok o) a = some ((agH a <<< S32) ||| (a.2.2.2.1 &&& M32)) from by unfold agR; rw [if_neg c215, if_neg c233, if_pos c251, if_neg (fun q => q.elim (fun e => by omega) (fun e => e ⟨c179, c188⟩))]]; exact ⟨rfl, ⟨hv, hb, wk, wn, rfl⟩, rfl⟩) | (rw [show agR (ok o) a = none from by unfold agR; rw [if_neg c215, if_neg c233, if_neg c251, if_pos c285]]; exact ⟨rfl, ⟨hv, hb, wk, wn, rfl⟩, rfl⟩) | (rw [show agR (ok o) a = some a.2.2.2.2 from by unfold agR; rw [if_neg c215, if_neg c233, if_neg c251, if_neg (Nat.ne_of_gt c285)]]; exact ⟨rfl, ⟨hv, hb, wk, wn, rfl⟩, rfl⟩))
              · refine qx_aload_n d_QM_aggregate_254 rfl rfl ?_
                refine qx_iload_n d_QM_aggregate_255 rfl rfl ?_
                refine qx_lload d_QM_aggregate_256 rfl ?_
                refine qx_iload d_QM_aggregate_258 rfl ?_
                refine qx_if_eqN (t := 268) d_QM_aggregate_260 rfl (by omega) (fun c260 => ?_) (fun c260 => ?_)
                · refine qx_iconst (v := b2i true) d_QM_aggregate_268 rfl ?_
                  refine qx_goto (t := 273) d_QM_aggregate_269 rfl ?_
                  refine qx_callV (As := [_, _, _]) (rest := _) d_QM_aggregate_273 lk_QM_223 y_QM_give v_QM_give rfl rfl rfl (by decide) rfl rfl rfl rfl (by decide) (by decide) (ct_QM_give hR vv vb rs hv hb kv kb i wk wn c hc hrs _ _) ?_
                  rintro _ _ _ ⟨rfl, rfl, rfl⟩
                  refine qx_goto (t := 296) d_QM_aggregate_276 rfl ?_
                  exact qx_ret d_QM_aggregate_296 rfl (by omega) (by omega) (by first | exact absurd c265 (by decide) | (rw [show agR (ok o) a = some (lN a.1) from by unfold agR; rw [if_pos c215]]; exact ⟨rfl, ⟨hv, hb, wk, wn, rfl⟩, rfl⟩) | (rw [show agR (ok o) a = some (lN a.2.1) from by unfold agR; rw [if_neg c215, if_pos c233]]; exact ⟨rfl, ⟨hv, hb, wk, wn, rfl⟩, rfl⟩) | (rw [show agR (ok o) a = none from by unfold agR; rw [if_neg c215, if_neg c233, if_pos c251, if_pos (Or.inl c260)]]; exact ⟨rfl, ⟨hv, hb, wk, wn, rfl⟩, rfl⟩) | (rw [show agR (ok o) a = none from by unfold agR; rw [if_neg c215, if_neg c233, if_pos c251, if_pos (Or.inr (fun q => absurd q.1 (Int64.not_le.mpr c179)))]]; exact ⟨rfl, ⟨hv, hb, wk, wn, rfl⟩, rfl⟩) | (rw [show agR (ok o) a = none from by unfold agR; rw [if_neg c215, if_neg c233, if_pos c251, if_pos (Or.inr (fun q => absurd q.2 (Int64.not_le.mpr c188)))]]; exact ⟨rfl, ⟨hv, hb, wk, wn, rfl⟩, rfl⟩) | (rw [show agR (ok o) a = some ((agH a <<< S32) ||| (a.2.2.2.1 &&& M32)) from by unfold agR; rw [if_neg c215, if_neg c233, if_pos c251, if_neg (fun q => q.elim (fun e => by omega) (fun e => e ⟨c179, c188⟩))]]; exact ⟨rfl, ⟨hv, hb, wk, wn, rfl⟩, rfl⟩) | (rw [show agR (ok o) a = none from by unfold agR; rw [if_neg c215, if_neg c233, if_neg c251, if_pos c285]]; exact ⟨rfl, ⟨hv, hb, wk, wn, rfl⟩, rfl⟩) | (rw [show agR (ok o) a = some a.2.2.2.2 from by unfold agR; rw [if_neg c215, if_neg c233, if_neg c251, if_neg (Nat.ne_of_gt c285)]]; exact ⟨rfl, ⟨hv, hb, wk, wn, rfl⟩, rfl⟩))
                · refine qx_iload d_QM_aggregate_263 rfl ?_
                  refine qx_if_neB (t := 272) d_QM_aggregate_265 rfl (fun c265 => ?_) (fun c265 => ?_)
                  · refine qx_iconst (v := b2i false) d_QM_aggregate_272 rfl ?_
                    refine qx_callV (As := [_, _, _]) (rest := _) d_QM_aggregate_273 lk_QM_223 y_QM_give v_QM_give rfl rfl rfl (by decide) rfl rfl rfl rfl (by decide) (by decide) (ct_QM_give hR vv vb rs hv hb kv kb i wk wn c hc hrs _ _) ?_
                    rintro _ _ _ ⟨rfl, rfl, rfl⟩
                    refine qx_goto (t := 296) d_QM_aggregate_276 rfl ?_
                    exact qx_ret d_QM_aggregate_296 rfl (by omega) (by omega) (by first | exact absurd c265 (by decide) | (rw [show agR (ok o) a = some (lN a.1) from by unfold agR; rw [if_pos c215]]; exact ⟨rfl, ⟨hv, hb, wk, wn, rfl⟩, rfl⟩) | (rw [show agR (ok o) a = some (lN a.2.1) from by unfold agR; rw [if_neg c215, if_pos c233]]; exact ⟨rfl, ⟨hv, hb, wk, wn, rfl⟩, rfl⟩) | (rw [show agR (ok o) a = none from by unfold agR; rw [if_neg c215, if_neg c233, if_pos c251, if_pos (Or.inl c260)]]; exact ⟨rfl, ⟨hv, hb, wk, wn, rfl⟩, rfl⟩) | (rw [show agR (ok o) a = none from by unfold agR; rw [if_neg c215, if_neg c233, if_pos c251, if_pos (Or.inr (fun q => absurd q.1 (Int64.not_le.mpr c179)))]]; exact ⟨rfl, ⟨hv, hb, wk, wn, rfl⟩, rfl⟩) | (rw [show agR (ok o) a = none from by unfold agR; rw [if_neg c215, if_neg c233, if_pos c251, if_pos (Or.inr (fun q => absurd q.2 (Int64.not_le.mpr c188)))]]; exact ⟨rfl, ⟨hv, hb, wk, wn, rfl⟩, rfl⟩) | (rw [show agR (ok o) a = some ((agH a <<< S32) ||| (a.2.2.2.1 &&& M32)) from by unfold agR; rw [if_neg c215, if_neg c233, if_pos c251, if_neg (fun q => q.elim (fun e => by omega) (fun e => e ⟨c179, c188⟩))]]; exact ⟨rfl, ⟨hv, hb, wk, wn, rfl⟩, rfl⟩) | (rw [show agR (ok o) a = none from by unfold agR; rw [if_neg c215, if_neg c233, if_neg c251, if_pos c285]]; exact ⟨rfl, ⟨hv, hb, wk, wn, rfl⟩, rfl⟩) | (rw [show agR (ok o) a = some a.2.2.2.2 from by unfold agR; rw [if_neg c215, if_neg c233, if_neg c251, if_neg (Nat.ne_of_gt c285)]]; exact ⟨rfl, ⟨hv, hb, wk, wn, rfl⟩, rfl⟩))
                  · refine qx_iconst (v := b2i true) d_QM_aggregate_268 rfl ?_
                    refine qx_goto (t := 273) d_QM_aggregate_269 rfl ?_
                    refine qx_callV (As := [_, _, _]) (rest := _) d_QM_aggregate_273 lk_QM_223 y_QM_give v_QM_give rfl rfl rfl (by decide) rfl rfl rfl rfl (by decide) (by decide) (ct_QM_give hR vv vb rs hv hb kv kb i wk wn c hc hrs _ _) ?_
                    rintro _ _ _ ⟨rfl, rfl, rfl⟩
                    refine qx_goto (t := 296) d_QM_aggregate_276 rfl ?_
                    exact qx_ret d_QM_aggregate_296 rfl (by omega) (by omega) (by first | exact absurd c265 (by decide) | (rw [show agR (ok o) a = some (lN a.1) from by unfold agR; rw [if_pos c215]]; exact ⟨rfl, ⟨hv, hb, wk, wn, rfl⟩, rfl⟩) | (rw [show agR (ok o) a = some (lN a.2.1) from by unfold agR; rw [if_neg c215, if_pos c233]]; exact ⟨rfl, ⟨hv, hb, wk, wn, rfl⟩, rfl⟩) | (rw [show agR (ok o) a = none from by unfold agR; rw [if_neg c215, if_neg c233, if_pos c251, if_pos (Or.inl c260)]]; exact ⟨rfl, ⟨hv, hb, wk, wn, rfl⟩, rfl⟩) | (rw [show agR (ok o) a = none from by unfold agR; rw [if_neg c215, if_neg c233, if_pos c251, if_pos (Or.inr (fun q => absurd q.1 (Int64.not_le.mpr c179)))]]; exact ⟨rfl, ⟨hv, hb, wk, wn, rfl⟩, rfl⟩) | (rw [show agR (ok o) a = none from by unfold agR; rw [if_neg c215, if_neg c233, if_pos c251, if_pos (Or.inr (fun q => absurd q.2 (Int64.not_le.mpr c188)))]]; exact ⟨rfl, ⟨hv, hb, wk, wn, rfl⟩, rfl⟩) | (rw [show agR (ok o) a = some ((agH a <<< S32) ||| (a.2.2.2.1 &&& M32)) from by unfold agR; rw [if_neg c215, if_neg c233, if_pos c251, if_neg (fun q => q.elim (fun e => by omega) (fun e => e ⟨c179, c188⟩))]]; exact ⟨rfl, ⟨hv, hb, wk, wn, rfl⟩, rfl⟩) | (rw [show agR (ok o) a = none from by unfold agR; rw [if_neg c215, if_neg c233, if_neg c251, if_pos c285]]; exact ⟨rfl, ⟨hv, hb, wk, wn, rfl⟩, rfl⟩) | (rw [show agR (ok o) a = some a.2.2.2.2 from by unfold agR; rw [if_neg c215, if_neg c233, if_neg c251, if_neg (Nat.ne_of_gt c285)]]; exact ⟨rfl, ⟨hv, hb, wk, wn, rfl⟩, rfl⟩))
            · refine qx_aload_n d_QM_aggregate_236 rfl rfl ?_
              refine qx_iload_n d_QM_aggregate_237 rfl rfl ?_
              refine qx_iload d_QM_aggregate_238 rfl ?_
              refine qx_i2lN d_QM_aggregate_240 (by omega) ?_
              refine qx_iconst (v := b2i false) d_QM_aggregate_241 rfl ?_
              refine qx_callV (As := [_, _, _]) (rest := _) d_QM_aggregate_242 lk_QM_223 y_QM_give v_QM_give rfl rfl rfl (by decide) rfl rfl rfl rfl (by decide) (by decide) (ct_QM_give hR vv vb rs hv hb kv kb i wk wn c hc hrs _ _) ?_
              rintro _ _ _ ⟨rfl, rfl, rfl⟩
              refine qx_goto (t := 296) d_QM_aggregate_245 rfl ?_
              exact qx_ret d_QM_aggregate_296 rfl (by omega) (by omega) (by first | exact absurd c265 (by decide) | (rw [show agR (ok o) a = some (lN a.1) from by unfold agR; rw [if_pos c215]]; exact ⟨rfl, ⟨hv, hb, wk, wn, rfl⟩, rfl⟩) | (rw [show agR (ok o) a = some (lN a.2.1) from by unfold agR; rw [if_neg c215, if_pos c233]]; exact ⟨rfl, ⟨hv, hb, wk, wn, rfl⟩, rfl⟩) | (rw [show agR (ok o) a = none from by unfold agR; rw [if_neg c215, if_neg c233, if_pos c251, if_pos (Or.inl c260)]]; exact ⟨rfl, ⟨hv, hb, wk, wn, rfl⟩, rfl⟩) | (rw [show agR (ok o) a = none from by unfold agR; rw [if_neg c215, if_neg c233, if_pos c251, if_pos (Or.inr (fun q => absurd q.1 (Int64.not_le.mpr c179)))]]; exact ⟨rfl, ⟨hv, hb, wk, wn, rfl⟩, rfl⟩) | (rw [show agR (ok o) a = none from by unfold agR; rw [if_neg c215, if_neg c233, if_pos c251, if_pos (Or.inr (fun q => absurd q.2 (Int64.not_le.mpr c188)))]]; exact ⟨rfl, ⟨hv, hb, wk, wn, rfl⟩, rfl⟩) | (rw [show agR (ok o) a = some ((agH a <<< S32) ||| (a.2.2.2.1 &&& M32)) from by unfold agR; rw [if_neg c215, if_neg c233, if_pos c251, if_neg (fun q => q.elim (fun e => by omega) (fun e => e ⟨c179, c188⟩))]]; exact ⟨rfl, ⟨hv, hb, wk, wn, rfl⟩, rfl⟩) | (rw [show agR (ok o) a = none from by unfold agR; rw [if_neg c215, if_neg c233, if_neg c251, if_pos c285]]; exact ⟨rfl, ⟨hv, hb, wk, wn, rfl⟩, rfl⟩) | (rw [show agR (ok o) a = some a.2.2.2.2 from by unfold agR; rw [if_neg c215, if_neg c233, if_neg c251, if_neg (Nat.ne_of_gt c285)]]; exact ⟨rfl, ⟨hv, hb, wk, wn, rfl⟩, rfl⟩))
          · refine qx_aload_n d_QM_aggregate_218 rfl rfl ?_
            refine qx_iload_n d_QM_aggregate_219 rfl rfl ?_
            refine qx_iload d_QM_aggregate_220 rfl ?_
            refine qx_i2lN d_QM_aggregate_222 (by omega) ?_
            refine qx_iconst (v := b2i false) d_QM_aggregate_223 rfl ?_
            refine qx_callV (As := [_, _, _]) (rest := _) d_QM_aggregate_224 lk_QM_223 y_QM_give v_QM_give rfl rfl rfl (by decide) rfl rfl rfl rfl (by decide) (by decide) (ct_QM_give hR vv vb rs hv hb kv kb i wk wn c hc hrs _ _) ?_
            rintro _ _ _ ⟨rfl, rfl, rfl⟩
            refine qx_goto (t := 296) d_QM_aggregate_227 rfl ?_
            exact qx_ret d_QM_aggregate_296 rfl (by omega) (by omega) (by first | exact absurd c265 (by decide) | (rw [show agR (ok o) a = some (lN a.1) from by unfold agR; rw [if_pos c215]]; exact ⟨rfl, ⟨hv, hb, wk, wn, rfl⟩, rfl⟩) | (rw [show agR (ok o) a = some (lN a.2.1) from by unfold agR; rw [if_neg c215, if_pos c233]]; exact ⟨rfl, ⟨hv, hb, wk, wn, rfl⟩, rfl⟩) | (rw [show agR (ok o) a = none from by unfold agR; rw [if_neg c215, if_neg c233, if_pos c251, if_pos (Or.inl c260)]]; exact ⟨rfl, ⟨hv, hb, wk, wn, rfl⟩, rfl⟩) | (rw [show agR (ok o) a = none from by unfold agR; rw [if_neg c215, if_neg c233, if_pos c251, if_pos (Or.inr (fun q => absurd q.1 (Int64.not_le.mpr c179)))]]; exact ⟨rfl, ⟨hv, hb, wk, wn, rfl⟩, rfl⟩) | (rw [show agR (ok o) a = none from by unfold agR; rw [if_neg c215, if_neg c233, if_pos c251, if_pos (Or.inr (fun q => absurd q.2 (Int64.not_le.mpr c188)))]]; exact ⟨rfl, ⟨hv, hb, wk, wn, rfl⟩, rfl⟩) | (rw [show agR (ok o) a = some ((agH a <<< S32) ||| (a.2.2.2.1 &&& M32)) from by unfold agR; rw [if_neg c215, if_neg c233, if_pos c251, if_neg (fun q => q.elim (fun e => by omega) (fun e => e ⟨c179, c188⟩))]]; exact ⟨rfl, ⟨hv, hb, wk, wn, rfl⟩, rfl⟩) | (rw [show agR (ok o) a = none from by unfold agR; rw [if_neg c215, if_neg c233, if_neg c251, if_pos c285]]; exact ⟨rfl, ⟨hv, hb, wk, wn, rfl⟩, rfl⟩) | (rw [show agR (ok o) a = some a.2.2.2.2 from by unfold agR; rw [if_neg c215, if_neg c233, if_neg c251, if_neg (Nat.ne_of_gt c285)]]; exact ⟨rfl, ⟨hv, hb, wk, wn, rfl⟩, rfl⟩))
    | succ m ih =>
      intro i hv hb wk wn hi
      have hle := agL_le (ok o) (fun i => tog gr kv kb i k) (fun i => xVal (kCell kv kb i) (OE o)) i
      have hs : (agL (ok o) (fun i => tog gr kv kb i k) (fun i => xVal (kCell kv kb i) (OE o)) (i + 1)) = if tog gr kv kb i k = true then agS (ok o) (agL (ok o) (fun i => tog gr kv kb i k) (fun i => xVal (kCell kv kb i) (OE o)) i) (xVal (kCell kv kb i) (OE o)) else (agL (ok o) (fun i => tog gr kv kb i k) (fun i => xVal (kCell kv kb i) (OE o)) i) := rfl
      have ih2 := fun hv hb wk wn => ih (i + 1) hv hb wk wn (by omega)
      rw [hs] at ih2
      generalize ha : (agL (ok o) (fun i => tog gr kv kb i k) (fun i => xVal (kCell kv kb i) (OE o)) i) = a at hle ih2 ⊢
      refine qx_iload d_QM_aggregate_26 rfl ?_
      refine qx_aload_n d_QM_aggregate_28 rfl rfl ?_
      refine qx_getI d_QM_aggregate_29 fI_QM_191 rfl rfl (show _ = nI kp from rfl) ?_
      refine qx_icmp_geN (t := 163) d_QM_aggregate_32 rfl (by omega) (by omega) (fun c32 => absurd c32 (by omega)) (fun c32 => ?_)
      refine qx_aload_n d_QM_aggregate_35 rfl rfl ?_
      refine qx_iload d_QM_aggregate_36 rfl ?_
      refine qx_iload_n d_QM_aggregate_38 rfl rfl ?_
      refine qx_callV (As := [_, _]) (rest := _) d_QM_aggregate_39 lk_QM_210 y_QM_together v_QM_together rfl rfl rfl (by decide) rfl rfl rfl rfl (by decide) (by decide) (ct_QM_together (h := vR h vv vb rs) hR hv hb kv kb kp wk wn gr hgr4 hgr i k (by omega) (by omega)) ?_
      rintro _ _ _ ⟨rfl, rfl, rfl⟩
      refine qx_if_neB (t := 48) d_QM_aggregate_42 rfl (fun c42 => ?_) (fun c42 => ?_)
      · refine qx_iincN (w := 1) (lv1 := [_, _, _, _, _, _, _, _, _, _, _, _, _, _, _, _]) d_QM_aggregate_48 rfl rfl (by decide) rfl ?_
        refine qx_iload d_QM_aggregate_51 rfl ?_
        refine qx_iconstN (v := 1) d_QM_aggregate_53 rfl ?_
        refine qx_icmp_neN (t := 60) d_QM_aggregate_54 rfl (by omega) (by omega) (fun c54 => ?_) (fun c54 => ?_)
        · refine qx_aload_n d_QM_aggregate_60 rfl rfl ?_
          refine qx_iload d_QM_aggregate_61 rfl ?_
          refine qx_callV (As := [_]) (rest := _) d_QM_aggregate_63 lk_QM_214 y_QM_bringKept v_QM_bringKept rfl rfl rfl (by decide) rfl rfl rfl rfl (by decide) (by decide) (ct_QM_bringKept (h := vR h vv vb rs) hR hv hb kv kb kp wk wn i (by omega)) ?_
          rintro _ _ _ ⟨rfl, rfl, rfl⟩
          refine qx_aload_n d_QM_aggregate_66 rfl rfl ?_
          refine qx_bipushN (v := 14) d_QM_aggregate_67 rfl ?_
          refine qx_iload_n d_QM_aggregate_69 rfl rfl ?_
          refine qx_iaddN d_QM_aggregate_70 ?_
          refine qx_callV (As := [_]) (rest := _) d_QM_aggregate_71 lk_QM_181 y_QM_evaluate v_QM_evaluate rfl rfl rfl (by decide) rfl rfl rfl rfl (by decide) (by decide) (ct_QM_evaluate (h := fR (vR h vv vb rs) (br4 hv kv (4 * i)) (br4 hb kb (4 * i)) kv kb kp) hR wk wn (14 + o) (by omega) (OE o) (hox c54).1 (hox c54).2.1 (hox c54).2.2.1 8 (by omega) [false] (hox c54).2.2.2 (kCell kv kb i) (br4 hb kb (4 * i)) (fun c hc => ⟨rfl, by show kCell kv kb i c = if br4 hb kb (4 * i) c = true then none else some (br4 hv kv (4 * i) c); rw [br4_at hc, br4_at hc]; rfl⟩)) ?_
          rintro _ _ _ ⟨rfl, ⟨wk1, wn1, rfl, hw⟩, rfl⟩
          rw [(xE_one (row := kCell kv kb i) (hox c54).2.2.2).1] at hw
          have hw0 : wk1 0 = (xVal (kCell kv kb i) (OE o)).getD 0 := hw.1
          have hw1 : wn1 0 = b2i (xVal (kCell kv kb i) (OE o)).isNone := hw.2.1
          refine qx_aload_n d_QM_aggregate_74 rfl rfl ?_
          refine qx_getR d_QM_aggregate_75 fR_QM_39 rfl rfl (congrFun hR 22) ?_
          refine qx_iconstN (v := 0) d_QM_aggregate_78 rfl ?_
          refine qx_zald d_QM_aggregate_79 rfl rfl rfl rfl (by omega) hw1 ?_
          refine qx_if_eqB (t := 86) d_QM_aggregate_80 rfl (fun c80 => ?_) (fun c80 => ?_)
          · refine qx_aload_n d_QM_aggregate_86 rfl rfl ?_
            refine qx_getR d_QM_aggregate_87 fR_QM_36 rfl rfl (congrFun hR 21) ?_
            refine qx_iconstN (v := 0) d_QM_aggregate_90 rfl ?_
            refine qx_lald d_QM_aggregate_91 rfl rfl rfl rfl (by omega) hw0 ?_
            refine qx_lstore (lv1 := [_, _, _, _, _, _, _, _, _, _, _, _, _, _, _, _]) d_QM_aggregate_92 (by decide) rfl ?_
            refine qx_iload d_QM_aggregate_94 rfl ?_
            refine qx_if_eqN (t := 124) d_QM_aggregate_96 rfl (by omega) (fun c96 => ?_) (fun c96 => ?_)
            · refine qx_lload d_QM_aggregate_124 rfl ?_
              refine qx_goto (t := 131) d_QM_aggregate_126 rfl ?_
              refine qx_lstore (lv1 := [_, _, _, _, _, _, _, _, _, _, _, _, _, _, _, _]) d_QM_aggregate_131 (by decide) rfl ?_
              refine qx_iincN (w := 1) (lv1 := [_, _, _, _, _, _, _, _, _, _, _, _, _, _, _, _]) d_QM_aggregate_133 rfl rfl (by decide) rfl ?_
              refine qx_lload d_QM_aggregate_136 rfl ?_
              refine qx_lload d_QM_aggregate_138 rfl ?_
              refine qx_bipushN (v := 32) d_QM_aggregate_140 rfl ?_
              refine qx_lshr d_QM_aggregate_142 ?_
              refine qx_ladd d_QM_aggregate_143 ?_
              refine qx_lstore (lv1 := [_, _, _, _, _, _, _, _, _, _, _, _, _, _, _, _]) d_QM_aggregate_144 (by decide) rfl ?_
              refine qx_lload d_QM_aggregate_146 rfl ?_
              refine qx_lload d_QM_aggregate_148 rfl ?_
              refine qx_ldc2 d_QM_aggregate_150 kl_QM_217 ?_
              refine qx_land d_QM_aggregate_153 ?_
              refine qx_ladd d_QM_aggregate_154 ?_
              refine qx_lstore (lv1 := [_, _, _, _, _, _, _, _, _, _, _, _, _, _, _, _]) d_QM_aggregate_155 (by decide) rfl ?_
              refine qx_iincN (w := 1) (lv1 := [_, _, _, _, _, _, _, _, _, _, _, _, _, _, _, _]) d_QM_aggregate_157 rfl rfl (by decide) rfl ?_
              refine qx_goto (t := 26) d_QM_aggregate_160 rfl ?_
              refine qx_less (lv1 := [_, _, _, _, _, _, _, _, qdead, _, qdead, _, qdead, _, qdead, qdead]) ⟨Or.inr rfl, Or.inr rfl, Or.inr rfl, Or.inr rfl, Or.inr rfl, Or.inr rfl, Or.inr rfl, Or.inr rfl, Or.inl rfl, Or.inr rfl, Or.inl rfl, Or.inr rfl, Or.inl rfl, Or.inr rfl, Or.inl rfl, Or.inl rfl, trivial⟩ ?_
              first
                | (rw [if_neg (by rw [c42]; decide)] at ih2; exact ih2 _ _ _ _)
                | (rw [if_pos c42, agS_1 c54] at ih2; exact ih2 _ _ _ _)
                | (rw [if_pos c42, agS_n c54 c80] at ih2; exact ih2 _ _ _ _)
                | (rw [if_pos c42, agS_s c54 c80, if_pos (Or.inl c96)] at ih2; exact ih2 _ _ _ _)
                | (have z := c110; rw [if_pos c42, agS_s c54 c80, if_pos (Or.inr (Or.inl ⟨c102, z⟩))] at ih2; exact ih2 _ _ _ _)
                | (have z : _ < _ := c121; rw [if_pos c42, agS_s c54 c80, if_pos (Or.inr (Or.inr ⟨c102, z⟩))] at ih2; exact ih2 _ _ _ _)
                | (have z := Int64.not_lt.mpr c110; rw [if_pos c42, agS_s c54 c80, if_neg (fun q => q.elim (fun e => by omega) (fun q => q.elim (fun e => absurd e.2 z) (fun e => e.1 c102)))] at ih2; exact ih2 _ _ _ _)
                | (have z := Int64.not_lt.mpr c121; rw [if_pos c42, agS_s c54 c80, if_neg (fun q => q.elim (fun e => by omega) (fun q => q.elim (fun e => c102 e.1) (fun e => absurd e.2 z)))] at ih2; exact ih2 _ _ _ _)
            · refine qx_iload d_QM_aggregate_99 rfl ?_
              refine qx_iconstN (v := 4) d_QM_aggregate_101 rfl ?_
              refine qx_icmp_neN (t := 116) d_QM_aggregate_102 rfl (by omega) (by omega) (fun c102 => ?_) (fun c102 => ?_)
              · refine qx_lload d_QM_aggregate_116 rfl ?_
                refine qx_lload d_QM_aggregate_118 rfl ?_
                refine qx_lcmp d_QM_aggregate_120 ?_
                refine qx_if_leC (t := 129) d_QM_aggregate_121 rfl (fun c121 => ?_) (fun c121 => ?_)
                · refine qx_lload d_QM_aggregate_129 rfl ?_
                  refine qx_lstore (lv1 := [_, _, _, _, _, _, _, _, _, _, _, _, _, _, _, _]) d_QM_aggregate_131 (by decide) rfl ?_
                  refine qx_iincN (w := 1) (lv1 := [_, _, _, _, _, _, _, _, _, _, _, _, _, _, _, _]) d_QM_aggregate_133 rfl rfl (by decide) rfl ?_
                  refine qx_lload d_QM_aggregate_136 rfl ?_
                  refine qx_lload d_QM_aggregate_138 rfl ?_
                  refine qx_bipushN (v := 32) d_QM_aggregate_140 rfl ?_
                  refine qx_lshr d_QM_aggregate_142 ?_
                  refine qx_ladd d_QM_aggregate_143 ?_
                  refine qx_lstore (lv1 := [_, _, _, _, _, _, _, _, _, _, _, _, _, _, _, _]) d_QM_aggregate_144 (by decide) rfl ?_
                  refine qx_lload d_QM_aggregate_146 rfl ?_
                  refine qx_lload d_QM_aggregate_148 rfl ?_
                  refine qx_ldc2 d_QM_aggregate_150 kl_QM_217 ?_
                  refine qx_land d_QM_aggregate_153 ?_
                  refine qx_ladd d_QM_aggregate_154 ?_
                  refine qx_lstore (lv1 := [_, _, _, _, _, _, _, _, _, _, _, _, _, _, _, _]) d_QM_aggregate_155 (by decide) rfl ?_
                  refine qx_iincN (w := 1) (lv1 := [_, _, _, _, _, _, _, _, _, _, _, _, _, _, _, _]) d_QM_aggregate_157 rfl rfl (by decide) rfl ?_
                  refine qx_goto (t := 26) d_QM_aggregate_160 rfl ?_
                  refine qx_less (lv1 := [_, _, _, _, _, _, _, _, qdead, _, qdead, _, qdead, _, qdead, qdead]) ⟨Or.inr rfl, Or.inr rfl, Or.inr rfl, Or.inr rfl, Or.inr rfl, Or.inr rfl, Or.inr rfl, Or.inr rfl, Or.inl rfl, Or.inr rfl, Or.inl rfl, Or.inr rfl, Or.inl rfl, Or.inr rfl, Or.inl rfl, Or.inl rfl, trivial⟩ ?_
                  first
                    | (rw [if_neg (by rw [c42]; decide)] at ih2; exact ih2 _ _ _ _)
                    | (rw [if_pos c42, agS_1 c54] at ih2; exact ih2 _ _ _ _)
                    | (rw [if_pos c42, agS_n c54 c80] at ih2; exact ih2 _ _ _ _)
                    | (rw [if_pos c42, agS_s c54 c80, if_pos (Or.inl c96)] at ih2; exact ih2 _ _ _ _)
                    | (have z := c110; rw [if_pos c42, agS_s c54 c80, if_pos (Or.inr (Or.inl ⟨c102, z⟩))] at ih2; exact ih2 _ _ _ _)
                    | (have z : _ < _ := c121; rw [if_pos c42, agS_s c54 c80, if_pos (Or.inr (Or.inr ⟨c102, z⟩))] at ih2; exact ih2 _ _ _ _)
                    | (have z := Int64.not_lt.mpr c110; rw [if_pos c42, agS_s c54 c80, if_neg (fun q => q.elim (fun e => by omega) (fun q => q.elim (fun e => absurd e.2 z) (fun e => e.1 c102)))] at ih2; exact ih2 _ _ _ _)
                    | (have z := Int64.not_lt.mpr c121; rw [if_pos c42, agS_s c54 c80, if_neg (fun q => q.elim (fun e => by omega) (fun q => q.elim (fun e => c102 e.1) (fun e => absurd e.2 z)))] at ih2; exact ih2 _ _ _ _)
                · refine qx_lload d_QM_aggregate_124 rfl ?_
                  refine qx_goto (t := 131) d_QM_aggregate_126 rfl ?_
                  refine qx_lstore (lv1 := [_, _, _, _, _, _, _, _, _, _, _, _, _, _, _, _]) d_QM_aggregate_131 (by decide) rfl ?_
                  refine qx_iincN (w := 1) (lv1 := [_, _, _, _, _, _, _, _, _, _, _, _, _, _, _, _]) d_QM_aggregate_133 rfl rfl (by decide) rfl ?_
                  refine qx_lload d_QM_aggregate_136 rfl ?_
                  refine qx_lload d_QM_aggregate_138 rfl ?_
                  refine qx_bipushN (v := 32) d_QM_aggregate_140 rfl ?_
                  refine qx_lshr d_QM_aggregate_142 ?_
                  refine qx_ladd d_QM_aggregate_143 ?_
                  refine qx_lstore (lv1 := [_, _, _, _, _, _, _, _, _, _, _, _, _, _, _, _]) d_QM_aggregate_144 (by decide) rfl ?_
                  refine qx_lload d_QM_aggregate_146 rfl ?_
                  refine qx_lload d_QM_aggregate_148 rfl ?_
                  refine qx_ldc2 d_QM_aggregate_150 kl_QM_217 ?_
                  refine qx_land d_QM_aggregate_153 ?_
                  refine qx_ladd d_QM_aggregate_154 ?_
                  refine qx_lstore (lv1 := [_, _, _, _, _, _, _, _, _, _, _, _, _, _, _, _]) d_QM_aggregate_155 (by decide) rfl ?_
                  refine qx_iincN (w := 1) (lv1 := [_, _, _, _, _, _, _, _, _, _, _, _, _, _, _, _]) d_QM_aggregate_157 rfl rfl (by decide) rfl ?_
                  refine qx_goto (t := 26) d_QM_aggregate_160 rfl ?_
                  refine qx_less (lv1 := [_, _, _, _, _, _, _, _, qdead, _, qdead, _, qdead, _, qdead, qdead]) ⟨Or.inr rfl, Or.inr rfl, Or.inr rfl, Or.inr rfl, Or.inr rfl, Or.inr rfl, Or.inr rfl, Or.inr rfl, Or.inl rfl, Or.inr rfl, Or.inl rfl, Or.inr rfl, Or.inl rfl, Or.inr rfl, Or.inl rfl, Or.inl rfl, trivial⟩ ?_
                  first
                    | (rw [if_neg (by rw [c42]; decide)] at ih2; exact ih2 _ _ _ _)
                    | (rw [if_pos c42, agS_1 c54] at ih2; exact ih2 _ _ _ _)
                    | (rw [if_pos c42, agS_n c54 c80] at ih2; exact ih2 _ _ _ _)
                    | (rw [if_pos c42, agS_s c54 c80, if_pos (Or.inl c96)] at ih2; exact ih2 _ _ _ _)
                    | (have z := c110; rw [if_pos c42, agS_s c54 c80, if_pos (Or.inr (Or.inl ⟨c102, z⟩))] at ih2; exact ih2 _ _ _ _)
                    | (have z : _ < _ := c121; rw [if_pos c42, agS_s c54 c80, if_pos (Or.inr (Or.inr ⟨c102, z⟩))] at ih2; exact ih2 _ _ _ _)
                    | (have z := Int64.not_lt.mpr c110; rw [if_pos c42, agS_s c54 c80, if_neg (fun q => q.elim (fun e => by omega) (fun q => q.elim (fun e => absurd e.2 z) (fun e => e.1 c102)))] at ih2; exact ih2 _ _ _ _)
                    | (have z := Int64.not_lt.mpr c121; rw [if_pos c42, agS_s c54 c80, if_neg (fun q => q.elim (fun e => by omega) (fun q => q.elim (fun e => c102 e.1) (fun e => absurd e.2 z)))] at ih2; exact ih2 _ _ _ _)
              · refine qx_lload d_QM_aggregate_105 rfl ?_
                refine qx_lload d_QM_aggregate_107 rfl ?_
                refine qx_lcmp d_QM_aggregate_109 ?_
                refine qx_if_geC (t := 129) d_QM_aggregate_110 rfl (fun c110 => ?_) (fun c110 => ?_)
                · refine qx_lload d_QM_aggregate_129 rfl ?_
                  refine qx_lstore (lv1 := [_, _, _, _, _, _, _, _, _, _, _, _, _, _, _, _]) d_QM_aggregate_131 (by decide) rfl ?_
                  refine qx_iincN (w := 1) (lv1 := [_, _, _, _, _, _, _, _, _, _, _, _, _, _, _, _]) d_QM_aggregate_133 rfl rfl (by decide) rfl ?_
                  refine qx_lload d_QM_aggregate_136 rfl ?_
                  refine qx_lload d_QM_aggregate_138 rfl ?_
                  refine qx_bipushN (v := 32) d_QM_aggregate_140 rfl ?_
                  refine qx_lshr d_QM_aggregate_142 ?_
                  refine qx_ladd d_QM_aggregate_143 ?_
                  refine qx_lstore (lv1 := [_, _, _, _, _, _, _, _, _, _, _, _, _, _, _, _]) d_QM_aggregate_144 (by decide) rfl ?_
                  refine qx_lload d_QM_aggregate_146 rfl ?_
                  refine qx_lload d_QM_aggregate_148 rfl ?_
                  refine qx_ldc2 d_QM_aggregate_150 kl_QM_217 ?_
                  refine qx_land d_QM_aggregate_153 ?_
                  refine qx_ladd d_QM_aggregate_154 ?_
                  refine qx_lstore (lv1 := [_, _, _, _, _, _, _, _, _, _, _, _, _, _, _, _]) d_QM_aggregate_155 (by decide) rfl ?_
                  refine qx_iincN (w := 1) (lv1 := [_, _, _, _, _, _, _, _, _, _, _, _, _, _, _, _]) d_QM_aggregate_157 rfl rfl (by decide) rfl ?_
                  refine qx_goto (t := 26) d_QM_aggregate_160 rfl ?_
                  refine qx_less (lv1 := [_, _, _, _, _, _, _, _, qdead, _, qdead, _, qdead, _, qdead, qdead]) ⟨Or.inr rfl, Or.inr rfl, Or.inr rfl, Or.inr rfl, Or.inr rfl, Or.inr rfl, Or.inr rfl, Or.inr rfl, Or.inl rfl, Or.inr rfl, Or.inl rfl, Or.inr rfl, Or.inl rfl, Or.inr rfl, Or.inl rfl, Or.inl rfl, trivial⟩ ?_
                  first
                    | (rw [if_neg (by rw [c42]; decide)] at ih2; exact ih2 _ _ _ _)
                    | (rw [if_pos c42, agS_1 c54] at ih2; exact ih2 _ _ _ _)
                    | (rw [if_pos c42, agS_n c54 c80] at ih2; exact ih2 _ _ _ _)
                    | (rw [if_pos c42, agS_s c54 c80, if_pos (Or.inl c96)] at ih2; exact ih2 _ _ _ _)
                    | (have z := c110; rw [if_pos c42, agS_s c54 c80, if_pos (Or.inr (Or.inl ⟨c102, z⟩))] at ih2; exact ih2 _ _ _ _)
                    | (have z : _ < _ := c121; rw [if_pos c42, agS_s c54 c80, if_pos (Or.inr (Or.inr ⟨c102, z⟩))] at ih2; exact ih2 _ _ _ _)
                    | (have z := Int64.not_lt.mpr c110; rw [if_pos c42, agS_s c54 c80, if_neg (fun q => q.elim (fun e => by omega) (fun q => q.elim (fun e => absurd e.2 z) (fun e => e.1 c102)))] at ih2; exact ih2 _ _ _ _)
                    | (have z := Int64.not_lt.mpr c121; rw [if_pos c42, agS_s c54 c80, if_neg (fun q => q.elim (fun e => by omega) (fun q => q.elim (fun e => c102 e.1) (fun e => absurd e.2 z)))] at ih2; exact ih2 _ _ _ _)
                · refine qx_goto (t := 124) d_QM_aggregate_113 rfl ?_
                  refine qx_lload d_QM_aggregate_124 rfl ?_
                  refine qx_goto (t := 131) d_QM_aggregate_126 rfl ?_
                  refine qx_lstore (lv1 := [_, _, _, _, _, _, _, _, _, _, _, _, _, _, _, _]) d_QM_aggregate_131 (by decide) rfl ?_
                  refine qx_iincN (w := 1) (lv1 := [_, _, _, _, _, _, _, _, _, _, _, _, _, _, _, _]) d_QM_aggregate_133 rfl rfl (by decide) rfl ?_
                  refine qx_lload d_QM_aggregate_136 rfl ?_
                  refine qx_lload d_QM_aggregate_138 rfl ?_
                  refine qx_bipushN (v := 32) d_QM_aggregate_140 rfl ?_
                  refine qx_lshr d_QM_aggregate_142 ?_
                  refine qx_ladd d_QM_aggregate_143 ?_
                  refine qx_lstore (lv1 := [_, _, _, _, _, _, _, _, _, _, _, _, _, _, _, _]) d_QM_aggregate_144 (by decide) rfl ?_
                  refine qx_lload d_QM_aggregate_146 rfl ?_
                  refine qx_lload d_QM_aggregate_148 rfl ?_
                  refine qx_ldc2 d_QM_aggregate_150 kl_QM_217 ?_
                  refine qx_land d_QM_aggregate_153 ?_
                  refine qx_ladd d_QM_aggregate_154 ?_
                  refine qx_lstore (lv1 := [_, _, _, _, _, _, _, _, _, _, _, _, _, _, _, _]) d_QM_aggregate_155 (by decide) rfl ?_
                  refine qx_iincN (w := 1) (lv1 := [_, _, _, _, _, _, _, _, _, _, _, _, _, _, _, _]) d_QM_aggregate_157 rfl rfl (by decide) rfl ?_
                  refine qx_goto (t := 26) d_QM_aggregate_160 rfl ?_
                  refine qx_less (lv1 := [_, _, _, _, _, _, _, _, qdead, _, qdead, _, qdead, _, qdead, qdead]) ⟨Or.inr rfl, Or.inr rfl, Or.inr rfl, Or.inr rfl, Or.inr rfl, Or.inr rfl, Or.inr rfl, Or.inr rfl, Or.inl rfl, Or.inr rfl, Or.inl rfl, Or.inr rfl, Or.inl rfl, Or.inr rfl, Or.inl rfl, Or.inl rfl, trivial⟩ ?_
                  first
                    | (rw [if_neg (by rw [c42]; decide)] at ih2; exact ih2 _ _ _ _)
                    | (rw [if_pos c42, agS_1 c54] at ih2; exact ih2 _ _ _ _)
                    | (rw [if_pos c42, agS_n c54 c80] at ih2; exact ih2 _ _ _ _)
                    | (rw [if_pos c42, agS_s c54 c80, if_pos (Or.inl c96)] at ih2; exact ih2 _ _ _ _)
                    | (have z := c110; rw [if_pos c42, agS_s c54 c80, if_pos (Or.inr (Or.inl ⟨c102, z⟩))] at ih2; exact ih2 _ _ _ _)
                    | (have z : _ < _ := c121; rw [if_pos c42, agS_s c54 c80, if_pos (Or.inr (Or.inr ⟨c102, z⟩))] at ih2; exact ih2 _ _ _ _)
                    | (have z := Int64.not_lt.mpr c110; rw [if_pos c42, agS_s c54 c80, if_neg (fun q => q.elim (fun e => by omega) (fun q => q.elim (fun e => absurd e.2 z) (fun e => e.1 c102)))] at ih2; exact ih2 _ _ _ _)
                    | (have z := Int64.not_lt.mpr c121; rw [if_pos c42, agS_s c54 c80, if_neg (fun q => q.elim (fun e => by omega) (fun q => q.elim (fun e => c102 e.1) (fun e => absurd e.2 z)))] at ih2; exact ih2 _ _ _ _)
          · refine qx_goto (t := 157) d_QM_aggregate_83 rfl ?_
            refine qx_iincN (w := 1) (lv1 := [_, _, _, _, _, _, _, _, _, _, _, _, _, _, _, _]) d_QM_aggregate_157 rfl rfl (by decide) rfl ?_
            refine qx_goto (t := 26) d_QM_aggregate_160 rfl ?_
            refine qx_less (lv1 := [_, _, _, _, _, _, _, _, qdead, _, qdead, _, qdead, _, qdead, qdead]) ⟨Or.inr rfl, Or.inr rfl, Or.inr rfl, Or.inr rfl, Or.inr rfl, Or.inr rfl, Or.inr rfl, Or.inr rfl, Or.inl rfl, Or.inr rfl, Or.inl rfl, Or.inr rfl, Or.inl rfl, Or.inr rfl, Or.inl rfl, Or.inl rfl, trivial⟩ ?_
            first
              | (rw [if_neg (by rw [c42]; decide)] at ih2; exact ih2 _ _ _ _)
              | (rw [if_pos c42, agS_1 c54] at ih2; exact ih2 _ _ _ _)
              | (rw [if_pos c42, agS_n c54 c80] at ih2; exact ih2 _ _ _ _)
              | (rw [if_pos c42, agS_s c54 c80, if_pos (Or.inl c96)] at ih2; exact ih2 _ _ _ _)
              | (have z := c110; rw [if_pos c42, agS_s c54 c80, if_pos (Or.inr (Or.inl ⟨c102, z⟩))] at ih2; exact ih2 _ _ _ _)
              | (have z : _ < _ := c121; rw [if_pos c42, agS_s c54 c80, if_pos (Or.inr (Or.inr ⟨c102, z⟩))] at ih2; exact ih2 _ _ _ _)
              | (have z := Int64.not_lt.mpr c110; rw [if_pos c42, agS_s c54 c80, if_neg (fun q => q.elim (fun e => by omega) (fun q => q.elim (fun e => absurd e.2 z) (fun e => e.1 c102)))] at ih2; exact ih2 _ _ _ _)
              | (have z := Int64.not_lt.mpr c121; rw [if_pos c42, agS_s c54 c80, if_neg (fun q => q.elim (fun e => by omega) (fun q => q.elim (fun e => c102 e.1) (fun e => absurd e.2 z)))] at ih2; exact ih2 _ _ _ _)
        · refine qx_goto (t := 157) d_QM_aggregate_57 rfl ?_
          refine qx_iincN (w := 1) (lv1 := [_, _, _, _, _, _, _, _, _, _, _, _, _, _, _, _]) d_QM_aggregate_157 rfl rfl (by decide) rfl ?_
          refine qx_goto (t := 26) d_QM_aggregate_160 rfl ?_
          refine qx_less (lv1 := [_, _, _, _, _, _, _, _, qdead, _, qdead, _, qdead, _, qdead, qdead]) ⟨Or.inr rfl, Or.inr rfl, Or.inr rfl, Or.inr rfl, Or.inr rfl, Or.inr rfl, Or.inr rfl, Or.inr rfl, Or.inl rfl, Or.inr rfl, Or.inl rfl, Or.inr rfl, Or.inl rfl, Or.inr rfl, Or.inl rfl, Or.inl rfl, trivial⟩ ?_
          first
            | (rw [if_neg (by rw [c42]; decide)] at ih2; exact ih2 _ _ _ _)
            | (rw [if_pos c42, agS_1 c54] at ih2; exact ih2 _ _ _ _)
            | (rw [if_pos c42, agS_n c54 c80] at ih2; exact ih2 _ _ _ _)
            | (rw [if_pos c42, agS_s c54 c80, if_pos (Or.inl c96)] at ih2; exact ih2 _ _ _ _)
            | (have z := c110; rw [if_pos c42, agS_s c54 c80, if_pos (Or.inr (Or.inl ⟨c102, z⟩))] at ih2; exact ih2 _ _ _ _)
            | (have z : _ < _ := c121; rw [if_pos c42, agS_s c54 c80, if_pos (Or.inr (Or.inr ⟨c102, z⟩))] at ih2; exact ih2 _ _ _ _)
            | (have z := Int64.not_lt.mpr c110; rw [if_pos c42, agS_s c54 c80, if_neg (fun q => q.elim (fun e => by omega) (fun q => q.elim (fun e => absurd e.2 z) (fun e => e.1 c102)))] at ih2; exact ih2 _ _ _ _)
            | (have z := Int64.not_lt.mpr c121; rw [if_pos c42, agS_s c54 c80, if_neg (fun q => q.elim (fun e => by omega) (fun q => q.elim (fun e => c102 e.1) (fun e => absurd e.2 z)))] at ih2; exact ih2 _ _ _ _)
      · refine qx_goto (t := 157) d_QM_aggregate_45 rfl ?_
        refine qx_iincN (w := 1) (lv1 := [_, _, _, _, _, _, _, _, _, _, _, _, _, _, _, _]) d_QM_aggregate_157 rfl rfl (by decide) rfl ?_
        refine qx_goto (t := 26) d_QM_aggregate_160 rfl ?_
        refine qx_less (lv1 := [_, _, _, _, _, _, _, _, qdead, _, qdead, _, qdead, _, qdead, qdead]) ⟨Or.inr rfl, Or.inr rfl, Or.inr rfl, Or.inr rfl, Or.inr rfl, Or.inr rfl, Or.inr rfl, Or.inr rfl, Or.inl rfl, Or.inr rfl, Or.inl rfl, Or.inr rfl, Or.inl rfl, Or.inr rfl, Or.inl rfl, Or.inl rfl, trivial⟩ ?_
        first
          | (rw [if_neg (by rw [c42]; decide)] at ih2; exact ih2 _ _ _ _)
          | (rw [if_pos c42, agS_1 c54] at ih2; exact ih2 _ _ _ _)
          | (rw [if_pos c42, agS_n c54 c80] at ih2; exact ih2 _ _ _ _)
          | (rw [if_pos c42, agS_s c54 c80, if_pos (Or.inl c96)] at ih2; exact ih2 _ _ _ _)
          | (have z := c110; rw [if_pos c42, agS_s c54 c80, if_pos (Or.inr (Or.inl ⟨c102, z⟩))] at ih2; exact ih2 _ _ _ _)
          | (have z : _ < _ := c121; rw [if_pos c42, agS_s c54 c80, if_pos (Or.inr (Or.inr ⟨c102, z⟩))] at ih2; exact ih2 _ _ _ _)
          | (have z := Int64.not_lt.mpr c110; rw [if_pos c42, agS_s c54 c80, if_neg (fun q => q.elim (fun e => by omega) (fun q => q.elim (fun e => absurd e.2 z) (fun e => e.1 c102)))] at ih2; exact ih2 _ _ _ _)
          | (have z := Int64.not_lt.mpr c121; rw [if_pos c42, agS_s c54 c80, if_neg (fun q => q.elim (fun e => by omega) (fun q => q.elim (fun e => c102 e.1) (fun e => absurd e.2 z)))] at ih2; exact ih2 _ _ _ _)
  refine qx_aload_n d_QM_aggregate_0 rfl rfl ?_
  refine qx_getR d_QM_aggregate_1 fR_QM_33 rfl rfl (congrFun hR 20) ?_
  refine qx_iload_n d_QM_aggregate_4 rfl rfl ?_
  refine qx_iald d_QM_aggregate_5 rfl rfl rfl rfl (by omega) hok ?_
  refine qx_istore (lv1 := [_, _, _, _, _, _, _, _, _, _, _, _, _, _, _, _]) d_QM_aggregate_6 (by decide) rfl ?_
  refine qx_iconstN (v := 0) d_QM_aggregate_8 rfl ?_
  refine qx_istore (lv1 := [_, _, _, _, _, _, _, _, _, _, _, _, _, _, _, _]) d_QM_aggregate_9 (by decide) rfl ?_
  refine qx_iconstN (v := 0) d_QM_aggregate_11 rfl ?_
  refine qx_istore (lv1 := [_, _, _, _, _, _, _, _, _, _, _, _, _, _, _, _]) d_QM_aggregate_12 (by decide) rfl ?_
  refine qx_lconst (v := 0) d_QM_aggregate_14 rfl ?_
  refine qx_lstore (lv1 := [_, _, _, _, _, _, _, _, _, _, _, _, _, _, _, _]) d_QM_aggregate_15 (by decide) rfl ?_
  refine qx_lconst (v := 0) d_QM_aggregate_17 rfl ?_
  refine qx_lstore (lv1 := [_, _, _, _, _, _, _, _, _, _, _, _, _, _, _, _]) d_QM_aggregate_18 (by decide) rfl ?_
  refine qx_lconst (v := 0) d_QM_aggregate_20 rfl ?_
  refine qx_lstore (lv1 := [_, _, _, _, _, _, _, _, _, _, _, _, _, _, _, _]) d_QM_aggregate_21 (by decide) rfl ?_
  refine qx_iconstN (v := 0) d_QM_aggregate_23 rfl ?_
  refine qx_istore (lv1 := [_, _, _, _, _, _, _, _, _, _, _, _, _, _, _, _]) d_QM_aggregate_24 (by decide) rfl ?_
  exact key kp 0 hv hb wk wn (by omega)
