theorem jV_lo {tv : Nat → Int64} {fi se f c : Nat} {s : Option Nat} (h : c < 2) : jV tv fi se f s c = tv (24 * fi + 2 * f + c) := by unfold jV; rw [if_pos h]
theorem jB_lo {tn : Nat → Bool} {fi se f c : Nat} {s : Option Nat} (h : c < 2) : jB tn fi se f s c = tn (24 * fi + 2 * f + c) := by unfold jB; rw [if_pos h]
theorem j_some {tv hv : Nat → Int64} {tn hb : Nat → Bool} {fi se f s : Nat} (hlo : ∀ c, c < 2 → hv c = tv (24 * fi + 2 * f + c) ∧ hb c = tn (24 * fi + 2 * f + c)) : ∀ c, c < 4 → va_up (va_up hv 2 (tv (24 * se + 2 * s))) 3 (tv (24 * se + 2 * s + 1)) c = jV tv fi se f (some s) c ∧ va_up (va_up hb 2 (tn (24 * se + 2 * s))) 3 (tn (24 * se + 2 * s + 1)) c = jB tn fi se f (some s) c := by
  intro c hc
  have h : c = 0 ∨ c = 1 ∨ c = 2 ∨ c = 3 := by omega
  rcases h with rfl | rfl | rfl | rfl
  · rw [jV_lo (by omega), jB_lo (by omega)]; exact hlo 0 (by omega)
  · rw [jV_lo (by omega), jB_lo (by omega)]; exact hlo 1 (by omega)
  · exact ⟨rfl, rfl⟩
  · exact ⟨rfl, rfl⟩
theorem j_none {tv hv : Nat → Int64} {tn hb : Nat → Bool} {fi se f : Nat} (hlo : ∀ c, c < 2 → hv c = tv (24 * fi + 2 * f + c) ∧ hb c = tn (24 * fi + 2 * f + c)) : ∀ c, c < 4 → va_up (va_up hv 2 0) 3 0 c = jV tv fi se f none c ∧ va_up (va_up hb 2 true) 3 true c = jB tn fi se f none c := by
  intro c hc
  have h : c = 0 ∨ c = 1 ∨ c = 2 ∨ c = 3 := by omega
  rcases h with rfl | rfl | rfl | rfl
  · rw [jV_lo (by omega), jB_lo (by omega)]; exact hlo 0 (by omega)
  · rw [jV_lo (by omega), jB_lo (by omega)]; exact hlo 1 (by omega)
  · exact ⟨rfl, rfl⟩
  · exact ⟨rfl, rfl⟩
theorem j_lo {tv hv : Nat → Int64} {tn hb : Nat → Bool} {fi f : Nat} {x y : Int64} {a b : Bool} (hlo : ∀ c, c < 2 → hv c = tv (24 * fi + 2 * f + c) ∧ hb c = tn (24 * fi + 2 * f + c)) : ∀ c, c < 2 → va_up (va_up hv 2 x) 3 y c = tv (24 * fi + 2 * f + c) ∧ va_up (va_up hb 2 a) 3 b c = tn (24 * fi + 2 * f + c) := by
  intro c hc
  rw [qun (by omega), qun (by omega), qun (by omega), qun (by omega)]
  exact hlo c hc
theorem j_first {tv hv : Nat → Int64} {tn hb : Nat → Bool} {fi f : Nat} : ∀ c, c < 2 → va_up (va_up hv 0 (tv (24 * fi + 2 * f))) 1 (tv (24 * fi + 2 * f + 1)) c = tv (24 * fi + 2 * f + c) ∧ va_up (va_up hb 0 (tn (24 * fi + 2 * f))) 1 (tn (24 * fi + 2 * f + 1)) c = tn (24 * fi + 2 * f + c) := by
  intro c hc
  have h : c = 0 ∨ c = 1 := by omega
  rcases h with rfl | rfl
  · exact ⟨rfl, rfl⟩
  · exact ⟨rfl, rfl⟩
theorem j_mat {tv hv : Nat → Int64} {tn hb : Nat → Bool} {fi se f s le ri : Nat} (hle : le < 2) (hri : ri < 2) (h : ∀ c, c < 4 → hv c = jV tv fi se f (some s) c ∧ hb c = jB tn fi se f (some s) c) : (!hb le && (!hb (2 + ri) && decide (hv le = hv (2 + ri)))) = jM tv tn fi se le ri f s := by
  have e1 : jB tn fi se f (some s) (2 + ri) = tn (24 * se + 2 * s + ri) := by
    unfold jB
    rw [if_neg (by omega)]
    show tn (24 * se + 2 * s + (2 + ri - 2)) = _
    rw [Nat.add_sub_cancel_left]
  have e2 : jV tv fi se f (some s) (2 + ri) = tv (24 * se + 2 * s + ri) := by
    unfold jV
    rw [if_neg (by omega)]
    show tv (24 * se + 2 * s + (2 + ri - 2)) = _
    rw [Nat.add_sub_cancel_left]
  rw [(h le (by omega)).1, (h le (by omega)).2, (h (2 + ri) (by omega)).1, (h (2 + ri) (by omega)).2, e1, e2, jV_lo hle, jB_lo hle]
  rfl
set_option maxRecDepth 100000 in
set_option maxHeartbeats 4000000 in
theorem ct_QM_joinAll {h : qH} (hR : h.2.2 122 = qRQM) (tv : Nat → Int64) (tn : Nat → Bool) (htv : ∀ k, k < 72 → h.2.1 124 k = tv k ∧ h.1 125 k = b2i (tn k)) (nc : Nat) (hnc6 : nc ≤ 6) (hnc : h.1 122 14 = nI nc) (CE : Nat → List xP) (hce : ∀ c, c < nc → (CE c).length ≤ 24 ∧ h.1 128 (8 + c) = nI (CE c).length ∧ rExp (h.1 126) (h.2.1 127) (24 * (8 + c)) (CE c) ∧ xT 8 [] (CE c) = some [true]) (kd fi se le ri : Nat) (hk3 : kd < 3) (hfi3 : fi < 3) (hkd : h.1 122 4 = nI kd) (hfi : h.1 122 5 = nI fi) (hse : kd ≠ 0 → h.1 122 6 = nI se ∧ se < 3 ∧ h.1 122 7 = nI le ∧ le < 2 ∧ h.1 122 8 = nI ri ∧ ri < 2) (n1r n2r : Nat) (hn1 : n1r ≤ 12) (hn2 : n2r ≤ 12) (hr1 : h.1 123 fi = nI n1r) (hr2 : kd ≠ 0 → h.1 123 se = nI n2r) (hr0 : kd = 0 → n2r = 0) (hv : Nat → Int64) (hb : Nat → Bool) (kv : Nat → Int64) (kb : Nat → Bool) (kp : Nat) (wk : Nat → Int64) (wn : Nat → Int32) :
    qT mi_QM_joinAll 6 0 0 [.ref 122] (eR (fR h hv hb kv kb kp) wk wn) NN (fun v1 h1 n1 => v1 = none ∧ (∃ hv1 hb1 kv1 kb1 wk1 wn1, h1 = eR (fR h hv1 hb1 kv1 kb1 (jOut (fun f s => allT (jRow tv tn fi se f s) CE nc) (jM tv tn fi se le ri) n2r kd n1r).2.2) wk1 wn1 ∧ kRep (jV tv fi se) (jB tn fi se) kv1 kb1 (jOut (fun f s => allT (jRow tv tn fi se f s) CE nc) (jM tv tn fi se le ri) n2r kd n1r)) ∧ n1 = NN) := by
  refine qT.of (lv0 := [_, _, _, _]) (by decide +kernel) (fun _ _ => Nat.le_of_ble_eq_true rfl) rfl ?_
  -- behind the second table's rows
  have tail : ∀ (f : Nat) (hv : Nat → Int64) (hb : Nat → Bool) (kv : Nat → Int64) (kb : Nat → Bool) (wk : Nat → Int64) (wn : Nat → Int32) (x : Value), f < n1r → (∀ c, c < 2 → hv c = tv (24 * fi + 2 * f + c) ∧ hb c = tn (24 * fi + 2 * f + c)) → kRep (jV tv fi se) (jB tn fi se) kv kb (jIn (fun f s => allT (jRow tv tn fi se f s) CE nc) (jM tv tn fi se le ri) f (jOut (fun f s => allT (jRow tv tn fi se f s) CE nc) (jM tv tn fi se le ri) n2r kd f) n2r).1 →
      (∀ (hv : Nat → Int64) (hb : Nat → Bool) (kv : Nat → Int64) (kb : Nat → Bool) (wk : Nat → Int64) (wn : Nat → Int32), kRep (jV tv fi se) (jB tn fi se) kv kb (jOut (fun f s => allT (jRow tv tn fi se f s) CE nc) (jM tv tn fi se le ri) n2r kd (f + 1)) → qX mi_QM_joinAll 6 none 0 0 7 [.ref 122, .int (nI (f + 1)), qdead, qdead] [] (eR (fR h hv hb kv kb (jOut (fun f s => allT (jRow tv tn fi se f s) CE nc) (jM tv tn fi se le ri) n2r kd (f + 1)).2.2) wk wn) NN 0 0 (fun v1 h1 n1 => v1 = none ∧ (∃ hv1 hb1 kv1 kb1 wk1 wn1, h1 = eR (fR h hv1 hb1 kv1 kb1 (jOut (fun f s => allT (jRow tv tn fi se f s) CE nc) (jM tv tn fi se le ri) n2r kd n1r).2.2) wk1 wn1 ∧ kRep (jV tv fi se) (jB tn fi se) kv1 kb1 (jOut (fun f s => allT (jRow tv tn fi se f s) CE nc) (jM tv tn fi se le ri) n2r kd n1r)) ∧ n1 = NN)) →
      qX mi_QM_joinAll 6 none 0 0 82 [.ref 122, .int (nI f), .int (nI (jIn (fun f s => allT (jRow tv tn fi se f s) CE nc) (jM tv tn fi se le ri) f (jOut (fun f s => allT (jRow tv tn fi se f s) CE nc) (jM tv tn fi se le ri) n2r kd f) n2r).2), x] [] (eR (fR h hv hb kv kb (jIn (fun f s => allT (jRow tv tn fi se f s) CE nc) (jM tv tn fi se le ri) f (jOut (fun f s => allT (jRow tv tn fi se f s) CE nc) (jM tv tn fi se le ri) n2r kd f) n2r).1.2.2) wk wn) NN 0 0 (fun v1 h1 n1 => v1 = none ∧ (∃ hv1 hb1 kv1 kb1 wk1 wn1, h1 = eR (fR h hv1 hb1 kv1 kb1 (jOut (fun f s => allT (jRow tv tn fi se f s) CE nc) (jM tv tn fi se le ri) n2r kd n1r).2.2) wk1 wn1 ∧ kRep (jV tv fi se) (jB tn fi se) kv1 kb1 (jOut (fun f s => allT (jRow tv tn fi se f s) CE nc) (jM tv tn fi se le ri) n2r kd n1r)) ∧ n1 = NN) := by
    intro f hv hb kv kb wk wn x hf hlo hkr nxt
    have hO := jOut_le (fun f s => allT (jRow tv tn fi se f s) CE nc) (jM tv tn fi se le ri) n2r kd hn2 hr0 f
    have hI := jIn_le (fun f s => allT (jRow tv tn fi se f s) CE nc) (jM tv tn fi se le ri) f (jOut (fun f s => allT (jRow tv tn fi se f s) CE nc) (jM tv tn fi se le ri) n2r kd f) n2r
    have hs : (jOut (fun f s => allT (jRow tv tn fi se f s) CE nc) (jM tv tn fi se le ri) n2r kd (f + 1)) = if kd = 0 ∨ (kd = 2 ∧ (jIn (fun f s => allT (jRow tv tn fi se f s) CE nc) (jM tv tn fi se le ri) f (jOut (fun f s => allT (jRow tv tn fi se f s) CE nc) (jM tv tn fi se le ri) n2r kd f) n2r).2 = 0) then kIf (fun f s => allT (jRow tv tn fi se f s) CE nc) (jIn (fun f s => allT (jRow tv tn fi se f s) CE nc) (jM tv tn fi se le ri) f (jOut (fun f s => allT (jRow tv tn fi se f s) CE nc) (jM tv tn fi se le ri) n2r kd f) n2r).1 f none else (jIn (fun f s => allT (jRow tv tn fi se f s) CE nc) (jM tv tn fi se le ri) f (jOut (fun f s => allT (jRow tv tn fi se f s) CE nc) (jM tv tn fi se le ri) n2r kd f) n2r).1 := rfl
    rw [hs] at nxt
    refine qx_aload_n d_QM_joinAll_82 rfl rfl ?_
    refine qx_iconstN (v := 1) d_QM_joinAll_83 rfl ?_
    refine qx_iconst (v := (-1)) d_QM_joinAll_84 rfl ?_
    refine qx_callV (As := [_, _]) (rest := _) d_QM_joinAll_85 lk_QM_194 y_QM_bring v_QM_bring rfl rfl rfl (by decide) rfl rfl rfl rfl (by decide) (by decide) (ct_QM_bring_none hR _ _ _ _ _ _ _ _ rfl) ?_
    rintro _ _ _ ⟨rfl, rfl, rfl⟩
    refine qx_aload_n d_QM_joinAll_88 rfl rfl ?_
    refine qx_getI d_QM_joinAll_89 fI_QM_110 rfl rfl hkd ?_
    refine qx_if_eqN (t := 107) d_QM_joinAll_92 rfl (by omega) (fun c92 => ?_) (fun c92 => ?_)
    · refine qx_aload_n d_QM_joinAll_107 rfl rfl ?_
      refine qx_callV (As := []) (rest := _) d_QM_joinAll_108 lk_QM_204 y_QM_keep v_QM_keep rfl rfl rfl (by decide) rfl rfl rfl rfl (by decide) (by decide) (ct_QM_keep hR _ _ kv kb wk wn (jIn (fun f s => allT (jRow tv tn fi se f s) CE nc) (jM tv tn fi se le ri) f (jOut (fun f s => allT (jRow tv tn fi se f s) CE nc) (jM tv tn fi se le ri) n2r kd f) n2r).1 (by omega) (jV tv fi se) (jB tn fi se) f none (j_none hlo) hkr nc hnc6 hnc CE hce (fun f s => allT (jRow tv tn fi se f s) CE nc) rfl) ?_
      rintro _ _ _ ⟨rfl, ⟨kv1, kb1, wk1, wn1, rfl, hkr1⟩, rfl⟩
      refine qx_iincN (w := 1) (lv1 := [_, _, _, _]) d_QM_joinAll_111 rfl rfl (by decide) rfl ?_
      refine qx_goto (t := 7) d_QM_joinAll_114 rfl ?_
      refine qx_less (lv1 := [_, _, qdead, qdead]) ⟨Or.inr rfl, Or.inr rfl, Or.inl rfl, Or.inl rfl, trivial⟩ ?_
      first
        | (rw [if_pos (Or.inl c92)] at nxt; exact nxt _ _ _ _ _ _ hkr1)
        | (rw [if_pos (Or.inr ⟨c100, c104⟩)] at nxt; exact nxt _ _ _ _ _ _ hkr1)
        | (rw [if_neg (fun q => q.elim (fun e => by omega) (fun e => by omega))] at nxt; exact nxt _ _ _ _ _ _ hkr)
    · refine qx_aload_n d_QM_joinAll_95 rfl rfl ?_
      refine qx_getI d_QM_joinAll_96 fI_QM_110 rfl rfl hkd ?_
      refine qx_iconstN (v := 2) d_QM_joinAll_99 rfl ?_
      refine qx_icmp_neN (t := 111) d_QM_joinAll_100 rfl (by omega) (by omega) (fun c100 => ?_) (fun c100 => ?_)
      · refine qx_iincN (w := 1) (lv1 := [_, _, _, _]) d_QM_joinAll_111 rfl rfl (by decide) rfl ?_
        refine qx_goto (t := 7) d_QM_joinAll_114 rfl ?_
        refine qx_less (lv1 := [_, _, qdead, qdead]) ⟨Or.inr rfl, Or.inr rfl, Or.inl rfl, Or.inl rfl, trivial⟩ ?_
        first
          | (rw [if_pos (Or.inl c92)] at nxt; exact nxt _ _ _ _ _ _ hkr1)
          | (rw [if_pos (Or.inr ⟨c100, c104⟩)] at nxt; exact nxt _ _ _ _ _ _ hkr1)
          | (rw [if_neg (fun q => q.elim (fun e => by omega) (fun e => by omega))] at nxt; exact nxt _ _ _ _ _ _ hkr)
      · refine qx_iload_n d_QM_joinAll_103 rfl rfl ?_
        refine qx_if_neN (t := 111) d_QM_joinAll_104 rfl (by omega) (fun c104 => ?_) (fun c104 => ?_)
        · refine qx_iincN (w := 1) (lv1 := [_, _, _, _]) d_QM_joinAll_111 rfl rfl (by decide) rfl ?_
          refine qx_goto (t := 7) d_QM_joinAll_114 rfl ?_
          refine qx_less (lv1 := [_, _, qdead, qdead]) ⟨Or.inr rfl, Or.inr rfl, Or.inl rfl, Or.inl rfl, trivial⟩ ?_
          first
            | (rw [if_pos (Or.inl c92)] at nxt; exact nxt _ _ _ _ _ _ hkr1)
            | (rw [if_pos (Or.inr ⟨c100, c104⟩)] at nxt; exact nxt _ _ _ _ _ _ hkr1)
            | (rw [if_neg (fun q => q.elim (fun e => by omega) (fun e => by omega))] at nxt; exact nxt _ _ _ _ _ _ hkr)
        · refine qx_aload_n d_QM_joinAll_107 rfl rfl ?_
          refine qx_callV (As := []) (rest := _) d_QM_joinAll_108 lk_QM_204 y_QM_keep v_QM_keep rfl rfl rfl (by decide) rfl rfl rfl rfl (by decide) (by decide) (ct_QM_keep hR _ _ kv kb wk wn (jIn (fun f s => allT (jRow tv tn fi se f s) CE nc) (jM tv tn fi se le ri) f (jOut (fun f s => allT (jRow tv tn fi se f s) CE nc) (jM tv tn fi se le ri) n2r kd f) n2r).1 (by omega) (jV tv fi se) (jB tn fi se) f none (j_none hlo) hkr nc hnc6 hnc CE hce (fun f s => allT (jRow tv tn fi se f s) CE nc) rfl) ?_
          rintro _ _ _ ⟨rfl, ⟨kv1, kb1, wk1, wn1, rfl, hkr1⟩, rfl⟩
          refine qx_iincN (w := 1) (lv1 := [_, _, _, _]) d_QM_joinAll_111 rfl rfl (by decide) rfl ?_
          refine qx_goto (t := 7) d_QM_joinAll_114 rfl ?_
          refine qx_less (lv1 := [_, _, qdead, qdead]) ⟨Or.inr rfl, Or.inr rfl, Or.inl rfl, Or.inl rfl, trivial⟩ ?_
          first
            | (rw [if_pos (Or.inl c92)] at nxt; exact nxt _ _ _ _ _ _ hkr1)
            | (rw [if_pos (Or.inr ⟨c100, c104⟩)] at nxt; exact nxt _ _ _ _ _ _ hkr1)
            | (rw [if_neg (fun q => q.elim (fun e => by omega) (fun e => by omega))] at nxt; exact nxt _ _ _ _ _ _ hkr)
  have inner : ∀ (m s f : Nat) (hv : Nat → Int64) (hb : Nat → Bool) (kv : Nat → Int64) (kb : Nat → Bool) (wk : Nat → Int64) (wn : Nat → Int32), s + m = n2r → f < n1r → (∀ c, c < 2 → hv c = tv (24 * fi + 2 * f + c) ∧ hb c = tn (24 * fi + 2 * f + c)) → kRep (jV tv fi se) (jB tn fi se) kv kb (jIn (fun f s => allT (jRow tv tn fi se f s) CE nc) (jM tv tn fi se le ri) f (jOut (fun f s => allT (jRow tv tn fi se f s) CE nc) (jM tv tn fi se le ri) n2r kd f) s).1 →
      (∀ (hv : Nat → Int64) (hb : Nat → Bool) (kv : Nat → Int64) (kb : Nat → Bool) (wk : Nat → Int64) (wn : Nat → Int32), kRep (jV tv fi se) (jB tn fi se) kv kb (jOut (fun f s => allT (jRow tv tn fi se f s) CE nc) (jM tv tn fi se le ri) n2r kd (f + 1)) → qX mi_QM_joinAll 6 none 0 0 7 [.ref 122, .int (nI (f + 1)), qdead, qdead] [] (eR (fR h hv hb kv kb (jOut (fun f s => allT (jRow tv tn fi se f s) CE nc) (jM tv tn fi se le ri) n2r kd (f + 1)).2.2) wk wn) NN 0 0 (fun v1 h1 n1 => v1 = none ∧ (∃ hv1 hb1 kv1 kb1 wk1 wn1, h1 = eR (fR h hv1 hb1 kv1 kb1 (jOut (fun f s => allT (jRow tv tn fi se f s) CE nc) (jM tv tn fi se le ri) n2r kd n1r).2.2) wk1 wn1 ∧ kRep (jV tv fi se) (jB tn fi se) kv1 kb1 (jOut (fun f s => allT (jRow tv tn fi se f s) CE nc) (jM tv tn fi se le ri) n2r kd n1r)) ∧ n1 = NN)) →
      qX mi_QM_joinAll 6 none 0 0 36 [.ref 122, .int (nI f), .int (nI (jIn (fun f s => allT (jRow tv tn fi se f s) CE nc) (jM tv tn fi se le ri) f (jOut (fun f s => allT (jRow tv tn fi se f s) CE nc) (jM tv tn fi se le ri) n2r kd f) s).2), .int (nI s)] [] (eR (fR h hv hb kv kb (jIn (fun f s => allT (jRow tv tn fi se f s) CE nc) (jM tv tn fi se le ri) f (jOut (fun f s => allT (jRow tv tn fi se f s) CE nc) (jM tv tn fi se le ri) n2r kd f) s).1.2.2) wk wn) NN 0 0 (fun v1 h1 n1 => v1 = none ∧ (∃ hv1 hb1 kv1 kb1 wk1 wn1, h1 = eR (fR h hv1 hb1 kv1 kb1 (jOut (fun f s => allT (jRow tv tn fi se f s) CE nc) (jM tv tn fi se le ri) n2r kd n1r).2.2) wk1 wn1 ∧ kRep (jV tv fi se) (jB tn fi se) kv1 kb1 (jOut (fun f s => allT (jRow tv tn fi se f s) CE nc) (jM tv tn fi se le ri) n2r kd n1r)) ∧ n1 = NN) := by
    intro m
    induction m with
    | zero =>
      intro s f hv hb kv kb wk wn hs hf hlo hkr nxt
      have e : s = n2r := by omega
      subst e
      have hz : ∃ z, z ≤ 12 ∧ (kd ≠ 0 → z = s) ∧ h.1 123 (if kd = 0 then fi else se) = nI z ∧ (if kd = 0 then fi else se) < 3 := by
        by_cases k0 : kd = 0
        · rw [if_pos k0]; exact ⟨n1r, hn1, fun q => absurd k0 q, hr1, hfi3⟩
        · rw [if_neg k0]; exact ⟨s, hn2, fun _ => rfl, hr2 k0, (hse k0).2.1⟩
      obtain ⟨z, hz12, hzk, hzr, hz3⟩ := hz
      refine qx_iload_n d_QM_joinAll_36 rfl rfl ?_
      refine qx_aload_n d_QM_joinAll_37 rfl rfl ?_
      refine qx_getR d_QM_joinAll_38 fR_QM_7 rfl rfl (congrFun hR 0) ?_
      refine qx_aload_n d_QM_joinAll_41 rfl rfl ?_
      refine qx_callV (As := []) (rest := _) d_QM_joinAll_42 lk_QM_197 y_QM_second0 v_QM_second0 rfl rfl rfl (by decide) rfl rfl rfl rfl (by decide) (by decide) (ct_QM_second0 kd fi se hk3 hkd hfi (fun q => (hse q).1)) ?_
      rintro _ _ _ ⟨rfl, rfl, rfl⟩
      refine qx_iald d_QM_joinAll_45 rfl rfl rfl rfl (by omega) hzr ?_
      refine qx_icmp_geN (t := 82) d_QM_joinAll_46 rfl (by omega) (by omega) (fun c46 => ?_) (fun c46 => ?_)
      · exact tail f hv hb kv kb wk wn _ hf hlo hkr nxt
      · refine qx_aload_n d_QM_joinAll_49 rfl rfl ?_
        refine qx_getI d_QM_joinAll_50 fI_QM_110 rfl rfl hkd ?_
        refine qx_if_leN (t := 82) d_QM_joinAll_53 rfl (by omega) (fun c53 => ?_) (fun c53 => absurd (hzk (by omega)) (by omega))
        exact tail f hv hb kv kb wk wn _ hf hlo hkr nxt
    | succ m ih =>
      intro s f hv hb kv kb wk wn hs hf hlo hkr nxt
      have k0 : kd ≠ 0 := fun e => by have := hr0 e; omega
      obtain ⟨hse1, hse3, hle, hle2, hri, hri2⟩ := hse k0
      have hzr : h.1 123 (if kd = 0 then fi else se) = nI n2r := by rw [if_neg k0]; exact hr2 k0
      have hz3 : (if kd = 0 then fi else se) < 3 := by rw [if_neg k0]; exact hse3
      have hO := jOut_le (fun f s => allT (jRow tv tn fi se f s) CE nc) (jM tv tn fi se le ri) n2r kd hn2 hr0 f
      have hI := jIn_le (fun f s => allT (jRow tv tn fi se f s) CE nc) (jM tv tn fi se le ri) f (jOut (fun f s => allT (jRow tv tn fi se f s) CE nc) (jM tv tn fi se le ri) n2r kd f) s
      have hst : (jIn (fun f s => allT (jRow tv tn fi se f s) CE nc) (jM tv tn fi se le ri) f (jOut (fun f s => allT (jRow tv tn fi se f s) CE nc) (jM tv tn fi se le ri) n2r kd f) (s + 1)) = if (jM tv tn fi se le ri) f s = true then (kIf (fun f s => allT (jRow tv tn fi se f s) CE nc) (jIn (fun f s => allT (jRow tv tn fi se f s) CE nc) (jM tv tn fi se le ri) f (jOut (fun f s => allT (jRow tv tn fi se f s) CE nc) (jM tv tn fi se le ri) n2r kd f) s).1 f (some s), (jIn (fun f s => allT (jRow tv tn fi se f s) CE nc) (jM tv tn fi se le ri) f (jOut (fun f s => allT (jRow tv tn fi se f s) CE nc) (jM tv tn fi se le ri) n2r kd f) s).2 + 1) else (jIn (fun f s => allT (jRow tv tn fi se f s) CE nc) (jM tv tn fi se le ri) f (jOut (fun f s => allT (jRow tv tn fi se f s) CE nc) (jM tv tn fi se le ri) n2r kd f) s) := rfl
      have ih2 := fun hv hb kv kb wk wn q1 q2 => ih (s + 1) f hv hb kv kb wk wn (by omega) hf q1 q2 nxt
      rw [hst] at ih2
      refine qx_iload_n d_QM_joinAll_36 rfl rfl ?_
      refine qx_aload_n d_QM_joinAll_37 rfl rfl ?_
      refine qx_getR d_QM_joinAll_38 fR_QM_7 rfl rfl (congrFun hR 0) ?_
      refine qx_aload_n d_QM_joinAll_41 rfl rfl ?_
      refine qx_callV (As := []) (rest := _) d_QM_joinAll_42 lk_QM_197 y_QM_second0 v_QM_second0 rfl rfl rfl (by decide) rfl rfl rfl rfl (by decide) (by decide) (ct_QM_second0 kd fi se hk3 hkd hfi (fun q => (hse q).1)) ?_
      rintro _ _ _ ⟨rfl, rfl, rfl⟩
      refine qx_iald d_QM_joinAll_45 rfl rfl rfl rfl (by omega) hzr ?_
      refine qx_icmp_geN (t := 82) d_QM_joinAll_46 rfl (by omega) (by omega) (fun c46 => absurd c46 (by omega)) (fun c46 => ?_)
      refine qx_aload_n d_QM_joinAll_49 rfl rfl ?_
      refine qx_getI d_QM_joinAll_50 fI_QM_110 rfl rfl hkd ?_
      refine qx_if_leN (t := 82) d_QM_joinAll_53 rfl (by omega) (fun c53 => absurd c53 k0) (fun c53 => ?_)
      refine qx_aload_n d_QM_joinAll_56 rfl rfl ?_
      refine qx_iconstN (v := 1) d_QM_joinAll_57 rfl ?_
      refine qx_iload_n d_QM_joinAll_58 rfl rfl ?_
      refine qx_callV (As := [_, _]) (rest := _) d_QM_joinAll_59 lk_QM_194 y_QM_bring v_QM_bring rfl rfl rfl (by decide) rfl rfl rfl rfl (by decide) (by decide) (ct_QM_bring_1 hR hv hb kv kb _ wk wn tv tn htv se hse3 hse1 s (by omega)) ?_
      rintro _ _ _ ⟨rfl, rfl, rfl⟩
      refine qx_aload_n d_QM_joinAll_62 rfl rfl ?_
      refine qx_callV (As := []) (rest := _) d_QM_joinAll_63 lk_QM_201 y_QM_matches v_QM_matches rfl rfl rfl (by decide) rfl rfl rfl rfl (by decide) (by decide) (ct_QM_matches hR _ _ kv kb _ wk wn le ri hle2 hri2 hle hri) ?_
      rintro _ _ _ ⟨rfl, rfl, rfl⟩
      rw [j_mat hle2 hri2 (j_some hlo)]
      refine qx_if_eqB (t := 76) d_QM_joinAll_66 rfl (fun c66 => ?_) (fun c66 => ?_)
      · refine qx_iincN (w := 1) (lv1 := [_, _, _, _]) d_QM_joinAll_76 rfl rfl (by decide) rfl ?_
        refine qx_goto (t := 36) d_QM_joinAll_79 rfl ?_
        first
          | (rw [c66] at ih2; exact ih2 _ _ _ _ _ _ (j_lo hlo) hkr1)
          | (rw [c66] at ih2; exact ih2 _ _ _ _ _ _ (j_lo hlo) hkr)
      · refine qx_iincN (w := 1) (lv1 := [_, _, _, _]) d_QM_joinAll_69 rfl rfl (by decide) rfl ?_
        refine qx_aload_n d_QM_joinAll_72 rfl rfl ?_
        refine qx_callV (As := []) (rest := _) d_QM_joinAll_73 lk_QM_204 y_QM_keep v_QM_keep rfl rfl rfl (by decide) rfl rfl rfl rfl (by decide) (by decide) (ct_QM_keep hR _ _ kv kb wk wn (jIn (fun f s => allT (jRow tv tn fi se f s) CE nc) (jM tv tn fi se le ri) f (jOut (fun f s => allT (jRow tv tn fi se f s) CE nc) (jM tv tn fi se le ri) n2r kd f) s).1 (by omega) (jV tv fi se) (jB tn fi se) f (some s) (j_some hlo) hkr nc hnc6 hnc CE hce (fun f s => allT (jRow tv tn fi se f s) CE nc) rfl) ?_
        rintro _ _ _ ⟨rfl, ⟨kv1, kb1, wk1, wn1, rfl, hkr1⟩, rfl⟩
        refine qx_iincN (w := 1) (lv1 := [_, _, _, _]) d_QM_joinAll_76 rfl rfl (by decide) rfl ?_
        refine qx_goto (t := 36) d_QM_joinAll_79 rfl ?_
        first
          | (rw [c66] at ih2; exact ih2 _ _ _ _ _ _ (j_lo hlo) hkr1)
          | (rw [c66] at ih2; exact ih2 _ _ _ _ _ _ (j_lo hlo) hkr)
  have outer : ∀ (m f : Nat) (hv : Nat → Int64) (hb : Nat → Bool) (kv : Nat → Int64) (kb : Nat → Bool) (wk : Nat → Int64) (wn : Nat → Int32), f + m = n1r → kRep (jV tv fi se) (jB tn fi se) kv kb (jOut (fun f s => allT (jRow tv tn fi se f s) CE nc) (jM tv tn fi se le ri) n2r kd f) → qX mi_QM_joinAll 6 none 0 0 7 [.ref 122, .int (nI f), qdead, qdead] [] (eR (fR h hv hb kv kb (jOut (fun f s => allT (jRow tv tn fi se f s) CE nc) (jM tv tn fi se le ri) n2r kd f).2.2) wk wn) NN 0 0 (fun v1 h1 n1 => v1 = none ∧ (∃ hv1 hb1 kv1 kb1 wk1 wn1, h1 = eR (fR h hv1 hb1 kv1 kb1 (jOut (fun f s => allT (jRow tv tn fi se f s) CE nc) (jM tv tn fi se le ri) n2r kd n1r).2.2) wk1 wn1 ∧ kRep (jV tv fi se) (jB tn fi se) kv1 kb1 (jOut (fun f s => allT (jRow tv tn fi se f s) CE nc) (jM tv tn fi se le ri) n2r kd n1r)) ∧ n1 = NN) := by
    intro m
    induction m with
    | zero =>
      intro f hv hb kv kb wk wn hf hkr
      have e : f = n1r := by omega
      subst e
      refine qx_iload_n d_QM_joinAll_7 rfl rfl ?_
      refine qx_aload_n d_QM_joinAll_8 rfl rfl ?_
      refine qx_getR d_QM_joinAll_9 fR_QM_7 rfl rfl (congrFun hR 0) ?_
      refine qx_aload_n d_QM_joinAll_12 rfl rfl ?_
      refine qx_getI d_QM_joinAll_13 fI_QM_114 rfl rfl hfi ?_
      refine qx_iald d_QM_joinAll_16 rfl rfl rfl rfl (by omega) hr1 ?_
      refine qx_icmp_geN (t := 117) d_QM_joinAll_17 rfl (by omega) (by omega) (fun c17 => ?_) (fun c17 => absurd c17 (by omega))
      exact qx_ret d_QM_joinAll_117 rfl (by omega) (by omega) ⟨rfl, ⟨hv, hb, kv, kb, wk, wn, rfl, hkr⟩, rfl⟩
    | succ m ih =>
      intro f hv hb kv kb wk wn hf hkr
      refine qx_iload_n d_QM_joinAll_7 rfl rfl ?_
      refine qx_aload_n d_QM_joinAll_8 rfl rfl ?_
      refine qx_getR d_QM_joinAll_9 fR_QM_7 rfl rfl (congrFun hR 0) ?_
      refine qx_aload_n d_QM_joinAll_12 rfl rfl ?_
      refine qx_getI d_QM_joinAll_13 fI_QM_114 rfl rfl hfi ?_
      refine qx_iald d_QM_joinAll_16 rfl rfl rfl rfl (by omega) hr1 ?_
      refine qx_icmp_geN (t := 117) d_QM_joinAll_17 rfl (by omega) (by omega) (fun c17 => absurd c17 (by omega)) (fun c17 => ?_)
      refine qx_aload_n d_QM_joinAll_20 rfl rfl ?_
      refine qx_iconstN (v := 0) d_QM_joinAll_21 rfl ?_
      refine qx_iload_n d_QM_joinAll_22 rfl rfl ?_
      refine qx_callV (As := [_, _]) (rest := _) d_QM_joinAll_23 lk_QM_194 y_QM_bring v_QM_bring rfl rfl rfl (by decide) rfl rfl rfl rfl (by decide) (by decide) (ct_QM_bring_0 hR hv hb kv kb _ wk wn tv tn htv fi hfi3 hfi f (by omega)) ?_
      rintro _ _ _ ⟨rfl, rfl, rfl⟩
      refine qx_aload_n d_QM_joinAll_26 rfl rfl ?_
      refine qx_iconstN (v := 1) d_QM_joinAll_27 rfl ?_
      refine qx_iconst (v := (-1)) d_QM_joinAll_28 rfl ?_
      refine qx_callV (As := [_, _]) (rest := _) d_QM_joinAll_29 lk_QM_194 y_QM_bring v_QM_bring rfl rfl rfl (by decide) rfl rfl rfl rfl (by decide) (by decide) (ct_QM_bring_none hR _ _ _ _ _ _ _ _ rfl) ?_
      rintro _ _ _ ⟨rfl, rfl, rfl⟩
      refine qx_iconstN (v := 0) d_QM_joinAll_32 rfl ?_
      refine qx_istore_n (lv1 := [_, _, _, _]) d_QM_joinAll_33 rfl (by decide) rfl ?_
      refine qx_iconstN (v := 0) d_QM_joinAll_34 rfl ?_
      refine qx_istore_n (lv1 := [_, _, _, _]) d_QM_joinAll_35 rfl (by decide) rfl ?_
      exact inner n2r 0 f _ _ kv kb wk wn (by omega) (by omega) (j_lo j_first) hkr (fun hv hb kv kb wk wn q => ih (f + 1) hv hb kv kb wk wn (by omega) q)
  refine qx_aload_n d_QM_joinAll_0 rfl rfl ?_
  refine qx_iconstN (v := 0) d_QM_joinAll_1 rfl ?_
  refine qx_putI d_QM_joinAll_2 fI_QM_191 rfl rfl ⟨rfl, rfl⟩ ?_
  refine qx_iconstN (v := 0) d_QM_joinAll_5 rfl ?_
  refine qx_istore_n (lv1 := [_, _, _, _]) d_QM_joinAll_6 rfl (by decide) rfl ?_
  refine qx_eq rfl rfl rfl ?_ (outer n1r 0 hv hb kv kb wk wn (by omega) (fun k hk => absurd hk (Nat.not_lt_zero _)))
  rw [eR_I (by decide), fR_kp]
  rfl
