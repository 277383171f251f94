/-! the class's job over a heap: attempts and times of the tasks, the waiting messages -/
def qRJo : Nat → Option Nat := fun f => (([none, none, some 84, none, none, none, none, some 85, some 89] : List (Option Nat))[f]?).getD none
def tRow (f : Nat → Int32) (x : Nat) (y : Int32) (i : Nat) : Int32 := if i = 3 then nI x else if i = 4 then y else f i
def tO (h : qH) (A : Nat → Nat) (S : Nat → Int32) : qH := (fun a => if 90 ≤ a ∧ a < 106 then tRow (h.1 a) (A (a - 90)) (S (a - 90)) else h.1 a, h.2.1, h.2.2)
theorem tO_r {h : qH} {A : Nat → Nat} {S : Nat → Int32} {t : Nat} (ht : t < 16) : (tO h A S).1 (90 + t) = tRow (h.1 (90 + t)) (A t) (S t) := by
  show (if 90 ≤ 90 + t ∧ 90 + t < 106 then tRow (h.1 (90 + t)) (A (90 + t - 90)) (S (90 + t - 90)) else h.1 (90 + t)) = _
  rw [if_pos (by omega), show 90 + t - 90 = t by omega]
theorem tO_n {h : qH} {A : Nat → Nat} {S : Nat → Int32} {a : Nat} (ha : a < 90 ∨ 106 ≤ a) : (tO h A S).1 a = h.1 a := if_neg (by omega)
theorem tO_of {h : qH} {A : Nat → Nat} {S : Nat → Int32} (h0 : ∀ t, t < 16 → h.1 (90 + t) 3 = nI (A t) ∧ h.1 (90 + t) 4 = S t) : tO h A S = h := by
  refine Prod.ext ?_ rfl
  funext a
  by_cases r : 90 ≤ a ∧ a < 106
  · obtain ⟨u, rfl, hu⟩ : ∃ u, a = 90 + u ∧ u < 16 := ⟨a - 90, by omega, by omega⟩
    rw [tO_r hu]
    funext i
    unfold tRow
    split
    · next e => rw [e, (h0 u hu).1]
    · split
      · next e => rw [e, (h0 u hu).2]
      · rfl
  · exact tO_n (by omega)
theorem tO_at {h : qH} {A : Nat → Nat} {S : Nat → Int32} {t : Nat} {v : Nat} (ht : t < 16) : qpI (tO h A S) (90 + t) 3 (nI v) = tO h (va_up A t v) S := by
  refine Prod.ext ?_ rfl
  funext a
  show va_up (tO h A S).1 (90 + t) (va_up ((tO h A S).1 (90 + t)) 3 (nI v)) a = (tO h (va_up A t v) S).1 a
  by_cases e : a = 90 + t
  · subst e
    rw [qus, tO_r ht, tO_r ht, qus]
    funext i
    unfold tRow
    by_cases e3 : i = 3
    · subst e3; rw [qus]; rfl
    · rw [qun e3]
      simp [e3]
  · rw [qun e]
    by_cases r : 90 ≤ a ∧ a < 106
    · obtain ⟨u, rfl, hu⟩ : ∃ u, a = 90 + u ∧ u < 16 := ⟨a - 90, by omega, by omega⟩
      rw [tO_r hu, tO_r hu, qun (show u ≠ t by omega)]
    · rw [tO_n (by omega), tO_n (by omega)]
theorem tO_sa {h : qH} {A : Nat → Nat} {S : Nat → Int32} {t : Nat} {v : Int32} (ht : t < 16) : qpI (tO h A S) (90 + t) 4 v = tO h A (va_up S t v) := by
  refine Prod.ext ?_ rfl
  funext a
  show va_up (tO h A S).1 (90 + t) (va_up ((tO h A S).1 (90 + t)) 4 v) a = (tO h A (va_up S t v)).1 a
  by_cases e : a = 90 + t
  · subst e
    rw [qus, tO_r ht, tO_r ht, qus]
    funext i
    unfold tRow
    by_cases e3 : i = 4
    · subst e3; rw [qus]; rfl
    · rw [qun e3]
      simp [e3]
  · rw [qun e]
    by_cases r : 90 ≤ a ∧ a < 106
    · obtain ⟨u, rfl, hu⟩ : ∃ u, a = 90 + u ∧ u < 16 := ⟨a - 90, by omega, by omega⟩
      rw [tO_r hu, tO_r hu, qun (show u ≠ t by omega)]
    · rw [tO_n (by omega), tO_n (by omega)]
theorem tO_o {h : qH} {A : Nat → Nat} {S : Nat → Int32} {t i : Nat} {v : Int32} (ht : t < 16) (h3 : i ≠ 3) (h4 : i ≠ 4) : qpI (tO h A S) (90 + t) i v = tO (qpI h (90 + t) i v) A S := by
  refine Prod.ext ?_ rfl
  funext a
  show va_up (tO h A S).1 (90 + t) (va_up ((tO h A S).1 (90 + t)) i v) a = (tO (qpI h (90 + t) i v) A S).1 a
  by_cases e : a = 90 + t
  · subst e
    rw [qus, tO_r ht, tO_r ht, qpI_1]
    funext j
    unfold tRow
    by_cases e3 : j = i
    · subst e3; rw [qus, qus, if_neg h3, if_neg h4]
    · rw [qun e3, qun e3]
  · rw [qun e]
    by_cases r : 90 ≤ a ∧ a < 106
    · obtain ⟨u, rfl, hu⟩ : ∃ u, a = 90 + u ∧ u < 16 := ⟨a - 90, by omega, by omega⟩
      rw [tO_r hu, tO_r hu, (qpI_o h (90 + t) i v (90 + u) e).1]
    · rw [tO_n (by omega), tO_n (by omega), (qpI_o h (90 + t) i v a e).1]
theorem tO_x {h : qH} {A : Nat → Nat} {S : Nat → Int32} {b i : Nat} {v : Int32} (hb : b < 90 ∨ 106 ≤ b) : qpI (tO h A S) b i v = tO (qpI h b i v) A S := by
  refine Prod.ext ?_ rfl
  funext a
  show va_up (tO h A S).1 b (va_up ((tO h A S).1 b) i v) a = (tO (qpI h b i v) A S).1 a
  by_cases e : a = b
  · subst e
    rw [qus, tO_n hb, tO_n hb, qpI_1]
  · rw [qun e]
    by_cases r : 90 ≤ a ∧ a < 106
    · obtain ⟨u, rfl, hu⟩ : ∃ u, a = 90 + u ∧ u < 16 := ⟨a - 90, by omega, by omega⟩
      rw [tO_r hu, tO_r hu, (qpI_o h b i v (90 + u) e).1]
    · rw [tO_n (by omega), tO_n (by omega), (qpI_o h b i v a e).1]
theorem wR_x {h : qH} {mk mt ma : Nat → Nat} {n a : Nat} (h1 : a ≠ 86) (h2 : a ≠ 87) (h3 : a ≠ 88) (h4 : a ≠ 85) : (wR h mk mt ma n).1 a = h.1 a := by
  show (if a = 86 then iN mk else if a = 87 then iN mt else if a = 88 then iN ma else if a = 85 then va_up (h.1 85) 3 (nI n) else h.1 a) = _
  rw [if_neg h1, if_neg h2, if_neg h3, if_neg h4]
theorem wR_ov {h : qH} {mk mt ma : Nat → Nat} {n a i : Nat} {v : Int32} (h1 : a ≠ 86) (h2 : a ≠ 87) (h3 : a ≠ 88) (h4 : a ≠ 85) : qpI (wR h mk mt ma n) a i v = wR (qpI h a i v) mk mt ma n := by
  refine Prod.ext ?_ rfl
  funext b
  show va_up (wR h mk mt ma n).1 a (va_up ((wR h mk mt ma n).1 a) i v) b = (wR (qpI h a i v) mk mt ma n).1 b
  by_cases e : b = a
  · subst e
    rw [qus, wR_x h1 h2 h3 h4, wR_x h1 h2 h3 h4, qpI_1]
  · rw [qun e]
    show (if b = 86 then iN mk else if b = 87 then iN mt else if b = 88 then iN ma else if b = 85 then va_up (h.1 85) 3 (nI n) else h.1 b) = (if b = 86 then iN mk else if b = 87 then iN mt else if b = 88 then iN ma else if b = 85 then va_up ((qpI h a i v).1 85) 3 (nI n) else (qpI h a i v).1 b)
    rw [(qpI_o h a i v 85 (fun q => h4 q.symm)).1, (qpI_o h a i v b e).1]
def cJ (h : qH) (s : sJ) : qH := wR (tO h (sAt s) (sSa s)) (sMk s) (sMt s) (sMa s) (sW s)
theorem cJ_t {h : qH} {s : sJ} {t : Nat} (ht : t < 16) : (cJ h s).1 (90 + t) = tRow (h.1 (90 + t)) (sAt s t) (sSa s t) := (wR_x (by omega) (by omega) (by omega) (by omega)).trans (tO_r ht)
theorem cJ_n {h : qH} {s : sJ} {a : Nat} (ha : a < 85 ∨ a = 89 ∨ 106 ≤ a) : (cJ h s).1 a = h.1 a := (wR_x (by omega) (by omega) (by omega) (by omega)).trans (tO_n (by omega))
theorem cJ_at {h : qH} {s : sJ} {t v : Nat} (ht : t < 16) : qpI (cJ h s) (90 + t) 3 (nI v) = cJ h (va_up (sAt s) t v, sSa s, sMk s, sMt s, sMa s, sW s) := (wR_ov (by omega) (by omega) (by omega) (by omega)).trans (by rw [tO_at ht]; rfl)
theorem cJ_sa {h : qH} {s : sJ} {t : Nat} {v : Int32} (ht : t < 16) : qpI (cJ h s) (90 + t) 4 v = cJ h (sAt s, va_up (sSa s) t v, sMk s, sMt s, sMa s, sW s) := (wR_ov (by omega) (by omega) (by omega) (by omega)).trans (by rw [tO_sa ht]; rfl)
theorem cJ_o {h : qH} {s : sJ} {t i : Nat} {v : Int32} (ht : t < 16) (h3 : i ≠ 3) (h4 : i ≠ 4) : qpI (cJ h s) (90 + t) i v = cJ (qpI h (90 + t) i v) s := (wR_ov (by omega) (by omega) (by omega) (by omega)).trans (by rw [tO_o ht h3 h4]; rfl)
theorem cJ_x {h : qH} {s : sJ} {b i : Nat} {v : Int32} (hb : b < 85 ∨ b = 89 ∨ 106 ≤ b) : qpI (cJ h s) b i v = cJ (qpI h b i v) s := (wR_ov (by omega) (by omega) (by omega) (by omega)).trans (by rw [tO_x (by omega)]; rfl)
theorem cJ_w {h : qH} {s : sJ} {v : Nat} : qpI (cJ h s) 85 3 (nI v) = cJ h (sAt s, sSa s, sMk s, sMt s, sMa s, v) := wR_n
theorem cJ_of {h : qH} {s : sJ} (h0 : ∀ t, t < 16 → h.1 (90 + t) 3 = nI (sAt s t) ∧ h.1 (90 + t) 4 = sSa s t) (h1 : h.1 86 = iN (sMk s)) (h2 : h.1 87 = iN (sMt s)) (h3 : h.1 88 = iN (sMa s)) (h4 : h.1 85 3 = nI (sW s)) : cJ h s = h := by
  unfold cJ
  rw [tO_of h0]
  exact wR_of h1 h2 h3 h4
def jobOk (h : qH) : Prop := h.2.2 83 = qRJo ∧ (∀ t, t < 16 → h.2.2 84 t = some (90 + t)) ∧ h.2.2 85 = qRLi 85 ∧ (∀ w, w < 4 → h.2.2 89 w = some (106 + 4 * w)) ∧ (∀ w, w < 4 → h.2.2 (106 + 4 * w) = qRLi (106 + 4 * w))
theorem adn_mono {kd : Nat → Nat} {dn : Nat → Bool} {b i : Nat} (h : adn kd dn b i = false) : ∀ m, adn kd dn b (i + m) = false
  | 0 => h
  | m + 1 => by show (adn kd dn b (i + m) && _) = false; rw [adn_mono h m]; rfl
set_option maxRecDepth 100000 in
set_option maxHeartbeats 4000000 in
theorem ct_Jo_isReady {h : qH} (hJ : jobOk h) (nt : Nat) (hnt16 : nt ≤ 16) (hnt : h.1 83 3 = nI nt) (kd : Nat → Nat) (hkd4 : ∀ t, t < nt → kd t < 4) (hkd : ∀ t, t < nt → h.1 (90 + t) 0 = nI (kd t)) (dn : Nat → Bool) (hdn : ∀ t, t < nt → h.1 (90 + t) 5 = b2i (dn t)) (b : Nat) (hb : b < 4) : qT mi_Jo_isReady 0 0 0 [.ref 83, .int (nI b)] h NN (fun v1 h1 n1 => v1 = some (.int (b2i (decide (b < 2) || adn kd dn b nt))) ∧ h = h1 ∧ n1 = NN) := by
  refine qT.of (lv0 := [_, _, _]) (by decide +kernel) (fun _ _ => Nat.le_of_ble_eq_true rfl) rfl ?_
  have key : ∀ (m i : Nat), i + m = nt → adn kd dn b i = true → 2 ≤ b → qX mi_Jo_isReady 0 none 0 0 13 [.ref 83, .int (nI b), .int (nI i)] [] h NN 0 0 (fun v1 h1 n1 => v1 = some (.int (b2i (decide (b < 2) || adn kd dn b nt))) ∧ h = h1 ∧ n1 = NN) := by
    intro m
    induction m with
    | zero =>
      intro i hi ha h2
      refine qx_iload_n d_Jo_isReady_13 rfl rfl ?_
      refine qx_aload_n d_Jo_isReady_14 rfl rfl ?_
      refine qx_getI d_Jo_isReady_15 fI_Jo_39 rfl rfl hnt ?_
      refine qx_icmp_geN (t := 54) d_Jo_isReady_18 rfl (by omega) (by omega) (fun c18 => ?_) (fun c18 => absurd c18 (by omega))
      refine qx_iconst (v := b2i true) d_Jo_isReady_54 rfl ?_
      exact qx_iret d_Jo_isReady_55 rfl (b2i_nar _) (by omega) (by omega) ⟨by rw [show nt = i by omega, ha, Bool.or_true], rfl, rfl⟩
    | succ m ih =>
      intro i hi ha h2
      have ht : i < 16 := by omega
      have hs : adn kd dn b (i + 1) = (adn kd dn b i && (decide (b ≤ kd i) || dn i)) := rfl
      refine qx_iload_n d_Jo_isReady_13 rfl rfl ?_
      refine qx_aload_n d_Jo_isReady_14 rfl rfl ?_
      refine qx_getI d_Jo_isReady_15 fI_Jo_39 rfl rfl hnt ?_
      refine qx_icmp_geN (t := 54) d_Jo_isReady_18 rfl (by omega) (by omega) (fun c18 => absurd c18 (by omega)) (fun c18 => ?_)
      refine qx_aload_n d_Jo_isReady_21 rfl rfl ?_
      refine qx_getR d_Jo_isReady_22 fR_Jo_11 rfl rfl (congrFun hJ.1 2) ?_
      refine qx_iload_n d_Jo_isReady_25 rfl rfl ?_
      refine qx_aald (j := i) (t := 2)  d_Jo_isReady_26 rfl (fun _ => rfl) rfl rfl rfl (by omega) (hJ.2.1 i ht) ?_
      refine qx_getI d_Jo_isReady_27 fI_Jo_61 (ta_pl ht).1 (ta_pl ht).2 (hkd i (by omega)) ?_
      refine qx_iload_n d_Jo_isReady_30 rfl rfl ?_
      refine qx_icmp_geN (t := 48) d_Jo_isReady_31 rfl (by have := hkd4 i (by omega); omega) (by omega) (fun c31 => ?_) (fun c31 => ?_)
      · refine qx_iincN (w := 1) (lv1 := [_, _, _]) d_Jo_isReady_48 rfl rfl (by decide) rfl ?_
        refine qx_goto (t := 13) d_Jo_isReady_51 rfl ?_
        refine ih (i + 1) (by omega) ?_ h2
        rw [hs, ha]
        first
          | (have z := c43; rw [z]; simp)
          | (rw [decide_eq_true c31]; rfl)
      · refine qx_aload_n d_Jo_isReady_34 rfl rfl ?_
        refine qx_getR d_Jo_isReady_35 fR_Jo_11 rfl rfl (congrFun hJ.1 2) ?_
        refine qx_iload_n d_Jo_isReady_38 rfl rfl ?_
        refine qx_aald (j := i) (t := 2)  d_Jo_isReady_39 rfl (fun _ => rfl) rfl rfl rfl (by omega) (hJ.2.1 i ht) ?_
        refine qx_getI d_Jo_isReady_40 fI_Jo_71 (ta_pl ht).1 (ta_pl ht).2 (hdn i (by omega)) ?_
        refine qx_if_neB (t := 48) d_Jo_isReady_43 rfl (fun c43 => ?_) (fun c43 => ?_)
        · refine qx_iincN (w := 1) (lv1 := [_, _, _]) d_Jo_isReady_48 rfl rfl (by decide) rfl ?_
          refine qx_goto (t := 13) d_Jo_isReady_51 rfl ?_
          refine ih (i + 1) (by omega) ?_ h2
          rw [hs, ha]
          first
            | (have z := c43; rw [z]; simp)
            | (rw [decide_eq_true c31]; rfl)
        · refine qx_iconst (v := b2i false) d_Jo_isReady_46 rfl ?_
          exact qx_iret d_Jo_isReady_47 rfl (b2i_nar _) (by omega) (by omega) (by
        have e0 : adn kd dn b (i + 1) = false := by rw [hs, ha, c43, decide_eq_false (by omega)]; rfl
        have e1 := adn_mono e0 m
        rw [show i + 1 + m = nt by omega] at e1
        rw [e1, decide_eq_false (by omega)]
        exact ⟨rfl, rfl, rfl⟩)
  refine qx_iload_n d_Jo_isReady_0 rfl rfl ?_
  refine qx_if_eqN (t := 9) d_Jo_isReady_1 rfl (by omega) (fun c1 => ?_) (fun c1 => ?_)
  · refine qx_iconst (v := b2i true) d_Jo_isReady_9 rfl ?_
    exact qx_iret d_Jo_isReady_10 rfl (b2i_nar _) (by omega) (by omega) ⟨by rw [decide_eq_true (by omega)]; rfl, rfl, rfl⟩
  · refine qx_iload_n d_Jo_isReady_4 rfl rfl ?_
    refine qx_iconstN (v := 1) d_Jo_isReady_5 rfl ?_
    refine qx_icmp_neN (t := 11) d_Jo_isReady_6 rfl (by omega) (by omega) (fun c6 => ?_) (fun c6 => ?_)
    · refine qx_iconstN (v := 0) d_Jo_isReady_11 rfl ?_
      refine qx_istore_n (lv1 := [_, _, _]) d_Jo_isReady_12 rfl (by decide) rfl ?_
      exact key nt 0 (by omega) rfl (by omega)
    · refine qx_iconst (v := b2i true) d_Jo_isReady_9 rfl ?_
      exact qx_iret d_Jo_isReady_10 rfl (b2i_nar _) (by omega) (by omega) ⟨by rw [decide_eq_true (by omega)]; rfl, rfl, rfl⟩
set_option maxRecDepth 100000 in
set_option maxHeartbeats 4000000 in
theorem ct_Jo_sendRun {h : qH} (hJ : jobOk h) (s : sJ) (tm : Int32) (htm : h.1 83 6 = tm) (t : Nat) (ht : t < 16) (hw : sW s < 68) : qT mi_Jo_sendRun 1 0 0 [.ref 83, .int (nI t)] (cJ h s) NN (fun v1 h1 n1 => v1 = none ∧ h1 = cJ h (sRun tm s t) ∧ n1 = NN) := by
  refine qT.of (lv0 := [_, _]) (by decide +kernel) (fun _ _ => Nat.le_of_ble_eq_true rfl) rfl ?_
  refine qx_aload_n d_Jo_sendRun_0 rfl rfl ?_
  refine qx_getR d_Jo_sendRun_1 fR_Jo_22 rfl rfl (congrFun hJ.1 7) ?_
  refine qx_iconstN (v := 0) d_Jo_sendRun_4 rfl ?_
  refine qx_iload_n d_Jo_sendRun_5 rfl rfl ?_
  refine qx_aload_n d_Jo_sendRun_6 rfl rfl ?_
  refine qx_getR d_Jo_sendRun_7 fR_Jo_11 rfl rfl (congrFun hJ.1 2) ?_
  refine qx_iload_n d_Jo_sendRun_10 rfl rfl ?_
  refine qx_aald (j := t) (t := 2)  d_Jo_sendRun_11 rfl (fun _ => rfl) rfl rfl rfl ht (hJ.2.1 t ht) ?_
  refine qx_getI d_Jo_sendRun_12 fI_Jo_58 (ta_pl ht).1 (ta_pl ht).2 (show _ = nI (sAt s t) from congrFun (cJ_t ht) 3) ?_
  refine qx_callV (As := [_, _, _]) (rest := _) d_Jo_sendRun_15 lk_Jo_74 y_Li_add v_Li_add rfl rfl rfl (by decide) rfl rfl rfl rfl (by decide) (by decide) (ct_Li_add (h := tO h (sAt s) (sSa s)) hJ.2.2.1 (sMk s) (sMt s) (sMa s) (sW s) hw 0 t (sAt s t)) ?_
  rintro _ _ _ ⟨rfl, rfl, rfl⟩
  refine qx_eq (h1 := cJ h (sSend s 0 t (sAt s t))) rfl rfl rfl rfl ?_
  refine qx_pop d_Jo_sendRun_18 rfl ?_
  refine qx_aload_n d_Jo_sendRun_19 rfl rfl ?_
  refine qx_getR d_Jo_sendRun_20 fR_Jo_11 rfl rfl (congrFun hJ.1 2) ?_
  refine qx_iload_n d_Jo_sendRun_23 rfl rfl ?_
  refine qx_aald (j := t) (t := 2)  d_Jo_sendRun_24 rfl (fun _ => rfl) rfl rfl rfl ht (hJ.2.1 t ht) ?_
  refine qx_dup d_Jo_sendRun_25 rfl ?_
  refine qx_getI d_Jo_sendRun_26 fI_Jo_58 (ta_pl ht).1 (ta_pl ht).2 (show _ = nI (sAt s t) from congrFun (cJ_t (s := sSend s 0 t (sAt s t)) ht) 3) ?_
  refine qx_iconstN (v := 1) d_Jo_sendRun_29 rfl ?_
  refine qx_iaddN d_Jo_sendRun_30 ?_
  refine qx_putI d_Jo_sendRun_31 fI_Jo_58 (ta_pl ht).1 (ta_pl ht).2 ⟨rfl, rfl⟩ ?_
  refine qx_eq (h1 := cJ h (va_up (sAt s) t (sAt s t + 1), (sSend s 0 t (sAt s t)).2)) rfl rfl rfl (cJ_at (s := sSend s 0 t (sAt s t)) ht).symm ?_
  refine qx_aload_n d_Jo_sendRun_34 rfl rfl ?_
  refine qx_getR d_Jo_sendRun_35 fR_Jo_11 rfl rfl (congrFun hJ.1 2) ?_
  refine qx_iload_n d_Jo_sendRun_38 rfl rfl ?_
  refine qx_aald (j := t) (t := 2)  d_Jo_sendRun_39 rfl (fun _ => rfl) rfl rfl rfl ht (hJ.2.1 t ht) ?_
  refine qx_aload_n d_Jo_sendRun_40 rfl rfl ?_
  refine qx_getI d_Jo_sendRun_41 fI_Jo_78 rfl rfl htm ?_
  refine qx_putI d_Jo_sendRun_44 fI_Jo_81 (ta_pl ht).1 (ta_pl ht).2 ⟨rfl, rfl⟩ ?_
  exact qx_ret d_Jo_sendRun_47 rfl (by omega) (by omega) ⟨rfl, cJ_sa (s := (va_up (sAt s) t (sAt s t + 1), (sSend s 0 t (sAt s t)).2)) ht, rfl⟩
