/-! THE JOB, pure: attempts of each task, when it was last sent; the waiting messages: kind, task, attempt, how many -/
def iN (f : Nat → Nat) : Nat → Int32 := fun i => nI (f i)
theorem iN_up {f : Nat → Nat} {k v : Nat} : va_up (iN f) k (nI v) = iN (va_up f k v) := by
  funext j
  unfold iN
  by_cases h : j = k
  · subst h; rw [qus, qus]
  · rw [qun h, qun h]
abbrev sJ : Type := (Nat → Nat) × (Nat → Int32) × (Nat → Nat) × (Nat → Nat) × (Nat → Nat) × Nat
abbrev sAt (s : sJ) : Nat → Nat := s.1
abbrev sSa (s : sJ) : Nat → Int32 := s.2.1
abbrev sMk (s : sJ) : Nat → Nat := s.2.2.1
abbrev sMt (s : sJ) : Nat → Nat := s.2.2.2.1
abbrev sMa (s : sJ) : Nat → Nat := s.2.2.2.2.1
abbrev sW (s : sJ) : Nat := s.2.2.2.2.2
def sSend (s : sJ) (k t a : Nat) : sJ := (sAt s, sSa s, va_up (sMk s) (sW s) k, va_up (sMt s) (sW s) t, va_up (sMa s) (sW s) a, sW s + 1)
def sRun (tm : Int32) (s : sJ) (t : Nat) : sJ := (va_up (sAt s) t (sAt s t + 1), va_up (sSa s) t tm, va_up (sMk s) (sW s) 0, va_up (sMt s) (sW s) t, va_up (sMa s) (sW s) (sAt s t), sW s + 1)
def sCut (f : Nat → Nat) (k i : Nat) : Nat → Nat := fun j => if k ≤ j ∧ j < i then f (j + 1) else f j
def sStrike (s : sJ) (k : Nat) : sJ := (sAt s, sSa s, sCut (sMk s) k (sW s - 1), sCut (sMt s) k (sW s - 1), sCut (sMa s) k (sW s - 1), sW s - 1)
/-- are all tasks of kinds below b done, among the first so many? -/
def adn (kd : Nat → Nat) (dn : Nat → Bool) (b : Nat) : Nat → Bool
  | 0 => true
  | t + 1 => adn kd dn b t && (decide (b ≤ kd t) || dn t)
def sReady (kd : Nat → Nat) (dn : Nat → Bool) (nt : Nat) (tm : Int32) (s : sJ) : Nat → sJ
  | 0 => s
  | t + 1 => if ((decide (kd t < 2) || adn kd dn (kd t) nt) && decide (sAt (sReady kd dn nt tm s t) t = 0)) = true then sRun tm (sReady kd dn nt tm s t) t else sReady kd dn nt tm s t
theorem sReady_w (kd : Nat → Nat) (dn : Nat → Bool) (nt : Nat) (tm : Int32) (s : sJ) : ∀ t, sW (sReady kd dn nt tm s t) ≤ sW s + t
  | 0 => Nat.le_refl _
  | t + 1 => by
    have := sReady_w kd dn nt tm s t
    unfold sReady
    split
    · show sW (sReady kd dn nt tm s t) + 1 ≤ _
      omega
    · omega
theorem sReady_at (kd : Nat → Nat) (dn : Nat → Bool) (nt : Nat) (tm : Int32) (s : sJ) : ∀ t j, t ≤ j → sAt (sReady kd dn nt tm s t) j = sAt s j
  | 0, j, _ => rfl
  | t + 1, j, h => by
    have := sReady_at kd dn nt tm s t j (by omega)
    unfold sReady
    split
    · show va_up _ t _ j = _
      rw [qun (by omega)]
      exact this
    · exact this
/-- the reference's cells over a heap -/
def jR (h : qH) (s : sJ) : qH := (fun a => if a = 142 then iN (sAt s) else if a = 143 then sSa s else if a = 146 then iN (sMk s) else if a = 147 then iN (sMt s) else if a = 148 then iN (sMa s) else if a = 122 then va_up (h.1 122) 49 (nI (sW s)) else h.1 a, h.2.1, h.2.2)
theorem jR_of {h : qH} {s : sJ} (h1 : h.1 142 = iN (sAt s)) (h2 : h.1 143 = sSa s) (h3 : h.1 146 = iN (sMk s)) (h4 : h.1 147 = iN (sMt s)) (h5 : h.1 148 = iN (sMa s)) (h6 : h.1 122 49 = nI (sW s)) : jR h s = h := by
  obtain ⟨x, y, z⟩ := h
  unfold jR
  dsimp only at *
  refine Prod.ext ?_ rfl
  funext a
  dsimp only
  split
  · next e => rw [e, h1]
  · split
    · next e => rw [e, h2]
    · split
      · next e => rw [e, h3]
      · split
        · next e => rw [e, h4]
        · split
          · next e => rw [e, h5]
          · split
            · next e => rw [e, ← h6]; exact qv_self
            · rfl
theorem jR_at {h : qH} {s : sJ} {t v : Nat}  : qpI (jR h s) 142 t (nI v) = jR h (va_up (sAt s) t v, sSa s, sMk s, sMt s, sMa s, sW s) := by
  unfold jR qpI
  dsimp only
  refine Prod.ext ?_ rfl
  funext a
  dsimp only
  by_cases ha : a = 142
  · subst ha
    simp only [qus]
    exact iN_up
  · rw [qun ha]
    simp only [ha, if_false]
theorem jR_sa {h : qH} {s : sJ} {t : Nat} {v : Int32} : qpI (jR h s) 143 t v = jR h (sAt s, va_up (sSa s) t v, sMk s, sMt s, sMa s, sW s) := by
  unfold jR qpI
  dsimp only
  refine Prod.ext ?_ rfl
  funext a
  dsimp only
  by_cases ha : a = 143
  · subst ha
    simp only [qus]
    rfl
  · rw [qun ha]
    simp only [ha, if_false]
theorem jR_mk {h : qH} {s : sJ} {t v : Nat}  : qpI (jR h s) 146 t (nI v) = jR h (sAt s, sSa s, va_up (sMk s) t v, sMt s, sMa s, sW s) := by
  unfold jR qpI
  dsimp only
  refine Prod.ext ?_ rfl
  funext a
  dsimp only
  by_cases ha : a = 146
  · subst ha
    simp only [qus]
    exact iN_up
  · rw [qun ha]
    simp only [ha, if_false]
theorem jR_mt {h : qH} {s : sJ} {t v : Nat}  : qpI (jR h s) 147 t (nI v) = jR h (sAt s, sSa s, sMk s, va_up (sMt s) t v, sMa s, sW s) := by
  unfold jR qpI
  dsimp only
  refine Prod.ext ?_ rfl
  funext a
  dsimp only
  by_cases ha : a = 147
  · subst ha
    simp only [qus]
    exact iN_up
  · rw [qun ha]
    simp only [ha, if_false]
theorem jR_ma {h : qH} {s : sJ} {t v : Nat}  : qpI (jR h s) 148 t (nI v) = jR h (sAt s, sSa s, sMk s, sMt s, va_up (sMa s) t v, sW s) := by
  unfold jR qpI
  dsimp only
  refine Prod.ext ?_ rfl
  funext a
  dsimp only
  by_cases ha : a = 148
  · subst ha
    simp only [qus]
    exact iN_up
  · rw [qun ha]
    simp only [ha, if_false]
theorem jR_w {h : qH} {s : sJ} {v : Nat}  : qpI (jR h s) 122 49 (nI v) = jR h (sAt s, sSa s, sMk s, sMt s, sMa s, v) := by
  unfold jR qpI
  dsimp only
  refine Prod.ext ?_ rfl
  funext a
  dsimp only
  by_cases ha : a = 122
  · subst ha
    simp only [qus]
    exact qv_up
  · rw [qun ha]
    simp only [ha, if_false]
set_option maxRecDepth 100000 in
set_option maxHeartbeats 4000000 in
theorem ct_QM_allDone {h : qH} (hR : h.2.2 122 = qRQM) (nt : Nat) (hnt16 : nt ≤ 16) (hnt : h.1 122 40 = nI nt) (kd : Nat → Nat) (hkd4 : ∀ t, t < nt → kd t < 4) (hkd : ∀ t, t < nt → h.1 140 t = nI (kd t)) (dn : Nat → Bool) (hdn : ∀ t, t < nt → h.1 144 t = b2i (dn t)) (b : Nat) (hb : b ≤ 4) : qT mi_QM_allDone 0 0 0 [.ref 122, .int (nI b)] h NN (fun v1 h1 n1 => v1 = some (.int (b2i (adn kd dn b nt))) ∧ h = h1 ∧ n1 = NN) := by
  refine qT.of (lv0 := [_, _, _, _]) (by decide +kernel) (fun _ _ => Nat.le_of_ble_eq_true rfl) rfl ?_
  have key : ∀ (m i : Nat), i + m = nt → qX mi_QM_allDone 0 none 0 0 4 [.ref 122, .int (nI b), .int (b2i (adn kd dn b i)), .int (nI i)] [] h NN 0 0 (fun v1 h1 n1 => v1 = some (.int (b2i (adn kd dn b nt))) ∧ h = h1 ∧ n1 = NN) := by
    intro m
    induction m with
    | zero =>
      intro i hi
      refine qx_iload_n d_QM_allDone_4 rfl rfl ?_
      refine qx_aload_n d_QM_allDone_5 rfl rfl ?_
      refine qx_getI d_QM_allDone_6 fI_QM_258 rfl rfl hnt ?_
      refine qx_icmp_geN (t := 47) d_QM_allDone_9 rfl (by omega) (by omega) (fun c9 => ?_) (fun c9 => absurd c9 (by omega))
      refine qx_iload_n d_QM_allDone_47 rfl rfl ?_
      exact qx_iret d_QM_allDone_48 rfl (b2i_nar _) (by omega) (by omega) ⟨by rw [show i = nt by omega], rfl, rfl⟩
    | succ m ih =>
      intro i hi
      have hs : adn kd dn b (i + 1) = (adn kd dn b i && (decide (b ≤ kd i) || dn i)) := rfl
      refine qx_iload_n d_QM_allDone_4 rfl rfl ?_
      refine qx_aload_n d_QM_allDone_5 rfl rfl ?_
      refine qx_getI d_QM_allDone_6 fI_QM_258 rfl rfl hnt ?_
      refine qx_icmp_geN (t := 47) d_QM_allDone_9 rfl (by omega) (by omega) (fun c9 => absurd c9 (by omega)) (fun c9 => ?_)
      refine qx_iload_n d_QM_allDone_12 rfl rfl ?_
      refine qx_if_eqB (t := 39) d_QM_allDone_13 rfl (fun c13 => ?_) (fun c13 => ?_)
      · refine qx_iconst (v := b2i false) d_QM_allDone_39 rfl ?_
        refine qx_istore_n (lv1 := [_, _, _, _]) d_QM_allDone_40 rfl (by decide) rfl ?_
        refine qx_iincN (w := 1) (lv1 := [_, _, _, _]) d_QM_allDone_41 rfl rfl (by decide) rfl ?_
        refine qx_goto (t := 4) d_QM_allDone_44 rfl ?_
        have k2 := ih (i + 1) (by omega)
        rw [hs] at k2
        first
          | (rw [c13] at k2; exact k2)
          | (rw [c13, decide_eq_true c23] at k2; exact k2)
          | (rw [c13, c32, decide_eq_false (Nat.not_le.mpr c23)] at k2; exact k2)
      · refine qx_aload_n d_QM_allDone_16 rfl rfl ?_
        refine qx_getR d_QM_allDone_17 fR_QM_63 rfl rfl (congrFun hR 41) ?_
        refine qx_iload_n d_QM_allDone_20 rfl rfl ?_
        refine qx_iald d_QM_allDone_21 rfl rfl rfl rfl (by omega) (hkd i (by omega)) ?_
        refine qx_iload_n d_QM_allDone_22 rfl rfl ?_
        refine qx_icmp_geN (t := 35) d_QM_allDone_23 rfl (by have := hkd4 i (by omega); omega) (by omega) (fun c23 => ?_) (fun c23 => ?_)
        · refine qx_iconst (v := b2i true) d_QM_allDone_35 rfl ?_
          refine qx_goto (t := 40) d_QM_allDone_36 rfl ?_
          refine qx_istore_n (lv1 := [_, _, _, _]) d_QM_allDone_40 rfl (by decide) rfl ?_
          refine qx_iincN (w := 1) (lv1 := [_, _, _, _]) d_QM_allDone_41 rfl rfl (by decide) rfl ?_
          refine qx_goto (t := 4) d_QM_allDone_44 rfl ?_
          have k2 := ih (i + 1) (by omega)
          rw [hs] at k2
          first
            | (rw [c13] at k2; exact k2)
            | (rw [c13, decide_eq_true c23] at k2; exact k2)
            | (rw [c13, c32, decide_eq_false (Nat.not_le.mpr c23)] at k2; exact k2)
        · refine qx_aload_n d_QM_allDone_26 rfl rfl ?_
          refine qx_getR d_QM_allDone_27 fR_QM_75 rfl rfl (congrFun hR 45) ?_
          refine qx_iload_n d_QM_allDone_30 rfl rfl ?_
          refine qx_zald d_QM_allDone_31 rfl rfl rfl rfl (by omega) (hdn i (by omega)) ?_
          refine qx_if_eqB (t := 39) d_QM_allDone_32 rfl (fun c32 => ?_) (fun c32 => ?_)
          · refine qx_iconst (v := b2i false) d_QM_allDone_39 rfl ?_
            refine qx_istore_n (lv1 := [_, _, _, _]) d_QM_allDone_40 rfl (by decide) rfl ?_
            refine qx_iincN (w := 1) (lv1 := [_, _, _, _]) d_QM_allDone_41 rfl rfl (by decide) rfl ?_
            refine qx_goto (t := 4) d_QM_allDone_44 rfl ?_
            have k2 := ih (i + 1) (by omega)
            rw [hs] at k2
            first
              | (rw [c13] at k2; exact k2)
              | (rw [c13, decide_eq_true c23] at k2; exact k2)
              | (rw [c13, c32, decide_eq_false (Nat.not_le.mpr c23)] at k2; exact k2)
          · refine qx_iconst (v := b2i true) d_QM_allDone_35 rfl ?_
            refine qx_goto (t := 40) d_QM_allDone_36 rfl ?_
            refine qx_istore_n (lv1 := [_, _, _, _]) d_QM_allDone_40 rfl (by decide) rfl ?_
            refine qx_iincN (w := 1) (lv1 := [_, _, _, _]) d_QM_allDone_41 rfl rfl (by decide) rfl ?_
            refine qx_goto (t := 4) d_QM_allDone_44 rfl ?_
            have k2 := ih (i + 1) (by omega)
            rw [hs] at k2
            first
              | (rw [c13] at k2; exact k2)
              | (rw [c13, decide_eq_true c23] at k2; exact k2)
              | (rw [c13, c32, decide_eq_false (Nat.not_le.mpr c23)] at k2; exact k2)
  refine qx_iconst (v := b2i true) d_QM_allDone_0 rfl ?_
  refine qx_istore_n (lv1 := [_, _, _, _]) d_QM_allDone_1 rfl (by decide) rfl ?_
  refine qx_iconstN (v := 0) d_QM_allDone_2 rfl ?_
  refine qx_istore_n (lv1 := [_, _, _, _]) d_QM_allDone_3 rfl (by decide) rfl ?_
  exact key nt 0 (by omega)
set_option maxRecDepth 100000 in
set_option maxHeartbeats 4000000 in
theorem ct_QM_send {h : qH} (hR : h.2.2 122 = qRQM) (s : sJ) (k t a : Nat) (hw : sW s < 100) : qT mi_QM_send 0 0 0 [.ref 122, .int (nI k), .int (nI t), .int (nI a)] (jR h s) NN (fun v1 h1 n1 => v1 = none ∧ h1 = jR h (sSend s k t a) ∧ n1 = NN) := by
  refine qT.of (lv0 := [_, _, _, _]) (by decide +kernel) (fun _ _ => Nat.le_of_ble_eq_true rfl) rfl ?_
  refine qx_aload_n d_QM_send_0 rfl rfl ?_
  refine qx_getR d_QM_send_1 fR_QM_81 rfl rfl (congrFun hR 50) ?_
  refine qx_aload_n d_QM_send_4 rfl rfl ?_
  refine qx_getI d_QM_send_5 fI_QM_302 rfl rfl (show _ = nI (sW s) from rfl) ?_
  refine qx_iload_n d_QM_send_8 rfl rfl ?_
  refine qx_iast d_QM_send_9 rfl rfl rfl rfl hw ?_
  refine qx_aload_n d_QM_send_10 rfl rfl ?_
  refine qx_getR d_QM_send_11 fR_QM_84 rfl rfl (congrFun hR 51) ?_
  refine qx_aload_n d_QM_send_14 rfl rfl ?_
  refine qx_getI d_QM_send_15 fI_QM_302 rfl rfl (show _ = nI (sW s) from rfl) ?_
  refine qx_iload_n d_QM_send_18 rfl rfl ?_
  refine qx_iast d_QM_send_19 rfl rfl rfl rfl hw ?_
  refine qx_aload_n d_QM_send_20 rfl rfl ?_
  refine qx_getR d_QM_send_21 fR_QM_87 rfl rfl (congrFun hR 52) ?_
  refine qx_aload_n d_QM_send_24 rfl rfl ?_
  refine qx_getI d_QM_send_25 fI_QM_302 rfl rfl (show _ = nI (sW s) from rfl) ?_
  refine qx_iload_n d_QM_send_28 rfl rfl ?_
  refine qx_iast d_QM_send_29 rfl rfl rfl rfl hw ?_
  refine qx_aload_n d_QM_send_30 rfl rfl ?_
  refine qx_dup d_QM_send_31 rfl ?_
  refine qx_getI d_QM_send_32 fI_QM_302 rfl rfl (show _ = nI (sW s) from rfl) ?_
  refine qx_iconstN (v := 1) d_QM_send_35 rfl ?_
  refine qx_iaddN d_QM_send_36 ?_
  refine qx_putI d_QM_send_37 fI_QM_302 rfl rfl ⟨rfl, rfl⟩ ?_
  exact qx_ret d_QM_send_40 rfl (by omega) (by omega) ⟨rfl, by rw [jR_mk, jR_mt, jR_ma, jR_w]; rfl, rfl⟩
set_option maxRecDepth 100000 in
set_option maxHeartbeats 4000000 in
theorem ct_QM_sendRun {h : qH} (hR : h.2.2 122 = qRQM) (s : sJ) (tm : Int32) (htm : h.1 122 47 = tm) (t : Nat) (ht : t < 16) (hw : sW s < 100) : qT mi_QM_sendRun 1 0 0 [.ref 122, .int (nI t)] (jR h s) NN (fun v1 h1 n1 => v1 = none ∧ h1 = jR h (sRun tm s t) ∧ n1 = NN) := by
  refine qT.of (lv0 := [_, _]) (by decide +kernel) (fun _ _ => Nat.le_of_ble_eq_true rfl) rfl ?_
  refine qx_aload_n d_QM_sendRun_0 rfl rfl ?_
  refine qx_iconstN (v := 0) d_QM_sendRun_1 rfl ?_
  refine qx_iload_n d_QM_sendRun_2 rfl rfl ?_
  refine qx_aload_n d_QM_sendRun_3 rfl rfl ?_
  refine qx_getR d_QM_sendRun_4 fR_QM_69 rfl rfl (congrFun hR 43) ?_
  refine qx_iload_n d_QM_sendRun_7 rfl rfl ?_
  refine qx_iald d_QM_sendRun_8 rfl rfl rfl rfl (by omega) (show _ = nI (sAt s t) from rfl) ?_
  refine qx_callV (As := [_, _, _]) (rest := _) d_QM_sendRun_9 lk_QM_320 y_QM_send v_QM_send rfl rfl rfl (by decide) rfl rfl rfl rfl (by decide) (by decide) (ct_QM_send hR s 0 t (sAt s t) hw) ?_
  rintro _ _ _ ⟨rfl, rfl, rfl⟩
  refine qx_aload_n d_QM_sendRun_12 rfl rfl ?_
  refine qx_getR d_QM_sendRun_13 fR_QM_69 rfl rfl (congrFun hR 43) ?_
  refine qx_iload_n d_QM_sendRun_16 rfl rfl ?_
  refine qx_dup2 d_QM_sendRun_17 rfl rfl ?_
  refine qx_iald d_QM_sendRun_18 rfl rfl rfl rfl (by omega) (show _ = nI (sAt s t) from rfl) ?_
  refine qx_iconstN (v := 1) d_QM_sendRun_19 rfl ?_
  refine qx_iaddN d_QM_sendRun_20 ?_
  refine qx_iast d_QM_sendRun_21 rfl rfl rfl rfl (by omega) ?_
  refine qx_aload_n d_QM_sendRun_22 rfl rfl ?_
  refine qx_getR d_QM_sendRun_23 fR_QM_72 rfl rfl (congrFun hR 44) ?_
  refine qx_iload_n d_QM_sendRun_26 rfl rfl ?_
  refine qx_aload_n d_QM_sendRun_27 rfl rfl ?_
  refine qx_getI d_QM_sendRun_28 fI_QM_323 rfl rfl htm ?_
  refine qx_iast d_QM_sendRun_31 rfl rfl rfl rfl (by omega) ?_
  exact qx_ret d_QM_sendRun_32 rfl (by omega) (by omega) ⟨rfl, by rw [jR_at, jR_sa]; rfl, rfl⟩
set_option maxRecDepth 100000 in
set_option maxHeartbeats 4000000 in
theorem ct_QM_sendReady {h : qH} (hR : h.2.2 122 = qRQM) (nt : Nat) (hnt16 : nt ≤ 16) (hnt : h.1 122 40 = nI nt) (kd : Nat → Nat) (hkd4 : ∀ t, t < nt → kd t < 4) (hkd : ∀ t, t < nt → h.1 140 t = nI (kd t)) (dn : Nat → Bool) (hdn : ∀ t, t < nt → h.1 144 t = b2i (dn t)) (s : sJ) (tm : Int32) (htm : h.1 122 47 = tm) (hw : sW s ≤ 80) (hat : ∀ t, t < nt → sAt s t < 100000) : qT mi_QM_sendReady 2 0 0 [.ref 122] (jR h s) NN (fun v1 h1 n1 => v1 = none ∧ h1 = jR h (sReady kd dn nt tm s nt) ∧ n1 = NN) := by
  refine qT.of (lv0 := [_, _, _, _]) (by decide +kernel) (fun _ _ => Nat.le_of_ble_eq_true rfl) rfl ?_
  have key : ∀ (m i : Nat), i + m = nt → qX mi_QM_sendReady 2 none 0 0 2 [.ref 122, .int (nI i), qdead, qdead] [] (jR h (sReady kd dn nt tm s i)) NN 0 0 (fun v1 h1 n1 => v1 = none ∧ h1 = jR h (sReady kd dn nt tm s nt) ∧ n1 = NN) := by
    intro m
    induction m with
    | zero =>
      intro i hi
      refine qx_iload_n d_QM_sendReady_2 rfl rfl ?_
      refine qx_aload_n d_QM_sendReady_3 rfl rfl ?_
      refine qx_getI d_QM_sendReady_4 fI_QM_258 rfl rfl hnt ?_
      refine qx_icmp_geN (t := 60) d_QM_sendReady_7 rfl (by omega) (by omega) (fun c7 => ?_) (fun c7 => absurd c7 (by omega))
      exact qx_ret d_QM_sendReady_60 rfl (by omega) (by omega) ⟨rfl, by rw [show i = nt by omega], rfl⟩
    | succ m ih =>
      intro i hi
      have hs : sReady kd dn nt tm s (i + 1) = if ((decide (kd i < 2) || adn kd dn (kd i) nt) && decide (sAt (sReady kd dn nt tm s i) i = 0)) = true then sRun tm (sReady kd dn nt tm s i) i else (sReady kd dn nt tm s i) := rfl
      have k2 := ih (i + 1) (by omega)
      rw [hs] at k2
      refine qx_iload_n d_QM_sendReady_2 rfl rfl ?_
      refine qx_aload_n d_QM_sendReady_3 rfl rfl ?_
      refine qx_getI d_QM_sendReady_4 fI_QM_258 rfl rfl hnt ?_
      refine qx_icmp_geN (t := 60) d_QM_sendReady_7 rfl (by omega) (by omega) (fun c7 => absurd c7 (by omega)) (fun c7 => ?_)
      refine qx_aload_n d_QM_sendReady_10 rfl rfl ?_
      refine qx_getR d_QM_sendReady_11 fR_QM_63 rfl rfl (congrFun hR 41) ?_
      refine qx_iload_n d_QM_sendReady_14 rfl rfl ?_
      refine qx_iald d_QM_sendReady_15 rfl rfl rfl rfl (by omega) (hkd i (by omega)) ?_
      refine qx_istore_n (lv1 := [_, _, _, _]) d_QM_sendReady_16 rfl (by decide) rfl ?_
      refine qx_iload_n d_QM_sendReady_17 rfl rfl ?_
      refine qx_iconstN (v := 2) d_QM_sendReady_18 rfl ?_
      refine qx_icmp_ltN (t := 30) d_QM_sendReady_19 rfl (by have := hkd4 i (by omega); omega) (by omega) (fun c19 => ?_) (fun c19 => ?_)
      · refine qx_iconst (v := b2i true) d_QM_sendReady_30 rfl ?_
        refine qx_goto (t := 35) d_QM_sendReady_31 rfl ?_
        refine qx_istore_n (lv1 := [_, _, _, _]) d_QM_sendReady_35 rfl (by decide) rfl ?_
        refine qx_iload_n d_QM_sendReady_36 rfl rfl ?_
        refine qx_if_eqB (t := 54) d_QM_sendReady_37 rfl (fun c37 => ?_) (fun c37 => ?_)
        · refine qx_iincN (w := 1) (lv1 := [_, _, _, _]) d_QM_sendReady_54 rfl rfl (by decide) rfl ?_
          refine qx_goto (t := 2) d_QM_sendReady_57 rfl ?_
          refine qx_less (lv1 := [_, _, qdead, qdead]) ⟨Or.inr rfl, Or.inr rfl, Or.inl rfl, Or.inl rfl, trivial⟩ ?_
          first
            | exact absurd c37 (by decide)
            | (rw [decide_eq_true c19, decide_eq_true c46] at k2; exact k2)
            | (rw [decide_eq_true c19, decide_eq_false (Nat.ne_of_gt c46)] at k2; exact k2)
            | (rw [decide_eq_false (Nat.not_lt.mpr c19), c27, decide_eq_true c46] at k2; exact k2)
            | (rw [decide_eq_false (Nat.not_lt.mpr c19), c27, decide_eq_false (Nat.ne_of_gt c46)] at k2; exact k2)
            | (rw [decide_eq_false (Nat.not_lt.mpr c19), c27] at k2; exact k2)
        · refine qx_aload_n d_QM_sendReady_40 rfl rfl ?_
          refine qx_getR d_QM_sendReady_41 fR_QM_69 rfl rfl (congrFun hR 43) ?_
          refine qx_iload_n d_QM_sendReady_44 rfl rfl ?_
          refine qx_iald d_QM_sendReady_45 rfl rfl rfl rfl (by omega) (show _ = nI (sAt (sReady kd dn nt tm s i) i) from rfl) ?_
          refine qx_if_neN (t := 54) d_QM_sendReady_46 rfl (by rw [sReady_at kd dn nt tm s i i (Nat.le_refl _)]; have := hat i (by omega); omega) (fun c46 => ?_) (fun c46 => ?_)
          · refine qx_iincN (w := 1) (lv1 := [_, _, _, _]) d_QM_sendReady_54 rfl rfl (by decide) rfl ?_
            refine qx_goto (t := 2) d_QM_sendReady_57 rfl ?_
            refine qx_less (lv1 := [_, _, qdead, qdead]) ⟨Or.inr rfl, Or.inr rfl, Or.inl rfl, Or.inl rfl, trivial⟩ ?_
            first
              | exact absurd c37 (by decide)
              | (rw [decide_eq_true c19, decide_eq_true c46] at k2; exact k2)
              | (rw [decide_eq_true c19, decide_eq_false (Nat.ne_of_gt c46)] at k2; exact k2)
              | (rw [decide_eq_false (Nat.not_lt.mpr c19), c27, decide_eq_true c46] at k2; exact k2)
              | (rw [decide_eq_false (Nat.not_lt.mpr c19), c27, decide_eq_false (Nat.ne_of_gt c46)] at k2; exact k2)
              | (rw [decide_eq_false (Nat.not_lt.mpr c19), c27] at k2; exact k2)
          · refine qx_aload_n d_QM_sendReady_49 rfl rfl ?_
            refine qx_iload_n d_QM_sendReady_50 rfl rfl ?_
            refine qx_callV (As := [_]) (rest := _) d_QM_sendReady_51 lk_QM_317 y_QM_sendRun v_QM_sendRun rfl rfl rfl (by decide) rfl rfl rfl rfl (by decide) (by decide) (ct_QM_sendRun hR (sReady kd dn nt tm s i) tm htm i (by omega) (by have := sReady_w kd dn nt tm s i; omega)) ?_
            rintro _ _ _ ⟨rfl, rfl, rfl⟩
            refine qx_iincN (w := 1) (lv1 := [_, _, _, _]) d_QM_sendReady_54 rfl rfl (by decide) rfl ?_
            refine qx_goto (t := 2) d_QM_sendReady_57 rfl ?_
            refine qx_less (lv1 := [_, _, qdead, qdead]) ⟨Or.inr rfl, Or.inr rfl, Or.inl rfl, Or.inl rfl, trivial⟩ ?_
            first
              | exact absurd c37 (by decide)
              | (rw [decide_eq_true c19, decide_eq_true c46] at k2; exact k2)
              | (rw [decide_eq_true c19, decide_eq_false (Nat.ne_of_gt c46)] at k2; exact k2)
              | (rw [decide_eq_false (Nat.not_lt.mpr c19), c27, decide_eq_true c46] at k2; exact k2)
              | (rw [decide_eq_false (Nat.not_lt.mpr c19), c27, decide_eq_false (Nat.ne_of_gt c46)] at k2; exact k2)
              | (rw [decide_eq_false (Nat.not_lt.mpr c19), c27] at k2; exact k2)
      · refine qx_aload_n d_QM_sendReady_22 rfl rfl ?_
        refine qx_iload_n d_QM_sendReady_23 rfl rfl ?_
        refine qx_callV (As := [_]) (rest := _) d_QM_sendReady_24 lk_QM_314 y_QM_allDone v_QM_allDone rfl rfl rfl (by decide) rfl rfl rfl rfl (by decide) (by decide) (ct_QM_allDone (h := jR h (sReady kd dn nt tm s i)) hR nt hnt16 hnt kd hkd4 hkd dn hdn (kd i) (by have := hkd4 i (by omega); omega)) ?_
        rintro _ _ _ ⟨rfl, rfl, rfl⟩
        refine qx_if_eqB (t := 34) d_QM_sendReady_27 rfl (fun c27 => ?_) (fun c27 => ?_)
        · refine qx_iconst (v := b2i false) d_QM_sendReady_34 rfl ?_
          refine qx_istore_n (lv1 := [_, _, _, _]) d_QM_sendReady_35 rfl (by decide) rfl ?_
          refine qx_iload_n d_QM_sendReady_36 rfl rfl ?_
          refine qx_if_eqB (t := 54) d_QM_sendReady_37 rfl (fun c37 => ?_) (fun c37 => ?_)
          · refine qx_iincN (w := 1) (lv1 := [_, _, _, _]) d_QM_sendReady_54 rfl rfl (by decide) rfl ?_
            refine qx_goto (t := 2) d_QM_sendReady_57 rfl ?_
            refine qx_less (lv1 := [_, _, qdead, qdead]) ⟨Or.inr rfl, Or.inr rfl, Or.inl rfl, Or.inl rfl, trivial⟩ ?_
            first
              | exact absurd c37 (by decide)
              | (rw [decide_eq_true c19, decide_eq_true c46] at k2; exact k2)
              | (rw [decide_eq_true c19, decide_eq_false (Nat.ne_of_gt c46)] at k2; exact k2)
              | (rw [decide_eq_false (Nat.not_lt.mpr c19), c27, decide_eq_true c46] at k2; exact k2)
              | (rw [decide_eq_false (Nat.not_lt.mpr c19), c27, decide_eq_false (Nat.ne_of_gt c46)] at k2; exact k2)
              | (rw [decide_eq_false (Nat.not_lt.mpr c19), c27] at k2; exact k2)
          · refine qx_aload_n d_QM_sendReady_40 rfl rfl ?_
            refine qx_getR d_QM_sendReady_41 fR_QM_69 rfl rfl (congrFun hR 43) ?_
            refine qx_iload_n d_QM_sendReady_44 rfl rfl ?_
            refine qx_iald d_QM_sendReady_45 rfl rfl rfl rfl (by omega) (show _ = nI (sAt (sReady kd dn nt tm s i) i) from rfl) ?_
            refine qx_if_neN (t := 54) d_QM_sendReady_46 rfl (by rw [sReady_at kd dn nt tm s i i (Nat.le_refl _)]; have := hat i (by omega); omega) (fun c46 => ?_) (fun c46 => ?_)
            · refine qx_iincN (w := 1) (lv1 := [_, _, _, _]) d_QM_sendReady_54 rfl rfl (by decide) rfl ?_
              refine qx_goto (t := 2) d_QM_sendReady_57 rfl ?_
              refine qx_less (lv1 := [_, _, qdead, qdead]) ⟨Or.inr rfl, Or.inr rfl, Or.inl rfl, Or.inl rfl, trivial⟩ ?_
              first
                | exact absurd c37 (by decide)
                | (rw [decide_eq_true c19, decide_eq_true c46] at k2; exact k2)
                | (rw [decide_eq_true c19, decide_eq_false (Nat.ne_of_gt c46)] at k2; exact k2)
                | (rw [decide_eq_false (Nat.not_lt.mpr c19), c27, decide_eq_true c46] at k2; exact k2)
                | (rw [decide_eq_false (Nat.not_lt.mpr c19), c27, decide_eq_false (Nat.ne_of_gt c46)] at k2; exact k2)
                | (rw [decide_eq_false (Nat.not_lt.mpr c19), c27] at k2; exact k2)
            · refine qx_aload_n d_QM_sendReady_49 rfl rfl ?_
              refine qx_iload_n d_QM_sendReady_50 rfl rfl ?_
              refine qx_callV (As := [_]) (rest := _) d_QM_sendReady_51 lk_QM_317 y_QM_sendRun v_QM_sendRun rfl rfl rfl (by decide) rfl rfl rfl rfl (by decide) (by decide) (ct_QM_sendRun hR (sReady kd dn nt tm s i) tm htm i (by omega) (by have := sReady_w kd dn nt tm s i; omega)) ?_
              rintro _ _ _ ⟨rfl, rfl, rfl⟩
              refine qx_iincN (w := 1) (lv1 := [_, _, _, _]) d_QM_sendReady_54 rfl rfl (by decide) rfl ?_
              refine qx_goto (t := 2) d_QM_sendReady_57 rfl ?_
              refine qx_less (lv1 := [_, _, qdead, qdead]) ⟨Or.inr rfl, Or.inr rfl, Or.inl rfl, Or.inl rfl, trivial⟩ ?_
              first
                | exact absurd c37 (by decide)
                | (rw [decide_eq_true c19, decide_eq_true c46] at k2; exact k2)
                | (rw [decide_eq_true c19, decide_eq_false (Nat.ne_of_gt c46)] at k2; exact k2)
                | (rw [decide_eq_false (Nat.not_lt.mpr c19), c27, decide_eq_true c46] at k2; exact k2)
                | (rw [decide_eq_false (Nat.not_lt.mpr c19), c27, decide_eq_false (Nat.ne_of_gt c46)] at k2; exact k2)
                | (rw [decide_eq_false (Nat.not_lt.mpr c19), c27] at k2; exact k2)
        · refine qx_iconst (v := b2i true) d_QM_sendReady_30 rfl ?_
          refine qx_goto (t := 35) d_QM_sendReady_31 rfl ?_
          refine qx_istore_n (lv1 := [_, _, _, _]) d_QM_sendReady_35 rfl (by decide) rfl ?_
          refine qx_iload_n d_QM_sendReady_36 rfl rfl ?_
          refine qx_if_eqB (t := 54) d_QM_sendReady_37 rfl (fun c37 => ?_) (fun c37 => ?_)
          · refine qx_iincN (w := 1) (lv1 := [_, _, _, _]) d_QM_sendReady_54 rfl rfl (by decide) rfl ?_
            refine qx_goto (t := 2) d_QM_sendReady_57 rfl ?_
            refine qx_less (lv1 := [_, _, qdead, qdead]) ⟨Or.inr rfl, Or.inr rfl, Or.inl rfl, Or.inl rfl, trivial⟩ ?_
            first
              | exact absurd c37 (by decide)
              | (rw [decide_eq_true c19, decide_eq_true c46] at k2; exact k2)
              | (rw [decide_eq_true c19, decide_eq_false (Nat.ne_of_gt c46)] at k2; exact k2)
              | (rw [decide_eq_false (Nat.not_lt.mpr c19), c27, decide_eq_true c46] at k2; exact k2)
              | (rw [decide_eq_false (Nat.not_lt.mpr c19), c27, decide_eq_false (Nat.ne_of_gt c46)] at k2; exact k2)
              | (rw [decide_eq_false (Nat.not_lt.mpr c19), c27] at k2; exact k2)
          · refine qx_aload_n d_QM_sendReady_40 rfl rfl ?_
            refine qx_getR d_QM_sendReady_41 fR_QM_69 rfl rfl (congrFun hR 43) ?_
            refine qx_iload_n d_QM_sendReady_44 rfl rfl ?_
            refine qx_iald d_QM_sendReady_45 rfl rfl rfl rfl (by omega) (show _ = nI (sAt (sReady kd dn nt tm s i) i) from rfl) ?_
            refine qx_if_neN (t := 54) d_QM_sendReady_46 rfl (by rw [sReady_at kd dn nt tm s i i (Nat.le_refl _)]; have := hat i (by omega); omega) (fun c46 => ?_) (fun c46 => ?_)
            · refine qx_iincN (w := 1) (lv1 := [_, _, _, _]) d_QM_sendReady_54 rfl rfl (by decide) rfl ?_
              refine qx_goto (t := 2) d_QM_sendReady_57 rfl ?_
              refine qx_less (lv1 := [_, _, qdead, qdead]) ⟨Or.inr rfl, Or.inr rfl, Or.inl rfl, Or.inl rfl, trivial⟩ ?_
              first
                | exact absurd c37 (by decide)
                | (rw [decide_eq_true c19, decide_eq_true c46] at k2; exact k2)
                | (rw [decide_eq_true c19, decide_eq_false (Nat.ne_of_gt c46)] at k2; exact k2)
                | (rw [decide_eq_false (Nat.not_lt.mpr c19), c27, decide_eq_true c46] at k2; exact k2)
                | (rw [decide_eq_false (Nat.not_lt.mpr c19), c27, decide_eq_false (Nat.ne_of_gt c46)] at k2; exact k2)
                | (rw [decide_eq_false (Nat.not_lt.mpr c19), c27] at k2; exact k2)
            · refine qx_aload_n d_QM_sendReady_49 rfl rfl ?_
              refine qx_iload_n d_QM_sendReady_50 rfl rfl ?_
              refine qx_callV (As := [_]) (rest := _) d_QM_sendReady_51 lk_QM_317 y_QM_sendRun v_QM_sendRun rfl rfl rfl (by decide) rfl rfl rfl rfl (by decide) (by decide) (ct_QM_sendRun hR (sReady kd dn nt tm s i) tm htm i (by omega) (by have := sReady_w kd dn nt tm s i; omega)) ?_
              rintro _ _ _ ⟨rfl, rfl, rfl⟩
              refine qx_iincN (w := 1) (lv1 := [_, _, _, _]) d_QM_sendReady_54 rfl rfl (by decide) rfl ?_
              refine qx_goto (t := 2) d_QM_sendReady_57 rfl ?_
              refine qx_less (lv1 := [_, _, qdead, qdead]) ⟨Or.inr rfl, Or.inr rfl, Or.inl rfl, Or.inl rfl, trivial⟩ ?_
              first
                | exact absurd c37 (by decide)
                | (rw [decide_eq_true c19, decide_eq_true c46] at k2; exact k2)
                | (rw [decide_eq_true c19, decide_eq_false (Nat.ne_of_gt c46)] at k2; exact k2)
                | (rw [decide_eq_false (Nat.not_lt.mpr c19), c27, decide_eq_true c46] at k2; exact k2)
                | (rw [decide_eq_false (Nat.not_lt.mpr c19), c27, decide_eq_false (Nat.ne_of_gt c46)] at k2; exact k2)
                | (rw [decide_eq_false (Nat.not_lt.mpr c19), c27] at k2; exact k2)
  refine qx_iconstN (v := 0) d_QM_sendReady_0 rfl ?_
  refine qx_istore_n (lv1 := [_, _, _, _]) d_QM_sendReady_1 rfl (by decide) rfl ?_
  exact key nt 0 (by omega)
theorem sCut_0 (f : Nat → Nat) (k : Nat) : sCut f k k = f := by
  funext j
  unfold sCut
  rw [if_neg (by omega)]
theorem sCut_S {f : Nat → Nat} {k i : Nat} (h : k ≤ i) : va_up (sCut f k i) i (sCut f k i (i + 1)) = sCut f k (i + 1) := by
  funext j
  by_cases hj : j = i
  · subst hj
    rw [qus]
    unfold sCut
    rw [if_neg (by omega), if_pos (by omega)]
  · rw [qun hj]
    unfold sCut
    by_cases h1 : k ≤ j ∧ j < i
    · rw [if_pos h1, if_pos (by omega)]
    · rw [if_neg h1, if_neg (by omega)]
set_option maxRecDepth 100000 in
set_option maxHeartbeats 4000000 in
theorem ct_QM_strike {h : qH} (hR : h.2.2 122 = qRQM) (s : sJ) (k : Nat) (hk : k < sW s) (hw : sW s ≤ 100) : qT mi_QM_strike 0 0 0 [.ref 122, .int (nI k)] (jR h s) NN (fun v1 h1 n1 => v1 = none ∧ h1 = jR h (sStrike s k) ∧ n1 = NN) := by
  refine qT.of (lv0 := [_, _, _]) (by decide +kernel) (fun _ _ => Nat.le_of_ble_eq_true rfl) rfl ?_
  have key : ∀ (m i : Nat), i + m = sW s - 1 → k ≤ i → qX mi_QM_strike 0 none 0 0 12 [.ref 122, .int (nI k), .int (nI i)] [] (jR h (sAt s, sSa s, sCut (sMk s) k i, sCut (sMt s) k i, sCut (sMa s) k i, sW s - 1)) NN 0 0 (fun v1 h1 n1 => v1 = none ∧ h1 = jR h (sStrike s k) ∧ n1 = NN) := by
    intro m
    induction m with
    | zero =>
      intro i hi hki
      refine qx_iload_n d_QM_strike_12 rfl rfl ?_
      refine qx_aload_n d_QM_strike_13 rfl rfl ?_
      refine qx_getI d_QM_strike_14 fI_QM_302 rfl rfl (show _ = nI (sW s - 1) from rfl) ?_
      refine qx_icmp_geN (t := 68) d_QM_strike_17 rfl (by omega) (by omega) (fun c17 => ?_) (fun c17 => absurd c17 (by omega))
      exact qx_ret d_QM_strike_68 rfl (by omega) (by omega) ⟨rfl, by rw [show i = sW s - 1 by omega]; rfl, rfl⟩
    | succ m ih =>
      intro i hi hki
      refine qx_iload_n d_QM_strike_12 rfl rfl ?_
      refine qx_aload_n d_QM_strike_13 rfl rfl ?_
      refine qx_getI d_QM_strike_14 fI_QM_302 rfl rfl (show _ = nI (sW s - 1) from rfl) ?_
      refine qx_icmp_geN (t := 68) d_QM_strike_17 rfl (by omega) (by omega) (fun c17 => absurd c17 (by omega)) (fun c17 => ?_)
      refine qx_aload_n d_QM_strike_20 rfl rfl ?_
      refine qx_getR d_QM_strike_21 fR_QM_81 rfl rfl (congrFun hR 50) ?_
      refine qx_iload_n d_QM_strike_24 rfl rfl ?_
      refine qx_aload_n d_QM_strike_25 rfl rfl ?_
      refine qx_getR d_QM_strike_26 fR_QM_81 rfl rfl (congrFun hR 50) ?_
      refine qx_iload_n d_QM_strike_29 rfl rfl ?_
      refine qx_iconstN (v := 1) d_QM_strike_30 rfl ?_
      refine qx_iaddN d_QM_strike_31 ?_
      refine qx_iald d_QM_strike_32 rfl rfl rfl rfl (by omega) (show _ = nI (sCut (sMk s) k i (i + 1)) from rfl) ?_
      refine qx_iast d_QM_strike_33 rfl rfl rfl rfl (by omega) ?_
      refine qx_aload_n d_QM_strike_34 rfl rfl ?_
      refine qx_getR d_QM_strike_35 fR_QM_84 rfl rfl (congrFun hR 51) ?_
      refine qx_iload_n d_QM_strike_38 rfl rfl ?_
      refine qx_aload_n d_QM_strike_39 rfl rfl ?_
      refine qx_getR d_QM_strike_40 fR_QM_84 rfl rfl (congrFun hR 51) ?_
      refine qx_iload_n d_QM_strike_43 rfl rfl ?_
      refine qx_iconstN (v := 1) d_QM_strike_44 rfl ?_
      refine qx_iaddN d_QM_strike_45 ?_
      refine qx_iald d_QM_strike_46 rfl rfl rfl rfl (by omega) (show _ = nI (sCut (sMt s) k i (i + 1)) from rfl) ?_
      refine qx_iast d_QM_strike_47 rfl rfl rfl rfl (by omega) ?_
      refine qx_aload_n d_QM_strike_48 rfl rfl ?_
      refine qx_getR d_QM_strike_49 fR_QM_87 rfl rfl (congrFun hR 52) ?_
      refine qx_iload_n d_QM_strike_52 rfl rfl ?_
      refine qx_aload_n d_QM_strike_53 rfl rfl ?_
      refine qx_getR d_QM_strike_54 fR_QM_87 rfl rfl (congrFun hR 52) ?_
      refine qx_iload_n d_QM_strike_57 rfl rfl ?_
      refine qx_iconstN (v := 1) d_QM_strike_58 rfl ?_
      refine qx_iaddN d_QM_strike_59 ?_
      refine qx_iald d_QM_strike_60 rfl rfl rfl rfl (by omega) (show _ = nI (sCut (sMa s) k i (i + 1)) from rfl) ?_
      refine qx_iast d_QM_strike_61 rfl rfl rfl rfl (by omega) ?_
      refine qx_iincN (w := 1) (lv1 := [_, _, _]) d_QM_strike_62 rfl rfl (by decide) rfl ?_
      refine qx_goto (t := 12) d_QM_strike_65 rfl ?_
      refine qx_eq rfl rfl rfl ?_ (ih (i + 1) (by omega) (by omega))
      rw [jR_mk, jR_mt, jR_ma]
      dsimp only [sMk, sMt, sMa, sAt, sSa, sW]
      rw [sCut_S hki, sCut_S hki, sCut_S hki]
  refine qx_aload_n d_QM_strike_0 rfl rfl ?_
  refine qx_dup d_QM_strike_1 rfl ?_
  refine qx_getI d_QM_strike_2 fI_QM_302 rfl rfl (show _ = nI (sW s) from rfl) ?_
  refine qx_iconstN (v := 1) d_QM_strike_5 rfl ?_
  refine qx_isubN d_QM_strike_6 (by omega) ?_
  refine qx_putI d_QM_strike_7 fI_QM_302 rfl rfl ⟨rfl, rfl⟩ ?_
  refine qx_iload_n d_QM_strike_10 rfl rfl ?_
  refine qx_istore_n (lv1 := [_, _, _]) d_QM_strike_11 rfl (by decide) rfl ?_
  refine qx_eq rfl rfl rfl ?_ (key (sW s - 1 - k) k (by omega) (Nat.le_refl _))
  rw [jR_w, sCut_0, sCut_0, sCut_0]
set_option maxRecDepth 100000 in
set_option maxHeartbeats 4000000 in
theorem ct_QM_workerOf {h : qH} (hR : h.2.2 122 = qRQM) (pt : Nat → Nat) (t a wk : Nat) (ht : t < 16) (hpt : h.1 141 t = nI (pt t)) (hp4 : pt t < 4) (ha : a < 100000) (hwk : h.1 122 38 = nI wk) (h1w : 1 ≤ wk) (hw4 : wk ≤ 4) : qT mi_QM_workerOf 0 0 0 [.ref 122, .int (nI t), .int (nI a)] h NN (fun v1 h1 n1 => v1 = some (.int (nI ((pt t + a) % wk))) ∧ h = h1 ∧ n1 = NN) := by
  refine qT.of (lv0 := [_, _, _]) (by decide +kernel) (fun _ _ => Nat.le_of_ble_eq_true rfl) rfl ?_
  refine qx_aload_n d_QM_workerOf_0 rfl rfl ?_
  refine qx_getR d_QM_workerOf_1 fR_QM_66 rfl rfl (congrFun hR 42) ?_
  refine qx_iload_n d_QM_workerOf_4 rfl rfl ?_
  refine qx_iald d_QM_workerOf_5 rfl rfl rfl rfl (by omega) hpt ?_
  refine qx_iload_n d_QM_workerOf_6 rfl rfl ?_
  refine qx_iaddN d_QM_workerOf_7 ?_
  refine qx_aload_n d_QM_workerOf_8 rfl rfl ?_
  refine qx_getI d_QM_workerOf_9 fI_QM_248 rfl rfl hwk ?_
  refine qx_iremN d_QM_workerOf_12 (by omega) (by omega) (by omega) ?_
  exact qx_iret d_QM_workerOf_13 rfl rfl (by omega) (by omega) ⟨rfl, rfl, rfl⟩
