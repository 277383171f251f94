/-! the tasks, pure: kind, part, attempts, finished, rows, how many -/
abbrev sT : Type := (Nat → Nat) × (Nat → Nat) × (Nat → Nat) × (Nat → Bool) × (Nat → Nat) × Nat
abbrev tK (s : sT) : Nat → Nat := s.1
abbrev tP (s : sT) : Nat → Nat := s.2.1
abbrev tA (s : sT) : Nat → Nat := s.2.2.1
abbrev tF (s : sT) : Nat → Bool := s.2.2.2.1
abbrev tQ (s : sT) : Nat → Nat := s.2.2.2.2.1
abbrev tN (s : sT) : Nat := s.2.2.2.2.2
def tAdd (s : sT) (k p q : Nat) : sT := (va_up (tK s) (tN s) k, va_up (tP s) (tN s) p, va_up (tA s) (tN s) 0, va_up (tF s) (tN s) false, va_up (tQ s) (tN s) q, tN s + 1)
def tAll (k : Nat) (q : Nat → Nat) (s : sT) : Nat → sT
  | 0 => s
  | w + 1 => tAdd (tAll k q s w) k w (q w)
theorem tAll_n (k : Nat) (q : Nat → Nat) (s : sT) : ∀ w, tN (tAll k q s w) = tN s + w
  | 0 => rfl
  | w + 1 => by
    show tN (tAll k q s w) + 1 = _
    rw [tAll_n k q s w]
    omega
def tR (h : qH) (s : sT) : qH := (fun a => if a = 140 then iN (tK s) else if a = 141 then iN (tP s) else if a = 142 then iN (tA s) else if a = 144 then iB (tF s) else if a = 145 then iN (tQ s) else if a = 122 then va_up (h.1 122) 40 (nI (tN s)) else h.1 a, h.2.1, h.2.2)
theorem tR_of {h : qH} {s : sT} (h1 : h.1 140 = iN (tK s)) (h2 : h.1 141 = iN (tP s)) (h3 : h.1 142 = iN (tA s)) (h4 : h.1 144 = iB (tF s)) (h5 : h.1 145 = iN (tQ s)) (h6 : h.1 122 40 = nI (tN s)) : tR h s = h := by
  obtain ⟨x, y, z⟩ := h
  unfold tR
  dsimp only at *
  refine Prod.ext ?_ rfl
  funext a
  dsimp only
  split
  · next e => rw [e, h1]
  · split
    · next e => rw [e, h2]
    · split
      · next e => rw [e, h3]
      · split
        · next e => rw [e, h4]
        · split
          · next e => rw [e, h5]
          · split
            · next e => rw [e, ← h6]; exact qv_self
            · rfl
theorem tR_k {h : qH} {s : sT} {t : Nat} {v : Nat} : qpI (tR h s) 140 t (nI v) = tR h (va_up (tK s) t v, tP s, tA s, tF s, tQ s, tN s) := by
  unfold tR qpI
  dsimp only
  refine Prod.ext ?_ rfl
  funext a
  dsimp only
  by_cases ha : a = 140
  · subst ha
    simp only [qus]
    exact iN_up
  · rw [qun ha]
    simp only [ha, if_false]
theorem tR_p {h : qH} {s : sT} {t : Nat} {v : Nat} : qpI (tR h s) 141 t (nI v) = tR h (tK s, va_up (tP s) t v, tA s, tF s, tQ s, tN s) := by
  unfold tR qpI
  dsimp only
  refine Prod.ext ?_ rfl
  funext a
  dsimp only
  by_cases ha : a = 141
  · subst ha
    simp only [qus]
    exact iN_up
  · rw [qun ha]
    simp only [ha, if_false]
theorem tR_a {h : qH} {s : sT} {t : Nat} {v : Nat} : qpI (tR h s) 142 t (nI v) = tR h (tK s, tP s, va_up (tA s) t v, tF s, tQ s, tN s) := by
  unfold tR qpI
  dsimp only
  refine Prod.ext ?_ rfl
  funext a
  dsimp only
  by_cases ha : a = 142
  · subst ha
    simp only [qus]
    exact iN_up
  · rw [qun ha]
    simp only [ha, if_false]
theorem tR_f {h : qH} {s : sT} {t : Nat} {v : Bool} : qpI (tR h s) 144 t (b2i v) = tR h (tK s, tP s, tA s, va_up (tF s) t v, tQ s, tN s) := by
  unfold tR qpI
  dsimp only
  refine Prod.ext ?_ rfl
  funext a
  dsimp only
  by_cases ha : a = 144
  · subst ha
    simp only [qus]
    exact iB_up
  · rw [qun ha]
    simp only [ha, if_false]
theorem tR_q {h : qH} {s : sT} {t : Nat} {v : Nat} : qpI (tR h s) 145 t (nI v) = tR h (tK s, tP s, tA s, tF s, va_up (tQ s) t v, tN s) := by
  unfold tR qpI
  dsimp only
  refine Prod.ext ?_ rfl
  funext a
  dsimp only
  by_cases ha : a = 145
  · subst ha
    simp only [qus]
    exact iN_up
  · rw [qun ha]
    simp only [ha, if_false]
theorem tR_n {h : qH} {s : sT}  {v : Nat} : qpI (tR h s) 122 40 (nI v) = tR h (tK s, tP s, tA s, tF s, tQ s, v) := by
  unfold tR qpI
  dsimp only
  refine Prod.ext ?_ rfl
  funext a
  dsimp only
  by_cases ha : a = 122
  · subst ha
    simp only [qus]
    exact qv_up
  · rw [qun ha]
    simp only [ha, if_false]
set_option maxRecDepth 100000 in
set_option maxHeartbeats 4000000 in
theorem ct_QM_addTasks_0 {h : qH} (hR : h.2.2 122 = qRQM) (hv : Nat → Int64) (hb : Nat → Bool) (kv : Nat → Int64) (kb : Nat → Bool) (kp : Nat) (wk : Nat → Int64) (wn : Nat → Int32) (tv : Nat → Int64) (tn : Nat → Bool) (htv : ∀ k, k < 72 → h.2.1 124 k = tv k ∧ h.1 125 k = b2i (tn k)) (nc : Nat) (hnc6 : nc ≤ 6) (hnc : h.1 122 14 = nI nc) (CE : Nat → List xP) (hce : ∀ c, c < nc → (CE c).length ≤ 24 ∧ h.1 128 (8 + c) = nI (CE c).length ∧ rExp (h.1 126) (h.2.1 127) (24 * (8 + c)) (CE c) ∧ xT 8 [] (CE c) = some [true]) (wc : Nat) (h1w : 1 ≤ wc) (hw4 : wc ≤ 4) (hwk : h.1 122 38 = nI wc) (kd : Nat) (hk3 : kd < 3) (hkd : h.1 122 4 = nI kd) (t : Nat) (ht3 : t < 3) (ht : h.1 122 5 = nI t) (nr : Nat) (hnr : nr ≤ 12) (hr : h.1 123 t = nI nr) (s : sT) (hs16 : tN s + wc ≤ 16) : qT mi_QM_addTasks 5 0 0 [.ref 122, .int (nI 0)] (eR (fR (tR h s) hv hb kv kb kp) wk wn) NN (fun v1 h1 n1 => v1 = none ∧ (∃ hv1 hb1 wk1 wn1, h1 = eR (fR (tR h (tAll 0 (fun p => cntB (fun q => aB (decide (q % wc = p)) (fun c => !pu kd 0 (CE c) || xTru (scR tv tn t 0 q) (CE c)) nc) nr) s wc)) hv1 hb1 kv kb kp) wk1 wn1) ∧ n1 = NN) := by
  refine qT.of (lv0 := [_, _, _]) (by decide +kernel) (fun _ _ => Nat.le_of_ble_eq_true rfl) rfl ?_
  have key : ∀ (m w : Nat) (hv : Nat → Int64) (hb : Nat → Bool) (wk : Nat → Int64) (wn : Nat → Int32), w + m = wc → qX mi_QM_addTasks 5 none 0 0 2 [.ref 122, .int (nI 0), .int (nI w)] [] (eR (fR (tR h (tAll 0 (fun p => cntB (fun q => aB (decide (q % wc = p)) (fun c => !pu kd 0 (CE c) || xTru (scR tv tn t 0 q) (CE c)) nc) nr) s w)) hv hb kv kb kp) wk wn) NN 0 0 (fun v1 h1 n1 => v1 = none ∧ (∃ hv1 hb1 wk1 wn1, h1 = eR (fR (tR h (tAll 0 (fun p => cntB (fun q => aB (decide (q % wc = p)) (fun c => !pu kd 0 (CE c) || xTru (scR tv tn t 0 q) (CE c)) nc) nr) s wc)) hv1 hb1 kv kb kp) wk1 wn1) ∧ n1 = NN) := by
    intro m
    induction m with
    | zero =>
      intro w hv hb wk wn hw
      have e : w = wc := by omega
      subst e
      refine qx_iload_n d_QM_addTasks_2 rfl rfl ?_
      refine qx_aload_n d_QM_addTasks_3 rfl rfl ?_
      refine qx_getI d_QM_addTasks_4 fI_QM_248 rfl rfl hwk ?_
      refine qx_icmp_geN (t := 107) d_QM_addTasks_7 rfl (by omega) (by omega) (fun c7 => ?_) (fun c7 => absurd c7 (by omega))
      exact qx_ret d_QM_addTasks_107 rfl (by omega) (by omega) ⟨rfl, ⟨hv, hb, wk, wn, rfl⟩, rfl⟩
    | succ m ih =>
      intro w hv hb wk wn hw
      have hn := tAll_n 0 (fun p => cntB (fun q => aB (decide (q % wc = p)) (fun c => !pu kd 0 (CE c) || xTru (scR tv tn t 0 q) (CE c)) nc) nr) s w
      have hn2 : tN (tAll 0 (fun p => cntB (fun q => aB (decide (q % wc = p)) (fun c => !pu kd 0 (CE c) || xTru (scR tv tn t 0 q) (CE c)) nc) nr) s w) < 16 := by omega
      refine qx_iload_n d_QM_addTasks_2 rfl rfl ?_
      refine qx_aload_n d_QM_addTasks_3 rfl rfl ?_
      refine qx_getI d_QM_addTasks_4 fI_QM_248 rfl rfl hwk ?_
      refine qx_icmp_geN (t := 107) d_QM_addTasks_7 rfl (by omega) (by omega) (fun c7 => absurd c7 (by omega)) (fun c7 => ?_)
      refine qx_aload_n d_QM_addTasks_10 rfl rfl ?_
      refine qx_getR d_QM_addTasks_11 fR_QM_63 rfl rfl (congrFun hR 41) ?_
      refine qx_aload_n d_QM_addTasks_14 rfl rfl ?_
      refine qx_getI d_QM_addTasks_15 fI_QM_258 rfl rfl (show _ = nI (tN (tAll 0 (fun p => cntB (fun q => aB (decide (q % wc = p)) (fun c => !pu kd 0 (CE c) || xTru (scR tv tn t 0 q) (CE c)) nc) nr) s w)) from rfl) ?_
      refine qx_iload_n d_QM_addTasks_18 rfl rfl ?_
      refine qx_iast d_QM_addTasks_19 rfl rfl rfl rfl hn2 ?_
      refine qx_aload_n d_QM_addTasks_20 rfl rfl ?_
      refine qx_getR d_QM_addTasks_21 fR_QM_66 rfl rfl (congrFun hR 42) ?_
      refine qx_aload_n d_QM_addTasks_24 rfl rfl ?_
      refine qx_getI d_QM_addTasks_25 fI_QM_258 rfl rfl (show _ = nI (tN (tAll 0 (fun p => cntB (fun q => aB (decide (q % wc = p)) (fun c => !pu kd 0 (CE c) || xTru (scR tv tn t 0 q) (CE c)) nc) nr) s w)) from rfl) ?_
      refine qx_iload_n d_QM_addTasks_28 rfl rfl ?_
      refine qx_iast d_QM_addTasks_29 rfl rfl rfl rfl hn2 ?_
      refine qx_aload_n d_QM_addTasks_30 rfl rfl ?_
      refine qx_getR d_QM_addTasks_31 fR_QM_69 rfl rfl (congrFun hR 43) ?_
      refine qx_aload_n d_QM_addTasks_34 rfl rfl ?_
      refine qx_getI d_QM_addTasks_35 fI_QM_258 rfl rfl (show _ = nI (tN (tAll 0 (fun p => cntB (fun q => aB (decide (q % wc = p)) (fun c => !pu kd 0 (CE c) || xTru (scR tv tn t 0 q) (CE c)) nc) nr) s w)) from rfl) ?_
      refine qx_iconstN (v := 0) d_QM_addTasks_38 rfl ?_
      refine qx_iast d_QM_addTasks_39 rfl rfl rfl rfl hn2 ?_
      refine qx_aload_n d_QM_addTasks_40 rfl rfl ?_
      refine qx_getR d_QM_addTasks_41 fR_QM_75 rfl rfl (congrFun hR 45) ?_
      refine qx_aload_n d_QM_addTasks_44 rfl rfl ?_
      refine qx_getI d_QM_addTasks_45 fI_QM_258 rfl rfl (show _ = nI (tN (tAll 0 (fun p => cntB (fun q => aB (decide (q % wc = p)) (fun c => !pu kd 0 (CE c) || xTru (scR tv tn t 0 q) (CE c)) nc) nr) s w)) from rfl) ?_
      refine qx_iconst (v := b2i false) d_QM_addTasks_48 rfl ?_
      refine qx_zast d_QM_addTasks_49 rfl rfl rfl rfl hn2 rfl ?_
      refine qx_aload_n d_QM_addTasks_50 rfl rfl ?_
      refine qx_getR d_QM_addTasks_51 fR_QM_78 rfl rfl (congrFun hR 46) ?_
      refine qx_aload_n d_QM_addTasks_54 rfl rfl ?_
      refine qx_getI d_QM_addTasks_55 fI_QM_258 rfl rfl (show _ = nI (tN (tAll 0 (fun p => cntB (fun q => aB (decide (q % wc = p)) (fun c => !pu kd 0 (CE c) || xTru (scR tv tn t 0 q) (CE c)) nc) nr) s w)) from rfl) ?_
      refine qx_iload_n d_QM_addTasks_58 rfl rfl ?_
      refine qx_iconstN (v := 2) d_QM_addTasks_59 rfl ?_
      refine qx_icmp_geN (t := 72) d_QM_addTasks_60 rfl (by omega) (by omega) (fun c60 => absurd c60 (by decide)) (fun c60 => ?_)
      refine qx_eq (h1 := (eR (fR (tR h (va_up (tK (tAll 0 (fun p => cntB (fun q => aB (decide (q % wc = p)) (fun c => !pu kd 0 (CE c) || xTru (scR tv tn t 0 q) (CE c)) nc) nr) s w)) (tN (tAll 0 (fun p => cntB (fun q => aB (decide (q % wc = p)) (fun c => !pu kd 0 (CE c) || xTru (scR tv tn t 0 q) (CE c)) nc) nr) s w)) 0, va_up (tP (tAll 0 (fun p => cntB (fun q => aB (decide (q % wc = p)) (fun c => !pu kd 0 (CE c) || xTru (scR tv tn t 0 q) (CE c)) nc) nr) s w)) (tN (tAll 0 (fun p => cntB (fun q => aB (decide (q % wc = p)) (fun c => !pu kd 0 (CE c) || xTru (scR tv tn t 0 q) (CE c)) nc) nr) s w)) w, va_up (tA (tAll 0 (fun p => cntB (fun q => aB (decide (q % wc = p)) (fun c => !pu kd 0 (CE c) || xTru (scR tv tn t 0 q) (CE c)) nc) nr) s w)) (tN (tAll 0 (fun p => cntB (fun q => aB (decide (q % wc = p)) (fun c => !pu kd 0 (CE c) || xTru (scR tv tn t 0 q) (CE c)) nc) nr) s w)) 0, va_up (tF (tAll 0 (fun p => cntB (fun q => aB (decide (q % wc = p)) (fun c => !pu kd 0 (CE c) || xTru (scR tv tn t 0 q) (CE c)) nc) nr) s w)) (tN (tAll 0 (fun p => cntB (fun q => aB (decide (q % wc = p)) (fun c => !pu kd 0 (CE c) || xTru (scR tv tn t 0 q) (CE c)) nc) nr) s w)) false, tQ (tAll 0 (fun p => cntB (fun q => aB (decide (q % wc = p)) (fun c => !pu kd 0 (CE c) || xTru (scR tv tn t 0 q) (CE c)) nc) nr) s w), tN (tAll 0 (fun p => cntB (fun q => aB (decide (q % wc = p)) (fun c => !pu kd 0 (CE c) || xTru (scR tv tn t 0 q) (CE c)) nc) nr) s w))) hv hb kv kb kp) wk wn)) rfl rfl rfl (by rw [eR_I (by decide), fR_I (by decide) (by decide) (fun e => absurd e (by decide)), tR_k, eR_I (by decide), fR_I (by decide) (by decide) (fun e => absurd e (by decide)), tR_p, eR_I (by decide), fR_I (by decide) (by decide) (fun e => absurd e (by decide)), tR_a, eR_I (by decide), fR_I (by decide) (by decide) (fun e => absurd e (by decide)), tR_f]) ?_
      refine qx_aload_n d_QM_addTasks_63 rfl rfl ?_
      refine qx_iload_n d_QM_addTasks_64 rfl rfl ?_
      refine qx_iload_n d_QM_addTasks_65 rfl rfl ?_
      refine qx_callV (As := [_, _]) (rest := _) d_QM_addTasks_66 lk_QM_261 y_QM_scanRows v_QM_scanRows rfl rfl rfl (by decide) rfl rfl rfl rfl (by decide) (by decide) (ct_QM_scanRows_0 (h := tR h (va_up (tK (tAll 0 (fun p => cntB (fun q => aB (decide (q % wc = p)) (fun c => !pu kd 0 (CE c) || xTru (scR tv tn t 0 q) (CE c)) nc) nr) s w)) (tN (tAll 0 (fun p => cntB (fun q => aB (decide (q % wc = p)) (fun c => !pu kd 0 (CE c) || xTru (scR tv tn t 0 q) (CE c)) nc) nr) s w)) 0, va_up (tP (tAll 0 (fun p => cntB (fun q => aB (decide (q % wc = p)) (fun c => !pu kd 0 (CE c) || xTru (scR tv tn t 0 q) (CE c)) nc) nr) s w)) (tN (tAll 0 (fun p => cntB (fun q => aB (decide (q % wc = p)) (fun c => !pu kd 0 (CE c) || xTru (scR tv tn t 0 q) (CE c)) nc) nr) s w)) w, va_up (tA (tAll 0 (fun p => cntB (fun q => aB (decide (q % wc = p)) (fun c => !pu kd 0 (CE c) || xTru (scR tv tn t 0 q) (CE c)) nc) nr) s w)) (tN (tAll 0 (fun p => cntB (fun q => aB (decide (q % wc = p)) (fun c => !pu kd 0 (CE c) || xTru (scR tv tn t 0 q) (CE c)) nc) nr) s w)) 0, va_up (tF (tAll 0 (fun p => cntB (fun q => aB (decide (q % wc = p)) (fun c => !pu kd 0 (CE c) || xTru (scR tv tn t 0 q) (CE c)) nc) nr) s w)) (tN (tAll 0 (fun p => cntB (fun q => aB (decide (q % wc = p)) (fun c => !pu kd 0 (CE c) || xTru (scR tv tn t 0 q) (CE c)) nc) nr) s w)) false, tQ (tAll 0 (fun p => cntB (fun q => aB (decide (q % wc = p)) (fun c => !pu kd 0 (CE c) || xTru (scR tv tn t 0 q) (CE c)) nc) nr) s w), tN (tAll 0 (fun p => cntB (fun q => aB (decide (q % wc = p)) (fun c => !pu kd 0 (CE c) || xTru (scR tv tn t 0 q) (CE c)) nc) nr) s w))) hR hv hb kv kb kp wk wn tv tn htv nc hnc6 hnc CE hce wc h1w hw4 hwk kd hk3 hkd t ht3 ht nr hnr hr w (by omega)) ?_
      rintro _ _ _ ⟨rfl, ⟨hv1, hb1, wk1, wn1, rfl⟩, rfl⟩
      refine qx_goto (t := 90) d_QM_addTasks_69 rfl ?_
      refine qx_iast d_QM_addTasks_90 rfl rfl rfl rfl hn2 ?_
      refine qx_aload_n d_QM_addTasks_91 rfl rfl ?_
      refine qx_dup d_QM_addTasks_92 rfl ?_
      refine qx_getI d_QM_addTasks_93 fI_QM_258 rfl rfl (show _ = nI (tN (tAll 0 (fun p => cntB (fun q => aB (decide (q % wc = p)) (fun c => !pu kd 0 (CE c) || xTru (scR tv tn t 0 q) (CE c)) nc) nr) s w)) from rfl) ?_
      refine qx_iconstN (v := 1) d_QM_addTasks_96 rfl ?_
      refine qx_iaddN d_QM_addTasks_97 ?_
      refine qx_putI d_QM_addTasks_98 fI_QM_258 rfl rfl ⟨rfl, rfl⟩ ?_
      refine qx_iincN (w := 1) (lv1 := [_, _, _]) d_QM_addTasks_101 rfl rfl (by decide) rfl ?_
      refine qx_goto (t := 2) d_QM_addTasks_104 rfl ?_
      refine qx_eq rfl rfl rfl ?_ (ih (w + 1) hv1 hb1 wk1 wn1 (by omega))
      rw [eR_I (by decide), fR_I (by decide) (by decide) (fun e => absurd e (by decide)), tR_q, eR_I (by decide), fR_I (by decide) (by decide) (fun _ => by decide), tR_n]
      rfl
  refine qx_iconstN (v := 0) d_QM_addTasks_0 rfl ?_
  refine qx_istore_n (lv1 := [_, _, _]) d_QM_addTasks_1 rfl (by decide) rfl ?_
  exact key wc 0 hv hb wk wn (by omega)
set_option maxRecDepth 100000 in
set_option maxHeartbeats 4000000 in
theorem ct_QM_addTasks_1 {h : qH} (hR : h.2.2 122 = qRQM) (hv : Nat → Int64) (hb : Nat → Bool) (kv : Nat → Int64) (kb : Nat → Bool) (kp : Nat) (wk : Nat → Int64) (wn : Nat → Int32) (tv : Nat → Int64) (tn : Nat → Bool) (htv : ∀ k, k < 72 → h.2.1 124 k = tv k ∧ h.1 125 k = b2i (tn k)) (nc : Nat) (hnc6 : nc ≤ 6) (hnc : h.1 122 14 = nI nc) (CE : Nat → List xP) (hce : ∀ c, c < nc → (CE c).length ≤ 24 ∧ h.1 128 (8 + c) = nI (CE c).length ∧ rExp (h.1 126) (h.2.1 127) (24 * (8 + c)) (CE c) ∧ xT 8 [] (CE c) = some [true]) (wc : Nat) (h1w : 1 ≤ wc) (hw4 : wc ≤ 4) (hwk : h.1 122 38 = nI wc) (kd : Nat) (hk3 : kd < 3) (hkd : h.1 122 4 = nI kd) (t : Nat) (ht3 : t < 3) (ht : h.1 122 6 = nI t) (nr : Nat) (hnr : nr ≤ 12) (hr : h.1 123 t = nI nr) (s : sT) (hs16 : tN s + wc ≤ 16) : qT mi_QM_addTasks 5 0 0 [.ref 122, .int (nI 1)] (eR (fR (tR h s) hv hb kv kb kp) wk wn) NN (fun v1 h1 n1 => v1 = none ∧ (∃ hv1 hb1 wk1 wn1, h1 = eR (fR (tR h (tAll 1 (fun p => cntB (fun q => aB (decide (q % wc = p)) (fun c => !pu kd 1 (CE c) || xTru (scR tv tn t 1 q) (CE c)) nc) nr) s wc)) hv1 hb1 kv kb kp) wk1 wn1) ∧ n1 = NN) := by
  refine qT.of (lv0 := [_, _, _]) (by decide +kernel) (fun _ _ => Nat.le_of_ble_eq_true rfl) rfl ?_
  have key : ∀ (m w : Nat) (hv : Nat → Int64) (hb : Nat → Bool) (wk : Nat → Int64) (wn : Nat → Int32), w + m = wc → qX mi_QM_addTasks 5 none 0 0 2 [.ref 122, .int (nI 1), .int (nI w)] [] (eR (fR (tR h (tAll 1 (fun p => cntB (fun q => aB (decide (q % wc = p)) (fun c => !pu kd 1 (CE c) || xTru (scR tv tn t 1 q) (CE c)) nc) nr) s w)) hv hb kv kb kp) wk wn) NN 0 0 (fun v1 h1 n1 => v1 = none ∧ (∃ hv1 hb1 wk1 wn1, h1 = eR (fR (tR h (tAll 1 (fun p => cntB (fun q => aB (decide (q % wc = p)) (fun c => !pu kd 1 (CE c) || xTru (scR tv tn t 1 q) (CE c)) nc) nr) s wc)) hv1 hb1 kv kb kp) wk1 wn1) ∧ n1 = NN) := by
    intro m
    induction m with
    | zero =>
      intro w hv hb wk wn hw
      have e : w = wc := by omega
      subst e
      refine qx_iload_n d_QM_addTasks_2 rfl rfl ?_
      refine qx_aload_n d_QM_addTasks_3 rfl rfl ?_
      refine qx_getI d_QM_addTasks_4 fI_QM_248 rfl rfl hwk ?_
      refine qx_icmp_geN (t := 107) d_QM_addTasks_7 rfl (by omega) (by omega) (fun c7 => ?_) (fun c7 => absurd c7 (by omega))
      exact qx_ret d_QM_addTasks_107 rfl (by omega) (by omega) ⟨rfl, ⟨hv, hb, wk, wn, rfl⟩, rfl⟩
    | succ m ih =>
      intro w hv hb wk wn hw
      have hn := tAll_n 1 (fun p => cntB (fun q => aB (decide (q % wc = p)) (fun c => !pu kd 1 (CE c) || xTru (scR tv tn t 1 q) (CE c)) nc) nr) s w
      have hn2 : tN (tAll 1 (fun p => cntB (fun q => aB (decide (q % wc = p)) (fun c => !pu kd 1 (CE c) || xTru (scR tv tn t 1 q) (CE c)) nc) nr) s w) < 16 := by omega
      refine qx_iload_n d_QM_addTasks_2 rfl rfl ?_
      refine qx_aload_n d_QM_addTasks_3 rfl rfl ?_
      refine qx_getI d_QM_addTasks_4 fI_QM_248 rfl rfl hwk ?_
      refine qx_icmp_geN (t := 107) d_QM_addTasks_7 rfl (by omega) (by omega) (fun c7 => absurd c7 (by omega)) (fun c7 => ?_)
      refine qx_aload_n d_QM_addTasks_10 rfl rfl ?_
      refine qx_getR d_QM_addTasks_11 fR_QM_63 rfl rfl (congrFun hR 41) ?_
      refine qx_aload_n d_QM_addTasks_14 rfl rfl ?_
      refine qx_getI d_QM_addTasks_15 fI_QM_258 rfl rfl (show _ = nI (tN (tAll 1 (fun p => cntB (fun q => aB (decide (q % wc = p)) (fun c => !pu kd 1 (CE c) || xTru (scR tv tn t 1 q) (CE c)) nc) nr) s w)) from rfl) ?_
      refine qx_iload_n d_QM_addTasks_18 rfl rfl ?_
      refine qx_iast d_QM_addTasks_19 rfl rfl rfl rfl hn2 ?_
      refine qx_aload_n d_QM_addTasks_20 rfl rfl ?_
      refine qx_getR d_QM_addTasks_21 fR_QM_66 rfl rfl (congrFun hR 42) ?_
      refine qx_aload_n d_QM_addTasks_24 rfl rfl ?_
      refine qx_getI d_QM_addTasks_25 fI_QM_258 rfl rfl (show _ = nI (tN (tAll 1 (fun p => cntB (fun q => aB (decide (q % wc = p)) (fun c => !pu kd 1 (CE c) || xTru (scR tv tn t 1 q) (CE c)) nc) nr) s w)) from rfl) ?_
      refine qx_iload_n d_QM_addTasks_28 rfl rfl ?_
      refine qx_iast d_QM_addTasks_29 rfl rfl rfl rfl hn2 ?_
      refine qx_aload_n d_QM_addTasks_30 rfl rfl ?_
      refine qx_getR d_QM_addTasks_31 fR_QM_69 rfl rfl (congrFun hR 43) ?_
      refine qx_aload_n d_QM_addTasks_34 rfl rfl ?_
      refine qx_getI d_QM_addTasks_35 fI_QM_258 rfl rfl (show _ = nI (tN (tAll 1 (fun p => cntB (fun q => aB (decide (q % wc = p)) (fun c => !pu kd 1 (CE c) || xTru (scR tv tn t 1 q) (CE c)) nc) nr) s w)) from rfl) ?_
      refine qx_iconstN (v := 0) d_QM_addTasks_38 rfl ?_
      refine qx_iast d_QM_addTasks_39 rfl rfl rfl rfl hn2 ?_
      refine qx_aload_n d_QM_addTasks_40 rfl rfl ?_
      refine qx_getR d_QM_addTasks_41 fR_QM_75 rfl rfl (congrFun hR 45) ?_
      refine qx_aload_n d_QM_addTasks_44 rfl rfl ?_
      refine qx_getI d_QM_addTasks_45 fI_QM_258 rfl rfl (show _ = nI (tN (tAll 1 (fun p => cntB (fun q => aB (decide (q % wc = p)) (fun c => !pu kd 1 (CE c) || xTru (scR tv tn t 1 q) (CE c)) nc) nr) s w)) from rfl) ?_
      refine qx_iconst (v := b2i false) d_QM_addTasks_48 rfl ?_
      refine qx_zast d_QM_addTasks_49 rfl rfl rfl rfl hn2 rfl ?_
      refine qx_aload_n d_QM_addTasks_50 rfl rfl ?_
      refine qx_getR d_QM_addTasks_51 fR_QM_78 rfl rfl (congrFun hR 46) ?_
      refine qx_aload_n d_QM_addTasks_54 rfl rfl ?_
      refine qx_getI d_QM_addTasks_55 fI_QM_258 rfl rfl (show _ = nI (tN (tAll 1 (fun p => cntB (fun q => aB (decide (q % wc = p)) (fun c => !pu kd 1 (CE c) || xTru (scR tv tn t 1 q) (CE c)) nc) nr) s w)) from rfl) ?_
      refine qx_iload_n d_QM_addTasks_58 rfl rfl ?_
      refine qx_iconstN (v := 2) d_QM_addTasks_59 rfl ?_
      refine qx_icmp_geN (t := 72) d_QM_addTasks_60 rfl (by omega) (by omega) (fun c60 => absurd c60 (by decide)) (fun c60 => ?_)
      refine qx_eq (h1 := (eR (fR (tR h (va_up (tK (tAll 1 (fun p => cntB (fun q => aB (decide (q % wc = p)) (fun c => !pu kd 1 (CE c) || xTru (scR tv tn t 1 q) (CE c)) nc) nr) s w)) (tN (tAll 1 (fun p => cntB (fun q => aB (decide (q % wc = p)) (fun c => !pu kd 1 (CE c) || xTru (scR tv tn t 1 q) (CE c)) nc) nr) s w)) 1, va_up (tP (tAll 1 (fun p => cntB (fun q => aB (decide (q % wc = p)) (fun c => !pu kd 1 (CE c) || xTru (scR tv tn t 1 q) (CE c)) nc) nr) s w)) (tN (tAll 1 (fun p => cntB (fun q => aB (decide (q % wc = p)) (fun c => !pu kd 1 (CE c) || xTru (scR tv tn t 1 q) (CE c)) nc) nr) s w)) w, va_up (tA (tAll 1 (fun p => cntB (fun q => aB (decide (q % wc = p)) (fun c => !pu kd 1 (CE c) || xTru (scR tv tn t 1 q) (CE c)) nc) nr) s w)) (tN (tAll 1 (fun p => cntB (fun q => aB (decide (q % wc = p)) (fun c => !pu kd 1 (CE c) || xTru (scR tv tn t 1 q) (CE c)) nc) nr) s w)) 0, va_up (tF (tAll 1 (fun p => cntB (fun q => aB (decide (q % wc = p)) (fun c => !pu kd 1 (CE c) || xTru (scR tv tn t 1 q) (CE c)) nc) nr) s w)) (tN (tAll 1 (fun p => cntB (fun q => aB (decide (q % wc = p)) (fun c => !pu kd 1 (CE c) || xTru (scR tv tn t 1 q) (CE c)) nc) nr) s w)) false, tQ (tAll 1 (fun p => cntB (fun q => aB (decide (q % wc = p)) (fun c => !pu kd 1 (CE c) || xTru (scR tv tn t 1 q) (CE c)) nc) nr) s w), tN (tAll 1 (fun p => cntB (fun q => aB (decide (q % wc = p)) (fun c => !pu kd 1 (CE c) || xTru (scR tv tn t 1 q) (CE c)) nc) nr) s w))) hv hb kv kb kp) wk wn)) rfl rfl rfl (by rw [eR_I (by decide), fR_I (by decide) (by decide) (fun e => absurd e (by decide)), tR_k, eR_I (by decide), fR_I (by decide) (by decide) (fun e => absurd e (by decide)), tR_p, eR_I (by decide), fR_I (by decide) (by decide) (fun e => absurd e (by decide)), tR_a, eR_I (by decide), fR_I (by decide) (by decide) (fun e => absurd e (by decide)), tR_f]) ?_
      refine qx_aload_n d_QM_addTasks_63 rfl rfl ?_
      refine qx_iload_n d_QM_addTasks_64 rfl rfl ?_
      refine qx_iload_n d_QM_addTasks_65 rfl rfl ?_
      refine qx_callV (As := [_, _]) (rest := _) d_QM_addTasks_66 lk_QM_261 y_QM_scanRows v_QM_scanRows rfl rfl rfl (by decide) rfl rfl rfl rfl (by decide) (by decide) (ct_QM_scanRows_1 (h := tR h (va_up (tK (tAll 1 (fun p => cntB (fun q => aB (decide (q % wc = p)) (fun c => !pu kd 1 (CE c) || xTru (scR tv tn t 1 q) (CE c)) nc) nr) s w)) (tN (tAll 1 (fun p => cntB (fun q => aB (decide (q % wc = p)) (fun c => !pu kd 1 (CE c) || xTru (scR tv tn t 1 q) (CE c)) nc) nr) s w)) 1, va_up (tP (tAll 1 (fun p => cntB (fun q => aB (decide (q % wc = p)) (fun c => !pu kd 1 (CE c) || xTru (scR tv tn t 1 q) (CE c)) nc) nr) s w)) (tN (tAll 1 (fun p => cntB (fun q => aB (decide (q % wc = p)) (fun c => !pu kd 1 (CE c) || xTru (scR tv tn t 1 q) (CE c)) nc) nr) s w)) w, va_up (tA (tAll 1 (fun p => cntB (fun q => aB (decide (q % wc = p)) (fun c => !pu kd 1 (CE c) || xTru (scR tv tn t 1 q) (CE c)) nc) nr) s w)) (tN (tAll 1 (fun p => cntB (fun q => aB (decide (q % wc = p)) (fun c => !pu kd 1 (CE c) || xTru (scR tv tn t 1 q) (CE c)) nc) nr) s w)) 0, va_up (tF (tAll 1 (fun p => cntB (fun q => aB (decide (q % wc = p)) (fun c => !pu kd 1 (CE c) || xTru (scR tv tn t 1 q) (CE c)) nc) nr) s w)) (tN (tAll 1 (fun p => cntB (fun q => aB (decide (q % wc = p)) (fun c => !pu kd 1 (CE c) || xTru (scR tv tn t 1 q) (CE c)) nc) nr) s w)) false, tQ (tAll 1 (fun p => cntB (fun q => aB (decide (q % wc = p)) (fun c => !pu kd 1 (CE c) || xTru (scR tv tn t 1 q) (CE c)) nc) nr) s w), tN (tAll 1 (fun p => cntB (fun q => aB (decide (q % wc = p)) (fun c => !pu kd 1 (CE c) || xTru (scR tv tn t 1 q) (CE c)) nc) nr) s w))) hR hv hb kv kb kp wk wn tv tn htv nc hnc6 hnc CE hce wc h1w hw4 hwk kd hk3 hkd t ht3 ht nr hnr hr w (by omega)) ?_
      rintro _ _ _ ⟨rfl, ⟨hv1, hb1, wk1, wn1, rfl⟩, rfl⟩
      refine qx_goto (t := 90) d_QM_addTasks_69 rfl ?_
      refine qx_iast d_QM_addTasks_90 rfl rfl rfl rfl hn2 ?_
      refine qx_aload_n d_QM_addTasks_91 rfl rfl ?_
      refine qx_dup d_QM_addTasks_92 rfl ?_
      refine qx_getI d_QM_addTasks_93 fI_QM_258 rfl rfl (show _ = nI (tN (tAll 1 (fun p => cntB (fun q => aB (decide (q % wc = p)) (fun c => !pu kd 1 (CE c) || xTru (scR tv tn t 1 q) (CE c)) nc) nr) s w)) from rfl) ?_
      refine qx_iconstN (v := 1) d_QM_addTasks_96 rfl ?_
      refine qx_iaddN d_QM_addTasks_97 ?_
      refine qx_putI d_QM_addTasks_98 fI_QM_258 rfl rfl ⟨rfl, rfl⟩ ?_
      refine qx_iincN (w := 1) (lv1 := [_, _, _]) d_QM_addTasks_101 rfl rfl (by decide) rfl ?_
      refine qx_goto (t := 2) d_QM_addTasks_104 rfl ?_
      refine qx_eq rfl rfl rfl ?_ (ih (w + 1) hv1 hb1 wk1 wn1 (by omega))
      rw [eR_I (by decide), fR_I (by decide) (by decide) (fun e => absurd e (by decide)), tR_q, eR_I (by decide), fR_I (by decide) (by decide) (fun _ => by decide), tR_n]
      rfl
  refine qx_iconstN (v := 0) d_QM_addTasks_0 rfl ?_
  refine qx_istore_n (lv1 := [_, _, _]) d_QM_addTasks_1 rfl (by decide) rfl ?_
  exact key wc 0 hv hb wk wn (by omega)
set_option maxRecDepth 100000 in
set_option maxHeartbeats 4000000 in
theorem ct_QM_addTasks_2 {h : qH} (hR : h.2.2 122 = qRQM) (hv : Nat → Int64) (hb : Nat → Bool) (kv : Nat → Int64) (kb : Nat → Bool) (kp : Nat) (wk : Nat → Int64) (wn : Nat → Int32) (wc : Nat) (h1w : 1 ≤ wc) (hw4 : wc ≤ 4) (hwk : h.1 122 38 = nI wc) (le : Nat) (hle2 : le < 2) (hle : h.1 122 7 = nI le) (hkp : kp ≤ 144) (s : sT) (hs16 : tN s + wc ≤ 16) : qT mi_QM_addTasks 5 0 0 [.ref 122, .int (nI 2)] (eR (fR (tR h s) hv hb kv kb kp) wk wn) NN (fun v1 h1 n1 => v1 = none ∧ (∃ hv1 hb1 wk1 wn1, h1 = eR (fR (tR h (tAll 2 (fun p => cntB (fun k => decide (pOf wc (kCell kv kb k le) = p)) kp) s wc)) hv1 hb1 kv kb kp) wk1 wn1) ∧ n1 = NN) := by
  refine qT.of (lv0 := [_, _, _]) (by decide +kernel) (fun _ _ => Nat.le_of_ble_eq_true rfl) rfl ?_
  have key : ∀ (m w : Nat) (hv : Nat → Int64) (hb : Nat → Bool) (wk : Nat → Int64) (wn : Nat → Int32), w + m = wc → qX mi_QM_addTasks 5 none 0 0 2 [.ref 122, .int (nI 2), .int (nI w)] [] (eR (fR (tR h (tAll 2 (fun p => cntB (fun k => decide (pOf wc (kCell kv kb k le) = p)) kp) s w)) hv hb kv kb kp) wk wn) NN 0 0 (fun v1 h1 n1 => v1 = none ∧ (∃ hv1 hb1 wk1 wn1, h1 = eR (fR (tR h (tAll 2 (fun p => cntB (fun k => decide (pOf wc (kCell kv kb k le) = p)) kp) s wc)) hv1 hb1 kv kb kp) wk1 wn1) ∧ n1 = NN) := by
    intro m
    induction m with
    | zero =>
      intro w hv hb wk wn hw
      have e : w = wc := by omega
      subst e
      refine qx_iload_n d_QM_addTasks_2 rfl rfl ?_
      refine qx_aload_n d_QM_addTasks_3 rfl rfl ?_
      refine qx_getI d_QM_addTasks_4 fI_QM_248 rfl rfl hwk ?_
      refine qx_icmp_geN (t := 107) d_QM_addTasks_7 rfl (by omega) (by omega) (fun c7 => ?_) (fun c7 => absurd c7 (by omega))
      exact qx_ret d_QM_addTasks_107 rfl (by omega) (by omega) ⟨rfl, ⟨hv, hb, wk, wn, rfl⟩, rfl⟩
    | succ m ih =>
      intro w hv hb wk wn hw
      have hn := tAll_n 2 (fun p => cntB (fun k => decide (pOf wc (kCell kv kb k le) = p)) kp) s w
      have hn2 : tN (tAll 2 (fun p => cntB (fun k => decide (pOf wc (kCell kv kb k le) = p)) kp) s w) < 16 := by omega
      refine qx_iload_n d_QM_addTasks_2 rfl rfl ?_
      refine qx_aload_n d_QM_addTasks_3 rfl rfl ?_
      refine qx_getI d_QM_addTasks_4 fI_QM_248 rfl rfl hwk ?_
      refine qx_icmp_geN (t := 107) d_QM_addTasks_7 rfl (by omega) (by omega) (fun c7 => absurd c7 (by omega)) (fun c7 => ?_)
      refine qx_aload_n d_QM_addTasks_10 rfl rfl ?_
      refine qx_getR d_QM_addTasks_11 fR_QM_63 rfl rfl (congrFun hR 41) ?_
      refine qx_aload_n d_QM_addTasks_14 rfl rfl ?_
      refine qx_getI d_QM_addTasks_15 fI_QM_258 rfl rfl (show _ = nI (tN (tAll 2 (fun p => cntB (fun k => decide (pOf wc (kCell kv kb k le) = p)) kp) s w)) from rfl) ?_
      refine qx_iload_n d_QM_addTasks_18 rfl rfl ?_
      refine qx_iast d_QM_addTasks_19 rfl rfl rfl rfl hn2 ?_
      refine qx_aload_n d_QM_addTasks_20 rfl rfl ?_
      refine qx_getR d_QM_addTasks_21 fR_QM_66 rfl rfl (congrFun hR 42) ?_
      refine qx_aload_n d_QM_addTasks_24 rfl rfl ?_
      refine qx_getI d_QM_addTasks_25 fI_QM_258 rfl rfl (show _ = nI (tN (tAll 2 (fun p => cntB (fun k => decide (pOf wc (kCell kv kb k le) = p)) kp) s w)) from rfl) ?_
      refine qx_iload_n d_QM_addTasks_28 rfl rfl ?_
      refine qx_iast d_QM_addTasks_29 rfl rfl rfl rfl hn2 ?_
      refine qx_aload_n d_QM_addTasks_30 rfl rfl ?_
      refine qx_getR d_QM_addTasks_31 fR_QM_69 rfl rfl (congrFun hR 43) ?_
      refine qx_aload_n d_QM_addTasks_34 rfl rfl ?_
      refine qx_getI d_QM_addTasks_35 fI_QM_258 rfl rfl (show _ = nI (tN (tAll 2 (fun p => cntB (fun k => decide (pOf wc (kCell kv kb k le) = p)) kp) s w)) from rfl) ?_
      refine qx_iconstN (v := 0) d_QM_addTasks_38 rfl ?_
      refine qx_iast d_QM_addTasks_39 rfl rfl rfl rfl hn2 ?_
      refine qx_aload_n d_QM_addTasks_40 rfl rfl ?_
      refine qx_getR d_QM_addTasks_41 fR_QM_75 rfl rfl (congrFun hR 45) ?_
      refine qx_aload_n d_QM_addTasks_44 rfl rfl ?_
      refine qx_getI d_QM_addTasks_45 fI_QM_258 rfl rfl (show _ = nI (tN (tAll 2 (fun p => cntB (fun k => decide (pOf wc (kCell kv kb k le) = p)) kp) s w)) from rfl) ?_
      refine qx_iconst (v := b2i false) d_QM_addTasks_48 rfl ?_
      refine qx_zast d_QM_addTasks_49 rfl rfl rfl rfl hn2 rfl ?_
      refine qx_aload_n d_QM_addTasks_50 rfl rfl ?_
      refine qx_getR d_QM_addTasks_51 fR_QM_78 rfl rfl (congrFun hR 46) ?_
      refine qx_aload_n d_QM_addTasks_54 rfl rfl ?_
      refine qx_getI d_QM_addTasks_55 fI_QM_258 rfl rfl (show _ = nI (tN (tAll 2 (fun p => cntB (fun k => decide (pOf wc (kCell kv kb k le) = p)) kp) s w)) from rfl) ?_
      refine qx_iload_n d_QM_addTasks_58 rfl rfl ?_
      refine qx_iconstN (v := 2) d_QM_addTasks_59 rfl ?_
      refine qx_icmp_geN (t := 72) d_QM_addTasks_60 rfl (by omega) (by omega) (fun c60 => ?_) (fun c60 => absurd c60 (by decide))
      refine qx_iload_n d_QM_addTasks_72 rfl rfl ?_
      refine qx_iconstN (v := 2) d_QM_addTasks_73 rfl ?_
      refine qx_icmp_neN (t := 85) d_QM_addTasks_74 rfl (by omega) (by omega) (fun c74 => absurd rfl c74) (fun c74 => ?_)
      refine qx_eq (h1 := (eR (fR (tR h (va_up (tK (tAll 2 (fun p => cntB (fun k => decide (pOf wc (kCell kv kb k le) = p)) kp) s w)) (tN (tAll 2 (fun p => cntB (fun k => decide (pOf wc (kCell kv kb k le) = p)) kp) s w)) 2, va_up (tP (tAll 2 (fun p => cntB (fun k => decide (pOf wc (kCell kv kb k le) = p)) kp) s w)) (tN (tAll 2 (fun p => cntB (fun k => decide (pOf wc (kCell kv kb k le) = p)) kp) s w)) w, va_up (tA (tAll 2 (fun p => cntB (fun k => decide (pOf wc (kCell kv kb k le) = p)) kp) s w)) (tN (tAll 2 (fun p => cntB (fun k => decide (pOf wc (kCell kv kb k le) = p)) kp) s w)) 0, va_up (tF (tAll 2 (fun p => cntB (fun k => decide (pOf wc (kCell kv kb k le) = p)) kp) s w)) (tN (tAll 2 (fun p => cntB (fun k => decide (pOf wc (kCell kv kb k le) = p)) kp) s w)) false, tQ (tAll 2 (fun p => cntB (fun k => decide (pOf wc (kCell kv kb k le) = p)) kp) s w), tN (tAll 2 (fun p => cntB (fun k => decide (pOf wc (kCell kv kb k le) = p)) kp) s w))) hv hb kv kb kp) wk wn)) rfl rfl rfl (by rw [eR_I (by decide), fR_I (by decide) (by decide) (fun e => absurd e (by decide)), tR_k, eR_I (by decide), fR_I (by decide) (by decide) (fun e => absurd e (by decide)), tR_p, eR_I (by decide), fR_I (by decide) (by decide) (fun e => absurd e (by decide)), tR_a, eR_I (by decide), fR_I (by decide) (by decide) (fun e => absurd e (by decide)), tR_f]) ?_
      refine qx_aload_n d_QM_addTasks_77 rfl rfl ?_
      refine qx_iload_n d_QM_addTasks_78 rfl rfl ?_
      refine qx_callV (As := [_]) (rest := _) d_QM_addTasks_79 lk_QM_265 y_QM_joinRows v_QM_joinRows rfl rfl rfl (by decide) rfl rfl rfl rfl (by decide) (by decide) (ct_QM_joinRows (h := tR h (va_up (tK (tAll 2 (fun p => cntB (fun k => decide (pOf wc (kCell kv kb k le) = p)) kp) s w)) (tN (tAll 2 (fun p => cntB (fun k => decide (pOf wc (kCell kv kb k le) = p)) kp) s w)) 2, va_up (tP (tAll 2 (fun p => cntB (fun k => decide (pOf wc (kCell kv kb k le) = p)) kp) s w)) (tN (tAll 2 (fun p => cntB (fun k => decide (pOf wc (kCell kv kb k le) = p)) kp) s w)) w, va_up (tA (tAll 2 (fun p => cntB (fun k => decide (pOf wc (kCell kv kb k le) = p)) kp) s w)) (tN (tAll 2 (fun p => cntB (fun k => decide (pOf wc (kCell kv kb k le) = p)) kp) s w)) 0, va_up (tF (tAll 2 (fun p => cntB (fun k => decide (pOf wc (kCell kv kb k le) = p)) kp) s w)) (tN (tAll 2 (fun p => cntB (fun k => decide (pOf wc (kCell kv kb k le) = p)) kp) s w)) false, tQ (tAll 2 (fun p => cntB (fun k => decide (pOf wc (kCell kv kb k le) = p)) kp) s w), tN (tAll 2 (fun p => cntB (fun k => decide (pOf wc (kCell kv kb k le) = p)) kp) s w))) hR hv hb kv kb kp wk wn wc h1w hw4 hwk le hle2 hle w (by omega) hkp) ?_
      rintro _ _ _ ⟨rfl, rfl, rfl⟩
      refine qx_goto (t := 90) d_QM_addTasks_82 rfl ?_
      refine qx_iast d_QM_addTasks_90 rfl rfl rfl rfl hn2 ?_
      refine qx_aload_n d_QM_addTasks_91 rfl rfl ?_
      refine qx_dup d_QM_addTasks_92 rfl ?_
      refine qx_getI d_QM_addTasks_93 fI_QM_258 rfl rfl (show _ = nI (tN (tAll 2 (fun p => cntB (fun k => decide (pOf wc (kCell kv kb k le) = p)) kp) s w)) from rfl) ?_
      refine qx_iconstN (v := 1) d_QM_addTasks_96 rfl ?_
      refine qx_iaddN d_QM_addTasks_97 ?_
      refine qx_putI d_QM_addTasks_98 fI_QM_258 rfl rfl ⟨rfl, rfl⟩ ?_
      refine qx_iincN (w := 1) (lv1 := [_, _, _]) d_QM_addTasks_101 rfl rfl (by decide) rfl ?_
      refine qx_goto (t := 2) d_QM_addTasks_104 rfl ?_
      refine qx_eq rfl rfl rfl ?_ (ih (w + 1) hv hb wk wn (by omega))
      rw [eR_I (by decide), fR_I (by decide) (by decide) (fun e => absurd e (by decide)), tR_q, eR_I (by decide), fR_I (by decide) (by decide) (fun _ => by decide), tR_n]
      rfl
  refine qx_iconstN (v := 0) d_QM_addTasks_0 rfl ?_
  refine qx_istore_n (lv1 := [_, _, _]) d_QM_addTasks_1 rfl (by decide) rfl ?_
  exact key wc 0 hv hb wk wn (by omega)
set_option maxRecDepth 100000 in
set_option maxHeartbeats 4000000 in
theorem ct_QM_addTasks_3n {h : qH} (hR : h.2.2 122 = qRQM) (hv : Nat → Int64) (hb : Nat → Bool) (kv : Nat → Int64) (kb : Nat → Bool) (kp : Nat) (wk : Nat → Int64) (wn : Nat → Int32) (wc : Nat) (h1w : 1 ≤ wc) (hw4 : wc ≤ 4) (hwk : h.1 122 38 = nI wc) (hgr : h.1 122 9 = -1) (s : sT) (hs16 : tN s + wc ≤ 16) : qT mi_QM_addTasks 5 0 0 [.ref 122, .int (nI 3)] (eR (fR (tR h s) hv hb kv kb kp) wk wn) NN (fun v1 h1 n1 => v1 = none ∧ (∃ hv1 hb1 wk1 wn1, h1 = eR (fR (tR h (tAll 3 (fun p => if p = 0 then 1 else 0) s wc)) hv1 hb1 kv kb kp) wk1 wn1) ∧ n1 = NN) := by
  refine qT.of (lv0 := [_, _, _]) (by decide +kernel) (fun _ _ => Nat.le_of_ble_eq_true rfl) rfl ?_
  have key : ∀ (m w : Nat) (hv : Nat → Int64) (hb : Nat → Bool) (wk : Nat → Int64) (wn : Nat → Int32), w + m = wc → qX mi_QM_addTasks 5 none 0 0 2 [.ref 122, .int (nI 3), .int (nI w)] [] (eR (fR (tR h (tAll 3 (fun p => if p = 0 then 1 else 0) s w)) hv hb kv kb kp) wk wn) NN 0 0 (fun v1 h1 n1 => v1 = none ∧ (∃ hv1 hb1 wk1 wn1, h1 = eR (fR (tR h (tAll 3 (fun p => if p = 0 then 1 else 0) s wc)) hv1 hb1 kv kb kp) wk1 wn1) ∧ n1 = NN) := by
    intro m
    induction m with
    | zero =>
      intro w hv hb wk wn hw
      have e : w = wc := by omega
      subst e
      refine qx_iload_n d_QM_addTasks_2 rfl rfl ?_
      refine qx_aload_n d_QM_addTasks_3 rfl rfl ?_
      refine qx_getI d_QM_addTasks_4 fI_QM_248 rfl rfl hwk ?_
      refine qx_icmp_geN (t := 107) d_QM_addTasks_7 rfl (by omega) (by omega) (fun c7 => ?_) (fun c7 => absurd c7 (by omega))
      exact qx_ret d_QM_addTasks_107 rfl (by omega) (by omega) ⟨rfl, ⟨hv, hb, wk, wn, rfl⟩, rfl⟩
    | succ m ih =>
      intro w hv hb wk wn hw
      have hn := tAll_n 3 (fun p => if p = 0 then 1 else 0) s w
      have hn2 : tN (tAll 3 (fun p => if p = 0 then 1 else 0) s w) < 16 := by omega
      refine qx_iload_n d_QM_addTasks_2 rfl rfl ?_
      refine qx_aload_n d_QM_addTasks_3 rfl rfl ?_
      refine qx_getI d_QM_addTasks_4 fI_QM_248 rfl rfl hwk ?_
      refine qx_icmp_geN (t := 107) d_QM_addTasks_7 rfl (by omega) (by omega) (fun c7 => absurd c7 (by omega)) (fun c7 => ?_)
      refine qx_aload_n d_QM_addTasks_10 rfl rfl ?_
      refine qx_getR d_QM_addTasks_11 fR_QM_63 rfl rfl (congrFun hR 41) ?_
      refine qx_aload_n d_QM_addTasks_14 rfl rfl ?_
      refine qx_getI d_QM_addTasks_15 fI_QM_258 rfl rfl (show _ = nI (tN (tAll 3 (fun p => if p = 0 then 1 else 0) s w)) from rfl) ?_
      refine qx_iload_n d_QM_addTasks_18 rfl rfl ?_
      refine qx_iast d_QM_addTasks_19 rfl rfl rfl rfl hn2 ?_
      refine qx_aload_n d_QM_addTasks_20 rfl rfl ?_
      refine qx_getR d_QM_addTasks_21 fR_QM_66 rfl rfl (congrFun hR 42) ?_
      refine qx_aload_n d_QM_addTasks_24 rfl rfl ?_
      refine qx_getI d_QM_addTasks_25 fI_QM_258 rfl rfl (show _ = nI (tN (tAll 3 (fun p => if p = 0 then 1 else 0) s w)) from rfl) ?_
      refine qx_iload_n d_QM_addTasks_28 rfl rfl ?_
      refine qx_iast d_QM_addTasks_29 rfl rfl rfl rfl hn2 ?_
      refine qx_aload_n d_QM_addTasks_30 rfl rfl ?_
      refine qx_getR d_QM_addTasks_31 fR_QM_69 rfl rfl (congrFun hR 43) ?_
      refine qx_aload_n d_QM_addTasks_34 rfl rfl ?_
      refine qx_getI d_QM_addTasks_35 fI_QM_258 rfl rfl (show _ = nI (tN (tAll 3 (fun p => if p = 0 then 1 else 0) s w)) from rfl) ?_
      refine qx_iconstN (v := 0) d_QM_addTasks_38 rfl ?_
      refine qx_iast d_QM_addTasks_39 rfl rfl rfl rfl hn2 ?_
      refine qx_aload_n d_QM_addTasks_40 rfl rfl ?_
      refine qx_getR d_QM_addTasks_41 fR_QM_75 rfl rfl (congrFun hR 45) ?_
      refine qx_aload_n d_QM_addTasks_44 rfl rfl ?_
      refine qx_getI d_QM_addTasks_45 fI_QM_258 rfl rfl (show _ = nI (tN (tAll 3 (fun p => if p = 0 then 1 else 0) s w)) from rfl) ?_
      refine qx_iconst (v := b2i false) d_QM_addTasks_48 rfl ?_
      refine qx_zast d_QM_addTasks_49 rfl rfl rfl rfl hn2 rfl ?_
      refine qx_aload_n d_QM_addTasks_50 rfl rfl ?_
      refine qx_getR d_QM_addTasks_51 fR_QM_78 rfl rfl (congrFun hR 46) ?_
      refine qx_aload_n d_QM_addTasks_54 rfl rfl ?_
      refine qx_getI d_QM_addTasks_55 fI_QM_258 rfl rfl (show _ = nI (tN (tAll 3 (fun p => if p = 0 then 1 else 0) s w)) from rfl) ?_
      refine qx_iload_n d_QM_addTasks_58 rfl rfl ?_
      refine qx_iconstN (v := 2) d_QM_addTasks_59 rfl ?_
      refine qx_icmp_geN (t := 72) d_QM_addTasks_60 rfl (by omega) (by omega) (fun c60 => ?_) (fun c60 => absurd c60 (by decide))
      refine qx_iload_n d_QM_addTasks_72 rfl rfl ?_
      refine qx_iconstN (v := 2) d_QM_addTasks_73 rfl ?_
      refine qx_icmp_neN (t := 85) d_QM_addTasks_74 rfl (by omega) (by omega) (fun c74 => ?_) (fun c74 => absurd c74 (by decide))
      refine qx_eq (h1 := (eR (fR (tR h (va_up (tK (tAll 3 (fun p => if p = 0 then 1 else 0) s w)) (tN (tAll 3 (fun p => if p = 0 then 1 else 0) s w)) 3, va_up (tP (tAll 3 (fun p => if p = 0 then 1 else 0) s w)) (tN (tAll 3 (fun p => if p = 0 then 1 else 0) s w)) w, va_up (tA (tAll 3 (fun p => if p = 0 then 1 else 0) s w)) (tN (tAll 3 (fun p => if p = 0 then 1 else 0) s w)) 0, va_up (tF (tAll 3 (fun p => if p = 0 then 1 else 0) s w)) (tN (tAll 3 (fun p => if p = 0 then 1 else 0) s w)) false, tQ (tAll 3 (fun p => if p = 0 then 1 else 0) s w), tN (tAll 3 (fun p => if p = 0 then 1 else 0) s w))) hv hb kv kb kp) wk wn)) rfl rfl rfl (by rw [eR_I (by decide), fR_I (by decide) (by decide) (fun e => absurd e (by decide)), tR_k, eR_I (by decide), fR_I (by decide) (by decide) (fun e => absurd e (by decide)), tR_p, eR_I (by decide), fR_I (by decide) (by decide) (fun e => absurd e (by decide)), tR_a, eR_I (by decide), fR_I (by decide) (by decide) (fun e => absurd e (by decide)), tR_f]) ?_
      refine qx_aload_n d_QM_addTasks_85 rfl rfl ?_
      refine qx_iload_n d_QM_addTasks_86 rfl rfl ?_
      refine qx_callV (As := [_]) (rest := _) d_QM_addTasks_87 lk_QM_269 y_QM_groupRows v_QM_groupRows rfl rfl rfl (by decide) rfl rfl rfl rfl (by decide) (by decide) (ct_QM_groupRows_n (h := (eR (fR (tR h (va_up (tK (tAll 3 (fun p => if p = 0 then 1 else 0) s w)) (tN (tAll 3 (fun p => if p = 0 then 1 else 0) s w)) 3, va_up (tP (tAll 3 (fun p => if p = 0 then 1 else 0) s w)) (tN (tAll 3 (fun p => if p = 0 then 1 else 0) s w)) w, va_up (tA (tAll 3 (fun p => if p = 0 then 1 else 0) s w)) (tN (tAll 3 (fun p => if p = 0 then 1 else 0) s w)) 0, va_up (tF (tAll 3 (fun p => if p = 0 then 1 else 0) s w)) (tN (tAll 3 (fun p => if p = 0 then 1 else 0) s w)) false, tQ (tAll 3 (fun p => if p = 0 then 1 else 0) s w), tN (tAll 3 (fun p => if p = 0 then 1 else 0) s w))) hv hb kv kb kp) wk wn)) hgr w (by omega)) ?_
      rintro _ _ _ ⟨rfl, rfl, rfl⟩
      refine qx_iast d_QM_addTasks_90 rfl rfl rfl rfl hn2 ?_
      refine qx_aload_n d_QM_addTasks_91 rfl rfl ?_
      refine qx_dup d_QM_addTasks_92 rfl ?_
      refine qx_getI d_QM_addTasks_93 fI_QM_258 rfl rfl (show _ = nI (tN (tAll 3 (fun p => if p = 0 then 1 else 0) s w)) from rfl) ?_
      refine qx_iconstN (v := 1) d_QM_addTasks_96 rfl ?_
      refine qx_iaddN d_QM_addTasks_97 ?_
      refine qx_putI d_QM_addTasks_98 fI_QM_258 rfl rfl ⟨rfl, rfl⟩ ?_
      refine qx_iincN (w := 1) (lv1 := [_, _, _]) d_QM_addTasks_101 rfl rfl (by decide) rfl ?_
      refine qx_goto (t := 2) d_QM_addTasks_104 rfl ?_
      refine qx_eq rfl rfl rfl ?_ (ih (w + 1) hv hb wk wn (by omega))
      rw [eR_I (by decide), fR_I (by decide) (by decide) (fun e => absurd e (by decide)), tR_q, eR_I (by decide), fR_I (by decide) (by decide) (fun _ => by decide), tR_n]
      rfl
  refine qx_iconstN (v := 0) d_QM_addTasks_0 rfl ?_
  refine qx_istore_n (lv1 := [_, _, _]) d_QM_addTasks_1 rfl (by decide) rfl ?_
  exact key wc 0 hv hb wk wn (by omega)
set_option maxRecDepth 100000 in
set_option maxHeartbeats 4000000 in
theorem ct_QM_addTasks_3s {h : qH} (hR : h.2.2 122 = qRQM) (hv : Nat → Int64) (hb : Nat → Bool) (kv : Nat → Int64) (kb : Nat → Bool) (kp : Nat) (wk : Nat → Int64) (wn : Nat → Int32) (g : Nat) (hg4 : g < 4) (hgr : h.1 122 9 = nI g) (wc : Nat) (h1w : 1 ≤ wc) (hw4 : wc ≤ 4) (hwk : h.1 122 38 = nI wc) (rs : Nat) (hrs : rs ≤ 144) (hrsf : h.1 122 28 = nI rs) (RES : Nat → Option Int64) (hres : ∀ i, i < rs → h.2.1 137 (4 * i) = (RES i).getD 0 ∧ h.1 138 (4 * i) = b2i (RES i).isNone) (s : sT) (hs16 : tN s + wc ≤ 16) : qT mi_QM_addTasks 5 0 0 [.ref 122, .int (nI 3)] (eR (fR (tR h s) hv hb kv kb kp) wk wn) NN (fun v1 h1 n1 => v1 = none ∧ (∃ hv1 hb1 wk1 wn1, h1 = eR (fR (tR h (tAll 3 (fun p => cntB (fun k => decide (pOf wc (RES k) = p)) rs) s wc)) hv1 hb1 kv kb kp) wk1 wn1) ∧ n1 = NN) := by
  refine qT.of (lv0 := [_, _, _]) (by decide +kernel) (fun _ _ => Nat.le_of_ble_eq_true rfl) rfl ?_
  have key : ∀ (m w : Nat) (hv : Nat → Int64) (hb : Nat → Bool) (wk : Nat → Int64) (wn : Nat → Int32), w + m = wc → qX mi_QM_addTasks 5 none 0 0 2 [.ref 122, .int (nI 3), .int (nI w)] [] (eR (fR (tR h (tAll 3 (fun p => cntB (fun k => decide (pOf wc (RES k) = p)) rs) s w)) hv hb kv kb kp) wk wn) NN 0 0 (fun v1 h1 n1 => v1 = none ∧ (∃ hv1 hb1 wk1 wn1, h1 = eR (fR (tR h (tAll 3 (fun p => cntB (fun k => decide (pOf wc (RES k) = p)) rs) s wc)) hv1 hb1 kv kb kp) wk1 wn1) ∧ n1 = NN) := by
    intro m
    induction m with
    | zero =>
      intro w hv hb wk wn hw
      have e : w = wc := by omega
      subst e
      refine qx_iload_n d_QM_addTasks_2 rfl rfl ?_
      refine qx_aload_n d_QM_addTasks_3 rfl rfl ?_
      refine qx_getI d_QM_addTasks_4 fI_QM_248 rfl rfl hwk ?_
      refine qx_icmp_geN (t := 107) d_QM_addTasks_7 rfl (by omega) (by omega) (fun c7 => ?_) (fun c7 => absurd c7 (by omega))
      exact qx_ret d_QM_addTasks_107 rfl (by omega) (by omega) ⟨rfl, ⟨hv, hb, wk, wn, rfl⟩, rfl⟩
    | succ m ih =>
      intro w hv hb wk wn hw
      have hn := tAll_n 3 (fun p => cntB (fun k => decide (pOf wc (RES k) = p)) rs) s w
      have hn2 : tN (tAll 3 (fun p => cntB (fun k => decide (pOf wc (RES k) = p)) rs) s w) < 16 := by omega
      refine qx_iload_n d_QM_addTasks_2 rfl rfl ?_
      refine qx_aload_n d_QM_addTasks_3 rfl rfl ?_
      refine qx_getI d_QM_addTasks_4 fI_QM_248 rfl rfl hwk ?_
      refine qx_icmp_geN (t := 107) d_QM_addTasks_7 rfl (by omega) (by omega) (fun c7 => absurd c7 (by omega)) (fun c7 => ?_)
      refine qx_aload_n d_QM_addTasks_10 rfl rfl ?_
      refine qx_getR d_QM_addTasks_11 fR_QM_63 rfl rfl (congrFun hR 41) ?_
      refine qx_aload_n d_QM_addTasks_14 rfl rfl ?_
      refine qx_getI d_QM_addTasks_15 fI_QM_258 rfl rfl (show _ = nI (tN (tAll 3 (fun p => cntB (fun k => decide (pOf wc (RES k) = p)) rs) s w)) from rfl) ?_
      refine qx_iload_n d_QM_addTasks_18 rfl rfl ?_
      refine qx_iast d_QM_addTasks_19 rfl rfl rfl rfl hn2 ?_
      refine qx_aload_n d_QM_addTasks_20 rfl rfl ?_
      refine qx_getR d_QM_addTasks_21 fR_QM_66 rfl rfl (congrFun hR 42) ?_
      refine qx_aload_n d_QM_addTasks_24 rfl rfl ?_
      refine qx_getI d_QM_addTasks_25 fI_QM_258 rfl rfl (show _ = nI (tN (tAll 3 (fun p => cntB (fun k => decide (pOf wc (RES k) = p)) rs) s w)) from rfl) ?_
      refine qx_iload_n d_QM_addTasks_28 rfl rfl ?_
      refine qx_iast d_QM_addTasks_29 rfl rfl rfl rfl hn2 ?_
      refine qx_aload_n d_QM_addTasks_30 rfl rfl ?_
      refine qx_getR d_QM_addTasks_31 fR_QM_69 rfl rfl (congrFun hR 43) ?_
      refine qx_aload_n d_QM_addTasks_34 rfl rfl ?_
      refine qx_getI d_QM_addTasks_35 fI_QM_258 rfl rfl (show _ = nI (tN (tAll 3 (fun p => cntB (fun k => decide (pOf wc (RES k) = p)) rs) s w)) from rfl) ?_
      refine qx_iconstN (v := 0) d_QM_addTasks_38 rfl ?_
      refine qx_iast d_QM_addTasks_39 rfl rfl rfl rfl hn2 ?_
      refine qx_aload_n d_QM_addTasks_40 rfl rfl ?_
      refine qx_getR d_QM_addTasks_41 fR_QM_75 rfl rfl (congrFun hR 45) ?_
      refine qx_aload_n d_QM_addTasks_44 rfl rfl ?_
      refine qx_getI d_QM_addTasks_45 fI_QM_258 rfl rfl (show _ = nI (tN (tAll 3 (fun p => cntB (fun k => decide (pOf wc (RES k) = p)) rs) s w)) from rfl) ?_
      refine qx_iconst (v := b2i false) d_QM_addTasks_48 rfl ?_
      refine qx_zast d_QM_addTasks_49 rfl rfl rfl rfl hn2 rfl ?_
      refine qx_aload_n d_QM_addTasks_50 rfl rfl ?_
      refine qx_getR d_QM_addTasks_51 fR_QM_78 rfl rfl (congrFun hR 46) ?_
      refine qx_aload_n d_QM_addTasks_54 rfl rfl ?_
      refine qx_getI d_QM_addTasks_55 fI_QM_258 rfl rfl (show _ = nI (tN (tAll 3 (fun p => cntB (fun k => decide (pOf wc (RES k) = p)) rs) s w)) from rfl) ?_
      refine qx_iload_n d_QM_addTasks_58 rfl rfl ?_
      refine qx_iconstN (v := 2) d_QM_addTasks_59 rfl ?_
      refine qx_icmp_geN (t := 72) d_QM_addTasks_60 rfl (by omega) (by omega) (fun c60 => ?_) (fun c60 => absurd c60 (by decide))
      refine qx_iload_n d_QM_addTasks_72 rfl rfl ?_
      refine qx_iconstN (v := 2) d_QM_addTasks_73 rfl ?_
      refine qx_icmp_neN (t := 85) d_QM_addTasks_74 rfl (by omega) (by omega) (fun c74 => ?_) (fun c74 => absurd c74 (by decide))
      refine qx_eq (h1 := (eR (fR (tR h (va_up (tK (tAll 3 (fun p => cntB (fun k => decide (pOf wc (RES k) = p)) rs) s w)) (tN (tAll 3 (fun p => cntB (fun k => decide (pOf wc (RES k) = p)) rs) s w)) 3, va_up (tP (tAll 3 (fun p => cntB (fun k => decide (pOf wc (RES k) = p)) rs) s w)) (tN (tAll 3 (fun p => cntB (fun k => decide (pOf wc (RES k) = p)) rs) s w)) w, va_up (tA (tAll 3 (fun p => cntB (fun k => decide (pOf wc (RES k) = p)) rs) s w)) (tN (tAll 3 (fun p => cntB (fun k => decide (pOf wc (RES k) = p)) rs) s w)) 0, va_up (tF (tAll 3 (fun p => cntB (fun k => decide (pOf wc (RES k) = p)) rs) s w)) (tN (tAll 3 (fun p => cntB (fun k => decide (pOf wc (RES k) = p)) rs) s w)) false, tQ (tAll 3 (fun p => cntB (fun k => decide (pOf wc (RES k) = p)) rs) s w), tN (tAll 3 (fun p => cntB (fun k => decide (pOf wc (RES k) = p)) rs) s w))) hv hb kv kb kp) wk wn)) rfl rfl rfl (by rw [eR_I (by decide), fR_I (by decide) (by decide) (fun e => absurd e (by decide)), tR_k, eR_I (by decide), fR_I (by decide) (by decide) (fun e => absurd e (by decide)), tR_p, eR_I (by decide), fR_I (by decide) (by decide) (fun e => absurd e (by decide)), tR_a, eR_I (by decide), fR_I (by decide) (by decide) (fun e => absurd e (by decide)), tR_f]) ?_
      refine qx_aload_n d_QM_addTasks_85 rfl rfl ?_
      refine qx_iload_n d_QM_addTasks_86 rfl rfl ?_
      refine qx_callV (As := [_]) (rest := _) d_QM_addTasks_87 lk_QM_269 y_QM_groupRows v_QM_groupRows rfl rfl rfl (by decide) rfl rfl rfl rfl (by decide) (by decide) (ct_QM_groupRows_s (h := (eR (fR (tR h (va_up (tK (tAll 3 (fun p => cntB (fun k => decide (pOf wc (RES k) = p)) rs) s w)) (tN (tAll 3 (fun p => cntB (fun k => decide (pOf wc (RES k) = p)) rs) s w)) 3, va_up (tP (tAll 3 (fun p => cntB (fun k => decide (pOf wc (RES k) = p)) rs) s w)) (tN (tAll 3 (fun p => cntB (fun k => decide (pOf wc (RES k) = p)) rs) s w)) w, va_up (tA (tAll 3 (fun p => cntB (fun k => decide (pOf wc (RES k) = p)) rs) s w)) (tN (tAll 3 (fun p => cntB (fun k => decide (pOf wc (RES k) = p)) rs) s w)) 0, va_up (tF (tAll 3 (fun p => cntB (fun k => decide (pOf wc (RES k) = p)) rs) s w)) (tN (tAll 3 (fun p => cntB (fun k => decide (pOf wc (RES k) = p)) rs) s w)) false, tQ (tAll 3 (fun p => cntB (fun k => decide (pOf wc (RES k) = p)) rs) s w), tN (tAll 3 (fun p => cntB (fun k => decide (pOf wc (RES k) = p)) rs) s w))) hv hb kv kb kp) wk wn)) hR g hg4 hgr wc h1w hw4 hwk w (by omega) rs hrs hrsf RES hres) ?_
      rintro _ _ _ ⟨rfl, rfl, rfl⟩
      refine qx_iast d_QM_addTasks_90 rfl rfl rfl rfl hn2 ?_
      refine qx_aload_n d_QM_addTasks_91 rfl rfl ?_
      refine qx_dup d_QM_addTasks_92 rfl ?_
      refine qx_getI d_QM_addTasks_93 fI_QM_258 rfl rfl (show _ = nI (tN (tAll 3 (fun p => cntB (fun k => decide (pOf wc (RES k) = p)) rs) s w)) from rfl) ?_
      refine qx_iconstN (v := 1) d_QM_addTasks_96 rfl ?_
      refine qx_iaddN d_QM_addTasks_97 ?_
      refine qx_putI d_QM_addTasks_98 fI_QM_258 rfl rfl ⟨rfl, rfl⟩ ?_
      refine qx_iincN (w := 1) (lv1 := [_, _, _]) d_QM_addTasks_101 rfl rfl (by decide) rfl ?_
      refine qx_goto (t := 2) d_QM_addTasks_104 rfl ?_
      refine qx_eq rfl rfl rfl ?_ (ih (w + 1) hv hb wk wn (by omega))
      rw [eR_I (by decide), fR_I (by decide) (by decide) (fun e => absurd e (by decide)), tR_q, eR_I (by decide), fR_I (by decide) (by decide) (fun _ => by decide), tR_n]
      rfl
  refine qx_iconstN (v := 0) d_QM_addTasks_0 rfl ?_
  refine qx_istore_n (lv1 := [_, _, _]) d_QM_addTasks_1 rfl (by decide) rfl ?_
  exact key wc 0 hv hb wk wn (by omega)
