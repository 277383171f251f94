theorem jR_ov {h : qH} {s : sJ} {a i : Nat} {v : Int32} (h1 : a ≠ 142) (h2 : a ≠ 143) (h3 : a ≠ 146) (h4 : a ≠ 147) (h5 : a ≠ 148) (h6 : a = 122 → i ≠ 49) : qpI (jR h s) a i v = jR (qpI h a i v) s := by
  unfold jR qpI
  dsimp only
  refine Prod.ext ?_ rfl
  funext b
  dsimp only
  by_cases hb : b = a
  · subst hb
    rw [qus]
    simp only [h1, h2, h3, h4, h5, if_false]
    by_cases h7 : b = 122
    · subst h7
      simp only [if_true, qus]
      funext j
      have h8 := h6 rfl
      by_cases hj : j = i
      · subst hj
        rw [qus, qun h8, qus]
      · rw [qun hj]
        by_cases hk : j = 49
        · subst hk
          rw [qus, qus]
        · rw [qun hk, qun hk, qun hj]
    · simp only [h7, if_false, qus]
  · rw [qun hb]
    by_cases h7 : b = 122
    · subst h7
      simp only [qun hb]
    · simp only [h7, if_false, qun hb]
/-- the reference's queues over a heap -/
def kR (h : qH) (qn qt qa : Nat → Nat) : qH := (fun a => if a = 149 then iN qn else if a = 150 then iN qt else if a = 151 then iN qa else h.1 a, h.2.1, h.2.2)
theorem kR_n {h : qH} {qn qt qa : Nat → Nat} {t v : Nat} : qpI (kR h qn qt qa) 149 t (nI v) = kR h (va_up qn t v) qt qa := by
  unfold kR qpI
  dsimp only
  refine Prod.ext ?_ rfl
  funext a
  dsimp only
  by_cases ha : a = 149
  · subst ha
    simp only [qus]
    exact iN_up
  · rw [qun ha]
    simp only [ha, if_false]
theorem kR_t {h : qH} {qn qt qa : Nat → Nat} {t v : Nat} : qpI (kR h qn qt qa) 150 t (nI v) = kR h qn (va_up qt t v) qa := by
  unfold kR qpI
  dsimp only
  refine Prod.ext ?_ rfl
  funext a
  dsimp only
  by_cases ha : a = 150
  · subst ha
    simp only [qus]
    exact iN_up
  · rw [qun ha]
    simp only [ha, if_false]
theorem kR_a {h : qH} {qn qt qa : Nat → Nat} {t v : Nat} : qpI (kR h qn qt qa) 151 t (nI v) = kR h qn qt (va_up qa t v) := by
  unfold kR qpI
  dsimp only
  refine Prod.ext ?_ rfl
  funext a
  dsimp only
  by_cases ha : a = 151
  · subst ha
    simp only [qus]
    exact iN_up
  · rw [qun ha]
    simp only [ha, if_false]
theorem kR_of {h : qH} {qn qt qa : Nat → Nat} (h1 : h.1 149 = iN qn) (h2 : h.1 150 = iN qt) (h3 : h.1 151 = iN qa) : kR h qn qt qa = h := by
  obtain ⟨x, y, z⟩ := h
  unfold kR
  dsimp only at *
  refine Prod.ext ?_ rfl
  funext a
  dsimp only
  split
  · next e => rw [e, h1]
  · split
    · next e => rw [e, h2]
    · split
      · next e => rw [e, h3]
      · rfl
theorem jkR_n {h : qH} {s : sJ} {qn qt qa : Nat → Nat} {t v : Nat} : qpI (jR (kR h qn qt qa) s) 149 t (nI v) = jR (kR h (va_up qn t v) qt qa) s := by
  rw [jR_ov (by decide) (by decide) (by decide) (by decide) (by decide) (fun e => by cases e), kR_n]
theorem jkR_t {h : qH} {s : sJ} {qn qt qa : Nat → Nat} {t v : Nat} : qpI (jR (kR h qn qt qa) s) 150 t (nI v) = jR (kR h qn (va_up qt t v) qa) s := by
  rw [jR_ov (by decide) (by decide) (by decide) (by decide) (by decide) (fun e => by cases e), kR_t]
theorem jkR_a {h : qH} {s : sJ} {qn qt qa : Nat → Nat} {t v : Nat} : qpI (jR (kR h qn qt qa) s) 151 t (nI v) = jR (kR h qn qt (va_up qa t v)) s := by
  rw [jR_ov (by decide) (by decide) (by decide) (by decide) (by decide) (fun e => by cases e), kR_a]
set_option maxRecDepth 100000 in
set_option maxHeartbeats 4000000 in
theorem ct_QM_deliver_full {h : qH} (hR : h.2.2 122 = qRQM) (s : sJ) (qn qt qa : Nat → Nat) (pt : Nat → Nat) (wk : Nat) (h1w : 1 ≤ wk) (hw4 : wk ≤ 4) (hwk : h.1 122 38 = nI wk) (t a : Nat) (ht : t < 16) (hpt : h.1 141 t = nI (pt t)) (hp4 : pt t < 4) (ha : a < 100000) (hq : qn ((pt t + a) % wk) = 12) : qT mi_QM_deliver 3 0 0 [.ref 122, .int (nI 0), .int (nI t), .int (nI a)] (jR (kR h qn qt qa) s) NN (fun v1 h1 n1 => v1 = some (.int (nI 0)) ∧ (jR (kR h qn qt qa) s) = h1 ∧ n1 = NN) := by
  refine qT.of (lv0 := [_, _, _, _, _]) (by decide +kernel) (fun _ _ => Nat.le_of_ble_eq_true rfl) rfl ?_
  have hlt : ((pt t + a) % wk) < wk := Nat.mod_lt _ (by omega)
  refine qx_iload_n d_QM_deliver_0 rfl rfl ?_
  refine qx_if_neN (t := 77) d_QM_deliver_1 rfl (by omega) (fun c1 => absurd c1 (by omega)) (fun c1 => ?_)
  refine qx_aload_n d_QM_deliver_4 rfl rfl ?_
  refine qx_iload_n d_QM_deliver_5 rfl rfl ?_
  refine qx_iload_n d_QM_deliver_6 rfl rfl ?_
  refine qx_callV (As := [_, _]) (rest := _) d_QM_deliver_7 lk_QM_326 y_QM_workerOf v_QM_workerOf rfl rfl rfl (by decide) rfl rfl rfl rfl (by decide) (by decide) (ct_QM_workerOf (h := (jR (kR h qn qt qa) s)) hR pt t a wk ht hpt hp4 ha hwk h1w hw4) ?_
  rintro _ _ _ ⟨rfl, rfl, rfl⟩
  refine qx_istore (lv1 := [_, _, _, _, _]) d_QM_deliver_10 (by decide) rfl ?_
  refine qx_aload_n d_QM_deliver_12 rfl rfl ?_
  refine qx_getR d_QM_deliver_13 fR_QM_90 rfl rfl (congrFun hR 53) ?_
  refine qx_iload d_QM_deliver_16 rfl ?_
  refine qx_iald d_QM_deliver_18 rfl rfl rfl rfl (by omega) (show _ = nI (qn ((pt t + a) % wk)) from rfl) ?_
  refine qx_bipushN (v := 12) d_QM_deliver_19 rfl ?_
  refine qx_icmp_neN (t := 26) d_QM_deliver_21 rfl (by omega) (by omega) (fun c21 => absurd hq c21) (fun c21 => ?_)
  refine qx_iconstN (v := 0) d_QM_deliver_24 rfl ?_
  exact qx_iret d_QM_deliver_25 rfl rfl (by omega) (by omega) ⟨rfl, rfl, rfl⟩
set_option maxRecDepth 100000 in
set_option maxHeartbeats 4000000 in
theorem ct_QM_deliver_run {h : qH} (hR : h.2.2 122 = qRQM) (s : sJ) (qn qt qa : Nat → Nat) (pt : Nat → Nat) (wk : Nat) (h1w : 1 ≤ wk) (hw4 : wk ≤ 4) (hwk : h.1 122 38 = nI wk) (t a : Nat) (ht : t < 16) (hpt : h.1 141 t = nI (pt t)) (hp4 : pt t < 4) (ha : a < 100000) (hq : qn ((pt t + a) % wk) < 12) : qT mi_QM_deliver 3 0 0 [.ref 122, .int (nI 0), .int (nI t), .int (nI a)] (jR (kR h qn qt qa) s) NN (fun v1 h1 n1 => v1 = some (.int (nI 1)) ∧ h1 = jR (kR h (va_up qn ((pt t + a) % wk) (qn ((pt t + a) % wk) + 1)) (va_up qt (12 * ((pt t + a) % wk) + qn ((pt t + a) % wk)) t) (va_up qa (12 * ((pt t + a) % wk) + qn ((pt t + a) % wk)) a)) s ∧ n1 = NN) := by
  refine qT.of (lv0 := [_, _, _, _, _]) (by decide +kernel) (fun _ _ => Nat.le_of_ble_eq_true rfl) rfl ?_
  have hlt : ((pt t + a) % wk) < wk := Nat.mod_lt _ (by omega)
  refine qx_iload_n d_QM_deliver_0 rfl rfl ?_
  refine qx_if_neN (t := 77) d_QM_deliver_1 rfl (by omega) (fun c1 => absurd c1 (by omega)) (fun c1 => ?_)
  refine qx_aload_n d_QM_deliver_4 rfl rfl ?_
  refine qx_iload_n d_QM_deliver_5 rfl rfl ?_
  refine qx_iload_n d_QM_deliver_6 rfl rfl ?_
  refine qx_callV (As := [_, _]) (rest := _) d_QM_deliver_7 lk_QM_326 y_QM_workerOf v_QM_workerOf rfl rfl rfl (by decide) rfl rfl rfl rfl (by decide) (by decide) (ct_QM_workerOf (h := (jR (kR h qn qt qa) s)) hR pt t a wk ht hpt hp4 ha hwk h1w hw4) ?_
  rintro _ _ _ ⟨rfl, rfl, rfl⟩
  refine qx_istore (lv1 := [_, _, _, _, _]) d_QM_deliver_10 (by decide) rfl ?_
  refine qx_aload_n d_QM_deliver_12 rfl rfl ?_
  refine qx_getR d_QM_deliver_13 fR_QM_90 rfl rfl (congrFun hR 53) ?_
  refine qx_iload d_QM_deliver_16 rfl ?_
  refine qx_iald d_QM_deliver_18 rfl rfl rfl rfl (by omega) (show _ = nI (qn ((pt t + a) % wk)) from rfl) ?_
  refine qx_bipushN (v := 12) d_QM_deliver_19 rfl ?_
  refine qx_icmp_neN (t := 26) d_QM_deliver_21 rfl (by omega) (by omega) (fun c21 => ?_) (fun c21 => absurd c21 (by omega))
  refine qx_aload_n d_QM_deliver_26 rfl rfl ?_
  refine qx_getR d_QM_deliver_27 fR_QM_93 rfl rfl (congrFun hR 54) ?_
  refine qx_bipushN (v := 12) d_QM_deliver_30 rfl ?_
  refine qx_iload d_QM_deliver_32 rfl ?_
  refine qx_imulN d_QM_deliver_34 ?_
  refine qx_aload_n d_QM_deliver_35 rfl rfl ?_
  refine qx_getR d_QM_deliver_36 fR_QM_90 rfl rfl (congrFun hR 53) ?_
  refine qx_iload d_QM_deliver_39 rfl ?_
  refine qx_iald d_QM_deliver_41 rfl rfl rfl rfl (by omega) (show _ = nI (qn ((pt t + a) % wk)) from rfl) ?_
  refine qx_iaddN d_QM_deliver_42 ?_
  refine qx_iload_n d_QM_deliver_43 rfl rfl ?_
  refine qx_iast d_QM_deliver_44 rfl rfl rfl rfl (by omega) ?_
  refine qx_aload_n d_QM_deliver_45 rfl rfl ?_
  refine qx_getR d_QM_deliver_46 fR_QM_96 rfl rfl (congrFun hR 55) ?_
  refine qx_bipushN (v := 12) d_QM_deliver_49 rfl ?_
  refine qx_iload d_QM_deliver_51 rfl ?_
  refine qx_imulN d_QM_deliver_53 ?_
  refine qx_aload_n d_QM_deliver_54 rfl rfl ?_
  refine qx_getR d_QM_deliver_55 fR_QM_90 rfl rfl (congrFun hR 53) ?_
  refine qx_iload d_QM_deliver_58 rfl ?_
  refine qx_iald d_QM_deliver_60 rfl rfl rfl rfl (by omega) (show _ = nI (qn ((pt t + a) % wk)) from rfl) ?_
  refine qx_iaddN d_QM_deliver_61 ?_
  refine qx_iload_n d_QM_deliver_62 rfl rfl ?_
  refine qx_iast d_QM_deliver_63 rfl rfl rfl rfl (by omega) ?_
  refine qx_aload_n d_QM_deliver_64 rfl rfl ?_
  refine qx_getR d_QM_deliver_65 fR_QM_90 rfl rfl (congrFun hR 53) ?_
  refine qx_iload d_QM_deliver_68 rfl ?_
  refine qx_dup2 d_QM_deliver_70 rfl rfl ?_
  refine qx_iald d_QM_deliver_71 rfl rfl rfl rfl (by omega) (show _ = nI (qn ((pt t + a) % wk)) from rfl) ?_
  refine qx_iconstN (v := 1) d_QM_deliver_72 rfl ?_
  refine qx_iaddN d_QM_deliver_73 ?_
  refine qx_iast d_QM_deliver_74 rfl rfl rfl rfl (by omega) ?_
  refine qx_iconstN (v := 1) d_QM_deliver_75 rfl ?_
  exact qx_iret d_QM_deliver_76 rfl rfl (by omega) (by omega) ⟨rfl, by rw [jkR_t, jkR_a, jkR_n], rfl⟩
set_option maxRecDepth 100000 in
set_option maxHeartbeats 4000000 in
theorem ct_QM_deliver_ign {h : qH} (hR : h.2.2 122 = qRQM) (s : sJ) (t a : Nat) (ht : t < 16) (hf : h.1 144 t = b2i true) (ig : Int32) (hig : h.1 122 48 = ig) : qT mi_QM_deliver 3 0 0 [.ref 122, .int (nI 1), .int (nI t), .int (nI a)] (jR h s) NN (fun v1 h1 n1 => v1 = some (.int (nI 0)) ∧ h1 = jR (qpI h 122 48 (ig + nI 1)) s ∧ n1 = NN) := by
  refine qT.of (lv0 := [_, _, _, _, _]) (by decide +kernel) (fun _ _ => Nat.le_of_ble_eq_true rfl) rfl ?_
  refine qx_iload_n d_QM_deliver_0 rfl rfl ?_
  refine qx_if_neN (t := 77) d_QM_deliver_1 rfl (by omega) (fun c1 => ?_) (fun c1 => absurd c1 (by omega))
  refine qx_aload_n d_QM_deliver_77 rfl rfl ?_
  refine qx_getR d_QM_deliver_78 fR_QM_75 rfl rfl (congrFun hR 45) ?_
  refine qx_iload_n d_QM_deliver_81 rfl rfl ?_
  refine qx_zald d_QM_deliver_82 rfl rfl rfl rfl (by omega) hf ?_
  refine qx_if_eqB (t := 98) d_QM_deliver_83 rfl (fun c83 => by cases c83) (fun c83 => ?_)
  refine qx_aload_n d_QM_deliver_86 rfl rfl ?_
  refine qx_dup d_QM_deliver_87 rfl ?_
  refine qx_getI d_QM_deliver_88 fI_QM_305 rfl rfl hig ?_
  refine qx_iconstN (v := 1) d_QM_deliver_91 rfl ?_
  refine qx_iadd d_QM_deliver_92 ?_
  refine qx_putI d_QM_deliver_93 fI_QM_305 rfl rfl ⟨rfl, rfl⟩ ?_
  refine qx_iconstN (v := 0) d_QM_deliver_96 rfl ?_
  exact qx_iret d_QM_deliver_97 rfl rfl (by omega) (by omega) ⟨rfl, by rw [jR_ov (by decide) (by decide) (by decide) (by decide) (by decide) (fun _ => by decide)], rfl⟩
set_option maxRecDepth 100000 in
set_option maxHeartbeats 4000000 in
theorem ct_QM_deliver_done {h : qH} (hR : h.2.2 122 = qRQM) (nt : Nat) (hnt16 : nt ≤ 16) (hnt : h.1 122 40 = nI nt) (kd : Nat → Nat) (hkd4 : ∀ t, t < nt → kd t < 4) (hkd : ∀ t, t < nt → h.1 140 t = nI (kd t)) (dn : Nat → Bool) (hdn : ∀ t, t < nt → h.1 144 t = b2i (dn t)) (s : sJ) (tm : Int32) (htm : h.1 122 47 = tm) (hw : sW s ≤ 80) (hat : ∀ t, t < nt → sAt s t < 100000) (t a : Nat) (ht : t < nt) (hf : dn t = false) : qT mi_QM_deliver 3 0 0 [.ref 122, .int (nI 1), .int (nI t), .int (nI a)] (jR h s) NN (fun v1 h1 n1 => v1 = some (.int (nI 1)) ∧ h1 = jR (qpI (qpI h 144 t (nI 1)) 122 37 (b2i (!adn kd (va_up dn t true) 4 nt))) (sReady kd (va_up dn t true) nt tm s nt) ∧ n1 = NN) := by
  refine qT.of (lv0 := [_, _, _, _, _]) (by decide +kernel) (fun _ _ => Nat.le_of_ble_eq_true rfl) rfl ?_
  refine qx_iload_n d_QM_deliver_0 rfl rfl ?_
  refine qx_if_neN (t := 77) d_QM_deliver_1 rfl (by omega) (fun c1 => ?_) (fun c1 => absurd c1 (by omega))
  refine qx_aload_n d_QM_deliver_77 rfl rfl ?_
  refine qx_getR d_QM_deliver_78 fR_QM_75 rfl rfl (congrFun hR 45) ?_
  refine qx_iload_n d_QM_deliver_81 rfl rfl ?_
  refine qx_zald d_QM_deliver_82 rfl rfl rfl rfl (by omega) (hdn t ht) ?_
  refine qx_if_eqB (t := 98) d_QM_deliver_83 rfl (fun c83 => ?_) (fun c83 => absurd c83 (by rw [hf]; decide))
  refine qx_aload_n d_QM_deliver_98 rfl rfl ?_
  refine qx_getR d_QM_deliver_99 fR_QM_75 rfl rfl (congrFun hR 45) ?_
  refine qx_iload_n d_QM_deliver_102 rfl rfl ?_
  refine qx_iconstN (v := 1) d_QM_deliver_103 rfl ?_
  refine qx_zast d_QM_deliver_104 rfl rfl rfl rfl (by omega) rfl ?_
  refine qx_eq (h1 := jR (qpI h 144 t (nI 1)) s) rfl rfl rfl (jR_ov (by decide) (by decide) (by decide) (by decide) (by decide) (fun e => by cases e)).symm ?_
  have hdn2 : ∀ j, j < nt → (qpI h 144 t (nI 1)).1 144 j = b2i ((va_up dn t true) j) := by
    intro j hj
    by_cases e : j = t
    · subst e; rw [qI_get, qus]; rfl
    · rw [qI_ne e, qun e]; exact hdn j hj
  refine qx_aload_n d_QM_deliver_105 rfl rfl ?_
  refine qx_callV (As := []) (rest := _) d_QM_deliver_106 lk_QM_311 y_QM_sendReady v_QM_sendReady rfl rfl rfl (by decide) rfl rfl rfl rfl (by decide) (by decide) (ct_QM_sendReady (h := (qpI h 144 t (nI 1))) hR nt hnt16 hnt kd hkd4 hkd (va_up dn t true) hdn2 s tm htm hw hat) ?_
  rintro _ _ _ ⟨rfl, rfl, rfl⟩
  refine qx_aload_n d_QM_deliver_109 rfl rfl ?_
  refine qx_aload_n d_QM_deliver_110 rfl rfl ?_
  refine qx_iconstN (v := 4) d_QM_deliver_111 rfl ?_
  refine qx_callV (As := [_]) (rest := _) d_QM_deliver_112 lk_QM_314 y_QM_allDone v_QM_allDone rfl rfl rfl (by decide) rfl rfl rfl rfl (by decide) (by decide) (ct_QM_allDone (h := jR (qpI h 144 t (nI 1)) (sReady kd (va_up dn t true) nt tm s nt)) hR nt hnt16 hnt kd hkd4 hkd (va_up dn t true) hdn2 4 (by omega)) ?_
  rintro _ _ _ ⟨rfl, rfl, rfl⟩
  refine qx_if_neB (t := 122) d_QM_deliver_115 rfl (fun c115 => ?_) (fun c115 => ?_)
  · refine qx_iconst (v := b2i false) d_QM_deliver_122 rfl ?_
    refine qx_putI d_QM_deliver_123 fI_QM_99 rfl rfl ⟨rfl, rfl⟩ ?_
    refine qx_iconstN (v := 1) d_QM_deliver_126 rfl ?_
    exact qx_iret d_QM_deliver_127 rfl rfl (by omega) (by omega) (by rw [c115]; refine ⟨rfl, ?_, rfl⟩; rw [jR_ov (by decide) (by decide) (by decide) (by decide) (by decide) (fun _ => by decide)]; rfl)
  · refine qx_iconst (v := b2i true) d_QM_deliver_118 rfl ?_
    refine qx_goto (t := 123) d_QM_deliver_119 rfl ?_
    refine qx_putI d_QM_deliver_123 fI_QM_99 rfl rfl ⟨rfl, rfl⟩ ?_
    refine qx_iconstN (v := 1) d_QM_deliver_126 rfl ?_
    exact qx_iret d_QM_deliver_127 rfl rfl (by omega) (by omega) (by rw [c115]; refine ⟨rfl, ?_, rfl⟩; rw [jR_ov (by decide) (by decide) (by decide) (by decide) (by decide) (fun _ => by decide)]; rfl)
set_option maxRecDepth 100000 in
set_option maxHeartbeats 4000000 in
theorem ct_QM_pass_no {h : qH} (s : sJ) (k how : Int32) (on : Bool) (hon : h.1 122 37 = b2i on) (hg : (on && (decide (nI 0 ≤ k ∧ k ≤ nI (sW s) - nI 1) && decide (nI 0 ≤ how ∧ how ≤ nI 2))) = false) : qT mi_QM_pass 1 0 0 [.ref 122, .int k, .int how] (jR h s) NN (fun v1 h1 n1 => v1 = some (.int (-1)) ∧ jR h s = h1 ∧ n1 = NN) := by
  refine qT.of (lv0 := [_, _, _, _, _, _]) (by decide +kernel) (fun _ _ => Nat.le_of_ble_eq_true rfl) rfl ?_
  refine qx_aload_n d_QM_pass_0 rfl rfl ?_
  refine qx_getI d_QM_pass_1 fI_QM_99 rfl rfl hon ?_
  refine qx_if_eqB (t := 30) d_QM_pass_4 rfl (fun c4 => ?_) (fun c4 => ?_)
  · refine qx_iconst (v := (-1)) d_QM_pass_30 rfl ?_
    exact qx_iret d_QM_pass_31 rfl rfl (by omega) (by omega) ⟨rfl, rfl, rfl⟩
  · refine qx_iload_n d_QM_pass_7 rfl rfl ?_
    refine qx_iconstN (v := 0) d_QM_pass_8 rfl ?_
    refine qx_aload_n d_QM_pass_9 rfl rfl ?_
    refine qx_getI d_QM_pass_10 fI_QM_302 rfl rfl (show _ = nI (sW s) from rfl) ?_
    refine qx_iconstN (v := 1) d_QM_pass_13 rfl ?_
    refine qx_isub d_QM_pass_14 ?_
    refine qx_callS (As := [_, _, _]) (rest := _) d_QM_pass_15 lk_QM_103 y_QM_within s_QM_within rfl rfl rfl rfl (by decide) (by decide) (ct_QM_within _ _ _) ?_
    rintro _ _ _ ⟨rfl, rfl, rfl⟩
    refine qx_if_eqB (t := 30) d_QM_pass_18 rfl (fun c18 => ?_) (fun c18 => ?_)
    · refine qx_iconst (v := (-1)) d_QM_pass_30 rfl ?_
      exact qx_iret d_QM_pass_31 rfl rfl (by omega) (by omega) ⟨rfl, rfl, rfl⟩
    · refine qx_iload_n d_QM_pass_21 rfl rfl ?_
      refine qx_iconstN (v := 0) d_QM_pass_22 rfl ?_
      refine qx_iconstN (v := 2) d_QM_pass_23 rfl ?_
      refine qx_callS (As := [_, _, _]) (rest := _) d_QM_pass_24 lk_QM_103 y_QM_within s_QM_within rfl rfl rfl rfl (by decide) (by decide) (ct_QM_within _ _ _) ?_
      rintro _ _ _ ⟨rfl, rfl, rfl⟩
      refine qx_if_neB (t := 32) d_QM_pass_27 rfl (fun c27 => absurd hg (by rw [c4, c18, c27]; decide)) (fun c27 => ?_)
      refine qx_iconst (v := (-1)) d_QM_pass_30 rfl ?_
      exact qx_iret d_QM_pass_31 rfl rfl (by omega) (by omega) ⟨rfl, rfl, rfl⟩
set_option maxRecDepth 100000 in
set_option maxHeartbeats 4000000 in
theorem ct_QM_pass_full {h : qH} (hR : h.2.2 122 = qRQM) (s : sJ) (k : Nat) (hk : k < sW s) (hw : sW s ≤ 80) (hon : h.1 122 37 = b2i true) (h60 : 60 ≤ sW s) : qT mi_QM_pass 1 0 0 [.ref 122, .int (nI k), .int (nI 2)] (jR h s) NN (fun v1 h1 n1 => v1 = some (.int (-2)) ∧ jR h s = h1 ∧ n1 = NN) := by
  refine qT.of (lv0 := [_, _, _, _, _, _]) (by decide +kernel) (fun _ _ => Nat.le_of_ble_eq_true rfl) rfl ?_
  refine qx_aload_n d_QM_pass_0 rfl rfl ?_
  refine qx_getI d_QM_pass_1 fI_QM_99 rfl rfl hon ?_
  refine qx_if_eqB (t := 30) d_QM_pass_4 rfl (fun c4 => by cases c4) (fun c4 => ?_)
  refine qx_iload_n d_QM_pass_7 rfl rfl ?_
  refine qx_iconstN (v := 0) d_QM_pass_8 rfl ?_
  refine qx_aload_n d_QM_pass_9 rfl rfl ?_
  refine qx_getI d_QM_pass_10 fI_QM_302 rfl rfl (show _ = nI (sW s) from rfl) ?_
  refine qx_iconstN (v := 1) d_QM_pass_13 rfl ?_
  refine qx_isubN d_QM_pass_14 (by omega) ?_
  refine qx_callS (As := [_, _, _]) (rest := _) d_QM_pass_15 lk_QM_103 y_QM_within s_QM_within rfl rfl rfl rfl (by decide) (by decide) (ct_QM_within _ _ _) ?_
  rintro _ _ _ ⟨rfl, rfl, rfl⟩
  refine qx_if_eqB (t := 30) d_QM_pass_18 rfl (fun c18 => absurd (⟨nI_le (by omega) (by omega), nI_le (by omega) (by omega)⟩ : nI 0 ≤ nI k ∧ nI k ≤ nI (sW s - 1)) (of_decide_eq_false c18)) (fun c18 => ?_)
  refine qx_iload_n d_QM_pass_21 rfl rfl ?_
  refine qx_iconstN (v := 0) d_QM_pass_22 rfl ?_
  refine qx_iconstN (v := 2) d_QM_pass_23 rfl ?_
  refine qx_callS (As := [_, _, _]) (rest := _) d_QM_pass_24 lk_QM_103 y_QM_within s_QM_within rfl rfl rfl rfl (by decide) (by decide) (ct_QM_within _ _ _) ?_
  rintro _ _ _ ⟨rfl, rfl, rfl⟩
  refine qx_if_neB (t := 32) d_QM_pass_27 rfl (fun c27 => ?_) (fun c27 => absurd (⟨nI_le (by omega) (by omega), nI_le (by omega) (by omega)⟩ : nI 0 ≤ nI 2 ∧ nI 2 ≤ nI 2) (of_decide_eq_false c27))
  refine qx_iload_n d_QM_pass_32 rfl rfl ?_
  refine qx_iconstN (v := 2) d_QM_pass_33 rfl ?_
  refine qx_icmp_neN (t := 73) d_QM_pass_34 rfl (by omega) (by omega) (fun c34 => absurd rfl c34) (fun c34 => ?_)
  refine qx_aload_n d_QM_pass_37 rfl rfl ?_
  refine qx_getI d_QM_pass_38 fI_QM_302 rfl rfl (show _ = nI (sW s) from rfl) ?_
  refine qx_bipushN (v := 60) d_QM_pass_41 rfl ?_
  refine qx_icmp_ltN (t := 49) d_QM_pass_43 rfl (by omega) (by omega) (fun c43 => absurd c43 (by omega)) (fun c43 => ?_)
  refine qx_bipush (v := (-2)) d_QM_pass_46 rfl ?_
  exact qx_iret d_QM_pass_48 rfl rfl (by omega) (by omega) ⟨rfl, rfl, rfl⟩
set_option maxRecDepth 100000 in
set_option maxHeartbeats 4000000 in
theorem ct_QM_pass_again {h : qH} (hR : h.2.2 122 = qRQM) (s : sJ) (k : Nat) (hk : k < sW s) (hw : sW s ≤ 80) (hon : h.1 122 37 = b2i true) (h60 : sW s < 60) : qT mi_QM_pass 1 0 0 [.ref 122, .int (nI k), .int (nI 2)] (jR h s) NN (fun v1 h1 n1 => v1 = some (.int (nI 1)) ∧ h1 = jR h (sSend s (sMk s k) (sMt s k) (sMa s k)) ∧ n1 = NN) := by
  refine qT.of (lv0 := [_, _, _, _, _, _]) (by decide +kernel) (fun _ _ => Nat.le_of_ble_eq_true rfl) rfl ?_
  refine qx_aload_n d_QM_pass_0 rfl rfl ?_
  refine qx_getI d_QM_pass_1 fI_QM_99 rfl rfl hon ?_
  refine qx_if_eqB (t := 30) d_QM_pass_4 rfl (fun c4 => by cases c4) (fun c4 => ?_)
  refine qx_iload_n d_QM_pass_7 rfl rfl ?_
  refine qx_iconstN (v := 0) d_QM_pass_8 rfl ?_
  refine qx_aload_n d_QM_pass_9 rfl rfl ?_
  refine qx_getI d_QM_pass_10 fI_QM_302 rfl rfl (show _ = nI (sW s) from rfl) ?_
  refine qx_iconstN (v := 1) d_QM_pass_13 rfl ?_
  refine qx_isubN d_QM_pass_14 (by omega) ?_
  refine qx_callS (As := [_, _, _]) (rest := _) d_QM_pass_15 lk_QM_103 y_QM_within s_QM_within rfl rfl rfl rfl (by decide) (by decide) (ct_QM_within _ _ _) ?_
  rintro _ _ _ ⟨rfl, rfl, rfl⟩
  refine qx_if_eqB (t := 30) d_QM_pass_18 rfl (fun c18 => absurd (⟨nI_le (by omega) (by omega), nI_le (by omega) (by omega)⟩ : nI 0 ≤ nI k ∧ nI k ≤ nI (sW s - 1)) (of_decide_eq_false c18)) (fun c18 => ?_)
  refine qx_iload_n d_QM_pass_21 rfl rfl ?_
  refine qx_iconstN (v := 0) d_QM_pass_22 rfl ?_
  refine qx_iconstN (v := 2) d_QM_pass_23 rfl ?_
  refine qx_callS (As := [_, _, _]) (rest := _) d_QM_pass_24 lk_QM_103 y_QM_within s_QM_within rfl rfl rfl rfl (by decide) (by decide) (ct_QM_within _ _ _) ?_
  rintro _ _ _ ⟨rfl, rfl, rfl⟩
  refine qx_if_neB (t := 32) d_QM_pass_27 rfl (fun c27 => ?_) (fun c27 => absurd (⟨nI_le (by omega) (by omega), nI_le (by omega) (by omega)⟩ : nI 0 ≤ nI 2 ∧ nI 2 ≤ nI 2) (of_decide_eq_false c27))
  refine qx_iload_n d_QM_pass_32 rfl rfl ?_
  refine qx_iconstN (v := 2) d_QM_pass_33 rfl ?_
  refine qx_icmp_neN (t := 73) d_QM_pass_34 rfl (by omega) (by omega) (fun c34 => absurd rfl c34) (fun c34 => ?_)
  refine qx_aload_n d_QM_pass_37 rfl rfl ?_
  refine qx_getI d_QM_pass_38 fI_QM_302 rfl rfl (show _ = nI (sW s) from rfl) ?_
  refine qx_bipushN (v := 60) d_QM_pass_41 rfl ?_
  refine qx_icmp_ltN (t := 49) d_QM_pass_43 rfl (by omega) (by omega) (fun c43 => ?_) (fun c43 => absurd c43 (by omega))
  refine qx_aload_n d_QM_pass_49 rfl rfl ?_
  refine qx_aload_n d_QM_pass_50 rfl rfl ?_
  refine qx_getR d_QM_pass_51 fR_QM_81 rfl rfl (congrFun hR 50) ?_
  refine qx_iload_n d_QM_pass_54 rfl rfl ?_
  refine qx_iald d_QM_pass_55 rfl rfl rfl rfl (by omega) (show _ = nI (sMk s k) from rfl) ?_
  refine qx_aload_n d_QM_pass_56 rfl rfl ?_
  refine qx_getR d_QM_pass_57 fR_QM_84 rfl rfl (congrFun hR 51) ?_
  refine qx_iload_n d_QM_pass_60 rfl rfl ?_
  refine qx_iald d_QM_pass_61 rfl rfl rfl rfl (by omega) (show _ = nI (sMt s k) from rfl) ?_
  refine qx_aload_n d_QM_pass_62 rfl rfl ?_
  refine qx_getR d_QM_pass_63 fR_QM_87 rfl rfl (congrFun hR 52) ?_
  refine qx_iload_n d_QM_pass_66 rfl rfl ?_
  refine qx_iald d_QM_pass_67 rfl rfl rfl rfl (by omega) (show _ = nI (sMa s k) from rfl) ?_
  refine qx_callV (As := [_, _, _]) (rest := _) d_QM_pass_68 lk_QM_320 y_QM_send v_QM_send rfl rfl rfl (by decide) rfl rfl rfl rfl (by decide) (by decide) (ct_QM_send hR s (sMk s k) (sMt s k) (sMa s k) (by omega)) ?_
  rintro _ _ _ ⟨rfl, rfl, rfl⟩
  refine qx_iconstN (v := 1) d_QM_pass_71 rfl ?_
  exact qx_iret d_QM_pass_72 rfl rfl (by omega) (by omega) ⟨rfl, rfl, rfl⟩
set_option maxRecDepth 100000 in
set_option maxHeartbeats 4000000 in
theorem ct_QM_pass_lose {h : qH} (hR : h.2.2 122 = qRQM) (s : sJ) (k : Nat) (hk : k < sW s) (hw : sW s ≤ 80) (hon : h.1 122 37 = b2i true) : qT mi_QM_pass 1 0 0 [.ref 122, .int (nI k), .int (nI 1)] (jR h s) NN (fun v1 h1 n1 => v1 = some (.int (nI 1)) ∧ h1 = jR h (sStrike s k) ∧ n1 = NN) := by
  refine qT.of (lv0 := [_, _, _, _, _, _]) (by decide +kernel) (fun _ _ => Nat.le_of_ble_eq_true rfl) rfl ?_
  refine qx_aload_n d_QM_pass_0 rfl rfl ?_
  refine qx_getI d_QM_pass_1 fI_QM_99 rfl rfl hon ?_
  refine qx_if_eqB (t := 30) d_QM_pass_4 rfl (fun c4 => by cases c4) (fun c4 => ?_)
  refine qx_iload_n d_QM_pass_7 rfl rfl ?_
  refine qx_iconstN (v := 0) d_QM_pass_8 rfl ?_
  refine qx_aload_n d_QM_pass_9 rfl rfl ?_
  refine qx_getI d_QM_pass_10 fI_QM_302 rfl rfl (show _ = nI (sW s) from rfl) ?_
  refine qx_iconstN (v := 1) d_QM_pass_13 rfl ?_
  refine qx_isubN d_QM_pass_14 (by omega) ?_
  refine qx_callS (As := [_, _, _]) (rest := _) d_QM_pass_15 lk_QM_103 y_QM_within s_QM_within rfl rfl rfl rfl (by decide) (by decide) (ct_QM_within _ _ _) ?_
  rintro _ _ _ ⟨rfl, rfl, rfl⟩
  refine qx_if_eqB (t := 30) d_QM_pass_18 rfl (fun c18 => absurd (⟨nI_le (by omega) (by omega), nI_le (by omega) (by omega)⟩ : nI 0 ≤ nI k ∧ nI k ≤ nI (sW s - 1)) (of_decide_eq_false c18)) (fun c18 => ?_)
  refine qx_iload_n d_QM_pass_21 rfl rfl ?_
  refine qx_iconstN (v := 0) d_QM_pass_22 rfl ?_
  refine qx_iconstN (v := 2) d_QM_pass_23 rfl ?_
  refine qx_callS (As := [_, _, _]) (rest := _) d_QM_pass_24 lk_QM_103 y_QM_within s_QM_within rfl rfl rfl rfl (by decide) (by decide) (ct_QM_within _ _ _) ?_
  rintro _ _ _ ⟨rfl, rfl, rfl⟩
  refine qx_if_neB (t := 32) d_QM_pass_27 rfl (fun c27 => ?_) (fun c27 => absurd (⟨nI_le (by omega) (by omega), nI_le (by omega) (by omega)⟩ : nI 0 ≤ nI 1 ∧ nI 1 ≤ nI 2) (of_decide_eq_false c27))
  refine qx_iload_n d_QM_pass_32 rfl rfl ?_
  refine qx_iconstN (v := 2) d_QM_pass_33 rfl ?_
  refine qx_icmp_neN (t := 73) d_QM_pass_34 rfl (by omega) (by omega) (fun c34 => ?_) (fun c34 => absurd c34 (by decide))
  refine qx_aload_n d_QM_pass_73 rfl rfl ?_
  refine qx_getR d_QM_pass_74 fR_QM_81 rfl rfl (congrFun hR 50) ?_
  refine qx_iload_n d_QM_pass_77 rfl rfl ?_
  refine qx_iald d_QM_pass_78 rfl rfl rfl rfl (by omega) (show _ = nI (sMk s k) from rfl) ?_
  refine qx_istore_n (lv1 := [_, _, _, _, _, _]) d_QM_pass_79 rfl (by decide) rfl ?_
  refine qx_aload_n d_QM_pass_80 rfl rfl ?_
  refine qx_getR d_QM_pass_81 fR_QM_84 rfl rfl (congrFun hR 51) ?_
  refine qx_iload_n d_QM_pass_84 rfl rfl ?_
  refine qx_iald d_QM_pass_85 rfl rfl rfl rfl (by omega) (show _ = nI (sMt s k) from rfl) ?_
  refine qx_istore (lv1 := [_, _, _, _, _, _]) d_QM_pass_86 (by decide) rfl ?_
  refine qx_aload_n d_QM_pass_88 rfl rfl ?_
  refine qx_getR d_QM_pass_89 fR_QM_87 rfl rfl (congrFun hR 52) ?_
  refine qx_iload_n d_QM_pass_92 rfl rfl ?_
  refine qx_iald d_QM_pass_93 rfl rfl rfl rfl (by omega) (show _ = nI (sMa s k) from rfl) ?_
  refine qx_istore (lv1 := [_, _, _, _, _, _]) d_QM_pass_94 (by decide) rfl ?_
  refine qx_aload_n d_QM_pass_96 rfl rfl ?_
  refine qx_iload_n d_QM_pass_97 rfl rfl ?_
  refine qx_callV (As := [_]) (rest := _) d_QM_pass_98 lk_QM_329 y_QM_strike v_QM_strike rfl rfl rfl (by decide) rfl rfl rfl rfl (by decide) (by decide) (ct_QM_strike hR s k hk (by omega)) ?_
  rintro _ _ _ ⟨rfl, rfl, rfl⟩
  refine qx_iload_n d_QM_pass_101 rfl rfl ?_
  refine qx_iconstN (v := 1) d_QM_pass_102 rfl ?_
  refine qx_icmp_neN (t := 110) d_QM_pass_103 rfl (by omega) (by omega) (fun c103 => absurd rfl c103) (fun c103 => ?_)
  refine qx_iconstN (v := 1) d_QM_pass_106 rfl ?_
  refine qx_goto (t := 119) d_QM_pass_107 rfl ?_
  exact qx_iret d_QM_pass_119 rfl rfl (by omega) (by omega) ⟨rfl, rfl, rfl⟩
set_option maxRecDepth 100000 in
set_option maxHeartbeats 4000000 in
theorem ct_QM_pass_deliver {h : qH} (hR : h.2.2 122 = qRQM) (s : sJ) (k : Nat) (hk : k < sW s) (hw : sW s ≤ 80) (hon : h.1 122 37 = b2i true) (Rq : Option Value → qH → Nat → Prop) (hRq : ∀ v h n, Rq v h n → ∃ r : Int32, v = some (.int r)) (hD : qT mi_QM_deliver 3 0 0 [.ref 122, .int (nI (sMk s k)), .int (nI (sMt s k)), .int (nI (sMa s k))] (jR h (sStrike s k)) NN Rq) : qT mi_QM_pass 4 0 0 [.ref 122, .int (nI k), .int (nI 0)] (jR h s) NN (fun v1 h1 n1 => Rq v1 h1 n1) := by
  refine qT.of (lv0 := [_, _, _, _, _, _]) (by decide +kernel) (fun _ _ => Nat.le_of_ble_eq_true rfl) rfl ?_
  refine qx_aload_n d_QM_pass_0 rfl rfl ?_
  refine qx_getI d_QM_pass_1 fI_QM_99 rfl rfl hon ?_
  refine qx_if_eqB (t := 30) d_QM_pass_4 rfl (fun c4 => by cases c4) (fun c4 => ?_)
  refine qx_iload_n d_QM_pass_7 rfl rfl ?_
  refine qx_iconstN (v := 0) d_QM_pass_8 rfl ?_
  refine qx_aload_n d_QM_pass_9 rfl rfl ?_
  refine qx_getI d_QM_pass_10 fI_QM_302 rfl rfl (show _ = nI (sW s) from rfl) ?_
  refine qx_iconstN (v := 1) d_QM_pass_13 rfl ?_
  refine qx_isubN d_QM_pass_14 (by omega) ?_
  refine qx_callS (As := [_, _, _]) (rest := _) d_QM_pass_15 lk_QM_103 y_QM_within s_QM_within rfl rfl rfl rfl (by decide) (by decide) (ct_QM_within _ _ _) ?_
  rintro _ _ _ ⟨rfl, rfl, rfl⟩
  refine qx_if_eqB (t := 30) d_QM_pass_18 rfl (fun c18 => absurd (⟨nI_le (by omega) (by omega), nI_le (by omega) (by omega)⟩ : nI 0 ≤ nI k ∧ nI k ≤ nI (sW s - 1)) (of_decide_eq_false c18)) (fun c18 => ?_)
  refine qx_iload_n d_QM_pass_21 rfl rfl ?_
  refine qx_iconstN (v := 0) d_QM_pass_22 rfl ?_
  refine qx_iconstN (v := 2) d_QM_pass_23 rfl ?_
  refine qx_callS (As := [_, _, _]) (rest := _) d_QM_pass_24 lk_QM_103 y_QM_within s_QM_within rfl rfl rfl rfl (by decide) (by decide) (ct_QM_within _ _ _) ?_
  rintro _ _ _ ⟨rfl, rfl, rfl⟩
  refine qx_if_neB (t := 32) d_QM_pass_27 rfl (fun c27 => ?_) (fun c27 => absurd (⟨nI_le (by omega) (by omega), nI_le (by omega) (by omega)⟩ : nI 0 ≤ nI 0 ∧ nI 0 ≤ nI 2) (of_decide_eq_false c27))
  refine qx_iload_n d_QM_pass_32 rfl rfl ?_
  refine qx_iconstN (v := 2) d_QM_pass_33 rfl ?_
  refine qx_icmp_neN (t := 73) d_QM_pass_34 rfl (by omega) (by omega) (fun c34 => ?_) (fun c34 => absurd c34 (by decide))
  refine qx_aload_n d_QM_pass_73 rfl rfl ?_
  refine qx_getR d_QM_pass_74 fR_QM_81 rfl rfl (congrFun hR 50) ?_
  refine qx_iload_n d_QM_pass_77 rfl rfl ?_
  refine qx_iald d_QM_pass_78 rfl rfl rfl rfl (by omega) (show _ = nI (sMk s k) from rfl) ?_
  refine qx_istore_n (lv1 := [_, _, _, _, _, _]) d_QM_pass_79 rfl (by decide) rfl ?_
  refine qx_aload_n d_QM_pass_80 rfl rfl ?_
  refine qx_getR d_QM_pass_81 fR_QM_84 rfl rfl (congrFun hR 51) ?_
  refine qx_iload_n d_QM_pass_84 rfl rfl ?_
  refine qx_iald d_QM_pass_85 rfl rfl rfl rfl (by omega) (show _ = nI (sMt s k) from rfl) ?_
  refine qx_istore (lv1 := [_, _, _, _, _, _]) d_QM_pass_86 (by decide) rfl ?_
  refine qx_aload_n d_QM_pass_88 rfl rfl ?_
  refine qx_getR d_QM_pass_89 fR_QM_87 rfl rfl (congrFun hR 52) ?_
  refine qx_iload_n d_QM_pass_92 rfl rfl ?_
  refine qx_iald d_QM_pass_93 rfl rfl rfl rfl (by omega) (show _ = nI (sMa s k) from rfl) ?_
  refine qx_istore (lv1 := [_, _, _, _, _, _]) d_QM_pass_94 (by decide) rfl ?_
  refine qx_aload_n d_QM_pass_96 rfl rfl ?_
  refine qx_iload_n d_QM_pass_97 rfl rfl ?_
  refine qx_callV (As := [_]) (rest := _) d_QM_pass_98 lk_QM_329 y_QM_strike v_QM_strike rfl rfl rfl (by decide) rfl rfl rfl rfl (by decide) (by decide) (ct_QM_strike hR s k hk (by omega)) ?_
  rintro _ _ _ ⟨rfl, rfl, rfl⟩
  refine qx_iload_n d_QM_pass_101 rfl rfl ?_
  refine qx_iconstN (v := 1) d_QM_pass_102 rfl ?_
  refine qx_icmp_neN (t := 110) d_QM_pass_103 rfl (by omega) (by omega) (fun c103 => ?_) (fun c103 => absurd c103 (by decide))
  refine qx_aload_n d_QM_pass_110 rfl rfl ?_
  refine qx_iload_n d_QM_pass_111 rfl rfl ?_
  refine qx_iload d_QM_pass_112 rfl ?_
  refine qx_iload d_QM_pass_114 rfl ?_
  refine qx_callV (As := [_, _, _]) (rest := _) d_QM_pass_116 lk_QM_332 y_QM_deliver v_QM_deliver rfl rfl rfl (by decide) rfl rfl rfl rfl (by decide) (by decide) hD ?_
  intro v1 h1 n1 hq
  obtain ⟨rr, rfl⟩ := hRq v1 h1 n1 hq
  exact qx_iret d_QM_pass_119 rfl rfl (by omega) (by omega) hq
