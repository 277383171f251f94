set_option maxRecDepth 100000 in
set_option maxHeartbeats 4000000 in
theorem ct_Jo_finish {h : qH} (hJ : jobOk h) (nt : Nat) (hnt16 : nt ≤ 16) (hnt : h.1 83 3 = nI nt) (kd : Nat → Nat) (hkd4 : ∀ t, t < nt → kd t < 4) (hkd : ∀ t, t < nt → h.1 (90 + t) 0 = nI (kd t)) (dn : Nat → Bool) (hdn : ∀ t, t < nt → h.1 (90 + t) 5 = b2i (dn t)) (s : sJ) (tm : Int32) (htm : h.1 83 6 = tm) (t : Nat) (htn : t < nt) (ud : Nat) (hu16 : ud ≤ 16) (hud : h.1 83 4 = nI ud) (hu2 : 2 ≤ ud) (hw : ∀ i, i ≤ nt → sW (sReady kd (va_up dn t true) nt tm s i) ≤ 68) (hat : ∀ t, t < nt → sAt s t < 100000) : qT mi_Jo_finish 3 0 0 [.ref 83, .int (nI t)] (cJ h s) NN (fun v1 h1 n1 => v1 = none ∧ h1 = cJ (qpI (qpI h (90 + t) 5 (nI 1)) 83 4 (nI (ud - 1))) (sReady kd (va_up dn t true) nt tm s nt) ∧ n1 = NN) := by
  refine qT.of (lv0 := [_, _]) (by decide +kernel) (fun _ _ => Nat.le_of_ble_eq_true rfl) rfl ?_
  have ht : t < 16 := by omega
  have hkd2 : ∀ j, j < nt → (qpI (qpI h (90 + t) 5 (nI 1)) 83 4 (nI (ud - 1))).1 (90 + j) 0 = nI (kd j) := by
    intro j hj
    rw [(qpI_o (qpI h (90 + t) 5 (nI 1)) 83 4 _ (90 + j) (by omega)).1]
    by_cases e : j = t
    · subst e; rw [qI_ne (by omega)]; exact hkd _ hj
    · rw [(qpI_o h (90 + t) 5 _ (90 + j) (by omega)).1]; exact hkd _ hj
  have hdn2 : ∀ j, j < nt → (qpI (qpI h (90 + t) 5 (nI 1)) 83 4 (nI (ud - 1))).1 (90 + j) 5 = b2i ((va_up dn t true) j) := by
    intro j hj
    rw [(qpI_o (qpI h (90 + t) 5 (nI 1)) 83 4 _ (90 + j) (by omega)).1]
    by_cases e : j = t
    · subst e; rw [qI_get, qus]; rfl
    · rw [(qpI_o h (90 + t) 5 _ (90 + j) (by omega)).1, qun e]; exact hdn _ hj
  have h83 : ∀ f, (qpI h (90 + t) 5 (nI 1)).1 83 f = h.1 83 f := fun f => congrFun (qpI_o h (90 + t) 5 _ 83 (by omega)).1 f
  have htm2 : (qpI (qpI h (90 + t) 5 (nI 1)) 83 4 (nI (ud - 1))).1 83 6 = tm := (qI_ne (by omega)).trans ((h83 6).trans htm)
  have hnt2 : (qpI (qpI h (90 + t) 5 (nI 1)) 83 4 (nI (ud - 1))).1 83 3 = nI nt := (qI_ne (by omega)).trans ((h83 3).trans hnt)
  refine qx_aload_n d_Jo_finish_0 rfl rfl ?_
  refine qx_getR d_Jo_finish_1 fR_Jo_11 rfl rfl (congrFun hJ.1 2) ?_
  refine qx_iload_n d_Jo_finish_4 rfl rfl ?_
  refine qx_aald (j := t) (t := 2)  d_Jo_finish_5 rfl (fun _ => rfl) rfl rfl rfl ht (hJ.2.1 t ht) ?_
  refine qx_iconstN (v := 1) d_Jo_finish_6 rfl ?_
  refine qx_putI d_Jo_finish_7 fI_Jo_71 (ta_pl ht).1 (ta_pl ht).2 ⟨rfl, rfl⟩ ?_
  refine qx_eq (h1 := cJ (qpI h (90 + t) 5 (nI 1)) s) rfl rfl rfl (cJ_o ht (by omega) (by omega)).symm ?_
  refine qx_aload_n d_Jo_finish_10 rfl rfl ?_
  refine qx_dup d_Jo_finish_11 rfl ?_
  refine qx_getI d_Jo_finish_12 fI_Jo_42 rfl rfl (show _ = nI ud from (h83 4).trans hud) ?_
  refine qx_iconstN (v := 1) d_Jo_finish_15 rfl ?_
  refine qx_isubN d_Jo_finish_16 (by omega) ?_
  refine qx_putI d_Jo_finish_17 fI_Jo_42 rfl rfl ⟨rfl, rfl⟩ ?_
  refine qx_eq (h1 := cJ (qpI (qpI h (90 + t) 5 (nI 1)) 83 4 (nI (ud - 1))) s) rfl rfl rfl (cJ_x (Or.inl (by omega))).symm ?_
  refine qx_aload_n d_Jo_finish_20 rfl rfl ?_
  refine qx_getI d_Jo_finish_21 fI_Jo_42 rfl rfl (show _ = nI (ud - 1) from rfl) ?_
  refine qx_if_neN (t := 39) d_Jo_finish_24 rfl (by omega) (fun c24 => ?_) (fun c24 => absurd c24 (by omega))
  refine qx_aload_n d_Jo_finish_39 rfl rfl ?_
  refine qx_callV (As := []) (rest := _) d_Jo_finish_40 lk_Jo_110 y_Jo_sendReady v_Jo_sendReady rfl rfl rfl (by decide) rfl rfl rfl rfl (by decide) (by decide) (ct_Jo_sendReady (h := (qpI (qpI h (90 + t) 5 (nI 1)) 83 4 (nI (ud - 1)))) hJ nt hnt16 hnt2 kd hkd4 hkd2 (va_up dn t true) hdn2 s tm htm2 hw hat) ?_
  rintro _ _ _ ⟨rfl, rfl, rfl⟩
  exact qx_ret d_Jo_finish_43 rfl (by omega) (by omega) ⟨rfl, rfl, rfl⟩
set_option maxRecDepth 100000 in
set_option maxHeartbeats 4000000 in
theorem ct_Jo_finish_last {h : qH} (hJ : jobOk h) (Q : sQ) (s : sJ) (t : Nat) (ht : t < 16) (ud : Nat) (hu16 : ud ≤ 16) (hud : h.1 83 4 = nI ud) (hu1 : ud = 1) : qT mi_Jo_finish 3 0 0 [.ref 83, .int (nI t)] (cJ (kQ h Q) s) NN (fun v1 h1 n1 => v1 = none ∧ h1 = cJ (kQ (qpI (qpI (qpI h (90 + t) 5 (nI 1)) 83 4 (nI (ud - 1))) 83 0 (nI 0)) (Q.1, Q.2.1, Q.2.2.1, (va_up (va_up (va_up (va_up Q.2.2.2 0 0) 1 0) 2 0) 3 0))) (sAt s, sSa s, sMk s, sMt s, sMa s, 0) ∧ n1 = NN) := by
  refine qT.of (lv0 := [_, _]) (by decide +kernel) (fun _ _ => Nat.le_of_ble_eq_true rfl) rfl ?_
  have h83 : ∀ f, (qpI h (90 + t) 5 (nI 1)).1 83 f = h.1 83 f := fun f => congrFun (qpI_o h (90 + t) 5 _ 83 (by omega)).1 f
  refine qx_aload_n d_Jo_finish_0 rfl rfl ?_
  refine qx_getR d_Jo_finish_1 fR_Jo_11 rfl rfl (congrFun hJ.1 2) ?_
  refine qx_iload_n d_Jo_finish_4 rfl rfl ?_
  refine qx_aald (j := t) (t := 2)  d_Jo_finish_5 rfl (fun _ => rfl) rfl rfl rfl ht (hJ.2.1 t ht) ?_
  refine qx_iconstN (v := 1) d_Jo_finish_6 rfl ?_
  refine qx_putI d_Jo_finish_7 fI_Jo_71 (ta_pl ht).1 (ta_pl ht).2 ⟨rfl, rfl⟩ ?_
  refine qx_eq (h1 := cJ (kQ (qpI h (90 + t) 5 (nI 1)) Q) s) rfl rfl rfl ((cJ_o ht (by omega) (by omega)).trans (by rw [kQ_ov (by omega)])).symm ?_
  refine qx_aload_n d_Jo_finish_10 rfl rfl ?_
  refine qx_dup d_Jo_finish_11 rfl ?_
  refine qx_getI d_Jo_finish_12 fI_Jo_42 rfl rfl (show _ = nI ud from (h83 4).trans hud) ?_
  refine qx_iconstN (v := 1) d_Jo_finish_15 rfl ?_
  refine qx_isubN d_Jo_finish_16 (by omega) ?_
  refine qx_putI d_Jo_finish_17 fI_Jo_42 rfl rfl ⟨rfl, rfl⟩ ?_
  refine qx_eq (h1 := cJ (kQ (qpI (qpI h (90 + t) 5 (nI 1)) 83 4 (nI (ud - 1))) Q) s) rfl rfl rfl ((cJ_x (Or.inl (by omega))).trans (by rw [kQ_ov (by omega)])).symm ?_
  refine qx_aload_n d_Jo_finish_20 rfl rfl ?_
  refine qx_getI d_Jo_finish_21 fI_Jo_42 rfl rfl (show _ = nI (ud - 1) from rfl) ?_
  refine qx_if_neN (t := 39) d_Jo_finish_24 rfl (by omega) (fun c24 => absurd c24 (by omega)) (fun c24 => ?_)
  refine qx_aload_n d_Jo_finish_27 rfl rfl ?_
  refine qx_iconstN (v := 0) d_Jo_finish_28 rfl ?_
  refine qx_putI d_Jo_finish_29 fI_Jo_31 rfl rfl ⟨rfl, rfl⟩ ?_
  refine qx_eq (h1 := cJ (kQ (qpI (qpI (qpI h (90 + t) 5 (nI 1)) 83 4 (nI (ud - 1))) 83 0 (nI 0)) Q) s) rfl rfl rfl ((cJ_x (Or.inl (by omega))).trans (by rw [kQ_ov (by omega)])).symm ?_
  refine qx_aload_n d_Jo_finish_32 rfl rfl ?_
  refine qx_callV (As := []) (rest := _) d_Jo_finish_33 lk_Jo_48 y_Jo_forgetMessages v_Jo_forgetMessages rfl rfl rfl (by decide) rfl rfl rfl rfl (by decide) (by decide) (ct_Jo_forgetMessages (h := (qpI (qpI (qpI h (90 + t) 5 (nI 1)) 83 4 (nI (ud - 1))) 83 0 (nI 0))) hJ Q s) ?_
  rintro _ _ _ ⟨rfl, rfl, rfl⟩
  refine qx_goto (t := 43) d_Jo_finish_36 rfl ?_
  exact qx_ret d_Jo_finish_43 rfl (by omega) (by omega) ⟨rfl, rfl, rfl⟩
