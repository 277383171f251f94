theorem cJ_kd {h : qH} {s : sJ} {t : Nat} (ht : t < 16) : (cJ h s).1 (90 + t) 0 = h.1 (90 + t) 0 := congrFun (cJ_t ht) 0
theorem cJ_dn {h : qH} {s : sJ} {t : Nat} (ht : t < 16) : (cJ h s).1 (90 + t) 5 = h.1 (90 + t) 5 := congrFun (cJ_t ht) 5
theorem cJ_pt {h : qH} {s : sJ} {t : Nat} (ht : t < 16) : (cJ h s).1 (90 + t) 1 = h.1 (90 + t) 1 := congrFun (cJ_t ht) 1
theorem cJ_rw {h : qH} {s : sJ} {t : Nat} (ht : t < 16) : (cJ h s).1 (90 + t) 2 = h.1 (90 + t) 2 := congrFun (cJ_t ht) 2
theorem cJ_as {h : qH} {s : sJ} {t : Nat} (ht : t < 16) : (cJ h s).1 (90 + t) 3 = nI (sAt s t) := congrFun (cJ_t ht) 3
theorem cJ_ss {h : qH} {s : sJ} {t : Nat} (ht : t < 16) : (cJ h s).1 (90 + t) 4 = sSa s t := congrFun (cJ_t ht) 4
set_option maxRecDepth 100000 in
set_option maxHeartbeats 4000000 in
theorem ct_Jo_sendReady {h : qH} (hJ : jobOk h) (nt : Nat) (hnt16 : nt ≤ 16) (hnt : h.1 83 3 = nI nt) (kd : Nat → Nat) (hkd4 : ∀ t, t < nt → kd t < 4) (hkd : ∀ t, t < nt → h.1 (90 + t) 0 = nI (kd t)) (dn : Nat → Bool) (hdn : ∀ t, t < nt → h.1 (90 + t) 5 = b2i (dn t)) (s : sJ) (tm : Int32) (htm : h.1 83 6 = tm) (hw : ∀ i, i ≤ nt → sW (sReady kd dn nt tm s i) ≤ 68) (hat : ∀ t, t < nt → sAt s t < 100000) : qT mi_Jo_sendReady 2 0 0 [.ref 83] (cJ h s) NN (fun v1 h1 n1 => v1 = none ∧ h1 = cJ h (sReady kd dn nt tm s nt) ∧ n1 = NN) := by
  refine qT.of (lv0 := [_, _]) (by decide +kernel) (fun _ _ => Nat.le_of_ble_eq_true rfl) rfl ?_
  have key : ∀ (m i : Nat), i + m = nt → qX mi_Jo_sendReady 2 none 0 0 2 [.ref 83, .int (nI i)] [] (cJ h (sReady kd dn nt tm s i)) NN 0 0 (fun v1 h1 n1 => v1 = none ∧ h1 = cJ h (sReady kd dn nt tm s nt) ∧ n1 = NN) := by
    intro m
    induction m with
    | zero =>
      intro i hi
      refine qx_iload_n d_Jo_sendReady_2 rfl rfl ?_
      refine qx_aload_n d_Jo_sendReady_3 rfl rfl ?_
      refine qx_getI d_Jo_sendReady_4 fI_Jo_39 rfl rfl hnt ?_
      refine qx_icmp_geN (t := 49) d_Jo_sendReady_7 rfl (by omega) (by omega) (fun c7 => ?_) (fun c7 => absurd c7 (by omega))
      exact qx_ret d_Jo_sendReady_49 rfl (by omega) (by omega) ⟨rfl, by rw [show i = nt by omega], rfl⟩
    | succ m ih =>
      intro i hi
      have ht : i < 16 := by omega
      have hs : sReady kd dn nt tm s (i + 1) = if ((decide (kd i < 2) || adn kd dn (kd i) nt) && decide (sAt (sReady kd dn nt tm s i) i = 0)) = true then sRun tm (sReady kd dn nt tm s i) i else (sReady kd dn nt tm s i) := rfl
      have k2 := ih (i + 1) (by omega)
      rw [hs] at k2
      refine qx_iload_n d_Jo_sendReady_2 rfl rfl ?_
      refine qx_aload_n d_Jo_sendReady_3 rfl rfl ?_
      refine qx_getI d_Jo_sendReady_4 fI_Jo_39 rfl rfl hnt ?_
      refine qx_icmp_geN (t := 49) d_Jo_sendReady_7 rfl (by omega) (by omega) (fun c7 => absurd c7 (by omega)) (fun c7 => ?_)
      refine qx_aload_n d_Jo_sendReady_10 rfl rfl ?_
      refine qx_getR d_Jo_sendReady_11 fR_Jo_11 rfl rfl (congrFun hJ.1 2) ?_
      refine qx_iload_n d_Jo_sendReady_14 rfl rfl ?_
      refine qx_aald (j := i) (t := 2)  d_Jo_sendReady_15 rfl (fun _ => rfl) rfl rfl rfl ht (hJ.2.1 i ht) ?_
      refine qx_getI d_Jo_sendReady_16 fI_Jo_58 (ta_pl ht).1 (ta_pl ht).2 (show _ = nI (sAt (sReady kd dn nt tm s i) i) from cJ_as ht) ?_
      refine qx_if_neN (t := 43) d_Jo_sendReady_19 rfl (by rw [sReady_at kd dn nt tm s i i (Nat.le_refl _)]; have := hat i (by omega); omega) (fun c19 => ?_) (fun c19 => ?_)
      · refine qx_iincN (w := 1) (lv1 := [_, _]) d_Jo_sendReady_43 rfl rfl (by decide) rfl ?_
        refine qx_goto (t := 2) d_Jo_sendReady_46 rfl ?_
        first
          | (have z := c35; rw [z, decide_eq_true c19] at k2; exact k2)
          | (rw [decide_eq_false (Nat.ne_of_gt c19), Bool.and_false] at k2; exact k2)
      · refine qx_aload_n d_Jo_sendReady_22 rfl rfl ?_
        refine qx_aload_n d_Jo_sendReady_23 rfl rfl ?_
        refine qx_getR d_Jo_sendReady_24 fR_Jo_11 rfl rfl (congrFun hJ.1 2) ?_
        refine qx_iload_n d_Jo_sendReady_27 rfl rfl ?_
        refine qx_aald (j := i) (t := 2)  d_Jo_sendReady_28 rfl (fun _ => rfl) rfl rfl rfl ht (hJ.2.1 i ht) ?_
        refine qx_getI d_Jo_sendReady_29 fI_Jo_61 (ta_pl ht).1 (ta_pl ht).2 (show _ = nI (kd i) from (cJ_kd ht).trans (hkd i (by omega))) ?_
        refine qx_callV (As := [_]) (rest := _) d_Jo_sendReady_32 lk_Jo_64 y_Jo_isReady v_Jo_isReady rfl rfl rfl (by decide) rfl rfl rfl rfl (by decide) (by decide) (ct_Jo_isReady (h := cJ h (sReady kd dn nt tm s i)) hJ nt hnt16 hnt kd hkd4 (fun t q => (cJ_kd (by omega)).trans (hkd t q)) dn (fun t q => (cJ_dn (by omega)).trans (hdn t q)) (kd i) (hkd4 i (by omega))) ?_
        rintro _ _ _ ⟨rfl, rfl, rfl⟩
        refine qx_if_eqB (t := 43) d_Jo_sendReady_35 rfl (fun c35 => ?_) (fun c35 => ?_)
        · refine qx_iincN (w := 1) (lv1 := [_, _]) d_Jo_sendReady_43 rfl rfl (by decide) rfl ?_
          refine qx_goto (t := 2) d_Jo_sendReady_46 rfl ?_
          first
            | (have z := c35; rw [z, decide_eq_true c19] at k2; exact k2)
            | (rw [decide_eq_false (Nat.ne_of_gt c19), Bool.and_false] at k2; exact k2)
        · refine qx_aload_n d_Jo_sendReady_38 rfl rfl ?_
          refine qx_iload_n d_Jo_sendReady_39 rfl rfl ?_
          refine qx_callV (As := [_]) (rest := _) d_Jo_sendReady_40 lk_Jo_68 y_Jo_sendRun v_Jo_sendRun rfl rfl rfl (by decide) rfl rfl rfl rfl (by decide) (by decide) (ct_Jo_sendRun hJ (sReady kd dn nt tm s i) tm htm i ht (by have := hw (i + 1) (by omega); rw [hs, if_pos (by rw [c35, decide_eq_true c19]; rfl)] at this; exact this)) ?_
          rintro _ _ _ ⟨rfl, rfl, rfl⟩
          refine qx_iincN (w := 1) (lv1 := [_, _]) d_Jo_sendReady_43 rfl rfl (by decide) rfl ?_
          refine qx_goto (t := 2) d_Jo_sendReady_46 rfl ?_
          first
            | (have z := c35; rw [z, decide_eq_true c19] at k2; exact k2)
            | (rw [decide_eq_false (Nat.ne_of_gt c19), Bool.and_false] at k2; exact k2)
  refine qx_iconstN (v := 0) d_Jo_sendReady_0 rfl ?_
  refine qx_istore_n (lv1 := [_, _]) d_Jo_sendReady_1 rfl (by decide) rfl ?_
  exact key nt 0 (by omega)
set_option maxRecDepth 100000 in
set_option maxHeartbeats 4000000 in
theorem ct_Jo_workerOf {h : qH} (hJ : jobOk h) (pt : Nat → Nat) (t a wk : Nat) (ht : t < 16) (hpt : h.1 (90 + t) 1 = nI (pt t)) (hp4 : pt t < 4) (ha : a < 100000) (hwk : h.1 83 1 = nI wk) (h1w : 1 ≤ wk) (hw4 : wk ≤ 4) : qT mi_Jo_workerOf 1 0 0 [.ref 83, .int (nI t), .int (nI a)] h NN (fun v1 h1 n1 => v1 = some (.int (nI ((pt t + a) % wk))) ∧ h = h1 ∧ n1 = NN) := by
  refine qT.of (lv0 := [_, _, _]) (by decide +kernel) (fun _ _ => Nat.le_of_ble_eq_true rfl) rfl ?_
  refine qx_aload_n d_Jo_workerOf_0 rfl rfl ?_
  refine qx_getI d_Jo_workerOf_1 fI_Jo_35 rfl rfl hwk ?_
  refine qx_iconstN (v := 1) d_Jo_workerOf_4 rfl ?_
  refine qx_icmp_geN (t := 12) d_Jo_workerOf_5 rfl (by omega) (by omega) (fun c5 => ?_) (fun c5 => absurd c5 (by omega))
  refine qx_aload_n d_Jo_workerOf_12 rfl rfl ?_
  refine qx_getR d_Jo_workerOf_13 fR_Jo_11 rfl rfl (congrFun hJ.1 2) ?_
  refine qx_iload_n d_Jo_workerOf_16 rfl rfl ?_
  refine qx_aald (j := t) (t := 2)  d_Jo_workerOf_17 rfl (fun _ => rfl) rfl rfl rfl ht (hJ.2.1 t ht) ?_
  refine qx_getI d_Jo_workerOf_18 fI_Jo_84 (ta_pl ht).1 (ta_pl ht).2 hpt ?_
  refine qx_iload_n d_Jo_workerOf_21 rfl rfl ?_
  refine qx_iaddN d_Jo_workerOf_22 ?_
  refine qx_aload_n d_Jo_workerOf_23 rfl rfl ?_
  refine qx_getI d_Jo_workerOf_24 fI_Jo_35 rfl rfl hwk ?_
  refine qx_callS (As := [_, _]) (rest := _) d_Jo_workerOf_27 lk_Jo_87 y_JM_floorModI s_JM_floorModI rfl rfl rfl rfl (by decide) (by decide) (ct_JM_floorModI (pt t + a) wk (by omega) h1w (by omega) (fmI_x (by omega) (by omega))) ?_
  rintro _ _ _ ⟨rfl, rfl, rfl⟩
  exact qx_iret d_Jo_workerOf_30 rfl rfl (by omega) (by omega) ⟨rfl, rfl, rfl⟩
set_option maxRecDepth 100000 in
set_option maxHeartbeats 4000000 in
theorem ct_Jo_forgetMessages {h : qH} (hJ : jobOk h) (Q : sQ) (s : sJ) : qT mi_Jo_forgetMessages 0 0 0 [.ref 83] (cJ (kQ h Q) s) NN (fun v1 h1 n1 => v1 = none ∧ h1 = cJ (kQ h (Q.1, Q.2.1, Q.2.2.1, (va_up (va_up (va_up (va_up Q.2.2.2 0 0) 1 0) 2 0) 3 0))) (sAt s, sSa s, sMk s, sMt s, sMa s, 0) ∧ n1 = NN) := by
  refine qT.of (lv0 := [_, _]) (by decide +kernel) (fun _ _ => Nat.le_of_ble_eq_true rfl) rfl ?_
  refine qx_aload_n d_Jo_forgetMessages_0 rfl rfl ?_
  refine qx_getR d_Jo_forgetMessages_1 fR_Jo_22 rfl rfl (congrFun hJ.1 7) ?_
  refine qx_iconstN (v := 0) d_Jo_forgetMessages_4 rfl ?_
  refine qx_putI d_Jo_forgetMessages_5 fI_Jo_51 rfl rfl ⟨rfl, rfl⟩ ?_
  refine qx_eq (h1 := cJ (kQ h Q) (sAt s, sSa s, sMk s, sMt s, sMa s, 0)) rfl rfl rfl (cJ_w (v := 0)).symm ?_
  refine qx_iconstN (v := 0) d_Jo_forgetMessages_8 rfl ?_
  refine qx_istore_n (lv1 := [_, _]) d_Jo_forgetMessages_9 rfl (by decide) rfl ?_
  refine qx_iload_n d_Jo_forgetMessages_10 rfl rfl ?_
  refine qx_iconstN (v := 4) d_Jo_forgetMessages_11 rfl ?_
  refine qx_icmp_geN (t := 31) d_Jo_forgetMessages_12 rfl (by omega) (by omega) (fun c12 => absurd c12 (by omega)) (fun c12 => ?_)
  refine qx_aload_n d_Jo_forgetMessages_15 rfl rfl ?_
  refine qx_getR d_Jo_forgetMessages_16 fR_Jo_26 rfl rfl (congrFun hJ.1 8) ?_
  refine qx_iload_n d_Jo_forgetMessages_19 rfl rfl ?_
  refine qx_aald (j := 0) (t := 3)  d_Jo_forgetMessages_20 rfl (fun _ => rfl) rfl rfl rfl (by omega) (hJ.2.2.2.1 0 (by omega)) ?_
  refine qx_iconstN (v := 0) d_Jo_forgetMessages_21 rfl ?_
  refine qx_putI d_Jo_forgetMessages_22 fI_Jo_51 (li_pl (w := 0) (by omega)).1 (li_pl (w := 0) (by omega)).2.1 ⟨rfl, rfl⟩ ?_
  refine qx_eq (h1 := cJ (kQ h (Q.1, Q.2.1, Q.2.2.1, (va_up Q.2.2.2 0 0))) (sAt s, sSa s, sMk s, sMt s, sMa s, 0)) rfl rfl rfl ((cJ_x (by omega)).trans (by rw [kQ_n (Q := (Q.1, Q.2.1, Q.2.2.1, Q.2.2.2)) (w := 0) (by omega)])).symm ?_
  refine qx_iincN (w := 1) (lv1 := [_, _]) d_Jo_forgetMessages_25 rfl rfl (by decide) rfl ?_
  refine qx_goto (t := 10) d_Jo_forgetMessages_28 rfl ?_
  refine qx_iload_n d_Jo_forgetMessages_10 rfl rfl ?_
  refine qx_iconstN (v := 4) d_Jo_forgetMessages_11 rfl ?_
  refine qx_icmp_geN (t := 31) d_Jo_forgetMessages_12 rfl (by omega) (by omega) (fun c12 => absurd c12 (by omega)) (fun c12 => ?_)
  refine qx_aload_n d_Jo_forgetMessages_15 rfl rfl ?_
  refine qx_getR d_Jo_forgetMessages_16 fR_Jo_26 rfl rfl (congrFun hJ.1 8) ?_
  refine qx_iload_n d_Jo_forgetMessages_19 rfl rfl ?_
  refine qx_aald (j := 1) (t := 3)  d_Jo_forgetMessages_20 rfl (fun _ => rfl) rfl rfl rfl (by omega) (hJ.2.2.2.1 1 (by omega)) ?_
  refine qx_iconstN (v := 0) d_Jo_forgetMessages_21 rfl ?_
  refine qx_putI d_Jo_forgetMessages_22 fI_Jo_51 (li_pl (w := 1) (by omega)).1 (li_pl (w := 1) (by omega)).2.1 ⟨rfl, rfl⟩ ?_
  refine qx_eq (h1 := cJ (kQ h (Q.1, Q.2.1, Q.2.2.1, (va_up (va_up Q.2.2.2 0 0) 1 0))) (sAt s, sSa s, sMk s, sMt s, sMa s, 0)) rfl rfl rfl ((cJ_x (by omega)).trans (by rw [kQ_n (Q := (Q.1, Q.2.1, Q.2.2.1, (va_up Q.2.2.2 0 0))) (w := 1) (by omega)])).symm ?_
  refine qx_iincN (w := 1) (lv1 := [_, _]) d_Jo_forgetMessages_25 rfl rfl (by decide) rfl ?_
  refine qx_goto (t := 10) d_Jo_forgetMessages_28 rfl ?_
  refine qx_iload_n d_Jo_forgetMessages_10 rfl rfl ?_
  refine qx_iconstN (v := 4) d_Jo_forgetMessages_11 rfl ?_
  refine qx_icmp_geN (t := 31) d_Jo_forgetMessages_12 rfl (by omega) (by omega) (fun c12 => absurd c12 (by omega)) (fun c12 => ?_)
  refine qx_aload_n d_Jo_forgetMessages_15 rfl rfl ?_
  refine qx_getR d_Jo_forgetMessages_16 fR_Jo_26 rfl rfl (congrFun hJ.1 8) ?_
  refine qx_iload_n d_Jo_forgetMessages_19 rfl rfl ?_
  refine qx_aald (j := 2) (t := 3)  d_Jo_forgetMessages_20 rfl (fun _ => rfl) rfl rfl rfl (by omega) (hJ.2.2.2.1 2 (by omega)) ?_
  refine qx_iconstN (v := 0) d_Jo_forgetMessages_21 rfl ?_
  refine qx_putI d_Jo_forgetMessages_22 fI_Jo_51 (li_pl (w := 2) (by omega)).1 (li_pl (w := 2) (by omega)).2.1 ⟨rfl, rfl⟩ ?_
  refine qx_eq (h1 := cJ (kQ h (Q.1, Q.2.1, Q.2.2.1, (va_up (va_up (va_up Q.2.2.2 0 0) 1 0) 2 0))) (sAt s, sSa s, sMk s, sMt s, sMa s, 0)) rfl rfl rfl ((cJ_x (by omega)).trans (by rw [kQ_n (Q := (Q.1, Q.2.1, Q.2.2.1, (va_up (va_up Q.2.2.2 0 0) 1 0))) (w := 2) (by omega)])).symm ?_
  refine qx_iincN (w := 1) (lv1 := [_, _]) d_Jo_forgetMessages_25 rfl rfl (by decide) rfl ?_
  refine qx_goto (t := 10) d_Jo_forgetMessages_28 rfl ?_
  refine qx_iload_n d_Jo_forgetMessages_10 rfl rfl ?_
  refine qx_iconstN (v := 4) d_Jo_forgetMessages_11 rfl ?_
  refine qx_icmp_geN (t := 31) d_Jo_forgetMessages_12 rfl (by omega) (by omega) (fun c12 => absurd c12 (by omega)) (fun c12 => ?_)
  refine qx_aload_n d_Jo_forgetMessages_15 rfl rfl ?_
  refine qx_getR d_Jo_forgetMessages_16 fR_Jo_26 rfl rfl (congrFun hJ.1 8) ?_
  refine qx_iload_n d_Jo_forgetMessages_19 rfl rfl ?_
  refine qx_aald (j := 3) (t := 3)  d_Jo_forgetMessages_20 rfl (fun _ => rfl) rfl rfl rfl (by omega) (hJ.2.2.2.1 3 (by omega)) ?_
  refine qx_iconstN (v := 0) d_Jo_forgetMessages_21 rfl ?_
  refine qx_putI d_Jo_forgetMessages_22 fI_Jo_51 (li_pl (w := 3) (by omega)).1 (li_pl (w := 3) (by omega)).2.1 ⟨rfl, rfl⟩ ?_
  refine qx_eq (h1 := cJ (kQ h (Q.1, Q.2.1, Q.2.2.1, (va_up (va_up (va_up (va_up Q.2.2.2 0 0) 1 0) 2 0) 3 0))) (sAt s, sSa s, sMk s, sMt s, sMa s, 0)) rfl rfl rfl ((cJ_x (by omega)).trans (by rw [kQ_n (Q := (Q.1, Q.2.1, Q.2.2.1, (va_up (va_up (va_up Q.2.2.2 0 0) 1 0) 2 0))) (w := 3) (by omega)])).symm ?_
  refine qx_iincN (w := 1) (lv1 := [_, _]) d_Jo_forgetMessages_25 rfl rfl (by decide) rfl ?_
  refine qx_goto (t := 10) d_Jo_forgetMessages_28 rfl ?_
  refine qx_iload_n d_Jo_forgetMessages_10 rfl rfl ?_
  refine qx_iconstN (v := 4) d_Jo_forgetMessages_11 rfl ?_
  refine qx_icmp_geN (t := 31) d_Jo_forgetMessages_12 rfl (by omega) (by omega) (fun c12 => ?_) (fun c12 => absurd c12 (by omega))
  exact qx_ret d_Jo_forgetMessages_31 rfl (by omega) (by omega) ⟨rfl, rfl, rfl⟩
set_option maxRecDepth 100000 in
set_option maxHeartbeats 4000000 in
theorem ct_Jo_clear {h : qH} (hJ : jobOk h) (Q : sQ) (s : sJ) (w : Int32) : qT mi_Jo_clear 1 0 0 [.ref 83, .int w] (cJ (kQ h Q) s) NN (fun v1 h1 n1 => v1 = none ∧ h1 = cJ (kQ (qpI (qpI (qpI (qpI (qpI h 83 0 (nI 1)) 83 1 w) 83 3 (nI 0)) 83 4 (nI 0)) 83 5 (nI 0)) (Q.1, Q.2.1, Q.2.2.1, (va_up (va_up (va_up (va_up Q.2.2.2 0 0) 1 0) 2 0) 3 0))) (sAt s, sSa s, sMk s, sMt s, sMa s, 0) ∧ n1 = NN) := by
  refine qT.of (lv0 := [_, _]) (by decide +kernel) (fun _ _ => Nat.le_of_ble_eq_true rfl) rfl ?_
  refine qx_aload_n d_Jo_clear_0 rfl rfl ?_
  refine qx_iconstN (v := 1) d_Jo_clear_1 rfl ?_
  refine qx_putI d_Jo_clear_2 fI_Jo_31 rfl rfl ⟨rfl, rfl⟩ ?_
  refine qx_aload_n d_Jo_clear_5 rfl rfl ?_
  refine qx_iload_n d_Jo_clear_6 rfl rfl ?_
  refine qx_putI d_Jo_clear_7 fI_Jo_35 rfl rfl ⟨rfl, rfl⟩ ?_
  refine qx_aload_n d_Jo_clear_10 rfl rfl ?_
  refine qx_iconstN (v := 0) d_Jo_clear_11 rfl ?_
  refine qx_putI d_Jo_clear_12 fI_Jo_39 rfl rfl ⟨rfl, rfl⟩ ?_
  refine qx_aload_n d_Jo_clear_15 rfl rfl ?_
  refine qx_iconstN (v := 0) d_Jo_clear_16 rfl ?_
  refine qx_putI d_Jo_clear_17 fI_Jo_42 rfl rfl ⟨rfl, rfl⟩ ?_
  refine qx_aload_n d_Jo_clear_20 rfl rfl ?_
  refine qx_iconstN (v := 0) d_Jo_clear_21 rfl ?_
  refine qx_putI d_Jo_clear_22 fI_Jo_45 rfl rfl ⟨rfl, rfl⟩ ?_
  refine qx_eq (h1 := cJ (kQ (qpI (qpI (qpI (qpI (qpI h 83 0 (nI 1)) 83 1 w) 83 3 (nI 0)) 83 4 (nI 0)) 83 5 (nI 0)) Q) s) rfl rfl rfl (by rw [cJ_x (Or.inl (by omega)), kQ_ov (Or.inl (by omega)), cJ_x (Or.inl (by omega)), kQ_ov (Or.inl (by omega)), cJ_x (Or.inl (by omega)), kQ_ov (Or.inl (by omega)), cJ_x (Or.inl (by omega)), kQ_ov (Or.inl (by omega)), cJ_x (Or.inl (by omega)), kQ_ov (Or.inl (by omega))]) ?_
  refine qx_aload_n d_Jo_clear_25 rfl rfl ?_
  refine qx_callV (As := []) (rest := _) d_Jo_clear_26 lk_Jo_48 y_Jo_forgetMessages v_Jo_forgetMessages rfl rfl rfl (by decide) rfl rfl rfl rfl (by decide) (by decide) (ct_Jo_forgetMessages (h := (qpI (qpI (qpI (qpI (qpI h 83 0 (nI 1)) 83 1 w) 83 3 (nI 0)) 83 4 (nI 0)) 83 5 (nI 0))) hJ Q s) ?_
  rintro _ _ _ ⟨rfl, rfl, rfl⟩
  exact qx_ret d_Jo_clear_29 rfl (by omega) (by omega) ⟨rfl, rfl, rfl⟩
