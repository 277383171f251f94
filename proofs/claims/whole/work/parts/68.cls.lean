set_option maxRecDepth 100000 in
set_option maxHeartbeats 4000000 in
theorem ct_Jo_deliver_full {h : qH} (hJ : jobOk h) (Q : sQ) (s : sJ) (k : Nat) (hk : k < sW s) (hw68 : sW s ≤ 68) (t a : Nat) (et : sMt s k = t) (ea : sMa s k = a) (hk0 : sMk s k = 0) (pt : Nat → Nat) (wk : Nat) (h1w : 1 ≤ wk) (hw4 : wk ≤ 4) (hwk : h.1 83 1 = nI wk) (ht : t < 16) (hpt : h.1 (90 + t) 1 = nI (pt t)) (hp4 : pt t < 4) (ha : a < 100000) (hq : Q.2.2.2 ((pt t + a) % wk) = 12) : qT mi_Jo_deliver 2 0 0 [.ref 83, .int (nI k)] (cJ (kQ h Q) s) NN (fun v1 h1 n1 => v1 = some (.int (nI 0)) ∧ h1 = cJ (kQ h Q) (sStrike s k) ∧ n1 = NN) := by
  refine qT.of (lv0 := [_, _, _, _, _]) (by decide +kernel) (fun _ _ => Nat.le_of_ble_eq_true rfl) rfl ?_
  have hlt : ((pt t + a) % wk) < wk := Nat.mod_lt _ (by omega)
  have hw : ((pt t + a) % wk) < 4 := by omega
  refine qx_aload_n d_Jo_deliver_0 rfl rfl ?_
  refine qx_getR d_Jo_deliver_1 fR_Jo_22 rfl rfl (congrFun hJ.1 7) ?_
  refine qx_getR d_Jo_deliver_4 fR_Jo_93 rfl rfl (congrFun hJ.2.2.1 0) ?_
  refine qx_iload_n d_Jo_deliver_7 rfl rfl ?_
  refine qx_iald (j := k) d_Jo_deliver_8 rfl rfl rfl rfl (by omega) (show _ = nI 0 from congrArg nI hk0) ?_
  refine qx_istore_n (lv1 := [_, _, _, _, _]) d_Jo_deliver_9 rfl (by decide) rfl ?_
  refine qx_aload_n d_Jo_deliver_10 rfl rfl ?_
  refine qx_getR d_Jo_deliver_11 fR_Jo_22 rfl rfl (congrFun hJ.1 7) ?_
  refine qx_getR d_Jo_deliver_14 fR_Jo_97 rfl rfl (congrFun hJ.2.2.1 1) ?_
  refine qx_iload_n d_Jo_deliver_17 rfl rfl ?_
  refine qx_iald (j := k) d_Jo_deliver_18 rfl rfl rfl rfl (by omega) (show _ = nI t from congrArg nI et) ?_
  refine qx_istore_n (lv1 := [_, _, _, _, _]) d_Jo_deliver_19 rfl (by decide) rfl ?_
  refine qx_aload_n d_Jo_deliver_20 rfl rfl ?_
  refine qx_getR d_Jo_deliver_21 fR_Jo_22 rfl rfl (congrFun hJ.1 7) ?_
  refine qx_getR d_Jo_deliver_24 fR_Jo_99 rfl rfl (congrFun hJ.2.2.1 2) ?_
  refine qx_iload_n d_Jo_deliver_27 rfl rfl ?_
  refine qx_iald (j := k) d_Jo_deliver_28 rfl rfl rfl rfl (by omega) (show _ = nI a from congrArg nI ea) ?_
  refine qx_istore (lv1 := [_, _, _, _, _]) d_Jo_deliver_29 (by decide) rfl ?_
  refine qx_aload_n d_Jo_deliver_31 rfl rfl ?_
  refine qx_getR d_Jo_deliver_32 fR_Jo_22 rfl rfl (congrFun hJ.1 7) ?_
  refine qx_iload_n d_Jo_deliver_35 rfl rfl ?_
  refine qx_callV (As := [_]) (rest := _) d_Jo_deliver_36 lk_Jo_101 y_Li_removeAt v_Li_removeAt rfl rfl rfl (by decide) rfl rfl rfl rfl (by decide) (by decide) (ct_Li_removeAt (h := tO (kQ h Q) (sAt s) (sSa s)) hJ.2.2.1 (sMk s) (sMt s) (sMa s) (sW s) hw68 k hk) ?_
  rintro _ _ _ ⟨rfl, rfl, rfl⟩
  refine qx_eq (h1 := cJ (kQ h Q) (sStrike s k)) rfl rfl rfl rfl ?_
  refine qx_iload_n d_Jo_deliver_39 rfl rfl ?_
  refine qx_if_neN (t := 71) d_Jo_deliver_40 rfl (by omega) (fun c40 => absurd c40 (by omega)) (fun c40 => ?_)
  refine qx_aload_n d_Jo_deliver_43 rfl rfl ?_
  refine qx_getR d_Jo_deliver_44 fR_Jo_26 rfl rfl (congrFun hJ.1 8) ?_
  refine qx_aload_n d_Jo_deliver_47 rfl rfl ?_
  refine qx_iload_n d_Jo_deliver_48 rfl rfl ?_
  refine qx_iload d_Jo_deliver_49 rfl ?_
  refine qx_callV (As := [_, _]) (rest := _) d_Jo_deliver_51 lk_Jo_104 y_Jo_workerOf v_Jo_workerOf rfl rfl rfl (by decide) rfl rfl rfl rfl (by decide) (by decide) (ct_Jo_workerOf (h := cJ (kQ h Q) (sStrike s k)) hJ pt t a wk ht ((cJ_pt ht).trans ((congrFun (kQ_x (by omega)) 1).trans hpt)) hp4 ha hwk h1w hw4) ?_
  rintro _ _ _ ⟨rfl, rfl, rfl⟩
  refine qx_aald (j := ((pt t + a) % wk)) (t := 3)  d_Jo_deliver_54 rfl (fun _ => rfl) rfl rfl rfl hw (hJ.2.2.2.1 ((pt t + a) % wk) hw) ?_
  refine qx_iconstN (v := 0) d_Jo_deliver_55 rfl ?_
  refine qx_iload_n d_Jo_deliver_56 rfl rfl ?_
  refine qx_iload d_Jo_deliver_57 rfl ?_
  refine qx_callV (As := [_, _, _]) (rest := _) d_Jo_deliver_59 lk_Jo_74 y_Li_add v_Li_add rfl rfl (li_pl hw).1 (by decide) rfl (li_pl hw).2.1 rfl rfl (by decide) (by decide) (ct_Li_addQ_full (h := cJ (kQ h Q) (sStrike s k)) ((pt t + a) % wk) hw (hJ.2.2.2.2 _ hw) 12 (((congrFun (cJ_n (by omega)) 3).trans (congrFun (kQ_in (j := 0) hw (by omega)) 3)).trans (show nI (Q.2.2.2 ((pt t + a) % wk)) = nI 12 by rw [hq])) rfl 0 t a) ?_
  rintro _ _ _ ⟨rfl, rfl, rfl⟩
  refine qx_if_eqB (t := 69) d_Jo_deliver_62 rfl (fun c62 => ?_) (fun c62 => absurd c62 (by decide))
  refine qx_iconstN (v := 0) d_Jo_deliver_69 rfl ?_
  exact qx_iret d_Jo_deliver_70 rfl rfl (by omega) (by omega) ⟨rfl, rfl, rfl⟩
set_option maxRecDepth 100000 in
set_option maxHeartbeats 4000000 in
theorem ct_Jo_deliver_run {h : qH} (hJ : jobOk h) (Q : sQ) (s : sJ) (k : Nat) (hk : k < sW s) (hw68 : sW s ≤ 68) (t a : Nat) (et : sMt s k = t) (ea : sMa s k = a) (hk0 : sMk s k = 0) (pt : Nat → Nat) (wk : Nat) (h1w : 1 ≤ wk) (hw4 : wk ≤ 4) (hwk : h.1 83 1 = nI wk) (ht : t < 16) (hpt : h.1 (90 + t) 1 = nI (pt t)) (hp4 : pt t < 4) (ha : a < 100000) (hq : Q.2.2.2 ((pt t + a) % wk) < 12) : qT mi_Jo_deliver 2 0 0 [.ref 83, .int (nI k)] (cJ (kQ h Q) s) NN (fun v1 h1 n1 => v1 = some (.int (nI 1)) ∧ h1 = cJ (kQ h (va_up Q.1 ((pt t + a) % wk) (va_up (Q.1 ((pt t + a) % wk)) (Q.2.2.2 ((pt t + a) % wk)) 0), va_up Q.2.1 ((pt t + a) % wk) (va_up (Q.2.1 ((pt t + a) % wk)) (Q.2.2.2 ((pt t + a) % wk)) t), va_up Q.2.2.1 ((pt t + a) % wk) (va_up (Q.2.2.1 ((pt t + a) % wk)) (Q.2.2.2 ((pt t + a) % wk)) a), va_up Q.2.2.2 ((pt t + a) % wk) (Q.2.2.2 ((pt t + a) % wk) + 1))) (sStrike s k) ∧ n1 = NN) := by
  refine qT.of (lv0 := [_, _, _, _, _]) (by decide +kernel) (fun _ _ => Nat.le_of_ble_eq_true rfl) rfl ?_
  have hlt : ((pt t + a) % wk) < wk := Nat.mod_lt _ (by omega)
  have hw : ((pt t + a) % wk) < 4 := by omega
  refine qx_aload_n d_Jo_deliver_0 rfl rfl ?_
  refine qx_getR d_Jo_deliver_1 fR_Jo_22 rfl rfl (congrFun hJ.1 7) ?_
  refine qx_getR d_Jo_deliver_4 fR_Jo_93 rfl rfl (congrFun hJ.2.2.1 0) ?_
  refine qx_iload_n d_Jo_deliver_7 rfl rfl ?_
  refine qx_iald (j := k) d_Jo_deliver_8 rfl rfl rfl rfl (by omega) (show _ = nI 0 from congrArg nI hk0) ?_
  refine qx_istore_n (lv1 := [_, _, _, _, _]) d_Jo_deliver_9 rfl (by decide) rfl ?_
  refine qx_aload_n d_Jo_deliver_10 rfl rfl ?_
  refine qx_getR d_Jo_deliver_11 fR_Jo_22 rfl rfl (congrFun hJ.1 7) ?_
  refine qx_getR d_Jo_deliver_14 fR_Jo_97 rfl rfl (congrFun hJ.2.2.1 1) ?_
  refine qx_iload_n d_Jo_deliver_17 rfl rfl ?_
  refine qx_iald (j := k) d_Jo_deliver_18 rfl rfl rfl rfl (by omega) (show _ = nI t from congrArg nI et) ?_
  refine qx_istore_n (lv1 := [_, _, _, _, _]) d_Jo_deliver_19 rfl (by decide) rfl ?_
  refine qx_aload_n d_Jo_deliver_20 rfl rfl ?_
  refine qx_getR d_Jo_deliver_21 fR_Jo_22 rfl rfl (congrFun hJ.1 7) ?_
  refine qx_getR d_Jo_deliver_24 fR_Jo_99 rfl rfl (congrFun hJ.2.2.1 2) ?_
  refine qx_iload_n d_Jo_deliver_27 rfl rfl ?_
  refine qx_iald (j := k) d_Jo_deliver_28 rfl rfl rfl rfl (by omega) (show _ = nI a from congrArg nI ea) ?_
  refine qx_istore (lv1 := [_, _, _, _, _]) d_Jo_deliver_29 (by decide) rfl ?_
  refine qx_aload_n d_Jo_deliver_31 rfl rfl ?_
  refine qx_getR d_Jo_deliver_32 fR_Jo_22 rfl rfl (congrFun hJ.1 7) ?_
  refine qx_iload_n d_Jo_deliver_35 rfl rfl ?_
  refine qx_callV (As := [_]) (rest := _) d_Jo_deliver_36 lk_Jo_101 y_Li_removeAt v_Li_removeAt rfl rfl rfl (by decide) rfl rfl rfl rfl (by decide) (by decide) (ct_Li_removeAt (h := tO (kQ h Q) (sAt s) (sSa s)) hJ.2.2.1 (sMk s) (sMt s) (sMa s) (sW s) hw68 k hk) ?_
  rintro _ _ _ ⟨rfl, rfl, rfl⟩
  refine qx_eq (h1 := cJ (kQ h Q) (sStrike s k)) rfl rfl rfl rfl ?_
  refine qx_iload_n d_Jo_deliver_39 rfl rfl ?_
  refine qx_if_neN (t := 71) d_Jo_deliver_40 rfl (by omega) (fun c40 => absurd c40 (by omega)) (fun c40 => ?_)
  refine qx_aload_n d_Jo_deliver_43 rfl rfl ?_
  refine qx_getR d_Jo_deliver_44 fR_Jo_26 rfl rfl (congrFun hJ.1 8) ?_
  refine qx_aload_n d_Jo_deliver_47 rfl rfl ?_
  refine qx_iload_n d_Jo_deliver_48 rfl rfl ?_
  refine qx_iload d_Jo_deliver_49 rfl ?_
  refine qx_callV (As := [_, _]) (rest := _) d_Jo_deliver_51 lk_Jo_104 y_Jo_workerOf v_Jo_workerOf rfl rfl rfl (by decide) rfl rfl rfl rfl (by decide) (by decide) (ct_Jo_workerOf (h := cJ (kQ h Q) (sStrike s k)) hJ pt t a wk ht ((cJ_pt ht).trans ((congrFun (kQ_x (by omega)) 1).trans hpt)) hp4 ha hwk h1w hw4) ?_
  rintro _ _ _ ⟨rfl, rfl, rfl⟩
  refine qx_aald (j := ((pt t + a) % wk)) (t := 3)  d_Jo_deliver_54 rfl (fun _ => rfl) rfl rfl rfl hw (hJ.2.2.2.1 ((pt t + a) % wk) hw) ?_
  refine qx_eq (h1 := kQ (cJ h (sStrike s k)) Q) rfl rfl rfl ckQ.symm ?_
  refine qx_iconstN (v := 0) d_Jo_deliver_55 rfl ?_
  refine qx_iload_n d_Jo_deliver_56 rfl rfl ?_
  refine qx_iload d_Jo_deliver_57 rfl ?_
  refine qx_callV (As := [_, _, _]) (rest := _) d_Jo_deliver_59 lk_Jo_74 y_Li_add v_Li_add rfl rfl (li_pl hw).1 (by decide) rfl (li_pl hw).2.1 rfl rfl (by decide) (by decide) (ct_Li_addQ (h := cJ h (sStrike s k)) ((pt t + a) % wk) hw (hJ.2.2.2.2 _ hw) Q hq 0 t a) ?_
  rintro _ _ _ ⟨rfl, rfl, rfl⟩
  refine qx_eq (h1 := cJ (kQ h (va_up Q.1 ((pt t + a) % wk) (va_up (Q.1 ((pt t + a) % wk)) (Q.2.2.2 ((pt t + a) % wk)) 0), va_up Q.2.1 ((pt t + a) % wk) (va_up (Q.2.1 ((pt t + a) % wk)) (Q.2.2.2 ((pt t + a) % wk)) t), va_up Q.2.2.1 ((pt t + a) % wk) (va_up (Q.2.2.1 ((pt t + a) % wk)) (Q.2.2.2 ((pt t + a) % wk)) a), va_up Q.2.2.2 ((pt t + a) % wk) (Q.2.2.2 ((pt t + a) % wk) + 1))) (sStrike s k)) rfl rfl rfl ckQ ?_
  refine qx_if_eqB (t := 69) d_Jo_deliver_62 rfl (fun c62 => absurd c62 (by decide)) (fun c62 => ?_)
  refine qx_iconstN (v := 1) d_Jo_deliver_65 rfl ?_
  refine qx_goto (t := 70) d_Jo_deliver_66 rfl ?_
  exact qx_iret d_Jo_deliver_70 rfl rfl (by omega) (by omega) ⟨rfl, rfl, rfl⟩
set_option maxRecDepth 100000 in
set_option maxHeartbeats 4000000 in
theorem ct_Jo_deliver_ign {h : qH} (hJ : jobOk h) (s : sJ) (k : Nat) (hk : k < sW s) (hw68 : sW s ≤ 68) (t a : Nat) (et : sMt s k = t) (ea : sMa s k = a) (hk0 : sMk s k = 1) (ht : t < 16) (hf : h.1 (90 + t) 5 = b2i true) (ig : Int32) (hig : h.1 83 5 = ig) : qT mi_Jo_deliver 2 0 0 [.ref 83, .int (nI k)] (cJ h s) NN (fun v1 h1 n1 => v1 = some (.int (nI 0)) ∧ h1 = cJ (qpI h 83 5 (ig + nI 1)) (sStrike s k) ∧ n1 = NN) := by
  refine qT.of (lv0 := [_, _, _, _, _]) (by decide +kernel) (fun _ _ => Nat.le_of_ble_eq_true rfl) rfl ?_
  refine qx_aload_n d_Jo_deliver_0 rfl rfl ?_
  refine qx_getR d_Jo_deliver_1 fR_Jo_22 rfl rfl (congrFun hJ.1 7) ?_
  refine qx_getR d_Jo_deliver_4 fR_Jo_93 rfl rfl (congrFun hJ.2.2.1 0) ?_
  refine qx_iload_n d_Jo_deliver_7 rfl rfl ?_
  refine qx_iald (j := k) d_Jo_deliver_8 rfl rfl rfl rfl (by omega) (show _ = nI 1 from congrArg nI hk0) ?_
  refine qx_istore_n (lv1 := [_, _, _, _, _]) d_Jo_deliver_9 rfl (by decide) rfl ?_
  refine qx_aload_n d_Jo_deliver_10 rfl rfl ?_
  refine qx_getR d_Jo_deliver_11 fR_Jo_22 rfl rfl (congrFun hJ.1 7) ?_
  refine qx_getR d_Jo_deliver_14 fR_Jo_97 rfl rfl (congrFun hJ.2.2.1 1) ?_
  refine qx_iload_n d_Jo_deliver_17 rfl rfl ?_
  refine qx_iald (j := k) d_Jo_deliver_18 rfl rfl rfl rfl (by omega) (show _ = nI t from congrArg nI et) ?_
  refine qx_istore_n (lv1 := [_, _, _, _, _]) d_Jo_deliver_19 rfl (by decide) rfl ?_
  refine qx_aload_n d_Jo_deliver_20 rfl rfl ?_
  refine qx_getR d_Jo_deliver_21 fR_Jo_22 rfl rfl (congrFun hJ.1 7) ?_
  refine qx_getR d_Jo_deliver_24 fR_Jo_99 rfl rfl (congrFun hJ.2.2.1 2) ?_
  refine qx_iload_n d_Jo_deliver_27 rfl rfl ?_
  refine qx_iald (j := k) d_Jo_deliver_28 rfl rfl rfl rfl (by omega) (show _ = nI a from congrArg nI ea) ?_
  refine qx_istore (lv1 := [_, _, _, _, _]) d_Jo_deliver_29 (by decide) rfl ?_
  refine qx_aload_n d_Jo_deliver_31 rfl rfl ?_
  refine qx_getR d_Jo_deliver_32 fR_Jo_22 rfl rfl (congrFun hJ.1 7) ?_
  refine qx_iload_n d_Jo_deliver_35 rfl rfl ?_
  refine qx_callV (As := [_]) (rest := _) d_Jo_deliver_36 lk_Jo_101 y_Li_removeAt v_Li_removeAt rfl rfl rfl (by decide) rfl rfl rfl rfl (by decide) (by decide) (ct_Li_removeAt (h := tO h (sAt s) (sSa s)) hJ.2.2.1 (sMk s) (sMt s) (sMa s) (sW s) hw68 k hk) ?_
  rintro _ _ _ ⟨rfl, rfl, rfl⟩
  refine qx_eq (h1 := cJ h (sStrike s k)) rfl rfl rfl rfl ?_
  refine qx_iload_n d_Jo_deliver_39 rfl rfl ?_
  refine qx_if_neN (t := 71) d_Jo_deliver_40 rfl (by omega) (fun c40 => ?_) (fun c40 => absurd c40 (by omega))
  refine qx_aload_n d_Jo_deliver_71 rfl rfl ?_
  refine qx_getR d_Jo_deliver_72 fR_Jo_11 rfl rfl (congrFun hJ.1 2) ?_
  refine qx_iload_n d_Jo_deliver_75 rfl rfl ?_
  refine qx_aald (j := t) (t := 2)  d_Jo_deliver_76 rfl (fun _ => rfl) rfl rfl rfl (by omega) (hJ.2.1 t (by omega)) ?_
  refine qx_getI d_Jo_deliver_77 fI_Jo_71 (ta_pl ht).1 (ta_pl ht).2 (show _ = b2i true from (cJ_dn ht).trans hf) ?_
  refine qx_if_eqB (t := 95) d_Jo_deliver_80 rfl (fun c80 => by cases c80) (fun c80 => ?_)
  refine qx_aload_n d_Jo_deliver_83 rfl rfl ?_
  refine qx_dup d_Jo_deliver_84 rfl ?_
  refine qx_getI d_Jo_deliver_85 fI_Jo_45 rfl rfl (show _ = ig from hig) ?_
  refine qx_iconstN (v := 1) d_Jo_deliver_88 rfl ?_
  refine qx_iadd d_Jo_deliver_89 ?_
  refine qx_putI d_Jo_deliver_90 fI_Jo_45 rfl rfl ⟨rfl, rfl⟩ ?_
  refine qx_iconstN (v := 0) d_Jo_deliver_93 rfl ?_
  exact qx_iret d_Jo_deliver_94 rfl rfl (by omega) (by omega) ⟨rfl, cJ_x (Or.inl (by omega)), rfl⟩
set_option maxRecDepth 100000 in
set_option maxHeartbeats 4000000 in
theorem ct_Jo_deliver_done {h : qH} (hJ : jobOk h) (nt : Nat) (hnt16 : nt ≤ 16) (hnt : h.1 83 3 = nI nt) (kd : Nat → Nat) (hkd4 : ∀ t, t < nt → kd t < 4) (hkd : ∀ t, t < nt → h.1 (90 + t) 0 = nI (kd t)) (dn : Nat → Bool) (hdn : ∀ t, t < nt → h.1 (90 + t) 5 = b2i (dn t)) (s : sJ) (k : Nat) (hk : k < sW s) (hw68 : sW s ≤ 68) (t a : Nat) (et : sMt s k = t) (ea : sMa s k = a) (hk0 : sMk s k = 1) (htn : t < nt) (hf : dn t = false) (tm : Int32) (htm : h.1 83 6 = tm) (ud : Nat) (hu16 : ud ≤ 16) (hud : h.1 83 4 = nI ud) (hu2 : 2 ≤ ud) (hw : ∀ i, i ≤ nt → sW (sReady kd (va_up dn t true) nt tm (sStrike s k) i) ≤ 68) (hat : ∀ t, t < nt → sAt s t < 100000) : qT mi_Jo_deliver 4 0 0 [.ref 83, .int (nI k)] (cJ h s) NN (fun v1 h1 n1 => v1 = some (.int (nI 1)) ∧ h1 = cJ (qpI (qpI h (90 + t) 5 (nI 1)) 83 4 (nI (ud - 1))) (sReady kd (va_up dn t true) nt tm (sStrike s k) nt) ∧ n1 = NN) := by
  refine qT.of (lv0 := [_, _, _, _, _]) (by decide +kernel) (fun _ _ => Nat.le_of_ble_eq_true rfl) rfl ?_
  have ht : t < 16 := by omega
  refine qx_aload_n d_Jo_deliver_0 rfl rfl ?_
  refine qx_getR d_Jo_deliver_1 fR_Jo_22 rfl rfl (congrFun hJ.1 7) ?_
  refine qx_getR d_Jo_deliver_4 fR_Jo_93 rfl rfl (congrFun hJ.2.2.1 0) ?_
  refine qx_iload_n d_Jo_deliver_7 rfl rfl ?_
  refine qx_iald (j := k) d_Jo_deliver_8 rfl rfl rfl rfl (by omega) (show _ = nI 1 from congrArg nI hk0) ?_
  refine qx_istore_n (lv1 := [_, _, _, _, _]) d_Jo_deliver_9 rfl (by decide) rfl ?_
  refine qx_aload_n d_Jo_deliver_10 rfl rfl ?_
  refine qx_getR d_Jo_deliver_11 fR_Jo_22 rfl rfl (congrFun hJ.1 7) ?_
  refine qx_getR d_Jo_deliver_14 fR_Jo_97 rfl rfl (congrFun hJ.2.2.1 1) ?_
  refine qx_iload_n d_Jo_deliver_17 rfl rfl ?_
  refine qx_iald (j := k) d_Jo_deliver_18 rfl rfl rfl rfl (by omega) (show _ = nI t from congrArg nI et) ?_
  refine qx_istore_n (lv1 := [_, _, _, _, _]) d_Jo_deliver_19 rfl (by decide) rfl ?_
  refine qx_aload_n d_Jo_deliver_20 rfl rfl ?_
  refine qx_getR d_Jo_deliver_21 fR_Jo_22 rfl rfl (congrFun hJ.1 7) ?_
  refine qx_getR d_Jo_deliver_24 fR_Jo_99 rfl rfl (congrFun hJ.2.2.1 2) ?_
  refine qx_iload_n d_Jo_deliver_27 rfl rfl ?_
  refine qx_iald (j := k) d_Jo_deliver_28 rfl rfl rfl rfl (by omega) (show _ = nI a from congrArg nI ea) ?_
  refine qx_istore (lv1 := [_, _, _, _, _]) d_Jo_deliver_29 (by decide) rfl ?_
  refine qx_aload_n d_Jo_deliver_31 rfl rfl ?_
  refine qx_getR d_Jo_deliver_32 fR_Jo_22 rfl rfl (congrFun hJ.1 7) ?_
  refine qx_iload_n d_Jo_deliver_35 rfl rfl ?_
  refine qx_callV (As := [_]) (rest := _) d_Jo_deliver_36 lk_Jo_101 y_Li_removeAt v_Li_removeAt rfl rfl rfl (by decide) rfl rfl rfl rfl (by decide) (by decide) (ct_Li_removeAt (h := tO h (sAt s) (sSa s)) hJ.2.2.1 (sMk s) (sMt s) (sMa s) (sW s) hw68 k hk) ?_
  rintro _ _ _ ⟨rfl, rfl, rfl⟩
  refine qx_eq (h1 := cJ h (sStrike s k)) rfl rfl rfl rfl ?_
  refine qx_iload_n d_Jo_deliver_39 rfl rfl ?_
  refine qx_if_neN (t := 71) d_Jo_deliver_40 rfl (by omega) (fun c40 => ?_) (fun c40 => absurd c40 (by omega))
  refine qx_aload_n d_Jo_deliver_71 rfl rfl ?_
  refine qx_getR d_Jo_deliver_72 fR_Jo_11 rfl rfl (congrFun hJ.1 2) ?_
  refine qx_iload_n d_Jo_deliver_75 rfl rfl ?_
  refine qx_aald (j := t) (t := 2)  d_Jo_deliver_76 rfl (fun _ => rfl) rfl rfl rfl (by omega) (hJ.2.1 t (by omega)) ?_
  refine qx_getI d_Jo_deliver_77 fI_Jo_71 (ta_pl ht).1 (ta_pl ht).2 (show _ = b2i false from (cJ_dn ht).trans ((hdn t htn).trans (by rw [hf]))) ?_
  refine qx_if_eqB (t := 95) d_Jo_deliver_80 rfl (fun c80 => ?_) (fun c80 => by cases c80)
  refine qx_aload_n d_Jo_deliver_95 rfl rfl ?_
  refine qx_iload_n d_Jo_deliver_96 rfl rfl ?_
  refine qx_callV (As := [_]) (rest := _) d_Jo_deliver_97 lk_Jo_107 y_Jo_finish v_Jo_finish rfl rfl rfl (by decide) rfl rfl rfl rfl (by decide) (by decide) (ct_Jo_finish hJ nt hnt16 hnt kd hkd4 hkd dn hdn (sStrike s k) tm htm t htn ud hu16 hud hu2 hw hat) ?_
  rintro _ _ _ ⟨rfl, rfl, rfl⟩
  refine qx_iconstN (v := 1) d_Jo_deliver_100 rfl ?_
  exact qx_iret d_Jo_deliver_101 rfl rfl (by omega) (by omega) ⟨rfl, rfl, rfl⟩
set_option maxRecDepth 100000 in
set_option maxHeartbeats 4000000 in
theorem ct_Jo_deliver_last {h : qH} (hJ : jobOk h) (Q : sQ) (s : sJ) (k : Nat) (hk : k < sW s) (hw68 : sW s ≤ 68) (t a : Nat) (et : sMt s k = t) (ea : sMa s k = a) (hk0 : sMk s k = 1) (ht : t < 16) (hf : h.1 (90 + t) 5 = b2i false) (ud : Nat) (hu16 : ud ≤ 16) (hud : h.1 83 4 = nI ud) (hu1 : ud = 1) : qT mi_Jo_deliver 4 0 0 [.ref 83, .int (nI k)] (cJ (kQ h Q) s) NN (fun v1 h1 n1 => v1 = some (.int (nI 1)) ∧ h1 = cJ (kQ (qpI (qpI (qpI h (90 + t) 5 (nI 1)) 83 4 (nI (ud - 1))) 83 0 (nI 0)) (Q.1, Q.2.1, Q.2.2.1, (va_up (va_up (va_up (va_up Q.2.2.2 0 0) 1 0) 2 0) 3 0))) (sAt (sStrike s k), sSa (sStrike s k), sMk (sStrike s k), sMt (sStrike s k), sMa (sStrike s k), 0) ∧ n1 = NN) := by
  refine qT.of (lv0 := [_, _, _, _, _]) (by decide +kernel) (fun _ _ => Nat.le_of_ble_eq_true rfl) rfl ?_
  refine qx_aload_n d_Jo_deliver_0 rfl rfl ?_
  refine qx_getR d_Jo_deliver_1 fR_Jo_22 rfl rfl (congrFun hJ.1 7) ?_
  refine qx_getR d_Jo_deliver_4 fR_Jo_93 rfl rfl (congrFun hJ.2.2.1 0) ?_
  refine qx_iload_n d_Jo_deliver_7 rfl rfl ?_
  refine qx_iald (j := k) d_Jo_deliver_8 rfl rfl rfl rfl (by omega) (show _ = nI 1 from congrArg nI hk0) ?_
  refine qx_istore_n (lv1 := [_, _, _, _, _]) d_Jo_deliver_9 rfl (by decide) rfl ?_
  refine qx_aload_n d_Jo_deliver_10 rfl rfl ?_
  refine qx_getR d_Jo_deliver_11 fR_Jo_22 rfl rfl (congrFun hJ.1 7) ?_
  refine qx_getR d_Jo_deliver_14 fR_Jo_97 rfl rfl (congrFun hJ.2.2.1 1) ?_
  refine qx_iload_n d_Jo_deliver_17 rfl rfl ?_
  refine qx_iald (j := k) d_Jo_deliver_18 rfl rfl rfl rfl (by omega) (show _ = nI t from congrArg nI et) ?_
  refine qx_istore_n (lv1 := [_, _, _, _, _]) d_Jo_deliver_19 rfl (by decide) rfl ?_
  refine qx_aload_n d_Jo_deliver_20 rfl rfl ?_
  refine qx_getR d_Jo_deliver_21 fR_Jo_22 rfl rfl (congrFun hJ.1 7) ?_
  refine qx_getR d_Jo_deliver_24 fR_Jo_99 rfl rfl (congrFun hJ.2.2.1 2) ?_
  refine qx_iload_n d_Jo_deliver_27 rfl rfl ?_
  refine qx_iald (j := k) d_Jo_deliver_28 rfl rfl rfl rfl (by omega) (show _ = nI a from congrArg nI ea) ?_
  refine qx_istore (lv1 := [_, _, _, _, _]) d_Jo_deliver_29 (by decide) rfl ?_
  refine qx_aload_n d_Jo_deliver_31 rfl rfl ?_
  refine qx_getR d_Jo_deliver_32 fR_Jo_22 rfl rfl (congrFun hJ.1 7) ?_
  refine qx_iload_n d_Jo_deliver_35 rfl rfl ?_
  refine qx_callV (As := [_]) (rest := _) d_Jo_deliver_36 lk_Jo_101 y_Li_removeAt v_Li_removeAt rfl rfl rfl (by decide) rfl rfl rfl rfl (by decide) (by decide) (ct_Li_removeAt (h := tO (kQ h Q) (sAt s) (sSa s)) hJ.2.2.1 (sMk s) (sMt s) (sMa s) (sW s) hw68 k hk) ?_
  rintro _ _ _ ⟨rfl, rfl, rfl⟩
  refine qx_eq (h1 := cJ (kQ h Q) (sStrike s k)) rfl rfl rfl rfl ?_
  refine qx_iload_n d_Jo_deliver_39 rfl rfl ?_
  refine qx_if_neN (t := 71) d_Jo_deliver_40 rfl (by omega) (fun c40 => ?_) (fun c40 => absurd c40 (by omega))
  refine qx_aload_n d_Jo_deliver_71 rfl rfl ?_
  refine qx_getR d_Jo_deliver_72 fR_Jo_11 rfl rfl (congrFun hJ.1 2) ?_
  refine qx_iload_n d_Jo_deliver_75 rfl rfl ?_
  refine qx_aald (j := t) (t := 2)  d_Jo_deliver_76 rfl (fun _ => rfl) rfl rfl rfl (by omega) (hJ.2.1 t (by omega)) ?_
  refine qx_getI d_Jo_deliver_77 fI_Jo_71 (ta_pl ht).1 (ta_pl ht).2 (show _ = b2i false from (cJ_dn ht).trans ((congrFun (kQ_x (by omega)) 5).trans hf)) ?_
  refine qx_if_eqB (t := 95) d_Jo_deliver_80 rfl (fun c80 => ?_) (fun c80 => by cases c80)
  refine qx_aload_n d_Jo_deliver_95 rfl rfl ?_
  refine qx_iload_n d_Jo_deliver_96 rfl rfl ?_
  refine qx_callV (As := [_]) (rest := _) d_Jo_deliver_97 lk_Jo_107 y_Jo_finish v_Jo_finish rfl rfl rfl (by decide) rfl rfl rfl rfl (by decide) (by decide) (ct_Jo_finish_last hJ Q (sStrike s k) t ht ud hu16 hud hu1) ?_
  rintro _ _ _ ⟨rfl, rfl, rfl⟩
  refine qx_iconstN (v := 1) d_Jo_deliver_100 rfl ?_
  exact qx_iret d_Jo_deliver_101 rfl rfl (by omega) (by omega) ⟨rfl, rfl, rfl⟩
set_option maxRecDepth 100000 in
set_option maxHeartbeats 4000000 in
theorem ct_Jo_repeat_full {h : qH} (hJ : jobOk h) (s : sJ) (k : Nat) (h60 : 60 ≤ sW s) (h68 : sW s ≤ 68) : qT mi_Jo_repeat 1 0 0 [.ref 83, .int (nI k)] (cJ h s) NN (fun v1 h1 n1 => v1 = some (.int (-2)) ∧ cJ h s = h1 ∧ n1 = NN) := by
  refine qT.of (lv0 := [_, _]) (by decide +kernel) (fun _ _ => Nat.le_of_ble_eq_true rfl) rfl ?_
  refine qx_aload_n d_Jo_repeat_0 rfl rfl ?_
  refine qx_getR d_Jo_repeat_1 fR_Jo_22 rfl rfl (congrFun hJ.1 7) ?_
  refine qx_getI d_Jo_repeat_4 fI_Jo_51 rfl rfl (show _ = nI (sW s) from rfl) ?_
  refine qx_bipushN (v := 60) d_Jo_repeat_7 rfl ?_
  refine qx_icmp_ltN (t := 15) d_Jo_repeat_9 rfl (by omega) (by omega) (fun c9 => absurd c9 (by omega)) (fun c9 => ?_)
  refine qx_bipush (v := (-2)) d_Jo_repeat_12 rfl ?_
  exact qx_iret d_Jo_repeat_14 rfl rfl (by omega) (by omega) ⟨rfl, rfl, rfl⟩
set_option maxRecDepth 100000 in
set_option maxHeartbeats 4000000 in
theorem ct_Jo_repeat {h : qH} (hJ : jobOk h) (s : sJ) (k : Nat) (hk : k < sW s) (h60 : sW s < 60) : qT mi_Jo_repeat 1 0 0 [.ref 83, .int (nI k)] (cJ h s) NN (fun v1 h1 n1 => v1 = some (.int (nI 1)) ∧ h1 = cJ h (sSend s (sMk s k) (sMt s k) (sMa s k)) ∧ n1 = NN) := by
  refine qT.of (lv0 := [_, _]) (by decide +kernel) (fun _ _ => Nat.le_of_ble_eq_true rfl) rfl ?_
  refine qx_aload_n d_Jo_repeat_0 rfl rfl ?_
  refine qx_getR d_Jo_repeat_1 fR_Jo_22 rfl rfl (congrFun hJ.1 7) ?_
  refine qx_getI d_Jo_repeat_4 fI_Jo_51 rfl rfl (show _ = nI (sW s) from rfl) ?_
  refine qx_bipushN (v := 60) d_Jo_repeat_7 rfl ?_
  refine qx_icmp_ltN (t := 15) d_Jo_repeat_9 rfl (by omega) (by omega) (fun c9 => ?_) (fun c9 => absurd c9 (by omega))
  refine qx_aload_n d_Jo_repeat_15 rfl rfl ?_
  refine qx_getR d_Jo_repeat_16 fR_Jo_22 rfl rfl (congrFun hJ.1 7) ?_
  refine qx_aload_n d_Jo_repeat_19 rfl rfl ?_
  refine qx_getR d_Jo_repeat_20 fR_Jo_22 rfl rfl (congrFun hJ.1 7) ?_
  refine qx_getR d_Jo_repeat_23 fR_Jo_93 rfl rfl (congrFun hJ.2.2.1 0) ?_
  refine qx_iload_n d_Jo_repeat_26 rfl rfl ?_
  refine qx_iald (j := k) d_Jo_repeat_27 rfl rfl rfl rfl (by omega) (show _ = nI (sMk s k) from rfl) ?_
  refine qx_aload_n d_Jo_repeat_28 rfl rfl ?_
  refine qx_getR d_Jo_repeat_29 fR_Jo_22 rfl rfl (congrFun hJ.1 7) ?_
  refine qx_getR d_Jo_repeat_32 fR_Jo_97 rfl rfl (congrFun hJ.2.2.1 1) ?_
  refine qx_iload_n d_Jo_repeat_35 rfl rfl ?_
  refine qx_iald (j := k) d_Jo_repeat_36 rfl rfl rfl rfl (by omega) (show _ = nI (sMt s k) from rfl) ?_
  refine qx_aload_n d_Jo_repeat_37 rfl rfl ?_
  refine qx_getR d_Jo_repeat_38 fR_Jo_22 rfl rfl (congrFun hJ.1 7) ?_
  refine qx_getR d_Jo_repeat_41 fR_Jo_99 rfl rfl (congrFun hJ.2.2.1 2) ?_
  refine qx_iload_n d_Jo_repeat_44 rfl rfl ?_
  refine qx_iald (j := k) d_Jo_repeat_45 rfl rfl rfl rfl (by omega) (show _ = nI (sMa s k) from rfl) ?_
  refine qx_callV (As := [_, _, _]) (rest := _) d_Jo_repeat_46 lk_Jo_74 y_Li_add v_Li_add rfl rfl rfl (by decide) rfl rfl rfl rfl (by decide) (by decide) (ct_Li_add (h := tO h (sAt s) (sSa s)) hJ.2.2.1 (sMk s) (sMt s) (sMa s) (sW s) (by omega) (sMk s k) (sMt s k) (sMa s k)) ?_
  rintro _ _ _ ⟨rfl, rfl, rfl⟩
  refine qx_pop d_Jo_repeat_49 rfl ?_
  refine qx_iconstN (v := 1) d_Jo_repeat_50 rfl ?_
  exact qx_iret d_Jo_repeat_51 rfl rfl (by omega) (by omega) ⟨rfl, rfl, rfl⟩
