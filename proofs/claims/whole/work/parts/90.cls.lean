set_option maxRecDepth 100000 in
set_option maxHeartbeats 4000000 in
theorem ct_QF_pass_no {h : qH} (hQ : h.2.2 0 = qRQF) (hJ : jobOk h) (s : sJ) (on : Bool) (hon : h.1 83 0 = b2i on) (k how : Int32) (hg : (on && decide (0 ≤ k ∧ k < nI (sW s))) = false) : qT mi_QF_pass 1 0 0 [.ref 0, .int k, .int how] (cJ h s) NN (fun v1 h1 n1 => v1 = some (.int (-1)) ∧ (cJ h s) = h1 ∧ n1 = NN) := by
  refine qT.of (lv0 := [_, _, _]) (by decide +kernel) (fun _ _ => Nat.le_of_ble_eq_true rfl) rfl ?_
  refine qx_aload_n d_QF_pass_0 rfl rfl ?_
  refine qx_getR d_QF_pass_1 fR_QF_36 rfl rfl (congrFun hQ 4) ?_
  refine qx_getI d_QF_pass_4 fI_QF_40 rfl rfl hon ?_
  refine qx_if_eqB (t := 27) d_QF_pass_7 rfl (fun c7 => ?_) (fun c7 => ?_)
  · refine qx_iconst (v := (-1)) d_QF_pass_27 rfl ?_
    exact qx_iret d_QF_pass_28 rfl rfl (by omega) (by omega) ⟨rfl, rfl, rfl⟩
  · refine qx_iload_n d_QF_pass_10 rfl rfl ?_
    refine qx_aload_n d_QF_pass_11 rfl rfl ?_
    refine qx_getR d_QF_pass_12 fR_QF_36 rfl rfl (congrFun hQ 4) ?_
    refine qx_getR d_QF_pass_15 fR_QF_137 rfl rfl (congrFun hJ.1 7) ?_
    refine qx_getI d_QF_pass_18 fI_QF_141 rfl rfl (show _ = nI (sW s) from rfl) ?_
    refine qx_callS (As := [_, _]) (rest := _) d_QF_pass_21 lk_QF_44 y_QF_isIn s_QF_isIn rfl rfl rfl rfl (by decide) (by decide) (ct_QF_isIn _ _) ?_
    rintro _ _ _ ⟨rfl, rfl, rfl⟩
    refine qx_if_neB (t := 29) d_QF_pass_24 rfl (fun c24 => absurd hg (by rw [c7, c24]; decide)) (fun c24 => ?_)
    refine qx_iconst (v := (-1)) d_QF_pass_27 rfl ?_
    exact qx_iret d_QF_pass_28 rfl rfl (by omega) (by omega) ⟨rfl, rfl, rfl⟩
set_option maxRecDepth 100000 in
set_option maxHeartbeats 4000000 in
theorem ct_QF_pass_out {h : qH} (hQ : h.2.2 0 = qRQF) (hJ : jobOk h) (s : sJ) (hon : h.1 83 0 = b2i true) (k : Nat) (hk : k < sW s) (hw : sW s ≤ 68) (how : Int32) (hh : how.toInt < 0 ∨ 2 < how.toInt) : qT mi_QF_pass 1 0 0 [.ref 0, .int (nI k), .int how] (cJ h s) NN (fun v1 h1 n1 => v1 = some (.int (-1)) ∧ (cJ h s) = h1 ∧ n1 = NN) := by
  refine qT.of (lv0 := [_, _, _]) (by decide +kernel) (fun _ _ => Nat.le_of_ble_eq_true rfl) rfl ?_
  refine qx_aload_n d_QF_pass_0 rfl rfl ?_
  refine qx_getR d_QF_pass_1 fR_QF_36 rfl rfl (congrFun hQ 4) ?_
  refine qx_getI d_QF_pass_4 fI_QF_40 rfl rfl (show _ = b2i true from hon) ?_
  refine qx_if_eqB (t := 27) d_QF_pass_7 rfl (fun c7 => by cases c7) (fun c7 => ?_)
  refine qx_iload_n d_QF_pass_10 rfl rfl ?_
  refine qx_aload_n d_QF_pass_11 rfl rfl ?_
  refine qx_getR d_QF_pass_12 fR_QF_36 rfl rfl (congrFun hQ 4) ?_
  refine qx_getR d_QF_pass_15 fR_QF_137 rfl rfl (congrFun hJ.1 7) ?_
  refine qx_getI d_QF_pass_18 fI_QF_141 rfl rfl (show _ = nI (sW s) from rfl) ?_
  refine qx_callS (As := [_, _]) (rest := _) d_QF_pass_21 lk_QF_44 y_QF_isIn s_QF_isIn rfl rfl rfl rfl (by decide) (by decide) (ct_QF_isIn _ _) ?_
  rintro _ _ _ ⟨rfl, rfl, rfl⟩
  refine qx_if_neB (t := 29) d_QF_pass_24 rfl (fun c24 => ?_) (fun c24 => absurd c24 (by rw [in_t hk (by omega)]; decide))
  refine qx_iload_n d_QF_pass_29 rfl rfl ?_
  refine qx_tabOut (t := 87) d_QF_pass_30 hh rfl ?_
  refine qx_iconst (v := (-1)) d_QF_pass_87 rfl ?_
  exact qx_iret d_QF_pass_88 rfl rfl (by omega) (by omega) ⟨rfl, rfl, rfl⟩
set_option maxRecDepth 100000 in
set_option maxHeartbeats 4000000 in
theorem ct_QF_pass_deliver {h : qH} (hQ : h.2.2 0 = qRQF) (hJ : jobOk h) (s : sJ) (hon : h.1 83 0 = b2i true) (k : Nat) (hk : k < sW s) (hw : sW s ≤ 68) (Rq : Option Value → qH → Nat → Prop) (hRq : ∀ v h n, Rq v h n → ∃ z : Int32, v = some (.int z)) (dd : Nat) (hdd : dd ≤ 4) (hD : qT mi_Jo_deliver 4 0 0 [.ref 83, .int (nI k)] (cJ h s) NN Rq) : qT mi_QF_pass 5 0 0 [.ref 0, .int (nI k), .int (nI 0)] (cJ h s) NN (fun v1 h1 n1 => Rq v1 h1 n1) := by
  refine qT.of (lv0 := [_, _, _]) (by decide +kernel) (fun _ _ => Nat.le_of_ble_eq_true rfl) rfl ?_
  refine qx_aload_n d_QF_pass_0 rfl rfl ?_
  refine qx_getR d_QF_pass_1 fR_QF_36 rfl rfl (congrFun hQ 4) ?_
  refine qx_getI d_QF_pass_4 fI_QF_40 rfl rfl (show _ = b2i true from hon) ?_
  refine qx_if_eqB (t := 27) d_QF_pass_7 rfl (fun c7 => by cases c7) (fun c7 => ?_)
  refine qx_iload_n d_QF_pass_10 rfl rfl ?_
  refine qx_aload_n d_QF_pass_11 rfl rfl ?_
  refine qx_getR d_QF_pass_12 fR_QF_36 rfl rfl (congrFun hQ 4) ?_
  refine qx_getR d_QF_pass_15 fR_QF_137 rfl rfl (congrFun hJ.1 7) ?_
  refine qx_getI d_QF_pass_18 fI_QF_141 rfl rfl (show _ = nI (sW s) from rfl) ?_
  refine qx_callS (As := [_, _]) (rest := _) d_QF_pass_21 lk_QF_44 y_QF_isIn s_QF_isIn rfl rfl rfl rfl (by decide) (by decide) (ct_QF_isIn _ _) ?_
  rintro _ _ _ ⟨rfl, rfl, rfl⟩
  refine qx_if_neB (t := 29) d_QF_pass_24 rfl (fun c24 => ?_) (fun c24 => absurd c24 (by rw [in_t hk (by omega)]; decide))
  refine qx_iload_n d_QF_pass_29 rfl rfl ?_
  refine qx_tabIn (t := 56) d_QF_pass_30 (by decide) (by decide) rfl rfl ?_
  refine qx_aload_n d_QF_pass_56 rfl rfl ?_
  refine qx_getR d_QF_pass_57 fR_QF_36 rfl rfl (congrFun hQ 4) ?_
  refine qx_iload_n d_QF_pass_60 rfl rfl ?_
  refine qx_callV (As := [_]) (rest := _) d_QF_pass_61 lk_QF_146 y_Jo_deliver v_Jo_deliver rfl rfl rfl (by decide) rfl rfl rfl rfl (by decide) (by decide) hD ?_
  intro v1 h1 n1 hq
  obtain ⟨z, rfl⟩ := hRq v1 h1 n1 hq
  exact qx_iret d_QF_pass_64 rfl rfl (by omega) (by omega) hq
set_option maxRecDepth 100000 in
set_option maxHeartbeats 4000000 in
theorem ct_QF_pass_lose {h : qH} (hQ : h.2.2 0 = qRQF) (hJ : jobOk h) (s : sJ) (hon : h.1 83 0 = b2i true) (k : Nat) (hk : k < sW s) (hw : sW s ≤ 68) : qT mi_QF_pass 1 0 0 [.ref 0, .int (nI k), .int (nI 1)] (cJ h s) NN (fun v1 h1 n1 => v1 = some (.int (nI 1)) ∧ h1 = cJ h (sStrike s k) ∧ n1 = NN) := by
  refine qT.of (lv0 := [_, _, _]) (by decide +kernel) (fun _ _ => Nat.le_of_ble_eq_true rfl) rfl ?_
  refine qx_aload_n d_QF_pass_0 rfl rfl ?_
  refine qx_getR d_QF_pass_1 fR_QF_36 rfl rfl (congrFun hQ 4) ?_
  refine qx_getI d_QF_pass_4 fI_QF_40 rfl rfl (show _ = b2i true from hon) ?_
  refine qx_if_eqB (t := 27) d_QF_pass_7 rfl (fun c7 => by cases c7) (fun c7 => ?_)
  refine qx_iload_n d_QF_pass_10 rfl rfl ?_
  refine qx_aload_n d_QF_pass_11 rfl rfl ?_
  refine qx_getR d_QF_pass_12 fR_QF_36 rfl rfl (congrFun hQ 4) ?_
  refine qx_getR d_QF_pass_15 fR_QF_137 rfl rfl (congrFun hJ.1 7) ?_
  refine qx_getI d_QF_pass_18 fI_QF_141 rfl rfl (show _ = nI (sW s) from rfl) ?_
  refine qx_callS (As := [_, _]) (rest := _) d_QF_pass_21 lk_QF_44 y_QF_isIn s_QF_isIn rfl rfl rfl rfl (by decide) (by decide) (ct_QF_isIn _ _) ?_
  rintro _ _ _ ⟨rfl, rfl, rfl⟩
  refine qx_if_neB (t := 29) d_QF_pass_24 rfl (fun c24 => ?_) (fun c24 => absurd c24 (by rw [in_t hk (by omega)]; decide))
  refine qx_iload_n d_QF_pass_29 rfl rfl ?_
  refine qx_tabIn (t := 65) d_QF_pass_30 (by decide) (by decide) rfl rfl ?_
  refine qx_aload_n d_QF_pass_65 rfl rfl ?_
  refine qx_getR d_QF_pass_66 fR_QF_36 rfl rfl (congrFun hQ 4) ?_
  refine qx_getR d_QF_pass_69 fR_QF_137 rfl rfl (congrFun hJ.1 7) ?_
  refine qx_iload_n d_QF_pass_72 rfl rfl ?_
  refine qx_callV (As := [_]) (rest := _) d_QF_pass_73 lk_QF_150 y_Li_removeAt v_Li_removeAt rfl rfl rfl (by decide) rfl rfl rfl rfl (by decide) (by decide) (ct_Li_removeAt (h := tO h (sAt s) (sSa s)) hJ.2.2.1 (sMk s) (sMt s) (sMa s) (sW s) hw k hk) ?_
  rintro _ _ _ ⟨rfl, rfl, rfl⟩
  refine qx_iconstN (v := 1) d_QF_pass_76 rfl ?_
  exact qx_iret d_QF_pass_77 rfl rfl (by omega) (by omega) ⟨rfl, rfl, rfl⟩
set_option maxRecDepth 100000 in
set_option maxHeartbeats 4000000 in
theorem ct_QF_pass_full {h : qH} (hQ : h.2.2 0 = qRQF) (hJ : jobOk h) (s : sJ) (hon : h.1 83 0 = b2i true) (k : Nat) (hk : k < sW s) (hw : sW s ≤ 68) (h60 : 60 ≤ sW s) : qT mi_QF_pass 2 0 0 [.ref 0, .int (nI k), .int (nI 2)] (cJ h s) NN (fun v1 h1 n1 => v1 = some (.int (-2)) ∧ (cJ h s) = h1 ∧ n1 = NN) := by
  refine qT.of (lv0 := [_, _, _]) (by decide +kernel) (fun _ _ => Nat.le_of_ble_eq_true rfl) rfl ?_
  refine qx_aload_n d_QF_pass_0 rfl rfl ?_
  refine qx_getR d_QF_pass_1 fR_QF_36 rfl rfl (congrFun hQ 4) ?_
  refine qx_getI d_QF_pass_4 fI_QF_40 rfl rfl (show _ = b2i true from hon) ?_
  refine qx_if_eqB (t := 27) d_QF_pass_7 rfl (fun c7 => by cases c7) (fun c7 => ?_)
  refine qx_iload_n d_QF_pass_10 rfl rfl ?_
  refine qx_aload_n d_QF_pass_11 rfl rfl ?_
  refine qx_getR d_QF_pass_12 fR_QF_36 rfl rfl (congrFun hQ 4) ?_
  refine qx_getR d_QF_pass_15 fR_QF_137 rfl rfl (congrFun hJ.1 7) ?_
  refine qx_getI d_QF_pass_18 fI_QF_141 rfl rfl (show _ = nI (sW s) from rfl) ?_
  refine qx_callS (As := [_, _]) (rest := _) d_QF_pass_21 lk_QF_44 y_QF_isIn s_QF_isIn rfl rfl rfl rfl (by decide) (by decide) (ct_QF_isIn _ _) ?_
  rintro _ _ _ ⟨rfl, rfl, rfl⟩
  refine qx_if_neB (t := 29) d_QF_pass_24 rfl (fun c24 => ?_) (fun c24 => absurd c24 (by rw [in_t hk (by omega)]; decide))
  refine qx_iload_n d_QF_pass_29 rfl rfl ?_
  refine qx_tabIn (t := 78) d_QF_pass_30 (by decide) (by decide) rfl rfl ?_
  refine qx_aload_n d_QF_pass_78 rfl rfl ?_
  refine qx_getR d_QF_pass_79 fR_QF_36 rfl rfl (congrFun hQ 4) ?_
  refine qx_iload_n d_QF_pass_82 rfl rfl ?_
  refine qx_callV (As := [_]) (rest := _) d_QF_pass_83 lk_QF_153 y_Jo_repeat v_Jo_repeat rfl rfl rfl (by decide) rfl rfl rfl rfl (by decide) (by decide) (ct_Jo_repeat_full hJ s k h60 hw) ?_
  rintro _ _ _ ⟨rfl, rfl, rfl⟩
  exact qx_iret d_QF_pass_86 rfl rfl (by omega) (by omega) ⟨rfl, rfl, rfl⟩
set_option maxRecDepth 100000 in
set_option maxHeartbeats 4000000 in
theorem ct_QF_pass_again {h : qH} (hQ : h.2.2 0 = qRQF) (hJ : jobOk h) (s : sJ) (hon : h.1 83 0 = b2i true) (k : Nat) (hk : k < sW s) (hw : sW s ≤ 68) (h60 : sW s < 60) : qT mi_QF_pass 2 0 0 [.ref 0, .int (nI k), .int (nI 2)] (cJ h s) NN (fun v1 h1 n1 => v1 = some (.int (nI 1)) ∧ h1 = cJ h (sSend s (sMk s k) (sMt s k) (sMa s k)) ∧ n1 = NN) := by
  refine qT.of (lv0 := [_, _, _]) (by decide +kernel) (fun _ _ => Nat.le_of_ble_eq_true rfl) rfl ?_
  refine qx_aload_n d_QF_pass_0 rfl rfl ?_
  refine qx_getR d_QF_pass_1 fR_QF_36 rfl rfl (congrFun hQ 4) ?_
  refine qx_getI d_QF_pass_4 fI_QF_40 rfl rfl (show _ = b2i true from hon) ?_
  refine qx_if_eqB (t := 27) d_QF_pass_7 rfl (fun c7 => by cases c7) (fun c7 => ?_)
  refine qx_iload_n d_QF_pass_10 rfl rfl ?_
  refine qx_aload_n d_QF_pass_11 rfl rfl ?_
  refine qx_getR d_QF_pass_12 fR_QF_36 rfl rfl (congrFun hQ 4) ?_
  refine qx_getR d_QF_pass_15 fR_QF_137 rfl rfl (congrFun hJ.1 7) ?_
  refine qx_getI d_QF_pass_18 fI_QF_141 rfl rfl (show _ = nI (sW s) from rfl) ?_
  refine qx_callS (As := [_, _]) (rest := _) d_QF_pass_21 lk_QF_44 y_QF_isIn s_QF_isIn rfl rfl rfl rfl (by decide) (by decide) (ct_QF_isIn _ _) ?_
  rintro _ _ _ ⟨rfl, rfl, rfl⟩
  refine qx_if_neB (t := 29) d_QF_pass_24 rfl (fun c24 => ?_) (fun c24 => absurd c24 (by rw [in_t hk (by omega)]; decide))
  refine qx_iload_n d_QF_pass_29 rfl rfl ?_
  refine qx_tabIn (t := 78) d_QF_pass_30 (by decide) (by decide) rfl rfl ?_
  refine qx_aload_n d_QF_pass_78 rfl rfl ?_
  refine qx_getR d_QF_pass_79 fR_QF_36 rfl rfl (congrFun hQ 4) ?_
  refine qx_iload_n d_QF_pass_82 rfl rfl ?_
  refine qx_callV (As := [_]) (rest := _) d_QF_pass_83 lk_QF_153 y_Jo_repeat v_Jo_repeat rfl rfl rfl (by decide) rfl rfl rfl rfl (by decide) (by decide) (ct_Jo_repeat hJ s k hk h60) ?_
  rintro _ _ _ ⟨rfl, rfl, rfl⟩
  exact qx_iret d_QF_pass_86 rfl rfl (by omega) (by omega) ⟨rfl, rfl, rfl⟩
set_option maxRecDepth 100000 in
set_option maxHeartbeats 4000000 in
theorem ct_QF_work_no {h : qH} (hQ : h.2.2 0 = qRQF) (on : Bool) (hon : h.1 83 0 = b2i on) (x w : Int32) (hw : h.1 83 1 = w) (hg : (on && decide (0 ≤ x ∧ x < w)) = false) : qT mi_QF_work 2 0 0 [.ref 0, .int x] h NN (fun v1 h1 n1 => v1 = some (.int (-1)) ∧ h = h1 ∧ n1 = NN) := by
  refine qT.of (lv0 := [_, _]) (by decide +kernel) (fun _ _ => Nat.le_of_ble_eq_true rfl) rfl ?_
  refine qx_aload_n d_QF_work_0 rfl rfl ?_
  refine qx_iload_n d_QF_work_1 rfl rfl ?_
  refine qx_callV (As := [_]) (rest := _) d_QF_work_2 lk_QF_156 y_QF_isWorker v_QF_isWorker rfl rfl rfl (by decide) rfl rfl rfl rfl (by decide) (by decide) (ct_QF_isWorker hQ on hon x w hw) ?_
  rintro _ _ _ ⟨rfl, rfl, rfl⟩
  refine qx_if_neB (t := 10) d_QF_work_5 rfl (fun c5 => absurd hg (by rw [c5]; decide)) (fun c5 => ?_)
  refine qx_iconst (v := (-1)) d_QF_work_8 rfl ?_
  exact qx_iret d_QF_work_9 rfl rfl (by omega) (by omega) ⟨rfl, rfl, rfl⟩
set_option maxRecDepth 100000 in
set_option maxHeartbeats 4000000 in
theorem ct_QF_crash_no {h : qH} (hQ : h.2.2 0 = qRQF) (on : Bool) (hon : h.1 83 0 = b2i on) (x w : Int32) (hw : h.1 83 1 = w) (hg : (on && decide (0 ≤ x ∧ x < w)) = false) : qT mi_QF_crash 2 0 0 [.ref 0, .int x] h NN (fun v1 h1 n1 => v1 = some (.int (-1)) ∧ h = h1 ∧ n1 = NN) := by
  refine qT.of (lv0 := [_, _, _]) (by decide +kernel) (fun _ _ => Nat.le_of_ble_eq_true rfl) rfl ?_
  refine qx_aload_n d_QF_crash_0 rfl rfl ?_
  refine qx_iload_n d_QF_crash_1 rfl rfl ?_
  refine qx_callV (As := [_]) (rest := _) d_QF_crash_2 lk_QF_156 y_QF_isWorker v_QF_isWorker rfl rfl rfl (by decide) rfl rfl rfl rfl (by decide) (by decide) (ct_QF_isWorker hQ on hon x w hw) ?_
  rintro _ _ _ ⟨rfl, rfl, rfl⟩
  refine qx_if_neB (t := 10) d_QF_crash_5 rfl (fun c5 => absurd hg (by rw [c5]; decide)) (fun c5 => ?_)
  refine qx_iconst (v := (-1)) d_QF_crash_8 rfl ?_
  exact qx_iret d_QF_crash_9 rfl rfl (by omega) (by omega) ⟨rfl, rfl, rfl⟩
set_option maxRecDepth 100000 in
set_option maxHeartbeats 4000000 in
theorem ct_QF_work {h : qH} (hQ : h.2.2 0 = qRQF) (hJ : jobOk h) (hon : h.1 83 0 = b2i true) (wk : Nat) (hw4 : wk ≤ 4) (hwk : h.1 83 1 = nI wk) (w : Nat) (hw : w < wk) (Rq : Option Value → qH → Nat → Prop) (hRq : ∀ v h n, Rq v h n → ∃ z : Int32, v = some (.int z)) (hD : qT mi_Jo_workOff 1 0 0 [.ref 83, .ref (106 + 4 * w)] h NN Rq) : qT mi_QF_work 2 0 0 [.ref 0, .int (nI w)] h NN (fun v1 h1 n1 => Rq v1 h1 n1) := by
  refine qT.of (lv0 := [_, _]) (by decide +kernel) (fun _ _ => Nat.le_of_ble_eq_true rfl) rfl ?_
  refine qx_aload_n d_QF_work_0 rfl rfl ?_
  refine qx_iload_n d_QF_work_1 rfl rfl ?_
  refine qx_callV (As := [_]) (rest := _) d_QF_work_2 lk_QF_156 y_QF_isWorker v_QF_isWorker rfl rfl rfl (by decide) rfl rfl rfl rfl (by decide) (by decide) (ct_QF_isWorker hQ true hon (nI w) (nI wk) hwk) ?_
  rintro _ _ _ ⟨rfl, rfl, rfl⟩
  refine qx_if_neB (t := 10) d_QF_work_5 rfl (fun c5 => ?_) (fun c5 => absurd c5 (by rw [in_t hw (by omega)]; decide))
  refine qx_aload_n d_QF_work_10 rfl rfl ?_
  refine qx_getR d_QF_work_11 fR_QF_36 rfl rfl (congrFun hQ 4) ?_
  refine qx_aload_n d_QF_work_14 rfl rfl ?_
  refine qx_getR d_QF_work_15 fR_QF_36 rfl rfl (congrFun hQ 4) ?_
  refine qx_getR d_QF_work_18 fR_QF_159 rfl rfl (congrFun hJ.1 8) ?_
  refine qx_iload_n d_QF_work_21 rfl rfl ?_
  refine qx_aald (j := w) (t := 3)  d_QF_work_22 rfl (fun _ => rfl) rfl rfl rfl (by omega) (hJ.2.2.2.1 w (by omega)) ?_
  refine qx_callV (As := [_]) (rest := _) d_QF_work_23 lk_QF_163 y_Jo_workOff v_Jo_workOff rfl rfl rfl (by decide) rfl rfl rfl rfl (by decide) (by decide) hD ?_
  intro v1 h1 n1 hq
  obtain ⟨z, rfl⟩ := hRq v1 h1 n1 hq
  exact qx_iret d_QF_work_26 rfl rfl (by omega) (by omega) hq
set_option maxRecDepth 100000 in
set_option maxHeartbeats 4000000 in
theorem ct_QF_crash {h : qH} (hQ : h.2.2 0 = qRQF) (hJ : jobOk h) (hon : h.1 83 0 = b2i true) (wk : Nat) (hw4 : wk ≤ 4) (hwk : h.1 83 1 = nI wk) (w : Nat) (hw : w < wk) (Q : sQ) (s : sJ) : qT mi_QF_crash 2 0 0 [.ref 0, .int (nI w)] (cJ (kQ h Q) s) NN (fun v1 h1 n1 => v1 = some (.int (nI (Q.2.2.2 w))) ∧ h1 = cJ (kQ h (Q.1, Q.2.1, Q.2.2.1, va_up Q.2.2.2 w 0)) s ∧ n1 = NN) := by
  refine qT.of (lv0 := [_, _, _]) (by decide +kernel) (fun _ _ => Nat.le_of_ble_eq_true rfl) rfl ?_
  refine qx_aload_n d_QF_crash_0 rfl rfl ?_
  refine qx_iload_n d_QF_crash_1 rfl rfl ?_
  refine qx_callV (As := [_]) (rest := _) d_QF_crash_2 lk_QF_156 y_QF_isWorker v_QF_isWorker rfl rfl rfl (by decide) rfl rfl rfl rfl (by decide) (by decide) (ct_QF_isWorker (h := (cJ (kQ h Q) s)) hQ true hon (nI w) (nI wk) hwk) ?_
  rintro _ _ _ ⟨rfl, rfl, rfl⟩
  refine qx_if_neB (t := 10) d_QF_crash_5 rfl (fun c5 => ?_) (fun c5 => absurd c5 (by rw [in_t hw (by omega)]; decide))
  refine qx_aload_n d_QF_crash_10 rfl rfl ?_
  refine qx_getR d_QF_crash_11 fR_QF_36 rfl rfl (congrFun hQ 4) ?_
  refine qx_getR d_QF_crash_14 fR_QF_159 rfl rfl (congrFun hJ.1 8) ?_
  refine qx_iload_n d_QF_crash_17 rfl rfl ?_
  refine qx_aald (j := w) (t := 3)  d_QF_crash_18 rfl (fun _ => rfl) rfl rfl rfl (by omega) (hJ.2.2.2.1 w (by omega)) ?_
  refine qx_getI d_QF_crash_19 fI_QF_141 (li_pl (show w < 4 by omega)).1 (li_pl (show w < 4 by omega)).2.1 (show _ = nI (Q.2.2.2 w) from (congrFun (cJ_n (by omega)) 3).trans (congrFun (kQ_in (j := 0) (show w < 4 by omega) (by omega)) 3)) ?_
  refine qx_istore_n (lv1 := [_, _, _]) d_QF_crash_22 rfl (by decide) rfl ?_
  refine qx_aload_n d_QF_crash_23 rfl rfl ?_
  refine qx_getR d_QF_crash_24 fR_QF_36 rfl rfl (congrFun hQ 4) ?_
  refine qx_getR d_QF_crash_27 fR_QF_159 rfl rfl (congrFun hJ.1 8) ?_
  refine qx_iload_n d_QF_crash_30 rfl rfl ?_
  refine qx_aald (j := w) (t := 3)  d_QF_crash_31 rfl (fun _ => rfl) rfl rfl rfl (by omega) (hJ.2.2.2.1 w (by omega)) ?_
  refine qx_iconstN (v := 0) d_QF_crash_32 rfl ?_
  refine qx_putI d_QF_crash_33 fI_QF_141 (li_pl (show w < 4 by omega)).1 (li_pl (show w < 4 by omega)).2.1 ⟨rfl, rfl⟩ ?_
  refine qx_iload_n d_QF_crash_36 rfl rfl ?_
  exact qx_iret d_QF_crash_37 rfl rfl (by omega) (by omega) ⟨rfl, (cJ_x (by omega)).trans (by rw [kQ_n (show w < 4 by omega)]), rfl⟩
set_option maxRecDepth 100000 in
set_option maxHeartbeats 4000000 in
theorem ct_QF_tick_no {h : qH} (hQ : h.2.2 0 = qRQF) (hon : h.1 83 0 = b2i false) : qT mi_QF_tick 3 0 0 [.ref 0] h NN (fun v1 h1 n1 => v1 = some (.int (-1)) ∧ h = h1 ∧ n1 = NN) := by
  refine qT.of (lv0 := [_]) (by decide +kernel) (fun _ _ => Nat.le_of_ble_eq_true rfl) rfl ?_
  refine qx_aload_n d_QF_tick_0 rfl rfl ?_
  refine qx_getR d_QF_tick_1 fR_QF_36 rfl rfl (congrFun hQ 4) ?_
  refine qx_getI d_QF_tick_4 fI_QF_40 rfl rfl hon ?_
  refine qx_if_neB (t := 12) d_QF_tick_7 rfl (fun c7 => by cases c7) (fun c7 => ?_)
  refine qx_iconst (v := (-1)) d_QF_tick_10 rfl ?_
  exact qx_iret d_QF_tick_11 rfl rfl (by omega) (by omega) ⟨rfl, rfl, rfl⟩
set_option maxRecDepth 100000 in
set_option maxHeartbeats 4000000 in
theorem ct_QF_tick {h : qH} (hQ : h.2.2 0 = qRQF) (hJ : jobOk h) (hon : h.1 83 0 = b2i true) (nt : Nat) (hnt16 : nt ≤ 16) (hnt : h.1 83 3 = nI nt) (kd : Nat → Nat) (hkd4 : ∀ t, t < nt → kd t < 4) (hkd : ∀ t, t < nt → h.1 (90 + t) 0 = nI (kd t)) (dn : Nat → Bool) (hdn : ∀ t, t < nt → h.1 (90 + t) 5 = b2i (dn t)) (s : sJ) (tm : Int32) (htm : h.1 83 6 = tm) (hw : sW s ≤ 68) (hat : ∀ t, t < nt → sAt s t < 100000) : qT mi_QF_tick 3 0 0 [.ref 0] (cJ h s) NN (fun v1 h1 n1 => v1 = some (.int (nI (sTick dn (tm + nI 1) s nt).2)) ∧ h1 = cJ (qpI h 83 6 (tm + nI 1)) (sTick dn (tm + nI 1) s nt).1 ∧ n1 = NN) := by
  refine qT.of (lv0 := [_]) (by decide +kernel) (fun _ _ => Nat.le_of_ble_eq_true rfl) rfl ?_
  refine qx_aload_n d_QF_tick_0 rfl rfl ?_
  refine qx_getR d_QF_tick_1 fR_QF_36 rfl rfl (congrFun hQ 4) ?_
  refine qx_getI d_QF_tick_4 fI_QF_40 rfl rfl (show _ = b2i true from hon) ?_
  refine qx_if_neB (t := 12) d_QF_tick_7 rfl (fun c7 => ?_) (fun c7 => by cases c7)
  refine qx_aload_n d_QF_tick_12 rfl rfl ?_
  refine qx_getR d_QF_tick_13 fR_QF_36 rfl rfl (congrFun hQ 4) ?_
  refine qx_callV (As := []) (rest := _) d_QF_tick_16 lk_QF_167 y_Jo_sendAgain v_Jo_sendAgain rfl rfl rfl (by decide) rfl rfl rfl rfl (by decide) (by decide) (ct_Jo_sendAgain hJ nt hnt16 hnt kd hkd4 hkd dn hdn s tm htm hw hat) ?_
  rintro _ _ _ ⟨rfl, rfl, rfl⟩
  exact qx_iret d_QF_tick_19 rfl rfl (by omega) (by omega) ⟨rfl, rfl, rfl⟩
set_option maxRecDepth 100000 in
set_option maxHeartbeats 4000000 in
theorem ct_QF_message_off {h : qH} (hQ : h.2.2 0 = qRQF) (hon : h.1 83 0 = b2i false) (k x : Int32) : qT mi_QF_message 1 0 0 [.ref 0, .int k, .int x] h NN (fun v1 h1 n1 => v1 = some (.int (-1)) ∧ h = h1 ∧ n1 = NN) := by
  refine qT.of (lv0 := [_, _, _]) (by decide +kernel) (fun _ _ => Nat.le_of_ble_eq_true rfl) rfl ?_
  refine qx_aload_n d_QF_message_0 rfl rfl ?_
  refine qx_getR d_QF_message_1 fR_QF_36 rfl rfl (congrFun hQ 4) ?_
  refine qx_getI d_QF_message_4 fI_QF_40 rfl rfl hon ?_
  refine qx_if_neB (t := 12) d_QF_message_7 rfl (fun c7 => by cases c7) (fun c7 => ?_)
  refine qx_iconst (v := (-1)) d_QF_message_10 rfl ?_
  exact qx_iret d_QF_message_11 rfl rfl (by omega) (by omega) ⟨rfl, rfl, rfl⟩
set_option maxRecDepth 100000 in
set_option maxHeartbeats 4000000 in
theorem ct_QF_message_size {h : qH} (hQ : h.2.2 0 = qRQF) (hJ : jobOk h) (s : sJ) (hon : h.1 83 0 = b2i true) (x : Int32) : qT mi_QF_message 1 0 0 [.ref 0, .int (-1), .int x] (cJ h s) NN (fun v1 h1 n1 => v1 = some (.int (nI (sW s))) ∧ (cJ h s) = h1 ∧ n1 = NN) := by
  refine qT.of (lv0 := [_, _, _]) (by decide +kernel) (fun _ _ => Nat.le_of_ble_eq_true rfl) rfl ?_
  refine qx_aload_n d_QF_message_0 rfl rfl ?_
  refine qx_getR d_QF_message_1 fR_QF_36 rfl rfl (congrFun hQ 4) ?_
  refine qx_getI d_QF_message_4 fI_QF_40 rfl rfl (show _ = b2i true from hon) ?_
  refine qx_if_neB (t := 12) d_QF_message_7 rfl (fun c7 => ?_) (fun c7 => by cases c7)
  refine qx_iload_n d_QF_message_12 rfl rfl ?_
  refine qx_iconst (v := (-1)) d_QF_message_13 rfl ?_
  refine qx_icmp_ne (t := 28) d_QF_message_14 rfl (fun c14 => absurd rfl c14) (fun c14 => ?_)
  refine qx_aload_n d_QF_message_17 rfl rfl ?_
  refine qx_getR d_QF_message_18 fR_QF_36 rfl rfl (congrFun hQ 4) ?_
  refine qx_getR d_QF_message_21 fR_QF_137 rfl rfl (congrFun hJ.1 7) ?_
  refine qx_getI d_QF_message_24 fI_QF_141 rfl rfl (show _ = nI (sW s) from rfl) ?_
  exact qx_iret d_QF_message_27 rfl rfl (by omega) (by omega) ⟨rfl, rfl, rfl⟩
set_option maxRecDepth 100000 in
set_option maxHeartbeats 4000000 in
theorem ct_QF_message_no {h : qH} (hQ : h.2.2 0 = qRQF) (hJ : jobOk h) (s : sJ) (hon : h.1 83 0 = b2i true) (k x : Int32) (hk : ¬ k = -1) (hg : decide (0 ≤ k ∧ k < nI (sW s)) = false) : qT mi_QF_message 1 0 0 [.ref 0, .int k, .int x] (cJ h s) NN (fun v1 h1 n1 => v1 = some (.int (-1)) ∧ (cJ h s) = h1 ∧ n1 = NN) := by
  refine qT.of (lv0 := [_, _, _]) (by decide +kernel) (fun _ _ => Nat.le_of_ble_eq_true rfl) rfl ?_
  refine qx_aload_n d_QF_message_0 rfl rfl ?_
  refine qx_getR d_QF_message_1 fR_QF_36 rfl rfl (congrFun hQ 4) ?_
  refine qx_getI d_QF_message_4 fI_QF_40 rfl rfl (show _ = b2i true from hon) ?_
  refine qx_if_neB (t := 12) d_QF_message_7 rfl (fun c7 => ?_) (fun c7 => by cases c7)
  refine qx_iload_n d_QF_message_12 rfl rfl ?_
  refine qx_iconst (v := (-1)) d_QF_message_13 rfl ?_
  refine qx_icmp_ne (t := 28) d_QF_message_14 rfl (fun c14 => ?_) (fun c14 => absurd c14 hk)
  refine qx_iload_n d_QF_message_28 rfl rfl ?_
  refine qx_aload_n d_QF_message_29 rfl rfl ?_
  refine qx_getR d_QF_message_30 fR_QF_36 rfl rfl (congrFun hQ 4) ?_
  refine qx_getR d_QF_message_33 fR_QF_137 rfl rfl (congrFun hJ.1 7) ?_
  refine qx_getI d_QF_message_36 fI_QF_141 rfl rfl (show _ = nI (sW s) from rfl) ?_
  refine qx_callS (As := [_, _]) (rest := _) d_QF_message_39 lk_QF_44 y_QF_isIn s_QF_isIn rfl rfl rfl rfl (by decide) (by decide) (ct_QF_isIn _ _) ?_
  rintro _ _ _ ⟨rfl, rfl, rfl⟩
  refine qx_if_neB (t := 47) d_QF_message_42 rfl (fun c42 => absurd hg (by rw [c42]; decide)) (fun c42 => ?_)
  refine qx_iconst (v := (-1)) d_QF_message_45 rfl ?_
  exact qx_iret d_QF_message_46 rfl rfl (by omega) (by omega) ⟨rfl, rfl, rfl⟩
theorem nI_neg : ∀ {k : Nat}, k < 2 ^ 31 → ¬ nI k = -1 := by
  intro k hk e
  have := congrArg Int32.toInt e
  rw [nn_toInt hk] at this
  have e2 : (-1 : Int32).toInt = -1 := by decide
  omega
set_option maxRecDepth 100000 in
set_option maxHeartbeats 4000000 in
theorem ct_QF_message {h : qH} (hQ : h.2.2 0 = qRQF) (hJ : jobOk h) (s : sJ) (hon : h.1 83 0 = b2i true) (k : Nat) (hk : k < sW s) (hw : sW s ≤ 68) (x : Int32) (Rq : Option Value → qH → Nat → Prop) (hRq : ∀ v h n, Rq v h n → ∃ z : Int32, v = some (.int z)) (hD : qT mi_Jo_tell 2 0 0 [.ref 83, .int (nI k), .int x] (cJ h s) NN Rq) : qT mi_QF_message 3 0 0 [.ref 0, .int (nI k), .int x] (cJ h s) NN (fun v1 h1 n1 => Rq v1 h1 n1) := by
  refine qT.of (lv0 := [_, _, _]) (by decide +kernel) (fun _ _ => Nat.le_of_ble_eq_true rfl) rfl ?_
  refine qx_aload_n d_QF_message_0 rfl rfl ?_
  refine qx_getR d_QF_message_1 fR_QF_36 rfl rfl (congrFun hQ 4) ?_
  refine qx_getI d_QF_message_4 fI_QF_40 rfl rfl (show _ = b2i true from hon) ?_
  refine qx_if_neB (t := 12) d_QF_message_7 rfl (fun c7 => ?_) (fun c7 => by cases c7)
  refine qx_iload_n d_QF_message_12 rfl rfl ?_
  refine qx_iconst (v := (-1)) d_QF_message_13 rfl ?_
  refine qx_icmp_ne (t := 28) d_QF_message_14 rfl (fun c14 => ?_) (fun c14 => absurd c14 (nI_neg (by omega)))
  refine qx_iload_n d_QF_message_28 rfl rfl ?_
  refine qx_aload_n d_QF_message_29 rfl rfl ?_
  refine qx_getR d_QF_message_30 fR_QF_36 rfl rfl (congrFun hQ 4) ?_
  refine qx_getR d_QF_message_33 fR_QF_137 rfl rfl (congrFun hJ.1 7) ?_
  refine qx_getI d_QF_message_36 fI_QF_141 rfl rfl (show _ = nI (sW s) from rfl) ?_
  refine qx_callS (As := [_, _]) (rest := _) d_QF_message_39 lk_QF_44 y_QF_isIn s_QF_isIn rfl rfl rfl rfl (by decide) (by decide) (ct_QF_isIn _ _) ?_
  rintro _ _ _ ⟨rfl, rfl, rfl⟩
  refine qx_if_neB (t := 47) d_QF_message_42 rfl (fun c42 => ?_) (fun c42 => absurd c42 (by rw [in_t hk (by omega)]; decide))
  refine qx_aload_n d_QF_message_47 rfl rfl ?_
  refine qx_getR d_QF_message_48 fR_QF_36 rfl rfl (congrFun hQ 4) ?_
  refine qx_iload_n d_QF_message_51 rfl rfl ?_
  refine qx_iload_n d_QF_message_52 rfl rfl ?_
  refine qx_callV (As := [_, _]) (rest := _) d_QF_message_53 lk_QF_170 y_Jo_tell v_Jo_tell rfl rfl rfl (by decide) rfl rfl rfl rfl (by decide) (by decide) hD ?_
  intro v1 h1 n1 hq
  obtain ⟨z, rfl⟩ := hRq v1 h1 n1 hq
  exact qx_iret d_QF_message_56 rfl rfl (by omega) (by omega) hq
set_option maxRecDepth 100000 in
set_option maxHeartbeats 4000000 in
theorem ct_QF_task_no {h : qH} (hQ : h.2.2 0 = qRQF) (hJ : jobOk h) (nt : Nat) (hnt16 : nt ≤ 16) (hnt : h.1 83 3 = nI nt) (t x : Int32) (hg : decide (0 ≤ t ∧ t < nI nt) = false) : qT mi_QF_task 1 0 0 [.ref 0, .int t, .int x] h NN (fun v1 h1 n1 => v1 = some (.int (-1)) ∧ h = h1 ∧ n1 = NN) := by
  refine qT.of (lv0 := [_, _, _]) (by decide +kernel) (fun _ _ => Nat.le_of_ble_eq_true rfl) rfl ?_
  refine qx_iload_n d_QF_task_0 rfl rfl ?_
  refine qx_aload_n d_QF_task_1 rfl rfl ?_
  refine qx_getR d_QF_task_2 fR_QF_36 rfl rfl (congrFun hQ 4) ?_
  refine qx_getI d_QF_task_5 fI_QF_134 rfl rfl hnt ?_
  refine qx_callS (As := [_, _]) (rest := _) d_QF_task_8 lk_QF_44 y_QF_isIn s_QF_isIn rfl rfl rfl rfl (by decide) (by decide) (ct_QF_isIn _ _) ?_
  rintro _ _ _ ⟨rfl, rfl, rfl⟩
  refine qx_if_neB (t := 16) d_QF_task_11 rfl (fun c11 => absurd hg (by rw [c11]; decide)) (fun c11 => ?_)
  refine qx_iconst (v := (-1)) d_QF_task_14 rfl ?_
  exact qx_iret d_QF_task_15 rfl rfl (by omega) (by omega) ⟨rfl, rfl, rfl⟩
set_option maxRecDepth 100000 in
set_option maxHeartbeats 4000000 in
theorem ct_QF_task {h : qH} (hQ : h.2.2 0 = qRQF) (hJ : jobOk h) (nt : Nat) (hnt16 : nt ≤ 16) (hnt : h.1 83 3 = nI nt) (t : Nat) (ht : t < nt) (x : Int32) (Rq : Option Value → qH → Nat → Prop) (hRq : ∀ v h n, Rq v h n → ∃ z : Int32, v = some (.int z)) (hD : qT mi_Ta_tell 0 0 0 [.ref (90 + t), .int x] h NN Rq) : qT mi_QF_task 1 0 0 [.ref 0, .int (nI t), .int x] h NN (fun v1 h1 n1 => Rq v1 h1 n1) := by
  refine qT.of (lv0 := [_, _, _]) (by decide +kernel) (fun _ _ => Nat.le_of_ble_eq_true rfl) rfl ?_
  refine qx_iload_n d_QF_task_0 rfl rfl ?_
  refine qx_aload_n d_QF_task_1 rfl rfl ?_
  refine qx_getR d_QF_task_2 fR_QF_36 rfl rfl (congrFun hQ 4) ?_
  refine qx_getI d_QF_task_5 fI_QF_134 rfl rfl hnt ?_
  refine qx_callS (As := [_, _]) (rest := _) d_QF_task_8 lk_QF_44 y_QF_isIn s_QF_isIn rfl rfl rfl rfl (by decide) (by decide) (ct_QF_isIn _ _) ?_
  rintro _ _ _ ⟨rfl, rfl, rfl⟩
  refine qx_if_neB (t := 16) d_QF_task_11 rfl (fun c11 => ?_) (fun c11 => absurd c11 (by rw [in_t ht (by omega)]; decide))
  refine qx_aload_n d_QF_task_16 rfl rfl ?_
  refine qx_getR d_QF_task_17 fR_QF_36 rfl rfl (congrFun hQ 4) ?_
  refine qx_getR d_QF_task_20 fR_QF_174 rfl rfl (congrFun hJ.1 2) ?_
  refine qx_iload_n d_QF_task_23 rfl rfl ?_
  refine qx_aald (j := t) (t := 2)  d_QF_task_24 rfl (fun _ => rfl) rfl rfl rfl (by omega) (hJ.2.1 t (by omega)) ?_
  refine qx_iload_n d_QF_task_25 rfl rfl ?_
  refine qx_callV (As := [_]) (rest := _) d_QF_task_26 lk_QF_178 y_Ta_tell v_Ta_tell rfl rfl (ta_pl (show t < 16 by omega)).1 (by decide) rfl (ta_pl (show t < 16 by omega)).2 rfl rfl (by decide) (by decide) hD ?_
  intro v1 h1 n1 hq
  obtain ⟨z, rfl⟩ := hRq v1 h1 n1 hq
  exact qx_iret d_QF_task_29 rfl rfl (by omega) (by omega) hq
set_option maxRecDepth 100000 in
set_option maxHeartbeats 4000000 in
theorem ct_QF_ended_no {h : qH} (hQ : h.2.2 0 = qRQF) (on : Bool) (hon : h.1 83 0 = b2i on) (nt : Nat) (hnt16 : nt ≤ 16) (hnt : h.1 83 3 = nI nt) (x : Int32) (hg : (!on && decide (0 < nt)) = false) : qT mi_QF_ended 1 0 0 [.ref 0, .int x] h NN (fun v1 h1 n1 => v1 = some (.int (-1)) ∧ h = h1 ∧ n1 = NN) := by
  refine qT.of (lv0 := [_, _]) (by decide +kernel) (fun _ _ => Nat.le_of_ble_eq_true rfl) rfl ?_
  refine qx_aload_n d_QF_ended_0 rfl rfl ?_
  refine qx_callV (As := []) (rest := _) d_QF_ended_1 lk_QF_182 y_QF_hasResult v_QF_hasResult rfl rfl rfl (by decide) rfl rfl rfl rfl (by decide) (by decide) (ct_QF_hasResult hQ on hon nt hnt16 hnt) ?_
  rintro _ _ _ ⟨rfl, rfl, rfl⟩
  refine qx_if_neB (t := 9) d_QF_ended_4 rfl (fun c4 => absurd hg (by rw [c4]; decide)) (fun c4 => ?_)
  refine qx_iconst (v := (-1)) d_QF_ended_7 rfl ?_
  exact qx_iret d_QF_ended_8 rfl rfl (by omega) (by omega) ⟨rfl, rfl, rfl⟩
set_option maxRecDepth 100000 in
set_option maxHeartbeats 4000000 in
theorem ct_QF_ended_0 {h : qH} (hQ : h.2.2 0 = qRQF) (hon : h.1 83 0 = b2i false) (nt : Nat) (hnt16 : nt ≤ 16) (hnt : h.1 83 3 = nI nt) (hn0 : 0 < nt) (v : Int32) (hv : h.1 79 5 = v) : qT mi_QF_ended 1 0 0 [.ref 0, .int (nI 0)] h NN (fun v1 h1 n1 => v1 = some (.int v) ∧ h = h1 ∧ n1 = NN) := by
  refine qT.of (lv0 := [_, _]) (by decide +kernel) (fun _ _ => Nat.le_of_ble_eq_true rfl) rfl ?_
  refine qx_aload_n d_QF_ended_0 rfl rfl ?_
  refine qx_callV (As := []) (rest := _) d_QF_ended_1 lk_QF_182 y_QF_hasResult v_QF_hasResult rfl rfl rfl (by decide) rfl rfl rfl rfl (by decide) (by decide) (ct_QF_hasResult hQ false hon nt hnt16 hnt) ?_
  rintro _ _ _ ⟨rfl, rfl, rfl⟩
  refine qx_if_neB (t := 9) d_QF_ended_4 rfl (fun c4 => ?_) (fun c4 => absurd c4 (by rw [decide_eq_true hn0]; decide))
  refine qx_iload_n d_QF_ended_9 rfl rfl ?_
  refine qx_tabIn (t := 40) d_QF_ended_10 (by decide) (by decide) rfl rfl ?_
  refine qx_aload_n d_QF_ended_40 rfl rfl ?_
  refine qx_getR d_QF_ended_41 fR_QF_29 rfl rfl (congrFun hQ 3) ?_
  refine qx_getI d_QF_ended_44 fI_QF_185 rfl rfl hv ?_
  exact qx_iret d_QF_ended_47 rfl rfl (by omega) (by omega) ⟨rfl, rfl, rfl⟩
set_option maxRecDepth 100000 in
set_option maxHeartbeats 4000000 in
theorem ct_QF_ended_1 {h : qH} (hQ : h.2.2 0 = qRQF) (hon : h.1 83 0 = b2i false) (nt : Nat) (hnt16 : nt ≤ 16) (hnt : h.1 83 3 = nI nt) (hn0 : 0 < nt) (v : Int32) (hv : h.1 79 4 = v) : qT mi_QF_ended 1 0 0 [.ref 0, .int (nI 1)] h NN (fun v1 h1 n1 => v1 = some (.int v) ∧ h = h1 ∧ n1 = NN) := by
  refine qT.of (lv0 := [_, _]) (by decide +kernel) (fun _ _ => Nat.le_of_ble_eq_true rfl) rfl ?_
  refine qx_aload_n d_QF_ended_0 rfl rfl ?_
  refine qx_callV (As := []) (rest := _) d_QF_ended_1 lk_QF_182 y_QF_hasResult v_QF_hasResult rfl rfl rfl (by decide) rfl rfl rfl rfl (by decide) (by decide) (ct_QF_hasResult hQ false hon nt hnt16 hnt) ?_
  rintro _ _ _ ⟨rfl, rfl, rfl⟩
  refine qx_if_neB (t := 9) d_QF_ended_4 rfl (fun c4 => ?_) (fun c4 => absurd c4 (by rw [decide_eq_true hn0]; decide))
  refine qx_iload_n d_QF_ended_9 rfl rfl ?_
  refine qx_tabIn (t := 48) d_QF_ended_10 (by decide) (by decide) rfl rfl ?_
  refine qx_aload_n d_QF_ended_48 rfl rfl ?_
  refine qx_getR d_QF_ended_49 fR_QF_29 rfl rfl (congrFun hQ 3) ?_
  refine qx_getI d_QF_ended_52 fI_QF_188 rfl rfl hv ?_
  exact qx_iret d_QF_ended_55 rfl rfl (by omega) (by omega) ⟨rfl, rfl, rfl⟩
set_option maxRecDepth 100000 in
set_option maxHeartbeats 4000000 in
theorem ct_QF_ended_2 {h : qH} (hQ : h.2.2 0 = qRQF) (hon : h.1 83 0 = b2i false) (nt : Nat) (hnt16 : nt ≤ 16) (hnt : h.1 83 3 = nI nt) (hn0 : 0 < nt) (v : Int32) (hv : h.1 79 6 = v) : qT mi_QF_ended 1 0 0 [.ref 0, .int (nI 2)] h NN (fun v1 h1 n1 => v1 = some (.int v) ∧ h = h1 ∧ n1 = NN) := by
  refine qT.of (lv0 := [_, _]) (by decide +kernel) (fun _ _ => Nat.le_of_ble_eq_true rfl) rfl ?_
  refine qx_aload_n d_QF_ended_0 rfl rfl ?_
  refine qx_callV (As := []) (rest := _) d_QF_ended_1 lk_QF_182 y_QF_hasResult v_QF_hasResult rfl rfl rfl (by decide) rfl rfl rfl rfl (by decide) (by decide) (ct_QF_hasResult hQ false hon nt hnt16 hnt) ?_
  rintro _ _ _ ⟨rfl, rfl, rfl⟩
  refine qx_if_neB (t := 9) d_QF_ended_4 rfl (fun c4 => ?_) (fun c4 => absurd c4 (by rw [decide_eq_true hn0]; decide))
  refine qx_iload_n d_QF_ended_9 rfl rfl ?_
  refine qx_tabIn (t := 56) d_QF_ended_10 (by decide) (by decide) rfl rfl ?_
  refine qx_aload_n d_QF_ended_56 rfl rfl ?_
  refine qx_getR d_QF_ended_57 fR_QF_29 rfl rfl (congrFun hQ 3) ?_
  refine qx_getI d_QF_ended_60 fI_QF_190 rfl rfl hv ?_
  exact qx_iret d_QF_ended_63 rfl rfl (by omega) (by omega) ⟨rfl, rfl, rfl⟩
set_option maxRecDepth 100000 in
set_option maxHeartbeats 4000000 in
theorem ct_QF_ended_3 {h : qH} (hQ : h.2.2 0 = qRQF) (hon : h.1 83 0 = b2i false) (nt : Nat) (hnt16 : nt ≤ 16) (hnt : h.1 83 3 = nI nt) (hn0 : 0 < nt) (v : Int32) (hv : h.1 83 5 = v) : qT mi_QF_ended 1 0 0 [.ref 0, .int (nI 3)] h NN (fun v1 h1 n1 => v1 = some (.int v) ∧ h = h1 ∧ n1 = NN) := by
  refine qT.of (lv0 := [_, _]) (by decide +kernel) (fun _ _ => Nat.le_of_ble_eq_true rfl) rfl ?_
  refine qx_aload_n d_QF_ended_0 rfl rfl ?_
  refine qx_callV (As := []) (rest := _) d_QF_ended_1 lk_QF_182 y_QF_hasResult v_QF_hasResult rfl rfl rfl (by decide) rfl rfl rfl rfl (by decide) (by decide) (ct_QF_hasResult hQ false hon nt hnt16 hnt) ?_
  rintro _ _ _ ⟨rfl, rfl, rfl⟩
  refine qx_if_neB (t := 9) d_QF_ended_4 rfl (fun c4 => ?_) (fun c4 => absurd c4 (by rw [decide_eq_true hn0]; decide))
  refine qx_iload_n d_QF_ended_9 rfl rfl ?_
  refine qx_tabIn (t := 64) d_QF_ended_10 (by decide) (by decide) rfl rfl ?_
  refine qx_aload_n d_QF_ended_64 rfl rfl ?_
  refine qx_getR d_QF_ended_65 fR_QF_36 rfl rfl (congrFun hQ 4) ?_
  refine qx_getI d_QF_ended_68 fI_QF_193 rfl rfl hv ?_
  exact qx_iret d_QF_ended_71 rfl rfl (by omega) (by omega) ⟨rfl, rfl, rfl⟩
set_option maxRecDepth 100000 in
set_option maxHeartbeats 4000000 in
theorem ct_QF_ended_out {h : qH} (hQ : h.2.2 0 = qRQF) (hon : h.1 83 0 = b2i false) (nt : Nat) (hnt16 : nt ≤ 16) (hnt : h.1 83 3 = nI nt) (hn0 : 0 < nt) (x : Int32) (hx : x.toInt < 0 ∨ 3 < x.toInt) : qT mi_QF_ended 1 0 0 [.ref 0, .int x] h NN (fun v1 h1 n1 => v1 = some (.int (-1)) ∧ h = h1 ∧ n1 = NN) := by
  refine qT.of (lv0 := [_, _]) (by decide +kernel) (fun _ _ => Nat.le_of_ble_eq_true rfl) rfl ?_
  refine qx_aload_n d_QF_ended_0 rfl rfl ?_
  refine qx_callV (As := []) (rest := _) d_QF_ended_1 lk_QF_182 y_QF_hasResult v_QF_hasResult rfl rfl rfl (by decide) rfl rfl rfl rfl (by decide) (by decide) (ct_QF_hasResult hQ false hon nt hnt16 hnt) ?_
  rintro _ _ _ ⟨rfl, rfl, rfl⟩
  refine qx_if_neB (t := 9) d_QF_ended_4 rfl (fun c4 => ?_) (fun c4 => absurd c4 (by rw [decide_eq_true hn0]; decide))
  refine qx_iload_n d_QF_ended_9 rfl rfl ?_
  refine qx_tabOut (t := 72) d_QF_ended_10 hx rfl ?_
  refine qx_iconst (v := (-1)) d_QF_ended_72 rfl ?_
  exact qx_iret d_QF_ended_73 rfl rfl (by omega) (by omega) ⟨rfl, rfl, rfl⟩
theorem cell_n {x : Option Int64} (h : x.isNone = true) : x.getD 0 = 0 := by
  cases x with
  | none => rfl
  | some z => cases h
theorem cell_s {x : Option Int64} {y : Int64} (h : x.isNone = false) (hx : ∀ z, x = some z → y = z) : x.getD 0 = y := by
  cases x with
  | none => cases h
  | some z => exact (hx z rfl).symm
set_option maxRecDepth 100000 in
set_option maxHeartbeats 4000000 in
theorem ct_QF_hasCell {h : qH} (hQ : h.2.2 0 = qRQF) (on : Bool) (hon : h.1 83 0 = b2i on) (nt : Nat) (hnt16 : nt ≤ 16) (hnt : h.1 83 3 = nI nt) (cn cl : Nat) (hcn : h.1 79 5 = nI cn) (hcl : h.1 79 4 = nI cl) (i c : Int32) : qT mi_QF_hasCell 1 0 0 [.ref 0, .int i, .int c] h NN (fun v1 h1 n1 => v1 = some (.int (b2i ((!on && decide (0 < nt)) && (decide (0 ≤ i ∧ i < nI cn) && decide (0 ≤ c ∧ c < nI cl))))) ∧ h = h1 ∧ n1 = NN) := by
  refine qT.of (lv0 := [_, _, _]) (by decide +kernel) (fun _ _ => Nat.le_of_ble_eq_true rfl) rfl ?_
  refine qx_aload_n d_QF_hasCell_0 rfl rfl ?_
  refine qx_callV (As := []) (rest := _) d_QF_hasCell_1 lk_QF_182 y_QF_hasResult v_QF_hasResult rfl rfl rfl (by decide) rfl rfl rfl rfl (by decide) (by decide) (ct_QF_hasResult hQ on hon nt hnt16 hnt) ?_
  rintro _ _ _ ⟨rfl, rfl, rfl⟩
  refine qx_if_eqB (t := 39) d_QF_hasCell_4 rfl (fun c4 => ?_) (fun c4 => ?_)
  · refine qx_iconst (v := b2i false) d_QF_hasCell_39 rfl ?_
    exact qx_iret d_QF_hasCell_40 rfl (b2i_nar _) (by omega) (by omega) (by refine ⟨?_, rfl, rfl⟩; first | (have z := c32; rw [c4, c18, z]; rfl) | (have z := c18; rw [c4, z]; rfl) | (rw [c4]; rfl))
  · refine qx_iload_n d_QF_hasCell_7 rfl rfl ?_
    refine qx_aload_n d_QF_hasCell_8 rfl rfl ?_
    refine qx_getR d_QF_hasCell_9 fR_QF_29 rfl rfl (congrFun hQ 3) ?_
    refine qx_getI d_QF_hasCell_12 fI_QF_185 rfl rfl hcn ?_
    refine qx_callS (As := [_, _]) (rest := _) d_QF_hasCell_15 lk_QF_44 y_QF_isIn s_QF_isIn rfl rfl rfl rfl (by decide) (by decide) (ct_QF_isIn _ _) ?_
    rintro _ _ _ ⟨rfl, rfl, rfl⟩
    refine qx_if_eqB (t := 39) d_QF_hasCell_18 rfl (fun c18 => ?_) (fun c18 => ?_)
    · refine qx_iconst (v := b2i false) d_QF_hasCell_39 rfl ?_
      exact qx_iret d_QF_hasCell_40 rfl (b2i_nar _) (by omega) (by omega) (by refine ⟨?_, rfl, rfl⟩; first | (have z := c32; rw [c4, c18, z]; rfl) | (have z := c18; rw [c4, z]; rfl) | (rw [c4]; rfl))
    · refine qx_iload_n d_QF_hasCell_21 rfl rfl ?_
      refine qx_aload_n d_QF_hasCell_22 rfl rfl ?_
      refine qx_getR d_QF_hasCell_23 fR_QF_29 rfl rfl (congrFun hQ 3) ?_
      refine qx_getI d_QF_hasCell_26 fI_QF_188 rfl rfl hcl ?_
      refine qx_callS (As := [_, _]) (rest := _) d_QF_hasCell_29 lk_QF_44 y_QF_isIn s_QF_isIn rfl rfl rfl rfl (by decide) (by decide) (ct_QF_isIn _ _) ?_
      rintro _ _ _ ⟨rfl, rfl, rfl⟩
      refine qx_if_eqB (t := 39) d_QF_hasCell_32 rfl (fun c32 => ?_) (fun c32 => ?_)
      · refine qx_iconst (v := b2i false) d_QF_hasCell_39 rfl ?_
        exact qx_iret d_QF_hasCell_40 rfl (b2i_nar _) (by omega) (by omega) (by refine ⟨?_, rfl, rfl⟩; first | (have z := c32; rw [c4, c18, z]; rfl) | (have z := c18; rw [c4, z]; rfl) | (rw [c4]; rfl))
      · refine qx_iconst (v := b2i true) d_QF_hasCell_35 rfl ?_
        refine qx_goto (t := 40) d_QF_hasCell_36 rfl ?_
        exact qx_iret d_QF_hasCell_40 rfl (b2i_nar _) (by omega) (by omega) (by refine ⟨?_, rfl, rfl⟩; first | (have z := c32; rw [c4, c18, z]; rfl) | (have z := c18; rw [c4, z]; rfl) | (rw [c4]; rfl))
set_option maxRecDepth 100000 in
set_option maxHeartbeats 4000000 in
theorem ct_QF_cell_no {h : qH} (hQ : h.2.2 0 = qRQF) (on : Bool) (hon : h.1 83 0 = b2i on) (nt : Nat) (hnt16 : nt ≤ 16) (hnt : h.1 83 3 = nI nt) (cn cl : Nat) (hcn : h.1 79 5 = nI cn) (hcl : h.1 79 4 = nI cl) (i c : Int32) (hg : ((!on && decide (0 < nt)) && (decide (0 ≤ i ∧ i < nI cn) && decide (0 ≤ c ∧ c < nI cl))) = false) : qT mi_QF_cell 2 0 0 [.ref 0, .int i, .int c] h NN (fun v1 h1 n1 => v1 = some (.long 0) ∧ h = h1 ∧ n1 = NN) := by
  refine qT.of (lv0 := [_, _, _]) (by decide +kernel) (fun _ _ => Nat.le_of_ble_eq_true rfl) rfl ?_
  refine qx_aload_n d_QF_cell_0 rfl rfl ?_
  refine qx_iload_n d_QF_cell_1 rfl rfl ?_
  refine qx_iload_n d_QF_cell_2 rfl rfl ?_
  refine qx_callV (As := [_, _]) (rest := _) d_QF_cell_3 lk_QF_196 y_QF_hasCell v_QF_hasCell rfl rfl rfl (by decide) rfl rfl rfl rfl (by decide) (by decide) (ct_QF_hasCell hQ on hon nt hnt16 hnt cn cl hcn hcl i c) ?_
  rintro _ _ _ ⟨rfl, rfl, rfl⟩
  refine qx_if_eqB (t := 21) d_QF_cell_6 rfl (fun c6 => ?_) (fun c6 => absurd hg (by rw [c6]; decide))
  refine qx_lconst (v := 0) d_QF_cell_21 rfl ?_
  exact qx_lret d_QF_cell_22 rfl (by omega) (by omega) ⟨rfl, rfl, rfl⟩
set_option maxRecDepth 100000 in
set_option maxHeartbeats 4000000 in
theorem ct_QF_missing_no {h : qH} (hQ : h.2.2 0 = qRQF) (on : Bool) (hon : h.1 83 0 = b2i on) (nt : Nat) (hnt16 : nt ≤ 16) (hnt : h.1 83 3 = nI nt) (cn cl : Nat) (hcn : h.1 79 5 = nI cn) (hcl : h.1 79 4 = nI cl) (i c : Int32) (hg : ((!on && decide (0 < nt)) && (decide (0 ≤ i ∧ i < nI cn) && decide (0 ≤ c ∧ c < nI cl))) = false) : qT mi_QF_missing 2 0 0 [.ref 0, .int i, .int c] h NN (fun v1 h1 n1 => v1 = some (.int (b2i false)) ∧ h = h1 ∧ n1 = NN) := by
  refine qT.of (lv0 := [_, _, _]) (by decide +kernel) (fun _ _ => Nat.le_of_ble_eq_true rfl) rfl ?_
  refine qx_aload_n d_QF_missing_0 rfl rfl ?_
  refine qx_iload_n d_QF_missing_1 rfl rfl ?_
  refine qx_iload_n d_QF_missing_2 rfl rfl ?_
  refine qx_callV (As := [_, _]) (rest := _) d_QF_missing_3 lk_QF_196 y_QF_hasCell v_QF_hasCell rfl rfl rfl (by decide) rfl rfl rfl rfl (by decide) (by decide) (ct_QF_hasCell hQ on hon nt hnt16 hnt cn cl hcn hcl i c) ?_
  rintro _ _ _ ⟨rfl, rfl, rfl⟩
  refine qx_if_eqB (t := 25) d_QF_missing_6 rfl (fun c6 => ?_) (fun c6 => absurd hg (by rw [c6]; decide))
  refine qx_iconst (v := b2i false) d_QF_missing_25 rfl ?_
  exact qx_iret d_QF_missing_26 rfl (b2i_nar _) (by omega) (by omega) ⟨rfl, rfl, rfl⟩
set_option maxRecDepth 100000 in
set_option maxHeartbeats 4000000 in
theorem ct_QF_cell {h : qH} (hQ : h.2.2 0 = qRQF) (hRe : h.2.2 79 = qRRe) (hon : h.1 83 0 = b2i false) (nt : Nat) (hnt16 : nt ≤ 16) (hnt : h.1 83 3 = nI nt) (hn0 : 0 < nt) (cn cl : Nat) (hcn : h.1 79 5 = nI cn) (hcl : h.1 79 4 = nI cl) (hcn1 : cn ≤ 144) (hcl4 : cl ≤ 4) (i c : Nat) (hi : i < cn) (hc : c < cl) (p : Nat) (hp1 : p < 144) (hp : h.1 82 i = nI p) (x : Option Int64) (hx1 : h.1 81 (p * 4 + c) = b2i x.isNone) (hx2 : ∀ z, x = some z → h.2.1 80 (p * 4 + c) = z) : qT mi_QF_cell 2 0 0 [.ref 0, .int (nI i), .int (nI c)] h NN (fun v1 h1 n1 => v1 = some (.long (x.getD 0)) ∧ h = h1 ∧ n1 = NN) := by
  refine qT.of (lv0 := [_, _, _]) (by decide +kernel) (fun _ _ => Nat.le_of_ble_eq_true rfl) rfl ?_
  refine qx_aload_n d_QF_cell_0 rfl rfl ?_
  refine qx_iload_n d_QF_cell_1 rfl rfl ?_
  refine qx_iload_n d_QF_cell_2 rfl rfl ?_
  refine qx_callV (As := [_, _]) (rest := _) d_QF_cell_3 lk_QF_196 y_QF_hasCell v_QF_hasCell rfl rfl rfl (by decide) rfl rfl rfl rfl (by decide) (by decide) (ct_QF_hasCell hQ false hon nt hnt16 hnt cn cl hcn hcl (nI i) (nI c)) ?_
  rintro _ _ _ ⟨rfl, rfl, rfl⟩
  refine qx_if_eqB (t := 21) d_QF_cell_6 rfl (fun c6 => absurd c6 (by rw [decide_eq_true hn0, in_t hi (by omega), in_t hc (by omega)]; decide)) (fun c6 => ?_)
  refine qx_aload_n d_QF_cell_9 rfl rfl ?_
  refine qx_getR d_QF_cell_10 fR_QF_29 rfl rfl (congrFun hQ 3) ?_
  refine qx_iload_n d_QF_cell_13 rfl rfl ?_
  refine qx_iload_n d_QF_cell_14 rfl rfl ?_
  refine qx_callV (As := [_, _]) (rest := _) d_QF_cell_15 lk_QF_199 y_Re_isNull v_Re_isNull rfl rfl rfl (by decide) rfl rfl rfl rfl (by decide) (by decide) (ct_Re_isNull hRe i c p (by omega) (by omega) hp1 hp x.isNone hx1) ?_
  rintro _ _ _ ⟨rfl, rfl, rfl⟩
  refine qx_if_eqB (t := 23) d_QF_cell_18 rfl (fun c18 => ?_) (fun c18 => ?_)
  · refine qx_aload_n d_QF_cell_23 rfl rfl ?_
    refine qx_getR d_QF_cell_24 fR_QF_29 rfl rfl (congrFun hQ 3) ?_
    refine qx_iload_n d_QF_cell_27 rfl rfl ?_
    refine qx_iload_n d_QF_cell_28 rfl rfl ?_
    refine qx_callV (As := [_, _]) (rest := _) d_QF_cell_29 lk_QF_202 y_Re_value v_Re_value rfl rfl rfl (by decide) rfl rfl rfl rfl (by decide) (by decide) (ct_Re_value hRe i c p (by omega) (by omega) hp1 hp _ rfl) ?_
    rintro _ _ _ ⟨rfl, rfl, rfl⟩
    exact qx_lret d_QF_cell_32 rfl (by omega) (by omega) ⟨by rw [cell_s c18 hx2], rfl, rfl⟩
  · refine qx_lconst (v := 0) d_QF_cell_21 rfl ?_
    exact qx_lret d_QF_cell_22 rfl (by omega) (by omega) ⟨by rw [cell_n c18], rfl, rfl⟩
set_option maxRecDepth 100000 in
set_option maxHeartbeats 4000000 in
theorem ct_QF_missing {h : qH} (hQ : h.2.2 0 = qRQF) (hRe : h.2.2 79 = qRRe) (hon : h.1 83 0 = b2i false) (nt : Nat) (hnt16 : nt ≤ 16) (hnt : h.1 83 3 = nI nt) (hn0 : 0 < nt) (cn cl : Nat) (hcn : h.1 79 5 = nI cn) (hcl : h.1 79 4 = nI cl) (hcn1 : cn ≤ 144) (hcl4 : cl ≤ 4) (i c : Nat) (hi : i < cn) (hc : c < cl) (p : Nat) (hp1 : p < 144) (hp : h.1 82 i = nI p) (x : Option Int64) (hx1 : h.1 81 (p * 4 + c) = b2i x.isNone) (hx2 : ∀ z, x = some z → h.2.1 80 (p * 4 + c) = z) : qT mi_QF_missing 2 0 0 [.ref 0, .int (nI i), .int (nI c)] h NN (fun v1 h1 n1 => v1 = some (.int (b2i x.isNone)) ∧ h = h1 ∧ n1 = NN) := by
  refine qT.of (lv0 := [_, _, _]) (by decide +kernel) (fun _ _ => Nat.le_of_ble_eq_true rfl) rfl ?_
  refine qx_aload_n d_QF_missing_0 rfl rfl ?_
  refine qx_iload_n d_QF_missing_1 rfl rfl ?_
  refine qx_iload_n d_QF_missing_2 rfl rfl ?_
  refine qx_callV (As := [_, _]) (rest := _) d_QF_missing_3 lk_QF_196 y_QF_hasCell v_QF_hasCell rfl rfl rfl (by decide) rfl rfl rfl rfl (by decide) (by decide) (ct_QF_hasCell hQ false hon nt hnt16 hnt cn cl hcn hcl (nI i) (nI c)) ?_
  rintro _ _ _ ⟨rfl, rfl, rfl⟩
  refine qx_if_eqB (t := 25) d_QF_missing_6 rfl (fun c6 => absurd c6 (by rw [decide_eq_true hn0, in_t hi (by omega), in_t hc (by omega)]; decide)) (fun c6 => ?_)
  refine qx_aload_n d_QF_missing_9 rfl rfl ?_
  refine qx_getR d_QF_missing_10 fR_QF_29 rfl rfl (congrFun hQ 3) ?_
  refine qx_iload_n d_QF_missing_13 rfl rfl ?_
  refine qx_iload_n d_QF_missing_14 rfl rfl ?_
  refine qx_callV (As := [_, _]) (rest := _) d_QF_missing_15 lk_QF_199 y_Re_isNull v_Re_isNull rfl rfl rfl (by decide) rfl rfl rfl rfl (by decide) (by decide) (ct_Re_isNull hRe i c p (by omega) (by omega) hp1 hp x.isNone hx1) ?_
  rintro _ _ _ ⟨rfl, rfl, rfl⟩
  refine qx_if_eqB (t := 25) d_QF_missing_18 rfl (fun c18 => ?_) (fun c18 => ?_)
  · refine qx_iconst (v := b2i false) d_QF_missing_25 rfl ?_
    exact qx_iret d_QF_missing_26 rfl (b2i_nar _) (by omega) (by omega) (by rw [c18]; exact ⟨rfl, rfl, rfl⟩)
  · refine qx_iconst (v := b2i true) d_QF_missing_21 rfl ?_
    refine qx_goto (t := 26) d_QF_missing_22 rfl ?_
    exact qx_iret d_QF_missing_26 rfl (b2i_nar _) (by omega) (by omega) (by rw [c18]; exact ⟨rfl, rfl, rfl⟩)
