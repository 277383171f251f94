theorem q_sw2 (x : Int32) : x = nI 0 ∨ x = nI 1 ∨ x = nI 2 ∨ (x.toInt < 0 ∨ 2 < x.toInt) := by
  by_cases h : x.toInt < 0 ∨ 2 < x.toInt
  · exact Or.inr (Or.inr (Or.inr (h)))
  · have : x.toInt = 0 ∨ x.toInt = 1 ∨ x.toInt = 2 := by omega
    rcases this with e | e | e
    · exact Or.inl (Int32.toInt_inj.mp (by rw [e]; decide))
    · exact Or.inr (Or.inl (Int32.toInt_inj.mp (by rw [e]; decide)))
    · exact Or.inr (Or.inr (Or.inl (Int32.toInt_inj.mp (by rw [e]; decide))))
theorem q_sw3 (x : Int32) : x = nI 0 ∨ x = nI 1 ∨ x = nI 2 ∨ x = nI 3 ∨ (x.toInt < 0 ∨ 3 < x.toInt) := by
  by_cases h : x.toInt < 0 ∨ 3 < x.toInt
  · exact Or.inr (Or.inr (Or.inr (Or.inr (h))))
  · have : x.toInt = 0 ∨ x.toInt = 1 ∨ x.toInt = 2 ∨ x.toInt = 3 := by omega
    rcases this with e | e | e | e
    · exact Or.inl (Int32.toInt_inj.mp (by rw [e]; decide))
    · exact Or.inr (Or.inl (Int32.toInt_inj.mp (by rw [e]; decide)))
    · exact Or.inr (Or.inr (Or.inl (Int32.toInt_inj.mp (by rw [e]; decide))))
    · exact Or.inr (Or.inr (Or.inr (Or.inl (Int32.toInt_inj.mp (by rw [e]; decide)))))
theorem q_sw4 (x : Int32) : x = nI 0 ∨ x = nI 1 ∨ x = nI 2 ∨ x = nI 3 ∨ x = nI 4 ∨ (x.toInt < 0 ∨ 4 < x.toInt) := by
  by_cases h : x.toInt < 0 ∨ 4 < x.toInt
  · exact Or.inr (Or.inr (Or.inr (Or.inr (Or.inr (h)))))
  · have : x.toInt = 0 ∨ x.toInt = 1 ∨ x.toInt = 2 ∨ x.toInt = 3 ∨ x.toInt = 4 := by omega
    rcases this with e | e | e | e | e
    · exact Or.inl (Int32.toInt_inj.mp (by rw [e]; decide))
    · exact Or.inr (Or.inl (Int32.toInt_inj.mp (by rw [e]; decide)))
    · exact Or.inr (Or.inr (Or.inl (Int32.toInt_inj.mp (by rw [e]; decide))))
    · exact Or.inr (Or.inr (Or.inr (Or.inl (Int32.toInt_inj.mp (by rw [e]; decide)))))
    · exact Or.inr (Or.inr (Or.inr (Or.inr (Or.inl (Int32.toInt_inj.mp (by rw [e]; decide))))))
theorem q_sw5 (x : Int32) : x = nI 0 ∨ x = nI 1 ∨ x = nI 2 ∨ x = nI 3 ∨ x = nI 4 ∨ x = nI 5 ∨ (x.toInt < 0 ∨ 5 < x.toInt) := by
  by_cases h : x.toInt < 0 ∨ 5 < x.toInt
  · exact Or.inr (Or.inr (Or.inr (Or.inr (Or.inr (Or.inr (h))))))
  · have : x.toInt = 0 ∨ x.toInt = 1 ∨ x.toInt = 2 ∨ x.toInt = 3 ∨ x.toInt = 4 ∨ x.toInt = 5 := by omega
    rcases this with e | e | e | e | e | e
    · exact Or.inl (Int32.toInt_inj.mp (by rw [e]; decide))
    · exact Or.inr (Or.inl (Int32.toInt_inj.mp (by rw [e]; decide)))
    · exact Or.inr (Or.inr (Or.inl (Int32.toInt_inj.mp (by rw [e]; decide))))
    · exact Or.inr (Or.inr (Or.inr (Or.inl (Int32.toInt_inj.mp (by rw [e]; decide)))))
    · exact Or.inr (Or.inr (Or.inr (Or.inr (Or.inl (Int32.toInt_inj.mp (by rw [e]; decide))))))
    · exact Or.inr (Or.inr (Or.inr (Or.inr (Or.inr (Or.inl (Int32.toInt_inj.mp (by rw [e]; decide)))))))
theorem q_wi {i n : Nat} (h : i < n) (hn : n < 2 ^ 31) : decide (nI 0 ≤ nI i ∧ nI i ≤ nI n - nI 1) = true := by
  rw [pk_sub (by omega)]
  exact decide_eq_true ⟨nI_le (by omega) (by omega), nI_le (by omega) (by omega)⟩
set_option maxRecDepth 100000 in
set_option maxHeartbeats 4000000 in
theorem ct_QM_isWorker {h : qH} (w : Int32) (on : Bool) (hon : h.1 122 37 = b2i on) (wk : Nat) (hwk : h.1 122 38 = nI wk) : qT mi_QM_isWorker 1 0 0 [.ref 122, .int w] h NN (fun v1 h1 n1 => v1 = some (.int (b2i (on && decide (nI 0 ≤ w ∧ w ≤ nI wk - nI 1)))) ∧ h = h1 ∧ n1 = NN) := by
  refine qT.of (lv0 := [_, _]) (by decide +kernel) (fun _ _ => Nat.le_of_ble_eq_true rfl) rfl ?_
  refine qx_aload_n d_QM_isWorker_0 rfl rfl ?_
  refine qx_getI d_QM_isWorker_1 fI_QM_99 rfl rfl hon ?_
  refine qx_if_eqB (t := 25) d_QM_isWorker_4 rfl (fun c4 => ?_) (fun c4 => ?_)
  · refine qx_iconstN (v := 0) d_QM_isWorker_25 rfl ?_
    exact qx_iret d_QM_isWorker_26 rfl rfl (by omega) (by omega) (by first | (rw [c4]; exact ⟨rfl, rfl, rfl⟩) | (rw [c4, c18]; exact ⟨rfl, rfl, rfl⟩))
  · refine qx_iload_n d_QM_isWorker_7 rfl rfl ?_
    refine qx_iconstN (v := 0) d_QM_isWorker_8 rfl ?_
    refine qx_aload_n d_QM_isWorker_9 rfl rfl ?_
    refine qx_getI d_QM_isWorker_10 fI_QM_248 rfl rfl hwk ?_
    refine qx_iconstN (v := 1) d_QM_isWorker_13 rfl ?_
    refine qx_isub d_QM_isWorker_14 ?_
    refine qx_callS (As := [_, _, _]) (rest := _) d_QM_isWorker_15 lk_QM_103 y_QM_within s_QM_within rfl rfl rfl rfl (by decide) (by decide) (ct_QM_within _ _ _) ?_
    rintro _ _ _ ⟨rfl, rfl, rfl⟩
    refine qx_if_eqB (t := 25) d_QM_isWorker_18 rfl (fun c18 => ?_) (fun c18 => ?_)
    · refine qx_iconstN (v := 0) d_QM_isWorker_25 rfl ?_
      exact qx_iret d_QM_isWorker_26 rfl rfl (by omega) (by omega) (by first | (rw [c4]; exact ⟨rfl, rfl, rfl⟩) | (rw [c4, c18]; exact ⟨rfl, rfl, rfl⟩))
    · refine qx_iconstN (v := 1) d_QM_isWorker_21 rfl ?_
      refine qx_goto (t := 26) d_QM_isWorker_22 rfl ?_
      exact qx_iret d_QM_isWorker_26 rfl rfl (by omega) (by omega) (by first | (rw [c4]; exact ⟨rfl, rfl, rfl⟩) | (rw [c4, c18]; exact ⟨rfl, rfl, rfl⟩))
set_option maxRecDepth 100000 in
set_option maxHeartbeats 4000000 in
theorem ct_QM_work_no {h : qH} (w : Int32) (on : Bool) (hon : h.1 122 37 = b2i on) (wk : Nat) (hwk : h.1 122 38 = nI wk) (hg : (on && decide (nI 0 ≤ w ∧ w ≤ nI wk - nI 1)) = false) : qT mi_QM_work 2 0 0 [.ref 122, .int w] h NN (fun v1 h1 n1 => v1 = some (.int (-1)) ∧ h = h1 ∧ n1 = NN) := by
  refine qT.of (lv0 := [_, _, _, _, _]) (by decide +kernel) (fun _ _ => Nat.le_of_ble_eq_true rfl) rfl ?_
  refine qx_aload_n d_QM_work_0 rfl rfl ?_
  refine qx_iload_n d_QM_work_1 rfl rfl ?_
  refine qx_callV (As := [_]) (rest := _) d_QM_work_2 lk_QM_335 y_QM_isWorker v_QM_isWorker rfl rfl rfl (by decide) rfl rfl rfl rfl (by decide) (by decide) (ct_QM_isWorker (h := h) _ on hon wk hwk) ?_
  rintro _ _ _ ⟨rfl, rfl, rfl⟩
  refine qx_if_neB (t := 10) d_QM_work_5 rfl (fun c5 => absurd hg (by rw [c5]; decide)) (fun c5 => ?_)
  refine qx_iconst (v := (-1)) d_QM_work_8 rfl ?_
  exact qx_iret d_QM_work_9 rfl rfl (by omega) (by omega) ⟨rfl, rfl, rfl⟩
set_option maxRecDepth 100000 in
set_option maxHeartbeats 4000000 in
theorem ct_QM_crash_no {h : qH} (w : Int32) (on : Bool) (hon : h.1 122 37 = b2i on) (wk : Nat) (hwk : h.1 122 38 = nI wk) (hg : (on && decide (nI 0 ≤ w ∧ w ≤ nI wk - nI 1)) = false) : qT mi_QM_crash 2 0 0 [.ref 122, .int w] h NN (fun v1 h1 n1 => v1 = some (.int (-1)) ∧ h = h1 ∧ n1 = NN) := by
  refine qT.of (lv0 := [_, _, _]) (by decide +kernel) (fun _ _ => Nat.le_of_ble_eq_true rfl) rfl ?_
  refine qx_aload_n d_QM_crash_0 rfl rfl ?_
  refine qx_iload_n d_QM_crash_1 rfl rfl ?_
  refine qx_callV (As := [_]) (rest := _) d_QM_crash_2 lk_QM_335 y_QM_isWorker v_QM_isWorker rfl rfl rfl (by decide) rfl rfl rfl rfl (by decide) (by decide) (ct_QM_isWorker (h := h) _ on hon wk hwk) ?_
  rintro _ _ _ ⟨rfl, rfl, rfl⟩
  refine qx_if_neB (t := 10) d_QM_crash_5 rfl (fun c5 => absurd hg (by rw [c5]; decide)) (fun c5 => ?_)
  refine qx_iconst (v := (-1)) d_QM_crash_8 rfl ?_
  exact qx_iret d_QM_crash_9 rfl rfl (by omega) (by omega) ⟨rfl, rfl, rfl⟩
set_option maxRecDepth 100000 in
set_option maxHeartbeats 4000000 in
theorem ct_QM_crash {h : qH} (hR : h.2.2 122 = qRQM) (s : sJ) (qn qt qa : Nat → Nat) (hon : h.1 122 37 = b2i true) (wk : Nat) (hw4 : wk ≤ 4) (hwk : h.1 122 38 = nI wk) (w : Nat) (hw : w < wk) : qT mi_QM_crash 2 0 0 [.ref 122, .int (nI w)] (jR (kR h qn qt qa) s) NN (fun v1 h1 n1 => v1 = some (.int (nI (qn w))) ∧ h1 = jR (kR h (va_up qn w 0) qt qa) s ∧ n1 = NN) := by
  refine qT.of (lv0 := [_, _, _]) (by decide +kernel) (fun _ _ => Nat.le_of_ble_eq_true rfl) rfl ?_
  refine qx_aload_n d_QM_crash_0 rfl rfl ?_
  refine qx_iload_n d_QM_crash_1 rfl rfl ?_
  refine qx_callV (As := [_]) (rest := _) d_QM_crash_2 lk_QM_335 y_QM_isWorker v_QM_isWorker rfl rfl rfl (by decide) rfl rfl rfl rfl (by decide) (by decide) (ct_QM_isWorker (h := (jR (kR h qn qt qa) s)) _ true hon wk hwk) ?_
  rintro _ _ _ ⟨rfl, rfl, rfl⟩
  refine qx_if_neB (t := 10) d_QM_crash_5 rfl (fun c5 => ?_) (fun c5 => absurd c5 (by rw [q_wi hw (by omega)]; decide))
  refine qx_aload_n d_QM_crash_10 rfl rfl ?_
  refine qx_getR d_QM_crash_11 fR_QM_90 rfl rfl (congrFun hR 53) ?_
  refine qx_iload_n d_QM_crash_14 rfl rfl ?_
  refine qx_iald d_QM_crash_15 rfl rfl rfl rfl (by omega) (show _ = nI (qn w) from rfl) ?_
  refine qx_istore_n (lv1 := [_, _, _]) d_QM_crash_16 rfl (by decide) rfl ?_
  refine qx_aload_n d_QM_crash_17 rfl rfl ?_
  refine qx_getR d_QM_crash_18 fR_QM_90 rfl rfl (congrFun hR 53) ?_
  refine qx_iload_n d_QM_crash_21 rfl rfl ?_
  refine qx_iconstN (v := 0) d_QM_crash_22 rfl ?_
  refine qx_iast d_QM_crash_23 rfl rfl rfl rfl (by omega) ?_
  refine qx_iload_n d_QM_crash_24 rfl rfl ?_
  exact qx_iret d_QM_crash_25 rfl rfl (by omega) (by omega) ⟨rfl, by rw [jkR_n], rfl⟩
set_option maxRecDepth 100000 in
set_option maxHeartbeats 4000000 in
theorem ct_QM_work_none {h : qH} (hR : h.2.2 122 = qRQM) (s : sJ) (qn qt qa : Nat → Nat) (hon : h.1 122 37 = b2i true) (wk : Nat) (hw4 : wk ≤ 4) (hwk : h.1 122 38 = nI wk) (w : Nat) (hw : w < wk) (hq : qn w = 0) : qT mi_QM_work 2 0 0 [.ref 122, .int (nI w)] (jR (kR h qn qt qa) s) NN (fun v1 h1 n1 => v1 = some (.int (-1)) ∧ (jR (kR h qn qt qa) s) = h1 ∧ n1 = NN) := by
  refine qT.of (lv0 := [_, _, _, _, _]) (by decide +kernel) (fun _ _ => Nat.le_of_ble_eq_true rfl) rfl ?_
  refine qx_aload_n d_QM_work_0 rfl rfl ?_
  refine qx_iload_n d_QM_work_1 rfl rfl ?_
  refine qx_callV (As := [_]) (rest := _) d_QM_work_2 lk_QM_335 y_QM_isWorker v_QM_isWorker rfl rfl rfl (by decide) rfl rfl rfl rfl (by decide) (by decide) (ct_QM_isWorker (h := (jR (kR h qn qt qa) s)) _ true hon wk hwk) ?_
  rintro _ _ _ ⟨rfl, rfl, rfl⟩
  refine qx_if_neB (t := 10) d_QM_work_5 rfl (fun c5 => ?_) (fun c5 => absurd c5 (by rw [q_wi hw (by omega)]; decide))
  refine qx_aload_n d_QM_work_10 rfl rfl ?_
  refine qx_getR d_QM_work_11 fR_QM_90 rfl rfl (congrFun hR 53) ?_
  refine qx_iload_n d_QM_work_14 rfl rfl ?_
  refine qx_iald d_QM_work_15 rfl rfl rfl rfl (by omega) (show _ = nI (qn w) from rfl) ?_
  refine qx_if_neN (t := 21) d_QM_work_16 rfl (by omega) (fun c16 => absurd c16 (by omega)) (fun c16 => ?_)
  refine qx_iconst (v := (-1)) d_QM_work_19 rfl ?_
  exact qx_iret d_QM_work_20 rfl rfl (by omega) (by omega) ⟨rfl, rfl, rfl⟩
set_option maxRecDepth 100000 in
set_option maxHeartbeats 4000000 in
theorem ct_QM_work_full {h : qH} (hR : h.2.2 122 = qRQM) (s : sJ) (qn qt qa : Nat → Nat) (hon : h.1 122 37 = b2i true) (wk : Nat) (hw4 : wk ≤ 4) (hwk : h.1 122 38 = nI wk) (w : Nat) (hw : w < wk) (hq : 0 < qn w) (hq12 : qn w ≤ 12) (h60 : 60 ≤ sW s) (h80 : sW s ≤ 80) : qT mi_QM_work 2 0 0 [.ref 122, .int (nI w)] (jR (kR h qn qt qa) s) NN (fun v1 h1 n1 => v1 = some (.int (-2)) ∧ (jR (kR h qn qt qa) s) = h1 ∧ n1 = NN) := by
  refine qT.of (lv0 := [_, _, _, _, _]) (by decide +kernel) (fun _ _ => Nat.le_of_ble_eq_true rfl) rfl ?_
  refine qx_aload_n d_QM_work_0 rfl rfl ?_
  refine qx_iload_n d_QM_work_1 rfl rfl ?_
  refine qx_callV (As := [_]) (rest := _) d_QM_work_2 lk_QM_335 y_QM_isWorker v_QM_isWorker rfl rfl rfl (by decide) rfl rfl rfl rfl (by decide) (by decide) (ct_QM_isWorker (h := (jR (kR h qn qt qa) s)) _ true hon wk hwk) ?_
  rintro _ _ _ ⟨rfl, rfl, rfl⟩
  refine qx_if_neB (t := 10) d_QM_work_5 rfl (fun c5 => ?_) (fun c5 => absurd c5 (by rw [q_wi hw (by omega)]; decide))
  refine qx_aload_n d_QM_work_10 rfl rfl ?_
  refine qx_getR d_QM_work_11 fR_QM_90 rfl rfl (congrFun hR 53) ?_
  refine qx_iload_n d_QM_work_14 rfl rfl ?_
  refine qx_iald d_QM_work_15 rfl rfl rfl rfl (by omega) (show _ = nI (qn w) from rfl) ?_
  refine qx_if_neN (t := 21) d_QM_work_16 rfl (by omega) (fun c16 => ?_) (fun c16 => absurd c16 (by omega))
  refine qx_aload_n d_QM_work_21 rfl rfl ?_
  refine qx_getI d_QM_work_22 fI_QM_302 rfl rfl (show _ = nI (sW s) from rfl) ?_
  refine qx_bipushN (v := 60) d_QM_work_25 rfl ?_
  refine qx_icmp_ltN (t := 33) d_QM_work_27 rfl (by omega) (by omega) (fun c27 => absurd c27 (by omega)) (fun c27 => ?_)
  refine qx_bipush (v := (-2)) d_QM_work_30 rfl ?_
  exact qx_iret d_QM_work_32 rfl rfl (by omega) (by omega) ⟨rfl, rfl, rfl⟩
set_option maxRecDepth 100000 in
set_option maxHeartbeats 4000000 in
theorem ct_QM_work {h : qH} (hR : h.2.2 122 = qRQM) (s : sJ) (qn qt qa : Nat → Nat) (hon : h.1 122 37 = b2i true) (wk : Nat) (hw4 : wk ≤ 4) (hwk : h.1 122 38 = nI wk) (w : Nat) (hw : w < wk) (hq : 0 < qn w) (hq12 : qn w ≤ 12) (h60 : sW s < 60) : qT mi_QM_work 2 0 0 [.ref 122, .int (nI w)] (jR (kR h qn qt qa) s) NN (fun v1 h1 n1 => v1 = some (.int (nI (qt (12 * w)))) ∧ h1 = (jR (kR h (va_up qn w (qn w - 1)) (sCut qt (12 * w) (12 * w + (qn w - 1))) (sCut qa (12 * w) (12 * w + (qn w - 1)))) (sSend s 1 (qt (12 * w)) (qa (12 * w)))) ∧ n1 = NN) := by
  refine qT.of (lv0 := [_, _, _, _, _]) (by decide +kernel) (fun _ _ => Nat.le_of_ble_eq_true rfl) rfl ?_
  have key : ∀ (m i : Nat), i + m = 12 * w + (qn w - 1) → 12 * w ≤ i → qX mi_QM_work 2 none 0 0 70 [.ref 122, .int (nI w), .int (nI (12 * w)), .int (nI (qt (12 * w))), .int (nI i)] [] (jR (kR h (va_up qn w (qn w - 1)) (sCut qt (12 * w) i) (sCut qa (12 * w) i)) (sSend s 1 (qt (12 * w)) (qa (12 * w)))) NN 0 0 (fun v1 h1 n1 => v1 = some (.int (nI (qt (12 * w)))) ∧ h1 = (jR (kR h (va_up qn w (qn w - 1)) (sCut qt (12 * w) (12 * w + (qn w - 1))) (sCut qa (12 * w) (12 * w + (qn w - 1)))) (sSend s 1 (qt (12 * w)) (qa (12 * w)))) ∧ n1 = NN) := by
    intro m
    induction m with
    | zero =>
      intro i hi hki
      refine qx_iload d_QM_work_70 rfl ?_
      refine qx_iload_n d_QM_work_72 rfl rfl ?_
      refine qx_aload_n d_QM_work_73 rfl rfl ?_
      refine qx_getR d_QM_work_74 fR_QM_90 rfl rfl (congrFun hR 53) ?_
      refine qx_iload_n d_QM_work_77 rfl rfl ?_
      refine qx_iald d_QM_work_78 rfl rfl rfl rfl (by omega) (show _ = nI (va_up qn w (qn w - 1) w) from rfl) ?_
      refine qx_iaddN d_QM_work_79 ?_
      refine qx_icmp_geN (t := 121) d_QM_work_80 rfl (by omega) (by rw [qus]; omega) (fun c80 => ?_) (fun c80 => absurd c80 (by rw [qus]; omega))
      refine qx_iload_n d_QM_work_121 rfl rfl ?_
      exact qx_iret d_QM_work_122 rfl rfl (by omega) (by omega) ⟨rfl, by rw [show i = 12 * w + (qn w - 1) by omega], rfl⟩
    | succ m ih =>
      intro i hi hki
      refine qx_iload d_QM_work_70 rfl ?_
      refine qx_iload_n d_QM_work_72 rfl rfl ?_
      refine qx_aload_n d_QM_work_73 rfl rfl ?_
      refine qx_getR d_QM_work_74 fR_QM_90 rfl rfl (congrFun hR 53) ?_
      refine qx_iload_n d_QM_work_77 rfl rfl ?_
      refine qx_iald d_QM_work_78 rfl rfl rfl rfl (by omega) (show _ = nI (va_up qn w (qn w - 1) w) from rfl) ?_
      refine qx_iaddN d_QM_work_79 ?_
      refine qx_icmp_geN (t := 121) d_QM_work_80 rfl (by omega) (by rw [qus]; omega) (fun c80 => absurd c80 (by rw [qus]; omega)) (fun c80 => ?_)
      refine qx_aload_n d_QM_work_83 rfl rfl ?_
      refine qx_getR d_QM_work_84 fR_QM_93 rfl rfl (congrFun hR 54) ?_
      refine qx_iload d_QM_work_87 rfl ?_
      refine qx_aload_n d_QM_work_89 rfl rfl ?_
      refine qx_getR d_QM_work_90 fR_QM_93 rfl rfl (congrFun hR 54) ?_
      refine qx_iload d_QM_work_93 rfl ?_
      refine qx_iconstN (v := 1) d_QM_work_95 rfl ?_
      refine qx_iaddN d_QM_work_96 ?_
      refine qx_iald d_QM_work_97 rfl rfl rfl rfl (by omega) (show _ = nI (sCut qt (12 * w) i (i + 1)) from rfl) ?_
      refine qx_iast d_QM_work_98 rfl rfl rfl rfl (by omega) ?_
      refine qx_aload_n d_QM_work_99 rfl rfl ?_
      refine qx_getR d_QM_work_100 fR_QM_96 rfl rfl (congrFun hR 55) ?_
      refine qx_iload d_QM_work_103 rfl ?_
      refine qx_aload_n d_QM_work_105 rfl rfl ?_
      refine qx_getR d_QM_work_106 fR_QM_96 rfl rfl (congrFun hR 55) ?_
      refine qx_iload d_QM_work_109 rfl ?_
      refine qx_iconstN (v := 1) d_QM_work_111 rfl ?_
      refine qx_iaddN d_QM_work_112 ?_
      refine qx_iald d_QM_work_113 rfl rfl rfl rfl (by omega) (show _ = nI (sCut qa (12 * w) i (i + 1)) from rfl) ?_
      refine qx_iast d_QM_work_114 rfl rfl rfl rfl (by omega) ?_
      refine qx_iincN (w := 1) (lv1 := [_, _, _, _, _]) d_QM_work_115 rfl rfl (by decide) rfl ?_
      refine qx_goto (t := 70) d_QM_work_118 rfl ?_
      refine qx_eq rfl rfl rfl ?_ (ih (i + 1) (by omega) (by omega))
      rw [jkR_t, jkR_a, sCut_S hki, sCut_S hki]
  refine qx_aload_n d_QM_work_0 rfl rfl ?_
  refine qx_iload_n d_QM_work_1 rfl rfl ?_
  refine qx_callV (As := [_]) (rest := _) d_QM_work_2 lk_QM_335 y_QM_isWorker v_QM_isWorker rfl rfl rfl (by decide) rfl rfl rfl rfl (by decide) (by decide) (ct_QM_isWorker (h := (jR (kR h qn qt qa) s)) _ true hon wk hwk) ?_
  rintro _ _ _ ⟨rfl, rfl, rfl⟩
  refine qx_if_neB (t := 10) d_QM_work_5 rfl (fun c5 => ?_) (fun c5 => absurd c5 (by rw [q_wi hw (by omega)]; decide))
  refine qx_aload_n d_QM_work_10 rfl rfl ?_
  refine qx_getR d_QM_work_11 fR_QM_90 rfl rfl (congrFun hR 53) ?_
  refine qx_iload_n d_QM_work_14 rfl rfl ?_
  refine qx_iald d_QM_work_15 rfl rfl rfl rfl (by omega) (show _ = nI (qn w) from rfl) ?_
  refine qx_if_neN (t := 21) d_QM_work_16 rfl (by omega) (fun c16 => ?_) (fun c16 => absurd c16 (by omega))
  refine qx_aload_n d_QM_work_21 rfl rfl ?_
  refine qx_getI d_QM_work_22 fI_QM_302 rfl rfl (show _ = nI (sW s) from rfl) ?_
  refine qx_bipushN (v := 60) d_QM_work_25 rfl ?_
  refine qx_icmp_ltN (t := 33) d_QM_work_27 rfl (by omega) (by omega) (fun c27 => ?_) (fun c27 => absurd c27 (by omega))
  refine qx_bipushN (v := 12) d_QM_work_33 rfl ?_
  refine qx_iload_n d_QM_work_35 rfl rfl ?_
  refine qx_imulN d_QM_work_36 ?_
  refine qx_istore_n (lv1 := [_, _, _, _, _]) d_QM_work_37 rfl (by decide) rfl ?_
  refine qx_aload_n d_QM_work_38 rfl rfl ?_
  refine qx_getR d_QM_work_39 fR_QM_93 rfl rfl (congrFun hR 54) ?_
  refine qx_iload_n d_QM_work_42 rfl rfl ?_
  refine qx_iald d_QM_work_43 rfl rfl rfl rfl (by omega) (show _ = nI (qt (12 * w)) from rfl) ?_
  refine qx_istore_n (lv1 := [_, _, _, _, _]) d_QM_work_44 rfl (by decide) rfl ?_
  refine qx_aload_n d_QM_work_45 rfl rfl ?_
  refine qx_iconstN (v := 1) d_QM_work_46 rfl ?_
  refine qx_iload_n d_QM_work_47 rfl rfl ?_
  refine qx_aload_n d_QM_work_48 rfl rfl ?_
  refine qx_getR d_QM_work_49 fR_QM_96 rfl rfl (congrFun hR 55) ?_
  refine qx_iload_n d_QM_work_52 rfl rfl ?_
  refine qx_iald d_QM_work_53 rfl rfl rfl rfl (by omega) (show _ = nI (qa (12 * w)) from rfl) ?_
  refine qx_callV (As := [_, _, _]) (rest := _) d_QM_work_54 lk_QM_320 y_QM_send v_QM_send rfl rfl rfl (by decide) rfl rfl rfl rfl (by decide) (by decide) (ct_QM_send (h := kR h qn qt qa) hR s 1 (qt (12 * w)) (qa (12 * w)) (by omega)) ?_
  rintro _ _ _ ⟨rfl, rfl, rfl⟩
  refine qx_aload_n d_QM_work_57 rfl rfl ?_
  refine qx_getR d_QM_work_58 fR_QM_90 rfl rfl (congrFun hR 53) ?_
  refine qx_iload_n d_QM_work_61 rfl rfl ?_
  refine qx_dup2 d_QM_work_62 rfl rfl ?_
  refine qx_iald d_QM_work_63 rfl rfl rfl rfl (by omega) (show _ = nI (qn w) from rfl) ?_
  refine qx_iconstN (v := 1) d_QM_work_64 rfl ?_
  refine qx_isubN d_QM_work_65 (by omega) ?_
  refine qx_iast d_QM_work_66 rfl rfl rfl rfl (by omega) ?_
  refine qx_iload_n d_QM_work_67 rfl rfl ?_
  refine qx_istore (lv1 := [_, _, _, _, _]) d_QM_work_68 (by decide) rfl ?_
  refine qx_eq rfl rfl rfl ?_ (key (qn w - 1) (12 * w) (by omega) (Nat.le_refl _))
  rw [jkR_n, sCut_0, sCut_0]
def sTick (dn : Nat → Bool) (tm : Int32) (s : sJ) : Nat → sJ × Nat
  | 0 => (s, 0)
  | t + 1 => if sAt (sTick dn tm s t).1 t = 0 ∨ dn t = true ∨ tm - sSa (sTick dn tm s t).1 t < nI 3 ∨ 60 ≤ sW (sTick dn tm s t).1 then sTick dn tm s t else (sRun tm (sTick dn tm s t).1 t, (sTick dn tm s t).2 + 1)
theorem sTick_at (dn : Nat → Bool) (tm : Int32) (s : sJ) : ∀ t j, t ≤ j → sAt (sTick dn tm s t).1 j = sAt s j
  | 0, j, _ => rfl
  | t + 1, j, h => by
    have := sTick_at dn tm s t j (by omega)
    unfold sTick
    split
    · exact this
    · show va_up _ t _ j = _
      rw [qun (by omega)]
      exact this
theorem sTick_w (dn : Nat → Bool) (tm : Int32) (s : sJ) (h : sW s ≤ 80) : ∀ t, sW (sTick dn tm s t).1 ≤ 80
  | 0 => h
  | t + 1 => by
    have := sTick_w dn tm s h t
    unfold sTick
    split
    · exact this
    · next q =>
      have : ¬ 60 ≤ sW (sTick dn tm s t).1 := fun e => q (Or.inr (Or.inr (Or.inr e)))
      show sW (sTick dn tm s t).1 + 1 ≤ 80
      omega
set_option maxRecDepth 100000 in
set_option maxHeartbeats 4000000 in
theorem ct_QM_tick_no {h : qH} (hon : h.1 122 37 = b2i false) : qT mi_QM_tick 2 0 0 [.ref 122] h NN (fun v1 h1 n1 => v1 = some (.int (-1)) ∧ h = h1 ∧ n1 = NN) := by
  refine qT.of (lv0 := [_, _, _]) (by decide +kernel) (fun _ _ => Nat.le_of_ble_eq_true rfl) rfl ?_
  refine qx_aload_n d_QM_tick_0 rfl rfl ?_
  refine qx_getI d_QM_tick_1 fI_QM_99 rfl rfl hon ?_
  refine qx_if_neB (t := 9) d_QM_tick_4 rfl (fun c4 => by cases c4) (fun c4 => ?_)
  refine qx_iconst (v := (-1)) d_QM_tick_7 rfl ?_
  exact qx_iret d_QM_tick_8 rfl rfl (by omega) (by omega) ⟨rfl, rfl, rfl⟩
set_option maxRecDepth 100000 in
set_option maxHeartbeats 4000000 in
theorem ct_QM_tick {h : qH} (hR : h.2.2 122 = qRQM) (nt : Nat) (hnt16 : nt ≤ 16) (hnt : h.1 122 40 = nI nt) (kd : Nat → Nat) (hkd4 : ∀ t, t < nt → kd t < 4) (hkd : ∀ t, t < nt → h.1 140 t = nI (kd t)) (dn : Nat → Bool) (hdn : ∀ t, t < nt → h.1 144 t = b2i (dn t)) (s : sJ) (tm : Int32) (htm : h.1 122 47 = tm) (hon : h.1 122 37 = b2i true) (hw : sW s ≤ 80) (hat : ∀ t, t < nt → sAt s t < 100000) : qT mi_QM_tick 2 0 0 [.ref 122] (jR h s) NN (fun v1 h1 n1 => v1 = some (.int (nI (sTick dn (tm + nI 1) s nt).2)) ∧ h1 = jR (qpI h 122 47 (tm + nI 1)) (sTick dn (tm + nI 1) s nt).1 ∧ n1 = NN) := by
  refine qT.of (lv0 := [_, _, _]) (by decide +kernel) (fun _ _ => Nat.le_of_ble_eq_true rfl) rfl ?_
  have key : ∀ (m i : Nat), i + m = nt → qX mi_QM_tick 2 none 0 0 23 [.ref 122, .int (nI (sTick dn (tm + nI 1) s i).2), .int (nI i)] [] (jR (qpI h 122 47 (tm + nI 1)) (sTick dn (tm + nI 1) s i).1) NN 0 0 (fun v1 h1 n1 => v1 = some (.int (nI (sTick dn (tm + nI 1) s nt).2)) ∧ h1 = jR (qpI h 122 47 (tm + nI 1)) (sTick dn (tm + nI 1) s nt).1 ∧ n1 = NN) := by
    intro m
    induction m with
    | zero =>
      intro i hi
      refine qx_iload_n d_QM_tick_23 rfl rfl ?_
      refine qx_aload_n d_QM_tick_24 rfl rfl ?_
      refine qx_getI d_QM_tick_25 fI_QM_258 rfl rfl hnt ?_
      refine qx_icmp_geN (t := 90) d_QM_tick_28 rfl (by omega) (by omega) (fun c28 => ?_) (fun c28 => absurd c28 (by omega))
      refine qx_iload_n d_QM_tick_90 rfl rfl ?_
      exact qx_iret d_QM_tick_91 rfl rfl (by omega) (by omega) (by rw [show i = nt by omega]; exact ⟨rfl, rfl, rfl⟩)
    | succ m ih =>
      intro i hi
      have hs : sTick dn (tm + nI 1) s (i + 1) = if sAt (sTick dn (tm + nI 1) s i).1 i = 0 ∨ dn i = true ∨ (tm + nI 1) - sSa (sTick dn (tm + nI 1) s i).1 i < nI 3 ∨ 60 ≤ sW (sTick dn (tm + nI 1) s i).1 then (sTick dn (tm + nI 1) s i) else (sRun (tm + nI 1) (sTick dn (tm + nI 1) s i).1 i, (sTick dn (tm + nI 1) s i).2 + 1) := rfl
      have k2 := ih (i + 1) (by omega)
      rw [hs] at k2
      refine qx_iload_n d_QM_tick_23 rfl rfl ?_
      refine qx_aload_n d_QM_tick_24 rfl rfl ?_
      refine qx_getI d_QM_tick_25 fI_QM_258 rfl rfl hnt ?_
      refine qx_icmp_geN (t := 90) d_QM_tick_28 rfl (by omega) (by omega) (fun c28 => absurd c28 (by omega)) (fun c28 => ?_)
      refine qx_aload_n d_QM_tick_31 rfl rfl ?_
      refine qx_getR d_QM_tick_32 fR_QM_69 rfl rfl (congrFun hR 43) ?_
      refine qx_iload_n d_QM_tick_35 rfl rfl ?_
      refine qx_iald d_QM_tick_36 rfl rfl rfl rfl (by omega) (show _ = nI (sAt (sTick dn (tm + nI 1) s i).1 i) from rfl) ?_
      refine qx_if_eqN (t := 84) d_QM_tick_37 rfl (by rw [sTick_at dn (tm + nI 1) s i i (Nat.le_refl _)]; have := hat i (by omega); omega) (fun c37 => ?_) (fun c37 => ?_)
      · refine qx_iincN (w := 1) (lv1 := [_, _, _]) d_QM_tick_84 rfl rfl (by decide) rfl ?_
        refine qx_goto (t := 23) d_QM_tick_87 rfl ?_
        first
          | (rw [if_pos (Or.inl c37)] at k2; exact k2)
          | (rw [if_pos (Or.inr (Or.inl c46))] at k2; exact k2)
          | (rw [if_pos (Or.inr (Or.inr (Or.inl c61)))] at k2; exact k2)
          | (rw [if_pos (Or.inr (Or.inr (Or.inr c70)))] at k2; exact k2)
          | (rw [if_neg (fun q => q.elim (fun e => by omega) (fun q => q.elim (fun e => by rw [c46] at e; cases e) (fun q => q.elim c61 (fun e => by omega))))] at k2; exact k2)
      · refine qx_aload_n d_QM_tick_40 rfl rfl ?_
        refine qx_getR d_QM_tick_41 fR_QM_75 rfl rfl (congrFun hR 45) ?_
        refine qx_iload_n d_QM_tick_44 rfl rfl ?_
        refine qx_zald d_QM_tick_45 rfl rfl rfl rfl (by omega) (hdn i (by omega)) ?_
        refine qx_if_neB (t := 84) d_QM_tick_46 rfl (fun c46 => ?_) (fun c46 => ?_)
        · refine qx_iincN (w := 1) (lv1 := [_, _, _]) d_QM_tick_84 rfl rfl (by decide) rfl ?_
          refine qx_goto (t := 23) d_QM_tick_87 rfl ?_
          first
            | (rw [if_pos (Or.inl c37)] at k2; exact k2)
            | (rw [if_pos (Or.inr (Or.inl c46))] at k2; exact k2)
            | (rw [if_pos (Or.inr (Or.inr (Or.inl c61)))] at k2; exact k2)
            | (rw [if_pos (Or.inr (Or.inr (Or.inr c70)))] at k2; exact k2)
            | (rw [if_neg (fun q => q.elim (fun e => by omega) (fun q => q.elim (fun e => by rw [c46] at e; cases e) (fun q => q.elim c61 (fun e => by omega))))] at k2; exact k2)
        · refine qx_aload_n d_QM_tick_49 rfl rfl ?_
          refine qx_getI d_QM_tick_50 fI_QM_323 rfl rfl (show _ = tm + nI 1 from rfl) ?_
          refine qx_aload_n d_QM_tick_53 rfl rfl ?_
          refine qx_getR d_QM_tick_54 fR_QM_72 rfl rfl (congrFun hR 44) ?_
          refine qx_iload_n d_QM_tick_57 rfl rfl ?_
          refine qx_iald d_QM_tick_58 rfl rfl rfl rfl (by omega) (show _ = sSa (sTick dn (tm + nI 1) s i).1 i from rfl) ?_
          refine qx_isub d_QM_tick_59 ?_
          refine qx_iconstN (v := 3) d_QM_tick_60 rfl ?_
          refine qx_icmp_lt (t := 84) d_QM_tick_61 rfl (fun c61 => ?_) (fun c61 => ?_)
          · refine qx_iincN (w := 1) (lv1 := [_, _, _]) d_QM_tick_84 rfl rfl (by decide) rfl ?_
            refine qx_goto (t := 23) d_QM_tick_87 rfl ?_
            first
              | (rw [if_pos (Or.inl c37)] at k2; exact k2)
              | (rw [if_pos (Or.inr (Or.inl c46))] at k2; exact k2)
              | (rw [if_pos (Or.inr (Or.inr (Or.inl c61)))] at k2; exact k2)
              | (rw [if_pos (Or.inr (Or.inr (Or.inr c70)))] at k2; exact k2)
              | (rw [if_neg (fun q => q.elim (fun e => by omega) (fun q => q.elim (fun e => by rw [c46] at e; cases e) (fun q => q.elim c61 (fun e => by omega))))] at k2; exact k2)
          · refine qx_aload_n d_QM_tick_64 rfl rfl ?_
            refine qx_getI d_QM_tick_65 fI_QM_302 rfl rfl (show _ = nI (sW (sTick dn (tm + nI 1) s i).1) from rfl) ?_
            refine qx_bipushN (v := 60) d_QM_tick_68 rfl ?_
            refine qx_icmp_ltN (t := 76) d_QM_tick_70 rfl (by have := sTick_w dn (tm + nI 1) s hw i; omega) (by omega) (fun c70 => ?_) (fun c70 => ?_)
            · refine qx_aload_n d_QM_tick_76 rfl rfl ?_
              refine qx_iload_n d_QM_tick_77 rfl rfl ?_
              refine qx_callV (As := [_]) (rest := _) d_QM_tick_78 lk_QM_317 y_QM_sendRun v_QM_sendRun rfl rfl rfl (by decide) rfl rfl rfl rfl (by decide) (by decide) (ct_QM_sendRun (h := (qpI h 122 47 (tm + nI 1))) hR (sTick dn (tm + nI 1) s i).1 (tm + nI 1) rfl i (by omega) (by omega)) ?_
              rintro _ _ _ ⟨rfl, rfl, rfl⟩
              refine qx_iincN (w := 1) (lv1 := [_, _, _]) d_QM_tick_81 rfl rfl (by decide) rfl ?_
              refine qx_iincN (w := 1) (lv1 := [_, _, _]) d_QM_tick_84 rfl rfl (by decide) rfl ?_
              refine qx_goto (t := 23) d_QM_tick_87 rfl ?_
              first
                | (rw [if_pos (Or.inl c37)] at k2; exact k2)
                | (rw [if_pos (Or.inr (Or.inl c46))] at k2; exact k2)
                | (rw [if_pos (Or.inr (Or.inr (Or.inl c61)))] at k2; exact k2)
                | (rw [if_pos (Or.inr (Or.inr (Or.inr c70)))] at k2; exact k2)
                | (rw [if_neg (fun q => q.elim (fun e => by omega) (fun q => q.elim (fun e => by rw [c46] at e; cases e) (fun q => q.elim c61 (fun e => by omega))))] at k2; exact k2)
            · refine qx_goto (t := 84) d_QM_tick_73 rfl ?_
              refine qx_iincN (w := 1) (lv1 := [_, _, _]) d_QM_tick_84 rfl rfl (by decide) rfl ?_
              refine qx_goto (t := 23) d_QM_tick_87 rfl ?_
              first
                | (rw [if_pos (Or.inl c37)] at k2; exact k2)
                | (rw [if_pos (Or.inr (Or.inl c46))] at k2; exact k2)
                | (rw [if_pos (Or.inr (Or.inr (Or.inl c61)))] at k2; exact k2)
                | (rw [if_pos (Or.inr (Or.inr (Or.inr c70)))] at k2; exact k2)
                | (rw [if_neg (fun q => q.elim (fun e => by omega) (fun q => q.elim (fun e => by rw [c46] at e; cases e) (fun q => q.elim c61 (fun e => by omega))))] at k2; exact k2)
  refine qx_aload_n d_QM_tick_0 rfl rfl ?_
  refine qx_getI d_QM_tick_1 fI_QM_99 rfl rfl hon ?_
  refine qx_if_neB (t := 9) d_QM_tick_4 rfl (fun c4 => ?_) (fun c4 => by cases c4)
  refine qx_aload_n d_QM_tick_9 rfl rfl ?_
  refine qx_dup d_QM_tick_10 rfl ?_
  refine qx_getI d_QM_tick_11 fI_QM_323 rfl rfl htm ?_
  refine qx_iconstN (v := 1) d_QM_tick_14 rfl ?_
  refine qx_iadd d_QM_tick_15 ?_
  refine qx_putI d_QM_tick_16 fI_QM_323 rfl rfl ⟨rfl, rfl⟩ ?_
  refine qx_iconstN (v := 0) d_QM_tick_19 rfl ?_
  refine qx_istore_n (lv1 := [_, _, _]) d_QM_tick_20 rfl (by decide) rfl ?_
  refine qx_iconstN (v := 0) d_QM_tick_21 rfl ?_
  refine qx_istore_n (lv1 := [_, _, _]) d_QM_tick_22 rfl (by decide) rfl ?_
  refine qx_eq rfl rfl rfl ?_ (key nt 0 (by omega))
  rw [jR_ov (by decide) (by decide) (by decide) (by decide) (by decide) (fun _ => by decide)]
  rfl
