set_option maxRecDepth 100000 in
set_option maxHeartbeats 4000000 in
theorem ct_QM_where_no {h : qH} (hR : h.2.2 122 = qRQM) (bg on : Bool) (hbeg : h.1 122 3 = b2i bg) (hon : h.1 122 37 = b2i on) (dep : Nat) (h8 : dep ≤ 8) (hdep : h.1 122 13 = nI dep) (hg : ((bg && !on) && decide (dep = 1)) = false) : qT mi_QM_where 1 0 0 [.ref 122] h NN (fun v1 h1 n1 => v1 = some (.int (b2i false)) ∧ h = h1 ∧ n1 = NN) := by
  refine qT.of (lv0 := [_]) (by decide +kernel) (fun _ _ => Nat.le_of_ble_eq_true rfl) rfl ?_
  refine qx_aload_n d_QM_where_0 rfl rfl ?_
  refine qx_callV (As := []) (rest := _) d_QM_where_1 lk_QM_147 y_QM_open v_QM_open rfl rfl rfl (by decide) rfl rfl rfl rfl (by decide) (by decide) (ct_QM_open bg on hbeg hon) ?_
  rintro _ _ _ ⟨rfl, rfl, rfl⟩
  refine qx_if_eqB (t := 33) d_QM_where_4 rfl (fun c4 => ?_) (fun c4 => ?_)
  · refine qx_iconst (v := b2i false) d_QM_where_33 rfl ?_
    exact qx_iret d_QM_where_34 rfl (b2i_nar _) (by omega) (by omega) ⟨rfl, rfl, rfl⟩
  · refine qx_aload_n d_QM_where_7 rfl rfl ?_
    refine qx_getI d_QM_where_8 fI_QM_138 rfl rfl hdep ?_
    refine qx_iconstN (v := 1) d_QM_where_11 rfl ?_
    refine qx_icmp_neN (t := 33) d_QM_where_12 rfl (by omega) (by omega) (fun c12 => ?_) (fun c12 => absurd hg (by rw [c4, decide_eq_true c12]; decide))
    refine qx_iconst (v := b2i false) d_QM_where_33 rfl ?_
    exact qx_iret d_QM_where_34 rfl (b2i_nar _) (by omega) (by omega) ⟨rfl, rfl, rfl⟩
set_option maxRecDepth 100000 in
set_option maxHeartbeats 4000000 in
theorem ct_QM_output_of_no {h : qH} (k : Int32) (hk1 : ¬ k = nI 1) (hR : h.2.2 122 = qRQM) (bg on : Bool) (hbeg : h.1 122 3 = b2i bg) (hon : h.1 122 37 = b2i on) (dep : Nat) (h8 : dep ≤ 8) (hdep : h.1 122 13 = nI dep) (no : Nat) (hno3 : no ≤ 3) (hno : h.1 122 15 = nI no) (hg : ((bg && !on) && (decide (nI 0 ≤ k ∧ k ≤ nI 5) && decide (dep = 1))) = false) : qT mi_QM_output 1 0 0 [.ref 122, .int k] h NN (fun v1 h1 n1 => v1 = some (.int (b2i false)) ∧ h = h1 ∧ n1 = NN) := by
  refine qT.of (lv0 := [_, _]) (by decide +kernel) (fun _ _ => Nat.le_of_ble_eq_true rfl) rfl ?_
  refine qx_aload_n d_QM_output_0 rfl rfl ?_
  refine qx_callV (As := []) (rest := _) d_QM_output_1 lk_QM_147 y_QM_open v_QM_open rfl rfl rfl (by decide) rfl rfl rfl rfl (by decide) (by decide) (ct_QM_open bg on hbeg hon) ?_
  rintro _ _ _ ⟨rfl, rfl, rfl⟩
  refine qx_if_eqB (t := 24) d_QM_output_4 rfl (fun c4 => ?_) (fun c4 => ?_)
  · refine qx_iconst (v := b2i false) d_QM_output_24 rfl ?_
    exact qx_iret d_QM_output_25 rfl (b2i_nar _) (by omega) (by omega) ⟨rfl, rfl, rfl⟩
  · refine qx_iload_n d_QM_output_7 rfl rfl ?_
    refine qx_iconstN (v := 0) d_QM_output_8 rfl ?_
    refine qx_iconstN (v := 5) d_QM_output_9 rfl ?_
    refine qx_callS (As := [_, _, _]) (rest := _) d_QM_output_10 lk_QM_103 y_QM_within s_QM_within rfl rfl rfl rfl (by decide) (by decide) (ct_QM_within _ _ _) ?_
    rintro _ _ _ ⟨rfl, rfl, rfl⟩
    refine qx_if_eqB (t := 24) d_QM_output_13 rfl (fun c13 => ?_) (fun c13 => ?_)
    · refine qx_iconst (v := b2i false) d_QM_output_24 rfl ?_
      exact qx_iret d_QM_output_25 rfl (b2i_nar _) (by omega) (by omega) ⟨rfl, rfl, rfl⟩
    · refine qx_aload_n d_QM_output_16 rfl rfl ?_
      refine qx_getI d_QM_output_17 fI_QM_144 rfl rfl hno ?_
      refine qx_iconstN (v := 3) d_QM_output_20 rfl ?_
      refine qx_icmp_neN (t := 26) d_QM_output_21 rfl (by omega) (by omega) (fun c21 => ?_) (fun c21 => ?_)
      · refine qx_iload_n d_QM_output_26 rfl rfl ?_
        refine qx_iconstN (v := 1) d_QM_output_27 rfl ?_
        refine qx_icmp_ne (t := 41) d_QM_output_28 rfl (fun c28 => ?_) (fun c28 => absurd c28 hk1)
        refine qx_aload_n d_QM_output_41 rfl rfl ?_
        refine qx_getI d_QM_output_42 fI_QM_138 rfl rfl hdep ?_
        refine qx_iconstN (v := 1) d_QM_output_45 rfl ?_
        refine qx_icmp_neN (t := 58) d_QM_output_46 rfl (by omega) (by omega) (fun c46 => ?_) (fun c46 => absurd hg (by rw [c4, c13, decide_eq_true c46]; decide))
        refine qx_iconst (v := b2i false) d_QM_output_58 rfl ?_
        exact qx_iret d_QM_output_59 rfl (b2i_nar _) (by omega) (by omega) ⟨rfl, rfl, rfl⟩
      · refine qx_iconst (v := b2i false) d_QM_output_24 rfl ?_
        exact qx_iret d_QM_output_25 rfl (b2i_nar _) (by omega) (by omega) ⟨rfl, rfl, rfl⟩
def swp (pp : Nat → Nat) (q : Nat) : Nat → Nat := va_up (va_up pp 0 (pp q)) q (pp 0)
theorem swp_q {pp : Nat → Nat} {q : Nat} : swp pp q q = pp 0 := qus
theorem swp_0 {pp : Nat → Nat} {q : Nat} (h : q ≠ 0) : swp pp q 0 = pp q := (qun (fun e => h e.symm)).trans qus
theorem swp_n {pp : Nat → Nat} {q i : Nat} (h0 : i ≠ 0) (h : i ≠ q) : swp pp q i = pp i := (qun h).trans (qun h0)
theorem swp_ok {pp : Nat → Nat} {q : Nat} (hq : q < 17) (hq0 : q ≠ 0) (h1 : ∀ i, i < 17 → exOk (pp i)) (h2 : ∀ i, i < 17 → ∀ j, j < 17 → pp i = pp j → i = j) : (∀ i, i < 17 → exOk (swp pp q i)) ∧ ∀ i, i < 17 → ∀ j, j < 17 → swp pp q i = swp pp q j → i = j := by
  have s : ∀ i, i < 17 → ∃ k, k < 17 ∧ swp pp q i = pp k ∧ (i = 0 → k = q) ∧ (i = q → k = 0) ∧ (i ≠ 0 → i ≠ q → k = i) := by
    intro i hi
    by_cases e0 : i = 0
    · exact ⟨q, hq, by rw [e0, swp_0 hq0], fun _ => rfl, fun e => absurd (e.symm.trans e0) hq0, fun z => absurd e0 z⟩
    · by_cases eq : i = q
      · exact ⟨0, by omega, by rw [eq, swp_q], fun z => absurd z e0, fun _ => rfl, fun _ z => absurd eq z⟩
      · exact ⟨i, hi, swp_n e0 eq, fun z => absurd z e0, fun z => absurd z eq, fun _ _ => rfl⟩
  refine ⟨fun i hi => ?_, fun i hi j hj e => ?_⟩
  · obtain ⟨k, hk, e, _⟩ := s i hi
    rw [e]; exact h1 k hk
  · obtain ⟨k, hk, e1, a1, a2, a3⟩ := s i hi
    obtain ⟨l, hl, e2, b1, b2, b3⟩ := s j hj
    rw [e1, e2] at e
    have := h2 k hk l hl e
    by_cases i0 : i = 0
    · by_cases j0 : j = 0
      · omega
      · by_cases jq : j = q
        · have := a1 i0; have := b2 jq; omega
        · have := a1 i0; have := b3 j0 jq; omega
    · by_cases iq : i = q
      · by_cases j0 : j = 0
        · have := a2 iq; have := b1 j0; omega
        · by_cases jq : j = q
          · omega
          · have := a2 iq; have := b3 j0 jq; omega
      · have := a3 i0 iq
        by_cases j0 : j = 0
        · have := b1 j0; omega
        · by_cases jq : j = q
          · have := b2 jq; omega
          · have := b3 j0 jq; omega
theorem plP_sw_c {h h1 : qH} {pp : Nat → Nat} {nc : Nat} (hn : nc < 6) (hr : h1.2.2 = (qpR (qpR h 29 nc (some (pp 0))) 4 0 (some (pp (8 + nc)))).2.2) (hP : plP h pp) : plP h1 (swp pp (8 + nc)) := by
  obtain ⟨h1, h2, h3, h4, h5, h6, h7⟩ := hP
  obtain ⟨s1, s2⟩ := swp_ok (q := (8 + nc)) (by omega) (by omega) h1 h2
  have a3 : ∀ i, i < 8 → (qpR (qpR h 29 nc (some (pp 0))) 4 0 (some (pp (8 + nc)))).2.2 4 i = some (swp pp (8 + nc) i) := fun i hi => by
    show va_up (h.2.2 4) 0 (some (pp (8 + nc))) i = _
    by_cases e : i = 0
    · rw [e, qus, swp_0 (by omega)]
    · rw [qun e, swp_n e (by omega)]; exact h3 i hi
  have a4 : ∀ i, i < 6 → (qpR (qpR h 29 nc (some (pp 0))) 4 0 (some (pp (8 + nc)))).2.2 29 i = some (swp pp (8 + nc) (8 + i)) := fun i hi => by
    show va_up (h.2.2 29) nc (some (pp 0)) i = _
    by_cases e : i = nc
    · rw [e, qus, swp_q]
    · rw [qun e, swp_n (by omega) (by omega)]; exact h4 i hi
  have a5 : ∀ i, i < 3 → (qpR (qpR h 29 nc (some (pp 0))) 4 0 (some (pp (8 + nc)))).2.2 48 i = some (swp pp (8 + nc) (14 + i)) := fun i hi => by
    show h.2.2 48 i = _
    rw [swp_n (by omega) (by omega)]; exact h5 i hi
  unfold plP
  rw [hr]
  refine ⟨s1, s2, a3, a4, a5, h6, fun e he => ?_⟩
  have e3 : e ≠ 4 ∧ e ≠ 29 := by
    rcases he with ⟨i, _, z⟩ | ⟨i, _, z⟩ | ⟨i, _, z⟩ <;> omega
  show va_up (va_up h.2.2 29 _) 4 _ e = _
  rw [qun e3.1, qun e3.2]
  exact h7 e he
theorem plP_sw_o {h h1 : qH} {pp : Nat → Nat} {no : Nat} (hn : no < 3) (hr : h1.2.2 = (qpR (qpR h 48 no (some (pp 0))) 4 0 (some (pp (14 + no)))).2.2) (hP : plP h pp) : plP h1 (swp pp (14 + no)) := by
  obtain ⟨h1, h2, h3, h4, h5, h6, h7⟩ := hP
  obtain ⟨s1, s2⟩ := swp_ok (q := (14 + no)) (by omega) (by omega) h1 h2
  have a3 : ∀ i, i < 8 → (qpR (qpR h 48 no (some (pp 0))) 4 0 (some (pp (14 + no)))).2.2 4 i = some (swp pp (14 + no) i) := fun i hi => by
    show va_up (h.2.2 4) 0 (some (pp (14 + no))) i = _
    by_cases e : i = 0
    · rw [e, qus, swp_0 (by omega)]
    · rw [qun e, swp_n e (by omega)]; exact h3 i hi
  have a4 : ∀ i, i < 6 → (qpR (qpR h 48 no (some (pp 0))) 4 0 (some (pp (14 + no)))).2.2 29 i = some (swp pp (14 + no) (8 + i)) := fun i hi => by
    show h.2.2 29 i = _
    rw [swp_n (by omega) (by omega)]; exact h4 i hi
  have a5 : ∀ i, i < 3 → (qpR (qpR h 48 no (some (pp 0))) 4 0 (some (pp (14 + no)))).2.2 48 i = some (swp pp (14 + no) (14 + i)) := fun i hi => by
    show va_up (h.2.2 48) no (some (pp 0)) i = _
    by_cases e : i = no
    · rw [e, qus, swp_q]
    · rw [qun e, swp_n (by omega) (by omega)]; exact h5 i hi
  unfold plP
  rw [hr]
  refine ⟨s1, s2, a3, a4, a5, h6, fun e he => ?_⟩
  have e3 : e ≠ 4 ∧ e ≠ 48 := by
    rcases he with ⟨i, _, z⟩ | ⟨i, _, z⟩ | ⟨i, _, z⟩ <;> omega
  show va_up (va_up h.2.2 48 _) 4 _ e = _
  rw [qun e3.1, qun e3.2]
  exact h7 e he
theorem cp0_k {h : qH} {q n x : Nat} (hn : n ≤ 24) (hx : x < 24 * q ∨ 24 * q + 24 ≤ x) : va_cpy (h.1 126) (h.1 126) (24 * 0) (24 * q + 0) n x = h.1 126 x ∧ va_cpy (h.2.1 127) (h.2.1 127) (24 * 0) (24 * q + 0) n x = h.2.1 127 x := by
  unfold va_cpy
  rw [if_neg (by omega), if_neg (by omega)]
  exact ⟨rfl, rfl⟩
theorem cp0_E {h : qH} {q : Nat} {E : List xP} (hx : rExp (h.1 126) (h.2.1 127) (24 * 0) E) : rExp (va_cpy (h.1 126) (h.1 126) (24 * 0) (24 * q + 0) E.length) (va_cpy (h.2.1 127) (h.2.1 127) (24 * 0) (24 * q + 0) E.length) (24 * q) E := by
  refine rExp_sh (fun i hi => ?_) hx
  unfold va_cpy
  rw [if_pos (by omega), if_pos (by omega), show 24 * 0 + (24 * q + i - (24 * q + 0)) = 24 * 0 + i by omega]
  exact ⟨rfl, rfl⟩
theorem mQe_take_c {h h1 : qH} {EE : Nat → List xP} {tr : Nat → Bool} {nc no : Nat} {ok : Nat → Nat} (hn : nc < 6) (hn3 : no ≤ 3) (hl : (EE 0).length ≤ 24) (hl2 : ∀ c, c < nc → (EE (8 + c)).length ≤ 24) (hl3 : ∀ o, o < no → (EE (14 + o)).length ≤ 24) (h128 : h1.1 128 = va_up (h.1 128) (8 + nc) (nI (EE 0).length)) (h126 : h1.1 126 = va_cpy (h.1 126) (h.1 126) (24 * 0) (24 * (8 + nc) + 0) (EE 0).length) (h127 : h1.2.1 127 = va_cpy (h.2.1 127) (h.2.1 127) (24 * 0) (24 * (8 + nc) + 0) (EE 0).length) (h130 : h1.1 130 = h.1 130) (h0 : mQe h 1 EE tr nc no ok) : mQe h1 0 (va_up EE (8 + nc) (EE 0)) tr (nc + 1) no ok := by
  obtain ⟨q1, q2, q3⟩ := h0
  refine ⟨fun i hi => absurd hi (Nat.not_lt_zero _), fun c hc => ?_, fun o ho => ?_⟩
  · rw [h128, h126, h127]
    by_cases e : c = nc
    · subst e; rw [qus, qus]; exact ⟨rfl, cp0_E (q1 0 (by omega)).2.1⟩
    · rw [qun (by omega), qun (by omega)]
      have l := hl2 c (by omega)
      exact ⟨(q2 c (by omega)).1, rExp_up (fun x a b => cp0_k hl (by omega)) (q2 c (by omega)).2⟩
  · rw [h128, h126, h127, h130, qun (by omega), qun (by omega)]
    have l := hl3 o ho
    exact ⟨(q3 o ho).1, fun w => ⟨((q3 o ho).2 w).1, rExp_up (fun x a b => cp0_k hl (by omega)) ((q3 o ho).2 w).2⟩⟩
theorem mQe_take_o {h h1 : qH} {EE : Nat → List xP} {tr : Nat → Bool} {nc no k : Nat} {ok : Nat → Nat} (hn : nc ≤ 6) (hn3 : no < 3) (hl : (EE 0).length ≤ 24) (hl2 : ∀ c, c < nc → (EE (8 + c)).length ≤ 24) (hl3 : ∀ o, o < no → (EE (14 + o)).length ≤ 24) (h128 : h1.1 128 = va_up (h.1 128) (14 + no) (nI (EE 0).length)) (h126 : h1.1 126 = va_cpy (h.1 126) (h.1 126) (24 * 0) (24 * (14 + no) + 0) (EE 0).length) (h127 : h1.2.1 127 = va_cpy (h.2.1 127) (h.2.1 127) (24 * 0) (24 * (14 + no) + 0) (EE 0).length) (h130 : h1.1 130 = va_up (h.1 130) no (nI k)) (h0 : mQe h 1 EE tr nc no ok) : mQe h1 0 (va_up EE (14 + no) (EE 0)) tr nc (no + 1) (va_up ok no k) := by
  obtain ⟨q1, q2, q3⟩ := h0
  refine ⟨fun i hi => absurd hi (Nat.not_lt_zero _), fun c hc => ?_, fun o ho => ?_⟩
  · rw [h128, h126, h127, qun (by omega), qun (by omega)]
    have l := hl2 c (by omega)
    exact ⟨(q2 c (by omega)).1, rExp_up (fun x a b => cp0_k hl (by omega)) (q2 c (by omega)).2⟩
  · rw [h128, h126, h127, h130]
    by_cases e : o = no
    · subst e; rw [qus, qus, qus, qus]; exact ⟨rfl, fun _ => ⟨rfl, cp0_E (q1 0 (by omega)).2.1⟩⟩
    · rw [qun e, qun e, qun (by omega), qun (by omega)]
      have l := hl3 o (by omega)
      exact ⟨(q3 o (by omega)).1, fun w => ⟨((q3 o (by omega)).2 w).1, rExp_up (fun x a b => cp0_k hl (by omega)) ((q3 o (by omega)).2 w).2⟩⟩
theorem mQe_rows {h h1 : qH} {EE : Nat → List xP} {tr : Nat → Bool} {nc no : Nat} {ok : Nat → Nat} (hn : nc ≤ 6) (h128 : h1.1 128 = va_up (h.1 128) (14 + no) (nI 0)) (h126 : h1.1 126 = h.1 126) (h127 : h1.2.1 127 = h.2.1 127) (h130 : h1.1 130 = va_up (h.1 130) no (nI 1)) (h0 : mQe h 0 EE tr nc no ok) : mQe h1 0 (va_up EE (14 + no) []) tr nc (no + 1) (va_up ok no 1) := by
  obtain ⟨q1, q2, q3⟩ := h0
  refine ⟨fun i hi => absurd hi (Nat.not_lt_zero _), fun c hc => ?_, fun o ho => ?_⟩
  · rw [h128, h126, h127, qun (by omega), qun (by omega)]; exact q2 c hc
  · rw [h128, h126, h127, h130]
    by_cases e : o = no
    · subst e; rw [qus, qus]; exact ⟨rfl, fun w => absurd rfl w⟩
    · rw [qun e, qun e, qun (by omega), qun (by omega)]; exact q3 o (by omega)
theorem cQe_take_c {h h1 : qH} {pp : Nat → Nat} {EE : Nat → List xP} {tr : Nat → Bool} {nc no : Nat} {ok : Nat → Nat} (hn : nc < 6) (hn3 : no ≤ 3) (hr : h1.2.2 = (qpR (qpR h 29 nc (some (pp 0))) 4 0 (some (pp (8 + nc)))).2.2) (ha : ∀ a, 5 ≤ a → a ≤ 58 → h1.1 a = h.1 a) (ht : tr 0 = true) (h0 : cQe h pp 1 EE tr nc no ok) : cQe h1 (swp pp (8 + nc)) 0 (va_up EE (8 + nc) (EE 0)) tr (nc + 1) no ok := by
  obtain ⟨q1, q2, q3, q4⟩ := h0
  have ex : ∀ i, i < 17 → ∀ E t, exA h.1 (pp i) E t → exA h1.1 (pp i) E t := fun i hi E t hx => by
    have g5 := ex_ge (q1.1 i hi)
    have g58 := (ex_pl (q1.1 i hi)).2.2.2.2.2.2
    exact exA_c (ha _ g5 (by omega)) (ha _ (by omega) (by omega)) (ha _ (by omega) (by omega)) hx
  refine ⟨plP_sw_c hn hr q1, fun i hi => absurd hi (Nat.not_lt_zero _), fun c hc => ?_, fun o ho => ?_⟩
  · by_cases e : c = nc
    · subst e; rw [qus, swp_q, ← ht]; exact ex 0 (by omega) _ _ (q2 0 (by omega))
    · rw [qun (by omega), swp_n (by omega) (by omega)]; exact ex (8 + c) (by omega) _ _ (q3 c (by omega))
  · rw [qun (by omega), swp_n (by omega) (by omega), ha 58 (by omega) (by omega)]
    obtain ⟨t, ht⟩ := (q4 o ho).2
    exact ⟨(q4 o ho).1, t, ex (14 + o) (by omega) _ _ ht⟩
theorem cQe_take_o {h h1 : qH} {pp : Nat → Nat} {EE : Nat → List xP} {tr : Nat → Bool} {nc no k : Nat} {ok : Nat → Nat} (hn : nc ≤ 6) (hn3 : no < 3) (hr : h1.2.2 = (qpR (qpR h 48 no (some (pp 0))) 4 0 (some (pp (14 + no)))).2.2) (ha : ∀ a, 5 ≤ a → a < 58 → h1.1 a = h.1 a) (h58 : h1.1 58 = va_up (h.1 58) no (nI k)) (h0 : cQe h pp 1 EE tr nc no ok) : cQe h1 (swp pp (14 + no)) 0 (va_up EE (14 + no) (EE 0)) tr nc (no + 1) (va_up ok no k) := by
  obtain ⟨q1, q2, q3, q4⟩ := h0
  have ex : ∀ i, i < 17 → ∀ E t, exA h.1 (pp i) E t → exA h1.1 (pp i) E t := fun i hi E t hx => by
    have g5 := ex_ge (q1.1 i hi)
    have g58 := (ex_pl (q1.1 i hi)).2.2.2.2.2.2
    exact exA_c (ha _ g5 (by omega)) (ha _ (by omega) (by omega)) (ha _ (by omega) (by omega)) hx
  refine ⟨plP_sw_o hn3 hr q1, fun i hi => absurd hi (Nat.not_lt_zero _), fun c hc => ?_, fun o ho => ?_⟩
  · rw [qun (by omega), swp_n (by omega) (by omega)]; exact ex (8 + c) (by omega) _ _ (q3 c (by omega))
  · rw [h58]
    by_cases e : o = no
    · subst e; rw [qus, qus, qus, swp_q]; exact ⟨rfl, tr 0, ex 0 (by omega) _ _ (q2 0 (by omega))⟩
    · rw [qun e, qun e, qun (by omega), swp_n (by omega) (by omega)]
      obtain ⟨t, ht⟩ := (q4 o (by omega)).2
      exact ⟨(q4 o (by omega)).1, t, ex (14 + o) (by omega) _ _ ht⟩
theorem cQe_rows {h h1 : qH} {pp : Nat → Nat} {EE : Nat → List xP} {tr : Nat → Bool} {nc no : Nat} {ok : Nat → Nat} {s2 : sX} (hn : nc ≤ 6) (hn3 : no < 3) (hr : h1.2.2 = h.2.2) (ha : ∀ a, 5 ≤ a → a < 58 → h1.1 a = (xR h (pp (14 + no)) s2).1 a) (h58 : h1.1 58 = va_up (h.1 58) no (nI 1)) (hs : exS s2 [] false) (h0 : cQe h pp 0 EE tr nc no ok) : cQe h1 pp 0 (va_up EE (14 + no) []) tr nc (no + 1) (va_up ok no 1) := by
  obtain ⟨q1, q2, q3, q4⟩ := h0
  refine ⟨by unfold plP; rw [hr]; exact q1, fun i hi => absurd hi (Nat.not_lt_zero _), fun c hc => ?_, fun o ho => ?_⟩
  · rw [qun (by omega)]; exact ex_keep q1 (by omega) (by omega) (by omega) ha (q3 c hc)
  · rw [h58]
    by_cases e : o = no
    · subst e; rw [qus, qus, qus]; exact ⟨rfl, false, ex_new q1 (by omega) ha hs⟩
    · rw [qun e, qun e, qun (by omega)]
      obtain ⟨t, ht⟩ := (q4 o (by omega)).2
      exact ⟨(q4 o (by omega)).1, t, ex_keep q1 (by omega) (by omega) (by omega) ha ht⟩
