set_option maxRecDepth 100000 in
set_option maxHeartbeats 4000000 in
theorem op_work (x : Int32) : OpI mi_QF_work mi_QM_work [.int x] := by
  intro N h hN hI
  have hI0 := hI
  obtain ⟨pp, ti, tn, rt, bg, kd, fi, se, le, ri, dep, EE, tr, nc, no, ok, gr, ob, dw, lm, RES, rs, wd, cn, ps, p, on, wk, nt, kt, pt, tq, dn, tm, ig, s, Q, ud, s2, qn, qt, qa, hC, hM, hP⟩ := hI
  obtain ⟨hS, hT, h3, hE, hX, hRs, hJ⟩ := hC
  obtain ⟨mR, mT, m1, mE, mX, mRs, mJ⟩ := hM
  obtain ⟨gQ, gR, gJ⟩ := hP
  have gQ0 := gQ
  obtain ⟨q1, q2, q3, q4, q5, q6, q7, q8, q9, q10, q11, q12, q13⟩ := gQ
  have hC0 : CI h pp ti tn rt bg kd fi se le ri dep EE tr nc no ok gr ob dw lm RES rs wd cn ps p on wk nt kt pt tq dn tm ig s Q ud := ⟨hS, hT, h3, hE, hX, hRs, hJ⟩
  have hM0 : MI h ti tn rt bg kd fi se le ri dep EE tr nc no ok gr ob dw lm RES rs wd cn ps p on wk nt kt pt tq dn tm ig s2 qn qt qa := ⟨mR, mT, m1, mE, mX, mRs, mJ⟩
  have hJ0 := hJ
  obtain ⟨j1, j2, j3, j4, j5, j6, j7, j8, j9, j10, j11, j12⟩ := hJ
  have mJ0 := mJ
  obtain ⟨n1, n2, n3, n4, n5, n6, n7, n8, n9, n10, n11, n12, n13, n14, n15, n16, n17, n18, n19⟩ := mJ
  have hn16 := gJ.1
  have eC : cJ h s = h := cJ_of (fun t ht => ⟨(j7 t ht).2.2.2.1, (j7 t ht).2.2.2.2.1⟩) j8 j9 j10 j11
  have eQ : kQ h Q = h := kQ_of j12
  have eCQ : cJ (kQ h Q) s = h := by rw [eQ]; exact eC
  have hst4 : ∀ t, t < 16 → h.1 (90 + t) 0 = nI (kt t) ∧ h.1 (90 + t) 1 = nI (pt t) ∧ h.1 (90 + t) 2 = nI (tq t) ∧ h.1 (90 + t) 5 = b2i (dn t) := fun t ht => ⟨(j7 t ht).1, (j7 t ht).2.1, (j7 t ht).2.2.1, (j7 t ht).2.2.2.2.2⟩
  have hge : (on && decide (nI 0 ≤ x ∧ x ≤ nI wk - nI 1)) = (on && decide (0 ≤ x ∧ x < nI wk)) := by
    cases hon : on
    · rw [Bool.false_and, Bool.false_and]
    · rw [in_z (show wk < 2 ^ 31 by have := (gJ.2.2.2 hon).2.2.1; omega)]
  by_cases hg : (on && decide (0 ≤ x ∧ x < nI wk)) = true
  · rw [Bool.and_eq_true] at hg
    obtain ⟨hon, hg2⟩ := hg
    obtain ⟨a1, a2, a3, a4, a5, a6, a7, a8, a9, a10, a11⟩ := gJ.2.2.2 hon
    have hw68 := w68 a5 a6
    
    obtain ⟨w, hw, rfl⟩ := in_of (show wk < 2 ^ 31 by omega) hg2
    have jon : h.1 83 0 = b2i true := by rw [← hon]; exact j1
    have non : h.1 122 37 = b2i true := by rw [← hon]; exact n1
    obtain ⟨b1, b2, b3⟩ := a11 w (by omega)
    have eM : jR h s2 = h := jR_of n9 n10 n13 n14 n15 n16
    have eK : kR h qn qt qa = h := kR_of n17 n18 n19
    have eMK : jR (kR h qn qt qa) s2 = h := by rw [eK]; exact eM
    by_cases hq0 : qn w = 0
    · have kd0 := ct_Jo_workOff_none hS.2.2 Q s w (by omega) hw68 (by rw [b1]; exact hq0)
      rw [eCQ] at kd0
      have ky := ct_QM_work_none (h := h) mR s2 qn qt qa non wk a3 n3 w hw hq0
      rw [eMK] at ky
      exact op_ro (by omega) (by omega) hI0 (ct_QF_work hS.1 hS.2.2 jon wk a3 j2 w hw _ (fun v h1 n q => ⟨_, q.1⟩) kd0) ky
    · by_cases h60 : 60 ≤ sW s
      · have kd0 := ct_Jo_workOff_full hS.2.2 Q s w (by omega) hw68 (by omega) (by omega) h60
        rw [eCQ] at kd0
        have ky := ct_QM_work_full (h := h) mR s2 qn qt qa non wk a3 n3 w hw (by omega) b2 (by omega) (by omega)
        rw [eMK] at ky
        exact op_ro (by omega) (by omega) hI0 (ct_QF_work hS.1 hS.2.2 jon wk a3 j2 w hw _ (fun v h1 n q => ⟨_, q.1⟩) kd0) ky
      · have kd0 := ct_Jo_workOff hS.2.2 Q s w (by omega) hw68 (by omega) (by omega) (by omega)
        rw [eCQ] at kd0
        have kx := ct_QF_work hS.1 hS.2.2 jon wk a3 j2 w hw _ (fun v h1 n q => ⟨_, q.1⟩) kd0
        obtain ⟨d1, d2, d3, d4, d5⟩ := b3 0 (by omega)
        rw [Nat.add_zero] at d1 d2 d3 d4 d5
        refine op_mo (z := nI (qt (12 * w))) (dy := 2) (by omega) (by omega) kx (fun h1 => CI h1 pp ti tn rt bg kd fi se le ri dep EE tr nc no ok gr ob dw lm RES rs wd cn ps p on wk nt kt pt tq dn tm ig (sSend s 1 (Q.2.1 w 0) (Q.2.2.1 w 0)) (va_up Q.1 w (sCut (Q.1 w) 0 (Q.2.2.2 w - 1)), va_up Q.2.1 w (sCut (Q.2.1 w) 0 (Q.2.2.2 w - 1)), va_up Q.2.2.1 w (sCut (Q.2.2.1 w) 0 (Q.2.2.2 w - 1)), va_up Q.2.2.2 w (Q.2.2.2 w - 1)) ud ∧ MI h1 ti tn rt bg kd fi se le ri dep EE tr nc no ok gr ob dw lm RES rs wd cn ps p on wk nt kt pt tq dn tm ig s2 qn qt qa) ?_ ?_
        · rintro v h1 n ⟨e1, e2, e3⟩
          subst e2
          exact ⟨by rw [e1, d1], ⟨CI_j (h := h) ⟨q6, q7, q8⟩ (fun a ha => ⟨jfr (by omega), rfl⟩) rfl (cJb_mk j1 j2 j3 j4 j5 j6 hst4) hC0, MI_ag (h := h) (fun a ha => ⟨jfr (by omega), rfl, rfl⟩) hM0⟩, e3⟩
        · rintro h1 ⟨hC1, hM1⟩
          have mJ1 := hM1.2.2.2.2.2.2
          have eM : jR h1 s2 = h1 := jR_of mJ1.2.2.2.2.2.2.2.2.1 mJ1.2.2.2.2.2.2.2.2.2.1 mJ1.2.2.2.2.2.2.2.2.2.2.2.2.1 mJ1.2.2.2.2.2.2.2.2.2.2.2.2.2.1 mJ1.2.2.2.2.2.2.2.2.2.2.2.2.2.2.1 mJ1.2.2.2.2.2.2.2.2.2.2.2.2.2.2.2.1
          have eK : kR h1 qn qt qa = h1 := kR_of mJ1.2.2.2.2.2.2.2.2.2.2.2.2.2.2.2.2.1 mJ1.2.2.2.2.2.2.2.2.2.2.2.2.2.2.2.2.2.1 mJ1.2.2.2.2.2.2.2.2.2.2.2.2.2.2.2.2.2.2
          have eMK : jR (kR h1 qn qt qa) s2 = h1 := by rw [eK]; exact eM
          have ky := ct_QM_work (h := h1) hM1.1 s2 qn qt qa (by rw [← hon]; exact mJ1.1) wk a3 mJ1.2.2.1 w hw (by omega) b2 (by omega)
          rw [eMK] at ky
          refine qT.imp ?_ ky
          rintro v h2 n ⟨e1, e2, e3⟩
          subst e2
          have mJ := mJ1
          obtain ⟨n1, n2, n3, n4, n5, n6, n7, n8, n9, n10, n11, n12, n13, n14, n15, n16, n17, n18, n19⟩ := mJ
          refine ⟨e1, ⟨pp, ti, tn, rt, bg, kd, fi, se, le, ri, dep, EE, tr, nc, no, ok, gr, ob, dw, lm, RES, rs, wd, cn, ps, p, on, wk, nt, kt, pt, tq, dn, tm, ig, (sSend s 1 (Q.2.1 w 0) (Q.2.2.1 w 0)), (va_up Q.1 w (sCut (Q.1 w) 0 (Q.2.2.2 w - 1)), va_up Q.2.1 w (sCut (Q.2.1 w) 0 (Q.2.2.2 w - 1)), va_up Q.2.2.1 w (sCut (Q.2.2.1 w) 0 (Q.2.2.2 w - 1)), va_up Q.2.2.2 w (Q.2.2.2 w - 1)), ud, (sSend s2 1 (qt (12 * w)) (qa (12 * w))), (va_up qn w (qn w - 1)), (sCut qt (12 * w) (12 * w + (qn w - 1))), (sCut qa (12 * w) (12 * w + (qn w - 1))), CI_ag (h := h1) ⟨q6, q7, q8⟩ (fun a ha => rtr (jM_fr ha) (kM_fr ha)) rfl hC1, MI_j (h := h1) jk_r jk_f rfl rfl (mJb_mk n1 n2 n3 n4 n5 n6 n7 n8 n11 n12) hM1, gQ0, gR, ⟨(gJb_up gJ).1, (gJb_up gJ).2.1, by rw [d1, d2]; exact sEq_send gJ.2.2.1 a4, fun _ => ⟨a1, a2, a3, congrArg (· + 1) a4, ?_, a6, a7, a8, a9, gMs_send (gMs_up a10) (by omega) (by rw [d1]; exact d3) (by rw [d1]; exact d4) (by rw [d2]; omega), fun w2 hw2 => ?_⟩⟩⟩, e3⟩
          · show sW s + 1 ≤ 60 + _
            omega
          obtain ⟨x1, x2, x3⟩ := gQu_up a11 w2 hw2
          dsimp only
          by_cases e : w2 = w
          · subst e
            rw [qus, qus, qus, qus]
            refine ⟨by rw [b1], by omega, fun j hj => ?_⟩
            obtain ⟨y1, y2, y3, y4, y5⟩ := x3 (j + 1) (by omega)
            have s1 : sCut (Q.2.1 w2) 0 (Q.2.2.2 w2 - 1) j = Q.2.1 w2 (j + 1) := by unfold sCut; rw [if_pos (by omega)]
            have s3 : sCut (Q.2.2.1 w2) 0 (Q.2.2.2 w2 - 1) j = Q.2.2.1 w2 (j + 1) := by unfold sCut; rw [if_pos (by omega)]
            have s4 : sCut qt (12 * w2) (12 * w2 + (qn w2 - 1)) (12 * w2 + j) = qt (12 * w2 + (j + 1)) := by unfold sCut; rw [if_pos (by omega), Nat.add_assoc]
            have s5 : sCut qa (12 * w2) (12 * w2 + (qn w2 - 1)) (12 * w2 + j) = qa (12 * w2 + (j + 1)) := by unfold sCut; rw [if_pos (by omega), Nat.add_assoc]
            rw [s1, s3, s4, s5]
            exact ⟨y1, y2, y3, y4, y5⟩
          · rw [qun e, qun e, qun e, qun e]
            refine ⟨x1, x2, fun j hj => ?_⟩
            have s4 : sCut qt (12 * w) (12 * w + (qn w - 1)) (12 * w2 + j) = qt (12 * w2 + j) := by unfold sCut; rw [if_neg (by omega)]
            have s5 : sCut qa (12 * w) (12 * w + (qn w - 1)) (12 * w2 + j) = qa (12 * w2 + j) := by unfold sCut; rw [if_neg (by omega)]
            rw [s4, s5]
            exact x3 j hj
  · exact op_ro (by omega) (by omega) hI0 (ct_QF_work_no hS.1 on j1 x _ j2 (bf hg)) (ct_QM_work_no x on n1 wk n3 (by rw [hge]; exact bf hg))
/-! one RUN more, seen from the invariant -/
theorem sEq_run {s s2 : sJ} {tm : Int32} {t : Nat} (h : sEq s s2) (hw : sW s = sW s2) : sEq (sRun tm s t) (sRun tm s2 t) := by
  obtain ⟨h1, h2, h3, h4, h5⟩ := h
  refine ⟨?_, ?_, ?_, ?_, fun j hj => ?_⟩
  · show va_up (sAt s) t (sAt s t + 1) = va_up (sAt s2) t (sAt s2 t + 1); rw [h1]
  · show va_up (sMk s) (sW s) 0 = va_up (sMk s2) (sW s2) 0; rw [h2, hw]
  · show va_up (sMt s) (sW s) t = va_up (sMt s2) (sW s2) t; rw [h3, hw]
  · show va_up (sMa s) (sW s) (sAt s t) = va_up (sMa s2) (sW s2) (sAt s2 t); rw [h4, hw, h1]
  · have hj : 0 < va_up (sAt s) t (sAt s t + 1) j := hj
    show va_up (sSa s) t tm j = va_up (sSa s2) t tm j
    by_cases e : j = t
    · subst e; rw [qus, qus]
    · rw [qun e] at hj; rw [qun e, qun e]; exact h5 j hj
/-- a step of sRun keeps: attempts between those at first and one more, messages good -/
def gK (N nt : Nat) (s0 s : sJ) : Prop := (∀ j, sAt s0 j ≤ sAt s j ∧ sAt s j ≤ sAt s0 j + 1) ∧ gMs (N + 1) nt s
theorem gK_run {N nt t : Nat} {s0 s : sJ} {tm : Int32} (h : gK N nt s0 s) (ht : t < nt) (he : sAt s t = sAt s0 t) (hN : sAt s0 t ≤ N) : gK N nt s0 (sRun tm s t) := by
  obtain ⟨h1, h2⟩ := h
  have up : ∀ j, sAt s j ≤ va_up (sAt s) t (sAt s t + 1) j := fun j => by
    by_cases e : j = t
    · subst e; rw [qus]; omega
    · rw [qun e]; omega
  refine ⟨fun j => ?_, fun i hi => ?_⟩
  · show sAt s0 j ≤ va_up (sAt s) t (sAt s t + 1) j ∧ va_up (sAt s) t (sAt s t + 1) j ≤ _
    by_cases e : j = t
    · subst e; rw [qus]; omega
    · rw [qun e]; exact h1 j
  · have hi : i < sW s + 1 := hi
    show va_up (sMk s) (sW s) 0 i ≤ 1 ∧ va_up (sMt s) (sW s) t i < nt ∧ 0 < va_up (sAt s) t (sAt s t + 1) (va_up (sMt s) (sW s) t i) ∧ va_up (sMa s) (sW s) (sAt s t) i ≤ N + 1
    by_cases e : i = sW s
    · subst e; rw [qus, qus, qus, qus]; exact ⟨by omega, ht, by omega, by omega⟩
    · rw [qun e, qun e, qun e]
      obtain ⟨x1, x2, x3, x4⟩ := h2 i (by omega)
      exact ⟨x1, x2, Nat.lt_of_lt_of_le x3 (up _), x4⟩
theorem tick_K {N nt : Nat} {dn : Nat → Bool} {tm : Int32} {s : sJ} (hm : gMs (N + 1) nt s) (hN : ∀ t, t < nt → sAt s t ≤ N) : ∀ t, t ≤ nt → gK N nt s (sTick dn tm s t).1
  | 0, _ => ⟨fun j => ⟨Nat.le_refl _, by show sAt s j ≤ _; omega⟩, hm⟩
  | t + 1, h => by
    have ih := tick_K (dn := dn) (tm := tm) hm hN t (by omega)
    unfold sTick
    split
    · exact ih
    · exact gK_run ih (by omega) (sTick_at dn tm s t t (Nat.le_refl _)) (hN t (by omega))
theorem tick_eq {dn : Nat → Bool} {tm : Int32} {s s2 : sJ} (h : sEq s s2) (hw : sW s = sW s2) : ∀ t, sEq (sTick dn tm s t).1 (sTick dn tm s2 t).1 ∧ sW (sTick dn tm s t).1 = sW (sTick dn tm s2 t).1 ∧ (sTick dn tm s t).2 = (sTick dn tm s2 t).2
  | 0 => ⟨h, hw, rfl⟩
  | t + 1 => by
    obtain ⟨i1, i2, i3⟩ := tick_eq (dn := dn) (tm := tm) h hw t
    have hs : sTick dn tm s (t + 1) = if sAt (sTick dn tm s t).1 t = 0 ∨ dn t = true ∨ tm - sSa (sTick dn tm s t).1 t < nI 3 ∨ 60 ≤ sW (sTick dn tm s t).1 then sTick dn tm s t else (sRun tm (sTick dn tm s t).1 t, (sTick dn tm s t).2 + 1) := rfl
    have hs2 : sTick dn tm s2 (t + 1) = if sAt (sTick dn tm s2 t).1 t = 0 ∨ dn t = true ∨ tm - sSa (sTick dn tm s2 t).1 t < nI 3 ∨ 60 ≤ sW (sTick dn tm s2 t).1 then sTick dn tm s2 t else (sRun tm (sTick dn tm s2 t).1 t, (sTick dn tm s2 t).2 + 1) := rfl
    rw [hs, hs2]
    generalize sTick dn tm s t = A at *
    generalize sTick dn tm s2 t = B at *
    have ea : sAt A.1 t = sAt B.1 t := by rw [i1.1]
    by_cases c0 : sAt A.1 t = 0
    · rw [if_pos (Or.inl c0), if_pos (Or.inl (by rw [← ea]; exact c0))]
      exact ⟨i1, i2, i3⟩
    · have es : sSa A.1 t = sSa B.1 t := i1.2.2.2.2 t (by omega)
      by_cases c : sAt A.1 t = 0 ∨ dn t = true ∨ tm - sSa A.1 t < nI 3 ∨ 60 ≤ sW A.1
      · rw [if_pos c, if_pos (by rw [← ea, ← es, ← i2]; exact c)]
        exact ⟨i1, i2, i3⟩
      · rw [if_neg c, if_neg (by rw [← ea, ← es, ← i2]; exact c)]
        exact ⟨sEq_run i1 i2, congrArg (· + 1) i2, congrArg (· + 1) i3⟩
theorem tick_w {dn : Nat → Bool} {tm : Int32} {s : sJ} : ∀ t, sW (sTick dn tm s t).1 ≤ 60 ∨ sW (sTick dn tm s t).1 = sW s
  | 0 => Or.inr rfl
  | t + 1 => by
    have ih := tick_w (dn := dn) (tm := tm) (s := s) t
    unfold sTick
    split
    · exact ih
    · next q =>
      have : ¬ 60 ≤ sW (sTick dn tm s t).1 := fun e => q (Or.inr (Or.inr (Or.inr e)))
      exact Or.inl (by show sW (sTick dn tm s t).1 + 1 ≤ 60; omega)
theorem big_m {kt : Nat → Nat} {s s2 : sJ} {nt : Nat} (h : ∀ j, sAt s j ≤ sAt s2 j) : cntB (big kt s) nt ≤ cntB (big kt s2) nt := cntB_m nt (fun k _ q => by
  unfold big at *
  rw [Bool.and_eq_true] at *
  exact ⟨q.1, decide_eq_true (by have := of_decide_eq_true q.2; have := h k; omega)⟩)
theorem gQu_at {N nt : Nat} {s s2 : sJ} {Q : sQ} {qn qt qa : Nat → Nat} (ha : ∀ j, sAt s j ≤ sAt s2 j) (h : gQu N nt s Q qn qt qa) : gQu N nt s2 Q qn qt qa := fun w hw => by
  obtain ⟨a, b, c⟩ := h w hw
  refine ⟨a, b, fun j hj => ?_⟩
  obtain ⟨d1, d2, d3, d4, d5⟩ := c j hj
  exact ⟨d1, d2, d3, Nat.lt_of_lt_of_le d4 (ha _), d5⟩
set_option maxRecDepth 100000 in
set_option maxHeartbeats 4000000 in
theorem op_tick  : OpI mi_QF_tick mi_QM_tick [] := by
  intro N h hN hI
  have hI0 := hI
  obtain ⟨pp, ti, tn, rt, bg, kd, fi, se, le, ri, dep, EE, tr, nc, no, ok, gr, ob, dw, lm, RES, rs, wd, cn, ps, p, on, wk, nt, kt, pt, tq, dn, tm, ig, s, Q, ud, s2, qn, qt, qa, hC, hM, hP⟩ := hI
  obtain ⟨hS, hT, h3, hE, hX, hRs, hJ⟩ := hC
  obtain ⟨mR, mT, m1, mE, mX, mRs, mJ⟩ := hM
  obtain ⟨gQ, gR, gJ⟩ := hP
  have gQ0 := gQ
  obtain ⟨q1, q2, q3, q4, q5, q6, q7, q8, q9, q10, q11, q12, q13⟩ := gQ
  have hC0 : CI h pp ti tn rt bg kd fi se le ri dep EE tr nc no ok gr ob dw lm RES rs wd cn ps p on wk nt kt pt tq dn tm ig s Q ud := ⟨hS, hT, h3, hE, hX, hRs, hJ⟩
  have hM0 : MI h ti tn rt bg kd fi se le ri dep EE tr nc no ok gr ob dw lm RES rs wd cn ps p on wk nt kt pt tq dn tm ig s2 qn qt qa := ⟨mR, mT, m1, mE, mX, mRs, mJ⟩
  have hJ0 := hJ
  obtain ⟨j1, j2, j3, j4, j5, j6, j7, j8, j9, j10, j11, j12⟩ := hJ
  have mJ0 := mJ
  obtain ⟨n1, n2, n3, n4, n5, n6, n7, n8, n9, n10, n11, n12, n13, n14, n15, n16, n17, n18, n19⟩ := mJ
  have hn16 := gJ.1
  have eC : cJ h s = h := cJ_of (fun t ht => ⟨(j7 t ht).2.2.2.1, (j7 t ht).2.2.2.2.1⟩) j8 j9 j10 j11
  have eQ : kQ h Q = h := kQ_of j12
  have eCQ : cJ (kQ h Q) s = h := by rw [eQ]; exact eC
  have hst4 : ∀ t, t < 16 → h.1 (90 + t) 0 = nI (kt t) ∧ h.1 (90 + t) 1 = nI (pt t) ∧ h.1 (90 + t) 2 = nI (tq t) ∧ h.1 (90 + t) 5 = b2i (dn t) := fun t ht => ⟨(j7 t ht).1, (j7 t ht).2.1, (j7 t ht).2.2.1, (j7 t ht).2.2.2.2.2⟩
  cases hon : on with
  | false =>
    rw [hon] at j1 n1
    exact op_ro (by omega) (by omega) hI0 (ct_QF_tick_no hS.1 j1) (ct_QM_tick_no n1)
  | true =>
    obtain ⟨a1, a2, a3, a4, a5, a6, a7, a8, a9, a10, a11⟩ := gJ.2.2.2 hon
    have hw68 := w68 a5 a6
    
    have jon : h.1 83 0 = b2i true := by rw [← hon]; exact j1
    have hat : ∀ t, t < nt → sAt s t < 100000 := fun t ht => by have := (gJ.2.1 t ht).2.2; omega
    have kx := ct_QF_tick hS.1 hS.2.2 jon nt hn16 j3 kt (fun t ht => (gJ.2.1 t ht).1) (fun t ht => (hst4 t (by omega)).1) dn (fun t ht => (hst4 t (by omega)).2.2.2) s tm j6 hw68 hat
    rw [eC] at kx
    obtain ⟨t1, t2, t3⟩ := tick_eq (dn := dn) (tm := tm + nI 1) gJ.2.2.1 a4 nt
    have tk := tick_K (N := N) (dn := dn) (tm := tm + nI 1) (gMs_up a10) (fun t ht => (gJ.2.1 t ht).2.2) nt (Nat.le_refl _)
    have tw := tick_w (dn := dn) (tm := tm + nI 1) (s := s) nt
    have bm := big_m (kt := kt) (nt := nt) (fun j => (tk.1 j).1)
    refine op_mo (z := nI (sTick dn (tm + nI 1) s nt).2) (dy := 2) (by omega) (by omega) kx (fun h1 => CI h1 pp ti tn rt bg kd fi se le ri dep EE tr nc no ok gr ob dw lm RES rs wd cn ps p true wk nt kt pt tq dn (tm + nI 1) ig (sTick dn (tm + nI 1) s nt).1 Q ud ∧ MI h1 ti tn rt bg kd fi se le ri dep EE tr nc no ok gr ob dw lm RES rs wd cn ps p on wk nt kt pt tq dn tm ig s2 qn qt qa) ?_ ?_
    · rintro v h1 n ⟨e1, e2, e3⟩
      have eQ2 : kQ (qpI h 83 6 (tm + nI 1)) Q = qpI h 83 6 (tm + nI 1) := by rw [← kQ_ov (by omega), eQ]
      rw [← eQ2] at e2
      subst e2
      exact ⟨e1, ⟨CI_j (h := h) ⟨q6, q7, q8⟩ (fun a ha => ⟨(jfr (by omega)).trans (qpI_o h 83 6 _ a (by omega)).1, rfl⟩) rfl (cJb_mk jon j2 j3 (fun _ => j4 hon) j5 rfl (fun t ht => by rw [(qpI_o h 83 6 _ (90 + t) (by omega)).1]; exact hst4 t ht)) hC0, MI_ag (h := h) (fun a ha => ⟨(jfr (by omega)).trans (qpI_o h 83 6 _ a (by omega)).1, rfl, rfl⟩) hM0⟩, e3⟩
    · rintro h1 ⟨hC1, hM1⟩
      have mJ1 := hM1.2.2.2.2.2.2
      have eM : jR h1 s2 = h1 := jR_of mJ1.2.2.2.2.2.2.2.2.1 mJ1.2.2.2.2.2.2.2.2.2.1 mJ1.2.2.2.2.2.2.2.2.2.2.2.2.1 mJ1.2.2.2.2.2.2.2.2.2.2.2.2.2.1 mJ1.2.2.2.2.2.2.2.2.2.2.2.2.2.2.1 mJ1.2.2.2.2.2.2.2.2.2.2.2.2.2.2.2.1
      have eK : kR h1 qn qt qa = h1 := kR_of mJ1.2.2.2.2.2.2.2.2.2.2.2.2.2.2.2.2.1 mJ1.2.2.2.2.2.2.2.2.2.2.2.2.2.2.2.2.2.1 mJ1.2.2.2.2.2.2.2.2.2.2.2.2.2.2.2.2.2.2
      have eMK : jR (kR h1 qn qt qa) s2 = h1 := by rw [eK]; exact eM
      have mJ := mJ1
      obtain ⟨n1, n2, n3, n4, n5, n6, n7, n8, n9, n10, n11, n12, n13, n14, n15, n16, n17, n18, n19⟩ := mJ
      have ky := ct_QM_tick (h := h1) hM1.1 nt hn16 n4 kt (fun t ht => (gJ.2.1 t ht).1) (fun t ht => congrFun n7 t) dn (fun t ht => congrFun n11 t) s2 tm n5 (by rw [← hon]; exact n1) (by omega) (fun t ht => by rw [← gJ.2.2.1.1]; exact hat t ht)
      rw [eM, ← t3] at ky
      refine qT.imp ?_ ky
      rintro v h2 n ⟨e1, e2, e3⟩
      have eK2 : kR (qpI h1 122 47 (tm + nI 1)) qn qt qa = qpI h1 122 47 (tm + nI 1) := kR_of n17 n18 n19
      rw [← eK2] at e2
      subst e2
      have hm1 : mJb (jR (kR (qpI h1 122 47 (tm + nI 1)) qn qt qa) (sTick dn (tm + nI 1) s2 nt).1).1 true wk nt kt pt tq dn (tm + nI 1) ig (sTick dn (tm + nI 1) s2 nt).1 qn qt qa := mJb_mk (by rw [← hon]; exact n1) n2 n3 n4 rfl n6 n7 n8 n11 n12
      exact ⟨e1, ⟨pp, ti, tn, rt, bg, kd, fi, se, le, ri, dep, EE, tr, nc, no, ok, gr, ob, dw, lm, RES, rs, wd, cn, ps, p, true, wk, nt, kt, pt, tq, dn, (tm + nI 1), ig, (sTick dn (tm + nI 1) s nt).1, Q, ud, (sTick dn (tm + nI 1) s2 nt).1, qn, qt, qa, CI_ag (h := h1) ⟨q6, q7, q8⟩ (fun a ha => rtr (jM_fr ha) (rtr (kM_fr ha) (r122 a ha))) rfl hC1, MI_j (h := h1) (fun a h1 h2 => (jk_r a h1 h2).trans (qpI_o _ 122 47 _ a (by omega)).1) (fun f hf => (jk_f f hf).trans (qI_ne (by omega))) rfl rfl hm1 hM1, gQ0, gR, ⟨gJ.1, fun t ht => ⟨(gJ.2.1 t ht).1, (gJ.2.1 t ht).2.1, by have := (tk.1 t).2; have := (gJ.2.1 t ht).2.2; omega⟩, t1, fun _ => ⟨a1, a2, a3, t2, by omega, a6, fun t ht hk => Nat.lt_of_lt_of_le (a7 t ht hk) (tk.1 t).1, fun t ht hk => Nat.lt_of_lt_of_le (a8 t ht hk) (tk.1 t).1, a9, tk.2, gQu_at (fun j => (tk.1 j).1) (gQu_up a11)⟩⟩⟩, e3⟩
