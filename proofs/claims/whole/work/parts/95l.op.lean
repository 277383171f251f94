theorem dl_c {a b c a2 b2 c2 : Nat} {H : qH} {R : Option Value → qH → Nat → Prop} (e1 : a = a2) (e2 : b = b2) (e3 : c = c2) (k : qT mi_QM_deliver 3 0 0 [.ref 122, .int (nI a2), .int (nI b2), .int (nI c2)] H NN R) : qT mi_QM_deliver 3 0 0 [.ref 122, .int (nI a), .int (nI b), .int (nI c)] H NN R := by subst e1; subst e2; subst e3; exact k
theorem sEq_strike {s s2 : sJ} {k : Nat} (h : sEq s s2) (hw : sW s = sW s2) : sEq (sStrike s k) (sStrike s2 k) := by
  obtain ⟨h1, h2, h3, h4, h5⟩ := h
  refine ⟨h1, ?_, ?_, ?_, h5⟩
  · show sCut (sMk s) k (sW s - 1) = sCut (sMk s2) k (sW s2 - 1); rw [h2, hw]
  · show sCut (sMt s) k (sW s - 1) = sCut (sMt s2) k (sW s2 - 1); rw [h3, hw]
  · show sCut (sMa s) k (sW s - 1) = sCut (sMa s2) k (sW s2 - 1); rw [h4, hw]
theorem gMs_strike {N nt k : Nat} {s : sJ} (h : gMs N nt s) (hk : k < sW s) : gMs N nt (sStrike s k) := by
  intro i hi
  have hi : i < sW s - 1 := hi
  show sCut (sMk s) k (sW s - 1) i ≤ 1 ∧ sCut (sMt s) k (sW s - 1) i < nt ∧ 0 < sAt s (sCut (sMt s) k (sW s - 1) i) ∧ sCut (sMa s) k (sW s - 1) i ≤ N
  unfold sCut
  by_cases c : k ≤ i ∧ i < sW s - 1
  · rw [if_pos c, if_pos c, if_pos c]; exact h (i + 1) (by omega)
  · rw [if_neg c, if_neg c, if_neg c]; exact h i (by omega)
theorem ready_K {N nt : Nat} {kt : Nat → Nat} {dn : Nat → Bool} {tm : Int32} {s : sJ} {n : Nat} (hm : gMs (N + 1) nt s) (hN : ∀ t, t < nt → sAt s t ≤ N) : ∀ t, t ≤ nt → gK N nt s (sReady kt dn n tm s t)
  | 0, _ => ⟨fun j => ⟨Nat.le_refl _, by show sAt s j ≤ _; omega⟩, hm⟩
  | t + 1, h => by
    have ih := ready_K (kt := kt) (dn := dn) (tm := tm) (n := n) hm hN t (by omega)
    unfold sReady
    split
    · exact gK_run ih (by omega) (sReady_at kt dn n tm s t t (Nat.le_refl _)) (hN t (by omega))
    · exact ih
theorem ready_eq {kt : Nat → Nat} {dn : Nat → Bool} {tm : Int32} {s s2 : sJ} {n : Nat} (h : sEq s s2) (hw : sW s = sW s2) : ∀ t, sEq (sReady kt dn n tm s t) (sReady kt dn n tm s2 t) ∧ sW (sReady kt dn n tm s t) = sW (sReady kt dn n tm s2 t)
  | 0 => ⟨h, hw⟩
  | t + 1 => by
    obtain ⟨i1, i2⟩ := ready_eq (kt := kt) (dn := dn) (tm := tm) (n := n) h hw t
    have hs : sReady kt dn n tm s (t + 1) = if ((decide (kt t < 2) || adn kt dn (kt t) n) && decide (sAt (sReady kt dn n tm s t) t = 0)) = true then sRun tm (sReady kt dn n tm s t) t else sReady kt dn n tm s t := rfl
    have hs2 : sReady kt dn n tm s2 (t + 1) = if ((decide (kt t < 2) || adn kt dn (kt t) n) && decide (sAt (sReady kt dn n tm s2 t) t = 0)) = true then sRun tm (sReady kt dn n tm s2 t) t else sReady kt dn n tm s2 t := rfl
    rw [hs, hs2, ← i1.1]
    split
    · exact ⟨sEq_run i1 i2, congrArg (· + 1) i2⟩
    · exact ⟨i1, i2⟩
theorem cntB_inc {f g : Nat → Bool} {i : Nat} (hf : f i = false) (hg : g i = true) (ho : ∀ j, j ≠ i → f j = g j) : ∀ n, i < n → cntB g n = cntB f n + 1
  | 0, h => absurd h (Nat.not_lt_zero _)
  | n + 1, h => by
    show (if g n = true then cntB g n + 1 else cntB g n) = (if f n = true then cntB f n + 1 else cntB f n) + 1
    by_cases e : n = i
    · subst e
      rw [if_pos hg, if_neg (by rw [hf]; decide), cntB_c n (fun k hk => (ho k (by omega)).symm)]
    · rw [ho n e, cntB_inc hf hg ho n (by omega)]
      split <;> omega
theorem ready_wb {nt : Nat} {kt : Nat → Nat} {dn : Nat → Bool} {tm : Int32} {s : sJ} (h2 : ∀ t, t < nt → kt t < 2 → 0 < sAt s t) (hw : sW s ≤ 60 + cntB (big kt s) nt) : ∀ i, i ≤ nt → sW (sReady kt dn nt tm s i) ≤ 60 + cntB (big kt (sReady kt dn nt tm s i)) nt
  | 0, _ => hw
  | i + 1, hi => by
    have ih := ready_wb (dn := dn) (tm := tm) h2 hw i (by omega)
    have ea := sReady_at kt dn nt tm s i i (Nat.le_refl _)
    have hs : sReady kt dn nt tm s (i + 1) = if ((decide (kt i < 2) || adn kt dn (kt i) nt) && decide (sAt (sReady kt dn nt tm s i) i = 0)) = true then sRun tm (sReady kt dn nt tm s i) i else sReady kt dn nt tm s i := rfl
    rw [hs]
    generalize sReady kt dn nt tm s i = A at *
    split
    · next c =>
      rw [Bool.and_eq_true] at c
      have a0 : sAt A i = 0 := of_decide_eq_true c.2
      have k2 : 2 ≤ kt i := by
        by_cases e : kt i < 2
        · have := h2 i (by omega) e; omega
        · omega
      have e : cntB (big kt (sRun tm A i)) nt = cntB (big kt A) nt + 1 := cntB_inc (i := i) (by unfold big; rw [decide_eq_false (show ¬ 0 < sAt A i by omega), Bool.and_false]) (by unfold big; rw [decide_eq_true k2, decide_eq_true (show 0 < sAt (sRun tm A i) i by show 0 < va_up (sAt A) i (sAt A i + 1) i; rw [qus]; omega)]; rfl) (fun j hj => by unfold big; rw [show sAt (sRun tm A i) j = sAt A j from qun hj]) nt (by omega)
      rw [e]
      show sW A + 1 ≤ _
      omega
    · exact ih
theorem ready_id {nt : Nat} {kt : Nat → Nat} {dn : Nat → Bool} {tm : Int32} {s : sJ} {n : Nat} (ha : ∀ t, t < nt → 0 < sAt s t) : ∀ i, i ≤ nt → sReady kt dn n tm s i = s
  | 0, _ => rfl
  | i + 1, hi => by
    have hs : sReady kt dn n tm s (i + 1) = if ((decide (kt i < 2) || adn kt dn (kt i) n) && decide (sAt (sReady kt dn n tm s i) i = 0)) = true then sRun tm (sReady kt dn n tm s i) i else sReady kt dn n tm s i := rfl
    rw [hs, ready_id ha i (by omega), decide_eq_false (show ¬ sAt s i = 0 by have := ha i (by omega); omega), Bool.and_false]
    rfl
theorem adn_4 {kt : Nat → Nat} {dn : Nat → Bool} : ∀ n, (∀ t, t < n → kt t < 4) → adn kt dn 4 n = decide (cntB (fun j => !dn j) n = 0)
  | 0, _ => rfl
  | n + 1, h => by
    show (adn kt dn 4 n && (decide (4 ≤ kt n) || dn n)) = decide ((if (!dn n) = true then cntB (fun j => !dn j) n + 1 else cntB (fun j => !dn j) n) = 0)
    rw [adn_4 n (fun t ht => h t (by omega)), decide_eq_false (show ¬ 4 ≤ kt n by have := h n (by omega); omega), Bool.false_or]
    cases dn n
    · rw [Bool.and_false, if_pos (show (!false) = true from rfl), decide_eq_false (by omega)]
    · rw [Bool.and_true, if_neg (show ¬ (!true) = true by decide)]
theorem cntB_pos {f : Nat → Bool} {i : Nat} (hf : f i = true) : ∀ n, i < n → 0 < cntB f n
  | 0, h => absurd h (Nat.not_lt_zero _)
  | n + 1, h => by
    show 0 < (if f n = true then cntB f n + 1 else cntB f n)
    by_cases e : n = i
    · subst e; rw [if_pos hf]; omega
    · have := cntB_pos hf n (by omega)
      split <;> omega
theorem cntB_0 {f : Nat → Bool} : ∀ n, cntB f n = 0 → ∀ i, i < n → f i = false
  | n, h, i, hi => by
    cases e : f i
    · rfl
    · have := cntB_pos e n hi; omega
set_option maxRecDepth 100000 in
set_option maxHeartbeats 4000000 in
theorem op_pass (k how : Int32) : OpI mi_QF_pass mi_QM_pass [.int k, .int how] := by
  intro N h hN hI
  have hI0 := hI
  obtain ⟨pp, ti, tn, rt, bg, kd, fi, se, le, ri, dep, EE, tr, nc, no, ok, gr, ob, dw, lm, RES, rs, wd, cn, ps, p, on, wk, nt, kt, pt, tq, dn, tm, ig, s, Q, ud, s2, qn, qt, qa, hC, hM, hP⟩ := hI
  obtain ⟨hS, hT, h3, hE, hX, hRs, hJ⟩ := hC
  obtain ⟨mR, mT, m1, mE, mX, mRs, mJ⟩ := hM
  obtain ⟨gQ, gR, gJ⟩ := hP
  have gQ0 := gQ
  obtain ⟨q1, q2, q3, q4, q5, q6, q7, q8, q9, q10, q11, q12, q13⟩ := gQ
  have hC0 : CI h pp ti tn rt bg kd fi se le ri dep EE tr nc no ok gr ob dw lm RES rs wd cn ps p on wk nt kt pt tq dn tm ig s Q ud := ⟨hS, hT, h3, hE, hX, hRs, hJ⟩
  have hM0 : MI h ti tn rt bg kd fi se le ri dep EE tr nc no ok gr ob dw lm RES rs wd cn ps p on wk nt kt pt tq dn tm ig s2 qn qt qa := ⟨mR, mT, m1, mE, mX, mRs, mJ⟩
  have hJ0 := hJ
  obtain ⟨j1, j2, j3, j4, j5, j6, j7, j8, j9, j10, j11, j12⟩ := hJ
  have mJ0 := mJ
  obtain ⟨n1, n2, n3, n4, n5, n6, n7, n8, n9, n10, n11, n12, n13, n14, n15, n16, n17, n18, n19⟩ := mJ
  have hn16 := gJ.1
  have eC : cJ h s = h := cJ_of (fun t ht => ⟨(j7 t ht).2.2.2.1, (j7 t ht).2.2.2.2.1⟩) j8 j9 j10 j11
  have eQ : kQ h Q = h := kQ_of j12
  have eCQ : cJ (kQ h Q) s = h := by rw [eQ]; exact eC
  have hst4 : ∀ t, t < 16 → h.1 (90 + t) 0 = nI (kt t) ∧ h.1 (90 + t) 1 = nI (pt t) ∧ h.1 (90 + t) 2 = nI (tq t) ∧ h.1 (90 + t) 5 = b2i (dn t) := fun t ht => ⟨(j7 t ht).1, (j7 t ht).2.1, (j7 t ht).2.2.1, (j7 t ht).2.2.2.2.2⟩
  cases hon : on with
  | false =>
    rw [hon] at j1 n1
    have kx := ct_QF_pass_no hS.1 hS.2.2 s false j1 k how (by rw [Bool.false_and])
    have eM : jR h s2 = h := jR_of n9 n10 n13 n14 n15 n16
    have ky := ct_QM_pass_no (h := h) s2 k how false n1 (by rw [Bool.false_and])
    rw [eC] at kx
    rw [eM] at ky
    exact op_ro (by omega) (by omega) hI0 kx ky
  | true =>
    obtain ⟨a1, a2, a3, a4, a5, a6, a7, a8, a9, a10, a11⟩ := gJ.2.2.2 hon
    have hw68 := w68 a5 a6
    have jon : h.1 83 0 = b2i true := by rw [← hon]; exact j1
    have non0 : h.1 122 37 = b2i true := by rw [← hon]; exact n1
    have eM0 : jR h s2 = h := jR_of n9 n10 n13 n14 n15 n16
    by_cases hg : decide (0 ≤ k ∧ k < nI (sW s)) = true
    · obtain ⟨i, hi, rfl⟩ := in_of (show sW s < 2 ^ 31 by omega) hg
      have hi2 : i < sW s2 := by rw [← a4]; exact hi
      obtain ⟨b1, b2, b3, b4⟩ := a10 i hi
      have ht16 : sMt s i < 16 := by omega
      have em1 : sMk s2 i = sMk s i := by rw [gJ.2.2.1.2.1]
      have em2 : sMt s2 i = sMt s i := by rw [gJ.2.2.1.2.2.1]
      have em3 : sMa s2 i = sMa s i := by rw [gJ.2.2.1.2.2.2.1]
      have hw4 : ((pt (sMt s i) + sMa s i) % wk) < 4 := by have : ((pt (sMt s i) + sMa s i) % wk) < wk := Nat.mod_lt _ (by omega); omega
      rcases q_sw2 how with rfl | rfl | rfl | hx
      · by_cases h0 : sMk s i = 0
        · have hq12 := (a11 _ hw4).2.1
          by_cases hq : qn ((pt (sMt s i) + sMa s i) % wk) = 12
          · have z := ct_Jo_deliver_full hS.2.2 Q s i hi hw68 (sMt s i) (sMa s i) rfl rfl h0 pt wk a2 a3 j2 ht16 (hst4 _ ht16).2.1 (gJ.2.1 _ b2).2.1 (by omega) (by rw [(a11 _ hw4).1]; exact hq)
            rw [eQ] at z
            have kx := ct_QF_pass_deliver2 (h := h) hS.1 hS.2.2 s jon i hi hw68 _ (fun v h1 n q => ⟨_, q.1⟩) z
            rw [eC] at kx
            refine op_mo (z := nI 0) (dy := 4) (by omega) (by omega) kx (fun h1 => CI h1 pp ti tn rt bg kd fi se le ri dep EE tr nc no ok gr ob dw lm RES rs wd cn ps p on wk nt kt pt tq dn tm ig (sStrike s i) Q ud ∧ MI h1 ti tn rt bg kd fi se le ri dep EE tr nc no ok gr ob dw lm RES rs wd cn ps p on wk nt kt pt tq dn tm ig s2 qn qt qa) ?_ ?_
            · rintro v h1 n ⟨e1, e2, e3⟩
              rw [← eQ] at e2
              subst e2
              exact ⟨e1, ⟨CI_j (h := h) ⟨q6, q7, q8⟩ (fun a ha => ⟨jfr (by omega), rfl⟩) rfl (cJb_mk j1 j2 j3 j4 j5 j6 hst4) hC0, MI_ag (h := h) (fun a ha => ⟨jfr (by omega), rfl, rfl⟩) hM0⟩, e3⟩
            · rintro h1 ⟨hC1, hM1⟩
              have mJ1 := hM1.2.2.2.2.2.2
              have eM : jR h1 s2 = h1 := jR_of mJ1.2.2.2.2.2.2.2.2.1 mJ1.2.2.2.2.2.2.2.2.2.1 mJ1.2.2.2.2.2.2.2.2.2.2.2.2.1 mJ1.2.2.2.2.2.2.2.2.2.2.2.2.2.1 mJ1.2.2.2.2.2.2.2.2.2.2.2.2.2.2.1 mJ1.2.2.2.2.2.2.2.2.2.2.2.2.2.2.2.1
              have eK : kR h1 qn qt qa = h1 := kR_of mJ1.2.2.2.2.2.2.2.2.2.2.2.2.2.2.2.2.1 mJ1.2.2.2.2.2.2.2.2.2.2.2.2.2.2.2.2.2.1 mJ1.2.2.2.2.2.2.2.2.2.2.2.2.2.2.2.2.2.2
              have eMK : jR (kR h1 qn qt qa) s2 = h1 := by rw [eK]; exact eM
              have mJ := mJ1
              obtain ⟨n1, n2, n3, n4, n5, n6, n7, n8, n9, n10, n11, n12, n13, n14, n15, n16, n17, n18, n19⟩ := mJ
              have non : h1.1 122 37 = b2i true := by rw [← hon]; exact n1
              have kd0 := ct_QM_deliver_full (h := h1) hM1.1 (sStrike s2 i) qn qt qa pt wk a2 a3 n3 (sMt s i) (sMa s i) ht16 (congrFun n8 _) (gJ.2.1 _ b2).2.1 (by omega) hq
              rw [eK] at kd0
              have ky := ct_QM_pass_deliver (h := h1) hM1.1 s2 i hi2 (by omega) non _ (fun v h1 n q => ⟨_, q.1⟩) (dl_c (em1.trans h0) em2 em3 kd0)
              rw [eM] at ky
              refine qT.imp ?_ ky
              rintro v h2 n ⟨e1, e2, e3⟩
              rw [← eK] at e2
              subst e2
              exact ⟨e1, ⟨pp, ti, tn, rt, bg, kd, fi, se, le, ri, dep, EE, tr, nc, no, ok, gr, ob, dw, lm, RES, rs, wd, cn, ps, p, on, wk, nt, kt, pt, tq, dn, tm, ig, (sStrike s i), Q, ud, (sStrike s2 i), qn, qt, qa, CI_ag (h := h1) ⟨q6, q7, q8⟩ (fun a ha => rtr (jM_fr ha) (kM_fr ha)) rfl hC1, MI_j (h := h1) jk_r jk_f rfl rfl (mJb_mk n1 n2 n3 n4 n5 n6 n7 n8 n11 n12) hM1, gQ0, gR, ⟨(gJb_up gJ).1, (gJb_up gJ).2.1, sEq_strike gJ.2.2.1 a4, fun _ => ⟨a1, a2, a3, congrArg (· - 1) a4, by show sW s - 1 ≤ 60 + cntB (big kt s) nt; omega, a6, a7, a8, a9, gMs_strike (gMs_up a10) hi, gQu_up a11⟩⟩⟩, e3⟩
          · have z := ct_Jo_deliver_run hS.2.2 Q s i hi hw68 (sMt s i) (sMa s i) rfl rfl h0 pt wk a2 a3 j2 ht16 (hst4 _ ht16).2.1 (gJ.2.1 _ b2).2.1 (by omega) (by rw [(a11 _ hw4).1]; omega)
            rw [eQ] at z
            have kx := ct_QF_pass_deliver2 (h := h) hS.1 hS.2.2 s jon i hi hw68 _ (fun v h1 n q => ⟨_, q.1⟩) z
            rw [eC] at kx
            refine op_mo (z := nI 1) (dy := 4) (by omega) (by omega) kx (fun h1 => CI h1 pp ti tn rt bg kd fi se le ri dep EE tr nc no ok gr ob dw lm RES rs wd cn ps p on wk nt kt pt tq dn tm ig (sStrike s i) (va_up Q.1 ((pt (sMt s i) + sMa s i) % wk) (va_up (Q.1 ((pt (sMt s i) + sMa s i) % wk)) (Q.2.2.2 ((pt (sMt s i) + sMa s i) % wk)) 0), va_up Q.2.1 ((pt (sMt s i) + sMa s i) % wk) (va_up (Q.2.1 ((pt (sMt s i) + sMa s i) % wk)) (Q.2.2.2 ((pt (sMt s i) + sMa s i) % wk)) (sMt s i)), va_up Q.2.2.1 ((pt (sMt s i) + sMa s i) % wk) (va_up (Q.2.2.1 ((pt (sMt s i) + sMa s i) % wk)) (Q.2.2.2 ((pt (sMt s i) + sMa s i) % wk)) (sMa s i)), va_up Q.2.2.2 ((pt (sMt s i) + sMa s i) % wk) (Q.2.2.2 ((pt (sMt s i) + sMa s i) % wk) + 1)) ud ∧ MI h1 ti tn rt bg kd fi se le ri dep EE tr nc no ok gr ob dw lm RES rs wd cn ps p on wk nt kt pt tq dn tm ig s2 qn qt qa) ?_ ?_
            · rintro v h1 n ⟨e1, e2, e3⟩
              subst e2
              exact ⟨e1, ⟨CI_j (h := h) ⟨q6, q7, q8⟩ (fun a ha => ⟨jfr (by omega), rfl⟩) rfl (cJb_mk j1 j2 j3 j4 j5 j6 hst4) hC0, MI_ag (h := h) (fun a ha => ⟨jfr (by omega), rfl, rfl⟩) hM0⟩, e3⟩
            · rintro h1 ⟨hC1, hM1⟩
              have mJ1 := hM1.2.2.2.2.2.2
              have eM : jR h1 s2 = h1 := jR_of mJ1.2.2.2.2.2.2.2.2.1 mJ1.2.2.2.2.2.2.2.2.2.1 mJ1.2.2.2.2.2.2.2.2.2.2.2.2.1 mJ1.2.2.2.2.2.2.2.2.2.2.2.2.2.1 mJ1.2.2.2.2.2.2.2.2.2.2.2.2.2.2.1 mJ1.2.2.2.2.2.2.2.2.2.2.2.2.2.2.2.1
              have eK : kR h1 qn qt qa = h1 := kR_of mJ1.2.2.2.2.2.2.2.2.2.2.2.2.2.2.2.2.1 mJ1.2.2.2.2.2.2.2.2.2.2.2.2.2.2.2.2.2.1 mJ1.2.2.2.2.2.2.2.2.2.2.2.2.2.2.2.2.2.2
              have eMK : jR (kR h1 qn qt qa) s2 = h1 := by rw [eK]; exact eM
              have mJ := mJ1
              obtain ⟨n1, n2, n3, n4, n5, n6, n7, n8, n9, n10, n11, n12, n13, n14, n15, n16, n17, n18, n19⟩ := mJ
              have non : h1.1 122 37 = b2i true := by rw [← hon]; exact n1
              have kd0 := ct_QM_deliver_run (h := h1) hM1.1 (sStrike s2 i) qn qt qa pt wk a2 a3 n3 (sMt s i) (sMa s i) ht16 (congrFun n8 _) (gJ.2.1 _ b2).2.1 (by omega) (by omega)
              rw [eK] at kd0
              have ky := ct_QM_pass_deliver (h := h1) hM1.1 s2 i hi2 (by omega) non _ (fun v h1 n q => ⟨_, q.1⟩) (dl_c (em1.trans h0) em2 em3 kd0)
              rw [eM] at ky
              refine qT.imp ?_ ky
              rintro v h2 n ⟨e1, e2, e3⟩
              subst e2
              refine ⟨e1, ⟨pp, ti, tn, rt, bg, kd, fi, se, le, ri, dep, EE, tr, nc, no, ok, gr, ob, dw, lm, RES, rs, wd, cn, ps, p, on, wk, nt, kt, pt, tq, dn, tm, ig, (sStrike s i), (va_up Q.1 ((pt (sMt s i) + sMa s i) % wk) (va_up (Q.1 ((pt (sMt s i) + sMa s i) % wk)) (Q.2.2.2 ((pt (sMt s i) + sMa s i) % wk)) 0), va_up Q.2.1 ((pt (sMt s i) + sMa s i) % wk) (va_up (Q.2.1 ((pt (sMt s i) + sMa s i) % wk)) (Q.2.2.2 ((pt (sMt s i) + sMa s i) % wk)) (sMt s i)), va_up Q.2.2.1 ((pt (sMt s i) + sMa s i) % wk) (va_up (Q.2.2.1 ((pt (sMt s i) + sMa s i) % wk)) (Q.2.2.2 ((pt (sMt s i) + sMa s i) % wk)) (sMa s i)), va_up Q.2.2.2 ((pt (sMt s i) + sMa s i) % wk) (Q.2.2.2 ((pt (sMt s i) + sMa s i) % wk) + 1)), ud, (sStrike s2 i), (va_up qn ((pt (sMt s i) + sMa s i) % wk) (qn ((pt (sMt s i) + sMa s i) % wk) + 1)), (va_up qt (12 * ((pt (sMt s i) + sMa s i) % wk) + qn ((pt (sMt s i) + sMa s i) % wk)) (sMt s i)), (va_up qa (12 * ((pt (sMt s i) + sMa s i) % wk) + qn ((pt (sMt s i) + sMa s i) % wk)) (sMa s i)), CI_ag (h := h1) ⟨q6, q7, q8⟩ (fun a ha => rtr (jM_fr ha) (kM_fr ha)) rfl hC1, MI_j (h := h1) jk_r jk_f rfl rfl (mJb_mk n1 n2 n3 n4 n5 n6 n7 n8 n11 n12) hM1, gQ0, gR, ⟨(gJb_up gJ).1, (gJb_up gJ).2.1, sEq_strike gJ.2.2.1 a4, fun _ => ⟨a1, a2, a3, congrArg (· - 1) a4, by show sW s - 1 ≤ 60 + cntB (big kt s) nt; omega, a6, a7, a8, a9, gMs_strike (gMs_up a10) hi, fun w2 hw2 => ?_⟩⟩⟩, e3⟩
              obtain ⟨x1, x2, x3⟩ := gQu_up a11 w2 hw2
              obtain ⟨y1, y2, y3⟩ := a11 _ hw4
              generalize hwv : ((pt (sMt s i) + sMa s i) % wk) = w at *
              dsimp only
              by_cases e : w2 = w
              · subst e
                rw [qus, qus, qus, qus]
                refine ⟨by rw [x1], by omega, fun j hj => ?_⟩
                rw [x1]
                by_cases ej : j = qn w2
                · subst ej; rw [qus, qus, qus, qus]; exact ⟨rfl, rfl, b2, b3, by omega⟩
                · rw [qun ej, qun ej, qun (by omega), qun (by omega)]; exact x3 j (by omega)
              · rw [qun e, qun e, qun e, qun e]
                refine ⟨x1, x2, fun j hj => ?_⟩
                rw [qun (by omega), qun (by omega)]
                exact x3 j hj
        · have hk1 : sMk s i = 1 := by omega
          cases hdt : dn (sMt s i) with
          | true =>
            have hf : h.1 (90 + sMt s i) 5 = b2i true := by rw [(hst4 _ ht16).2.2.2, hdt]
            have z := ct_Jo_deliver_ign (h := h) hS.2.2 s i hi hw68 (sMt s i) (sMa s i) rfl rfl (by omega) ht16 hf ig j5
            have kx := ct_QF_pass_deliver2 (h := h) hS.1 hS.2.2 s jon i hi hw68 _ (fun v h1 n q => ⟨_, q.1⟩) z
            rw [eC] at kx
            refine op_mo (z := nI 0) (dy := 4) (by omega) (by omega) kx (fun h1 => CI h1 pp ti tn rt bg kd fi se le ri dep EE tr nc no ok gr ob dw lm RES rs wd cn ps p on wk nt kt pt tq dn tm (ig + nI 1) (sStrike s i) Q ud ∧ MI h1 ti tn rt bg kd fi se le ri dep EE tr nc no ok gr ob dw lm RES rs wd cn ps p on wk nt kt pt tq dn tm ig s2 qn qt qa) ?_ ?_
            · rintro v h1 n ⟨e1, e2, e3⟩
              have eQ2 : kQ (qpI h 83 5 (ig + nI 1)) Q = qpI h 83 5 (ig + nI 1) := by rw [← kQ_ov (by omega), eQ]
              rw [← eQ2] at e2
              subst e2
              exact ⟨e1, ⟨CI_j (h := h) ⟨q6, q7, q8⟩ (fun a ha => ⟨(jfr (by omega)).trans (qpI_o h 83 5 _ a (by omega)).1, rfl⟩) rfl (cJb_mk j1 j2 j3 j4 rfl j6 (fun t ht => by rw [(qpI_o h 83 5 _ (90 + t) (by omega)).1]; exact hst4 t ht)) hC0, MI_ag (h := h) (fun a ha => ⟨(jfr (by omega)).trans (qpI_o h 83 5 _ a (by omega)).1, rfl, rfl⟩) hM0⟩, e3⟩
            · rintro h1 ⟨hC1, hM1⟩
              have mJ1 := hM1.2.2.2.2.2.2
              have eM : jR h1 s2 = h1 := jR_of mJ1.2.2.2.2.2.2.2.2.1 mJ1.2.2.2.2.2.2.2.2.2.1 mJ1.2.2.2.2.2.2.2.2.2.2.2.2.1 mJ1.2.2.2.2.2.2.2.2.2.2.2.2.2.1 mJ1.2.2.2.2.2.2.2.2.2.2.2.2.2.2.1 mJ1.2.2.2.2.2.2.2.2.2.2.2.2.2.2.2.1
              have eK : kR h1 qn qt qa = h1 := kR_of mJ1.2.2.2.2.2.2.2.2.2.2.2.2.2.2.2.2.1 mJ1.2.2.2.2.2.2.2.2.2.2.2.2.2.2.2.2.2.1 mJ1.2.2.2.2.2.2.2.2.2.2.2.2.2.2.2.2.2.2
              have eMK : jR (kR h1 qn qt qa) s2 = h1 := by rw [eK]; exact eM
              have mJ := mJ1
              obtain ⟨n1, n2, n3, n4, n5, n6, n7, n8, n9, n10, n11, n12, n13, n14, n15, n16, n17, n18, n19⟩ := mJ
              have non : h1.1 122 37 = b2i true := by rw [← hon]; exact n1
              have kd0 := ct_QM_deliver_ign (h := h1) hM1.1 (sStrike s2 i) (sMt s i) (sMa s i) ht16 ((congrFun n11 _).trans (congrArg b2i hdt)) ig n6
              have ky := ct_QM_pass_deliver (h := h1) hM1.1 s2 i hi2 (by omega) non _ (fun v h1 n q => ⟨_, q.1⟩) (dl_c (em1.trans hk1) em2 em3 kd0)
              rw [eM] at ky
              refine qT.imp ?_ ky
              rintro v h2 n ⟨e1, e2, e3⟩
              have eK2 : kR (qpI h1 122 48 (ig + nI 1)) qn qt qa = qpI h1 122 48 (ig + nI 1) := kR_of n17 n18 n19
              rw [← eK2] at e2
              subst e2
              have hm1 : mJb (jR (kR (qpI h1 122 48 (ig + nI 1)) qn qt qa) (sStrike s2 i)).1 on wk nt kt pt tq dn tm (ig + nI 1) (sStrike s2 i) qn qt qa := mJb_mk n1 n2 n3 n4 n5 rfl n7 n8 n11 n12
              exact ⟨e1, ⟨pp, ti, tn, rt, bg, kd, fi, se, le, ri, dep, EE, tr, nc, no, ok, gr, ob, dw, lm, RES, rs, wd, cn, ps, p, on, wk, nt, kt, pt, tq, dn, tm, (ig + nI 1), (sStrike s i), Q, ud, (sStrike s2 i), qn, qt, qa, CI_ag (h := h1) ⟨q6, q7, q8⟩ (fun a ha => rtr (jM_fr ha) (rtr (kM_fr ha) (r122 a ha))) rfl hC1, MI_j (h := h1) (fun a h1 h2 => (jk_r a h1 h2).trans (qpI_o _ 122 48 _ a (by omega)).1) (fun f hf => (jk_f f hf).trans (qI_ne (by omega))) rfl rfl hm1 hM1, gQ0, gR, ⟨(gJb_up gJ).1, (gJb_up gJ).2.1, sEq_strike gJ.2.2.1 a4, fun _ => ⟨a1, a2, a3, congrArg (· - 1) a4, by show sW s - 1 ≤ 60 + cntB (big kt s) nt; omega, a6, a7, a8, a9, gMs_strike (gMs_up a10) hi, gQu_up a11⟩⟩⟩, e3⟩
          | false =>
            have hinc := cntB_inc (f := fun j => !(va_up dn (sMt s i) true) j) (g := fun j => !dn j) (i := sMt s i) (by show (!(va_up dn (sMt s i) true) (sMt s i)) = false; rw [qus]; rfl) (by show (!dn (sMt s i)) = true; rw [hdt]; rfl) (fun j hj => by show (!(va_up dn (sMt s i) true) j) = (!dn j); rw [qun hj]) nt b2
            have hkt4 : ∀ t, t < nt → kt t < 4 := fun t ht => (gJ.2.1 t ht).1
            have ha4 := adn_4 (kt := kt) (dn := (va_up dn (sMt s i) true)) nt hkt4
            have hst5 : ∀ t, t < 16 → (qpI h (90 + sMt s i) 5 (nI 1)).1 (90 + t) 0 = nI (kt t) ∧ (qpI h (90 + sMt s i) 5 (nI 1)).1 (90 + t) 1 = nI (pt t) ∧ (qpI h (90 + sMt s i) 5 (nI 1)).1 (90 + t) 2 = nI (tq t) ∧ (qpI h (90 + sMt s i) 5 (nI 1)).1 (90 + t) 5 = b2i ((va_up dn (sMt s i) true) t) := by
              intro t ht
              by_cases e : t = sMt s i
              · subst e
                rw [qI_ne (show 0 ≠ 5 by omega), qI_ne (show 1 ≠ 5 by omega), qI_ne (show 2 ≠ 5 by omega), qI_get, qus]
                exact ⟨(hst4 _ ht).1, (hst4 _ ht).2.1, (hst4 _ ht).2.2.1, rfl⟩
              · rw [(qpI_o h (90 + sMt s i) 5 _ (90 + t) (by omega)).1, qun e]
                exact hst4 t ht
            have h83 : ∀ f, (qpI h (90 + sMt s i) 5 (nI 1)).1 83 f = h.1 83 f := fun f => congrFun (qpI_o h (90 + sMt s i) 5 _ 83 (by omega)).1 f
            have hat : ∀ t, t < nt → sAt s t < 100000 := fun t ht => by have := (gJ.2.1 t ht).2.2; omega
            have hfr : ∀ a, a < 83 ∨ 122 ≤ a → (qpI (qpI h (90 + sMt s i) 5 (nI 1)) 83 4 (nI (ud - 1))).1 a = h.1 a := fun a ha => (qpI_o _ 83 4 _ a (by omega)).1.trans (qpI_o h (90 + sMt s i) 5 _ a (by omega)).1
            have hud1 : ud = cntB (fun j => !(va_up dn (sMt s i) true) j) nt + 1 := by rw [a9]; exact hinc
            have hu16 : ud ≤ 16 := by rw [a9]; exact Nat.le_trans (cntB_le _ nt) hn16
            by_cases hu2 : 2 ≤ ud
            · have rwb := ready_wb (nt := nt) (kt := kt) (dn := (va_up dn (sMt s i) true)) (tm := tm) (s := (sStrike s i)) a7 (by show sW s - 1 ≤ 60 + cntB (big kt s) nt; omega)
              have z := ct_Jo_deliver_done (h := h) hS.2.2 nt hn16 j3 kt hkt4 (fun t ht => (hst4 t (by omega)).1) dn (fun t ht => (hst4 t (by omega)).2.2.2) s i hi hw68 (sMt s i) (sMa s i) rfl rfl (by omega) b2 hdt tm j6 ud hu16 (j4 hon) (by omega) (fun q hq => w68 (rwb q hq) a6) hat
              have kx := ct_QF_pass_deliver (h := h) hS.1 hS.2.2 s jon i hi hw68 _ (fun v h1 n q => ⟨_, q.1⟩) 4 (by omega) z
              rw [eC] at kx
              obtain ⟨re1, re2⟩ := ready_eq (kt := kt) (dn := (va_up dn (sMt s i) true)) (tm := tm) (n := nt) (sEq_strike (k := i) gJ.2.2.1 a4) (show sW (sStrike s i) = sW (sStrike s2 i) from congrArg (· - 1) a4) nt
              have rk := ready_K (N := N) (nt := nt) (kt := kt) (dn := (va_up dn (sMt s i) true)) (tm := tm) (n := nt) (gMs_strike (gMs_up a10) hi) (fun t ht => (gJ.2.1 t ht).2.2) nt (Nat.le_refl _)
              refine op_mo (z := nI 1) (dy := 4) (by omega) (by omega) kx (fun h1 => CI h1 pp ti tn rt bg kd fi se le ri dep EE tr nc no ok gr ob dw lm RES rs wd cn ps p on wk nt kt pt tq (va_up dn (sMt s i) true) tm ig (sReady kt (va_up dn (sMt s i) true) nt tm (sStrike s i) nt) Q (ud - 1) ∧ MI h1 ti tn rt bg kd fi se le ri dep EE tr nc no ok gr ob dw lm RES rs wd cn ps p on wk nt kt pt tq dn tm ig s2 qn qt qa) ?_ ?_
              · rintro v h1 n ⟨e1, e2, e3⟩
                have eQ2 : kQ (qpI (qpI h (90 + sMt s i) 5 (nI 1)) 83 4 (nI (ud - 1))) Q = (qpI (qpI h (90 + sMt s i) 5 (nI 1)) 83 4 (nI (ud - 1))) := by rw [← kQ_ov (by omega), ← kQ_ov (by omega), eQ]
                rw [← eQ2] at e2
                subst e2
                exact ⟨e1, ⟨CI_j (h := h) ⟨q6, q7, q8⟩ (fun a ha => ⟨(jfr (by omega)).trans (hfr a (by omega)), rfl⟩) rfl (cJb_mk ((qI_ne (by omega)).trans ((h83 0).trans j1)) ((qI_ne (by omega)).trans ((h83 1).trans j2)) ((qI_ne (by omega)).trans ((h83 3).trans j3)) (fun _ => qI_get) ((qI_ne (by omega)).trans ((h83 5).trans j5)) ((qI_ne (by omega)).trans ((h83 6).trans j6)) (fun t ht => by rw [(qpI_o _ 83 4 _ (90 + t) (by omega)).1]; exact hst5 t ht)) hC0, MI_ag (h := h) (fun a ha => ⟨(jfr (by omega)).trans (hfr a (by omega)), rfl, rfl⟩) hM0⟩, e3⟩
              · rintro h1 ⟨hC1, hM1⟩
                have mJ1 := hM1.2.2.2.2.2.2
                have eM : jR h1 s2 = h1 := jR_of mJ1.2.2.2.2.2.2.2.2.1 mJ1.2.2.2.2.2.2.2.2.2.1 mJ1.2.2.2.2.2.2.2.2.2.2.2.2.1 mJ1.2.2.2.2.2.2.2.2.2.2.2.2.2.1 mJ1.2.2.2.2.2.2.2.2.2.2.2.2.2.2.1 mJ1.2.2.2.2.2.2.2.2.2.2.2.2.2.2.2.1
                have eK : kR h1 qn qt qa = h1 := kR_of mJ1.2.2.2.2.2.2.2.2.2.2.2.2.2.2.2.2.1 mJ1.2.2.2.2.2.2.2.2.2.2.2.2.2.2.2.2.2.1 mJ1.2.2.2.2.2.2.2.2.2.2.2.2.2.2.2.2.2.2
                have eMK : jR (kR h1 qn qt qa) s2 = h1 := by rw [eK]; exact eM
                have mJ := mJ1
                obtain ⟨n1, n2, n3, n4, n5, n6, n7, n8, n9, n10, n11, n12, n13, n14, n15, n16, n17, n18, n19⟩ := mJ
                have non : h1.1 122 37 = b2i true := by rw [← hon]; exact n1
                have kd0 := ct_QM_deliver_done (h := h1) hM1.1 nt hn16 n4 kt hkt4 (fun t ht => congrFun n7 t) dn (fun t ht => congrFun n11 t) (sStrike s2 i) tm n5 (by show sW s2 - 1 ≤ 80; omega) (fun t ht => by show sAt s2 t < 100000; rw [← gJ.2.2.1.1]; exact hat t ht) (sMt s i) (sMa s i) b2 hdt
                have ky := ct_QM_pass_deliver (h := h1) hM1.1 s2 i hi2 (by omega) non _ (fun v h1 n q => ⟨_, q.1⟩) (dl_c (em1.trans hk1) em2 em3 kd0)
                rw [eM] at ky
                refine qT.imp ?_ ky
                rintro v h2 n ⟨e1, e2, e3⟩
                have eK2 : kR (qpI (qpI h1 144 (sMt s i) (nI 1)) 122 37 (b2i (!adn kt (va_up dn (sMt s i) true) 4 nt))) qn qt qa = (qpI (qpI h1 144 (sMt s i) (nI 1)) 122 37 (b2i (!adn kt (va_up dn (sMt s i) true) 4 nt))) := kR_of n17 n18 n19
                rw [← eK2] at e2
                have h144 : (qpI (qpI h1 144 (sMt s i) (nI 1)) 122 37 (b2i (!adn kt (va_up dn (sMt s i) true) 4 nt))).1 144 = iB (va_up dn (sMt s i) true) := by
                  show va_up (h1.1 144) (sMt s i) (nI 1) = iB (va_up dn (sMt s i) true)
                  rw [n11]
                  exact iB_up (v := true)
                have hm1 : mJb (jR (kR (qpI (qpI h1 144 (sMt s i) (nI 1)) 122 37 (b2i (!adn kt (va_up dn (sMt s i) true) 4 nt))) qn qt qa) (sReady kt (va_up dn (sMt s i) true) nt tm (sStrike s2 i) nt)).1 on wk nt kt pt tq (va_up dn (sMt s i) true) tm ig (sReady kt (va_up dn (sMt s i) true) nt tm (sStrike s2 i) nt) qn qt qa := mJb_mk (by show b2i (!adn kt (va_up dn (sMt s i) true) 4 nt) = b2i on; rw [ha4, decide_eq_false (by omega), hon]; rfl) n2 n3 n4 n5 n6 n7 n8 h144 n12
                subst e2
                exact ⟨e1, ⟨pp, ti, tn, rt, bg, kd, fi, se, le, ri, dep, EE, tr, nc, no, ok, gr, ob, dw, lm, RES, rs, wd, cn, ps, p, on, wk, nt, kt, pt, tq, (va_up dn (sMt s i) true), tm, ig, (sReady kt (va_up dn (sMt s i) true) nt tm (sStrike s i) nt), Q, (ud - 1), (sReady kt (va_up dn (sMt s i) true) nt tm (sStrike s2 i) nt), qn, qt, qa, CI_ag (h := h1) ⟨q6, q7, q8⟩ (fun a ha => rtr (jM_fr ha) (rtr (kM_fr ha) (rtr (r122 a ha) (qo (by omega))))) rfl hC1, MI_j (h := h1) (fun a h1 h2 => (jk_r a h1 h2).trans ((qpI_o _ 122 37 _ a (by omega)).1.trans (qpI_o _ 144 _ _ a (by omega)).1)) (fun f hf => (jk_f f hf).trans ((qI_ne (by omega)).trans (congrFun (qpI_o _ 144 _ _ 122 (by omega)).1 f))) rfl rfl hm1 hM1, gQ0, gR, ⟨gJ.1, fun t ht => ⟨(gJ.2.1 t ht).1, (gJ.2.1 t ht).2.1, by have := (rk.1 t).2; have := (gJ.2.1 t ht).2.2; have e : sAt (sStrike s i) t = sAt s t := rfl; omega⟩, re1, fun _ => ⟨a1, a2, a3, re2, rwb nt (Nat.le_refl _), a6, fun t ht hk => Nat.lt_of_lt_of_le (a7 t ht hk) (rk.1 t).1, fun t ht hd => (by
                  refine Nat.lt_of_lt_of_le (show 0 < sAt s t from ?_) (rk.1 t).1
                  by_cases e : t = sMt s i
                  · rw [e]; exact b3
                  · rw [qun e] at hd; exact a8 t ht hd), by omega, rk.2, gQu_at (fun j => (rk.1 j).1) (gQu_up a11)⟩⟩⟩, e3⟩
            · have hfd : h.1 (90 + sMt s i) 5 = b2i false := by rw [(hst4 _ ht16).2.2.2, hdt]
              have z := ct_Jo_deliver_last (h := h) hS.2.2 Q s i hi hw68 (sMt s i) (sMa s i) rfl rfl (by omega) ht16 hfd ud hu16 (j4 hon) (by omega)
              rw [eQ] at z
              have kx := ct_QF_pass_deliver (h := h) hS.1 hS.2.2 s jon i hi hw68 _ (fun v h1 n q => ⟨_, q.1⟩) 4 (by omega) z
              rw [eC] at kx
              have hall : ∀ t, t < nt → 0 < sAt (sStrike s2 i) t := by
                intro t ht
                show 0 < sAt s2 t
                rw [← gJ.2.2.1.1]
                by_cases e : t = sMt s i
                · rw [e]; exact b3
                · have hz := cntB_0 nt (show cntB (fun j => !(va_up dn (sMt s i) true) j) nt = 0 by omega) t ht
                  have hz : (!(va_up dn (sMt s i) true) t) = false := hz
                  rw [qun e] at hz
                  exact a8 t ht (by cases w : dn t <;> rw [w] at hz <;> first | rfl | cases hz)
              refine op_mo (z := nI 1) (dy := 4) (by omega) (by omega) kx (fun h1 => CI h1 pp ti tn rt bg kd fi se le ri dep EE tr nc no ok gr ob dw lm RES rs wd cn ps p false wk nt kt pt tq (va_up dn (sMt s i) true) tm ig ((sAt (sStrike s i), sSa (sStrike s i), sMk (sStrike s i), sMt (sStrike s i), sMa (sStrike s i), 0) : sJ) (Q.1, Q.2.1, Q.2.2.1, (va_up (va_up (va_up (va_up Q.2.2.2 0 0) 1 0) 2 0) 3 0)) (ud - 1) ∧ MI h1 ti tn rt bg kd fi se le ri dep EE tr nc no ok gr ob dw lm RES rs wd cn ps p on wk nt kt pt tq dn tm ig s2 qn qt qa) ?_ ?_
              · rintro v h1 n ⟨e1, e2, e3⟩
                subst e2
                have hfr3 : ∀ a, a < 83 ∨ 122 ≤ a → (qpI (qpI (qpI h (90 + sMt s i) 5 (nI 1)) 83 4 (nI (ud - 1))) 83 0 (nI 0)).1 a = h.1 a := fun a ha => (qpI_o _ 83 0 _ a (by omega)).1.trans (hfr a ha)
                have h83b : ∀ f, f ≠ 0 → f ≠ 4 → (qpI (qpI (qpI h (90 + sMt s i) 5 (nI 1)) 83 4 (nI (ud - 1))) 83 0 (nI 0)).1 83 f = h.1 83 f := fun f f0 f4 => (qI_ne f0).trans ((qI_ne f4).trans (h83 f))
                exact ⟨e1, ⟨CI_j (h := h) ⟨q6, q7, q8⟩ (fun a ha => ⟨(jfr (by omega)).trans (hfr3 a (by omega)), rfl⟩) rfl (cJb_mk qI_get ((h83b 1 (by omega) (by omega)).trans j2) ((h83b 3 (by omega) (by omega)).trans j3) (fun e => by cases e) ((h83b 5 (by omega) (by omega)).trans j5) ((h83b 6 (by omega) (by omega)).trans j6) (fun t ht => by rw [(qpI_o _ 83 0 _ (90 + t) (by omega)).1, (qpI_o _ 83 4 _ (90 + t) (by omega)).1]; exact hst5 t ht)) hC0, MI_ag (h := h) (fun a ha => ⟨(jfr (by omega)).trans (hfr3 a (by omega)), rfl, rfl⟩) hM0⟩, e3⟩
              · rintro h1 ⟨hC1, hM1⟩
                have mJ1 := hM1.2.2.2.2.2.2
                have eM : jR h1 s2 = h1 := jR_of mJ1.2.2.2.2.2.2.2.2.1 mJ1.2.2.2.2.2.2.2.2.2.1 mJ1.2.2.2.2.2.2.2.2.2.2.2.2.1 mJ1.2.2.2.2.2.2.2.2.2.2.2.2.2.1 mJ1.2.2.2.2.2.2.2.2.2.2.2.2.2.2.1 mJ1.2.2.2.2.2.2.2.2.2.2.2.2.2.2.2.1
                have eK : kR h1 qn qt qa = h1 := kR_of mJ1.2.2.2.2.2.2.2.2.2.2.2.2.2.2.2.2.1 mJ1.2.2.2.2.2.2.2.2.2.2.2.2.2.2.2.2.2.1 mJ1.2.2.2.2.2.2.2.2.2.2.2.2.2.2.2.2.2.2
                have eMK : jR (kR h1 qn qt qa) s2 = h1 := by rw [eK]; exact eM
                have mJ := mJ1
                obtain ⟨n1, n2, n3, n4, n5, n6, n7, n8, n9, n10, n11, n12, n13, n14, n15, n16, n17, n18, n19⟩ := mJ
                have non : h1.1 122 37 = b2i true := by rw [← hon]; exact n1
                have kd0 := ct_QM_deliver_done (h := h1) hM1.1 nt hn16 n4 kt hkt4 (fun t ht => congrFun n7 t) dn (fun t ht => congrFun n11 t) (sStrike s2 i) tm n5 (by show sW s2 - 1 ≤ 80; omega) (fun t ht => by show sAt s2 t < 100000; rw [← gJ.2.2.1.1]; exact hat t ht) (sMt s i) (sMa s i) b2 hdt
                have ky := ct_QM_pass_deliver (h := h1) hM1.1 s2 i hi2 (by omega) non _ (fun v h1 n q => ⟨_, q.1⟩) (dl_c (em1.trans hk1) em2 em3 kd0)
                rw [eM] at ky
                refine qT.imp ?_ ky
                rintro v h2 n ⟨e1, e2, e3⟩
                have eK2 : kR (qpI (qpI h1 144 (sMt s i) (nI 1)) 122 37 (b2i (!adn kt (va_up dn (sMt s i) true) 4 nt))) qn qt qa = (qpI (qpI h1 144 (sMt s i) (nI 1)) 122 37 (b2i (!adn kt (va_up dn (sMt s i) true) 4 nt))) := kR_of n17 n18 n19
                rw [← eK2] at e2
                have h144 : (qpI (qpI h1 144 (sMt s i) (nI 1)) 122 37 (b2i (!adn kt (va_up dn (sMt s i) true) 4 nt))).1 144 = iB (va_up dn (sMt s i) true) := by
                  show va_up (h1.1 144) (sMt s i) (nI 1) = iB (va_up dn (sMt s i) true)
                  rw [n11]
                  exact iB_up (v := true)
                rw [ready_id hall nt (Nat.le_refl _)] at e2
                have hm1 : mJb (jR (kR (qpI (qpI h1 144 (sMt s i) (nI 1)) 122 37 (b2i (!adn kt (va_up dn (sMt s i) true) 4 nt))) qn qt qa) (sStrike s2 i)).1 false wk nt kt pt tq (va_up dn (sMt s i) true) tm ig (sStrike s2 i) qn qt qa := mJb_mk (by show b2i (!adn kt (va_up dn (sMt s i) true) 4 nt) = b2i false; rw [ha4, decide_eq_true (by omega)]; rfl) n2 n3 n4 n5 n6 n7 n8 h144 n12
                subst e2
                exact ⟨e1, ⟨pp, ti, tn, rt, bg, kd, fi, se, le, ri, dep, EE, tr, nc, no, ok, gr, ob, dw, lm, RES, rs, wd, cn, ps, p, false, wk, nt, kt, pt, tq, (va_up dn (sMt s i) true), tm, ig, ((sAt (sStrike s i), sSa (sStrike s i), sMk (sStrike s i), sMt (sStrike s i), sMa (sStrike s i), 0) : sJ), (Q.1, Q.2.1, Q.2.2.1, (va_up (va_up (va_up (va_up Q.2.2.2 0 0) 1 0) 2 0) 3 0)), (ud - 1), (sStrike s2 i), qn, qt, qa, CI_ag (h := h1) ⟨q6, q7, q8⟩ (fun a ha => rtr (jM_fr ha) (rtr (kM_fr ha) (rtr (r122 a ha) (qo (by omega))))) rfl hC1, MI_j (h := h1) (fun a h1 h2 => (jk_r a h1 h2).trans ((qpI_o _ 122 37 _ a (by omega)).1.trans (qpI_o _ 144 _ _ a (by omega)).1)) (fun f hf => (jk_f f hf).trans ((qI_ne (by omega)).trans (congrFun (qpI_o _ 144 _ _ 122 (by omega)).1 f))) rfl rfl hm1 hM1, gQ0, gR, ⟨(gJb_up gJ).1, (gJb_up gJ).2.1, sEq_strike gJ.2.2.1 a4, fun e => by cases e⟩⟩, e3⟩
      · have kx := ct_QF_pass_lose hS.1 hS.2.2 s jon i hi hw68
        rw [eC] at kx
        refine op_mo (z := nI 1) (dy := 1) (by omega) (by omega) kx (fun h1 => CI h1 pp ti tn rt bg kd fi se le ri dep EE tr nc no ok gr ob dw lm RES rs wd cn ps p on wk nt kt pt tq dn tm ig (sStrike s i) Q ud ∧ MI h1 ti tn rt bg kd fi se le ri dep EE tr nc no ok gr ob dw lm RES rs wd cn ps p on wk nt kt pt tq dn tm ig s2 qn qt qa) ?_ ?_
        · rintro v h1 n ⟨e1, e2, e3⟩
          rw [← eQ] at e2
          subst e2
          exact ⟨e1, ⟨CI_j (h := h) ⟨q6, q7, q8⟩ (fun a ha => ⟨jfr (by omega), rfl⟩) rfl (cJb_mk j1 j2 j3 j4 j5 j6 hst4) hC0, MI_ag (h := h) (fun a ha => ⟨jfr (by omega), rfl, rfl⟩) hM0⟩, e3⟩
        · rintro h1 ⟨hC1, hM1⟩
          have mJ1 := hM1.2.2.2.2.2.2
          have eM : jR h1 s2 = h1 := jR_of mJ1.2.2.2.2.2.2.2.2.1 mJ1.2.2.2.2.2.2.2.2.2.1 mJ1.2.2.2.2.2.2.2.2.2.2.2.2.1 mJ1.2.2.2.2.2.2.2.2.2.2.2.2.2.1 mJ1.2.2.2.2.2.2.2.2.2.2.2.2.2.2.1 mJ1.2.2.2.2.2.2.2.2.2.2.2.2.2.2.2.1
          have eK : kR h1 qn qt qa = h1 := kR_of mJ1.2.2.2.2.2.2.2.2.2.2.2.2.2.2.2.2.1 mJ1.2.2.2.2.2.2.2.2.2.2.2.2.2.2.2.2.2.1 mJ1.2.2.2.2.2.2.2.2.2.2.2.2.2.2.2.2.2.2
          have eMK : jR (kR h1 qn qt qa) s2 = h1 := by rw [eK]; exact eM
          have mJ := mJ1
          obtain ⟨n1, n2, n3, n4, n5, n6, n7, n8, n9, n10, n11, n12, n13, n14, n15, n16, n17, n18, n19⟩ := mJ
          have non : h1.1 122 37 = b2i true := by rw [← hon]; exact n1
          have ky := ct_QM_pass_lose (h := h1) hM1.1 s2 i hi2 (by omega) non
          rw [eM] at ky
          refine qT.imp ?_ ky
          rintro v h2 n ⟨e1, e2, e3⟩
          rw [← eK] at e2
          subst e2
          exact ⟨e1, ⟨pp, ti, tn, rt, bg, kd, fi, se, le, ri, dep, EE, tr, nc, no, ok, gr, ob, dw, lm, RES, rs, wd, cn, ps, p, on, wk, nt, kt, pt, tq, dn, tm, ig, (sStrike s i), Q, ud, (sStrike s2 i), qn, qt, qa, CI_ag (h := h1) ⟨q6, q7, q8⟩ (fun a ha => rtr (jM_fr ha) (kM_fr ha)) rfl hC1, MI_j (h := h1) jk_r jk_f rfl rfl (mJb_mk n1 n2 n3 n4 n5 n6 n7 n8 n11 n12) hM1, gQ0, gR, ⟨(gJb_up gJ).1, (gJb_up gJ).2.1, sEq_strike gJ.2.2.1 a4, fun _ => ⟨a1, a2, a3, congrArg (· - 1) a4, by show sW s - 1 ≤ 60 + cntB (big kt s) nt; omega, a6, a7, a8, a9, gMs_strike (gMs_up a10) hi, gQu_up a11⟩⟩⟩, e3⟩
      · by_cases h60 : 60 ≤ sW s
        · have kx := ct_QF_pass_full hS.1 hS.2.2 s jon i hi hw68 h60
          have ky := ct_QM_pass_full (h := h) mR s2 i hi2 (by omega) non0 (by omega)
          rw [eC] at kx
          rw [eM0] at ky
          exact op_ro (by omega) (by omega) hI0 kx ky
        · have kx := ct_QF_pass_again hS.1 hS.2.2 s jon i hi hw68 (by omega)
          rw [eC] at kx
          refine op_mo (z := nI 1) (dy := 1) (by omega) (by omega) kx (fun h1 => CI h1 pp ti tn rt bg kd fi se le ri dep EE tr nc no ok gr ob dw lm RES rs wd cn ps p on wk nt kt pt tq dn tm ig (sSend s (sMk s i) (sMt s i) (sMa s i)) Q ud ∧ MI h1 ti tn rt bg kd fi se le ri dep EE tr nc no ok gr ob dw lm RES rs wd cn ps p on wk nt kt pt tq dn tm ig s2 qn qt qa) ?_ ?_
          · rintro v h1 n ⟨e1, e2, e3⟩
            rw [← eQ] at e2
            subst e2
            exact ⟨e1, ⟨CI_j (h := h) ⟨q6, q7, q8⟩ (fun a ha => ⟨jfr (by omega), rfl⟩) rfl (cJb_mk j1 j2 j3 j4 j5 j6 hst4) hC0, MI_ag (h := h) (fun a ha => ⟨jfr (by omega), rfl, rfl⟩) hM0⟩, e3⟩
          · rintro h1 ⟨hC1, hM1⟩
            have mJ1 := hM1.2.2.2.2.2.2
            have eM : jR h1 s2 = h1 := jR_of mJ1.2.2.2.2.2.2.2.2.1 mJ1.2.2.2.2.2.2.2.2.2.1 mJ1.2.2.2.2.2.2.2.2.2.2.2.2.1 mJ1.2.2.2.2.2.2.2.2.2.2.2.2.2.1 mJ1.2.2.2.2.2.2.2.2.2.2.2.2.2.2.1 mJ1.2.2.2.2.2.2.2.2.2.2.2.2.2.2.2.1
            have eK : kR h1 qn qt qa = h1 := kR_of mJ1.2.2.2.2.2.2.2.2.2.2.2.2.2.2.2.2.1 mJ1.2.2.2.2.2.2.2.2.2.2.2.2.2.2.2.2.2.1 mJ1.2.2.2.2.2.2.2.2.2.2.2.2.2.2.2.2.2.2
            have eMK : jR (kR h1 qn qt qa) s2 = h1 := by rw [eK]; exact eM
            have mJ := mJ1
            obtain ⟨n1, n2, n3, n4, n5, n6, n7, n8, n9, n10, n11, n12, n13, n14, n15, n16, n17, n18, n19⟩ := mJ
            have non : h1.1 122 37 = b2i true := by rw [← hon]; exact n1
            have ky := ct_QM_pass_again (h := h1) hM1.1 s2 i hi2 (by omega) non (by omega)
            rw [eM] at ky
            refine qT.imp ?_ ky
            rintro v h2 n ⟨e1, e2, e3⟩
            rw [← eK] at e2
            subst e2
            exact ⟨e1, ⟨pp, ti, tn, rt, bg, kd, fi, se, le, ri, dep, EE, tr, nc, no, ok, gr, ob, dw, lm, RES, rs, wd, cn, ps, p, on, wk, nt, kt, pt, tq, dn, tm, ig, (sSend s (sMk s i) (sMt s i) (sMa s i)), Q, ud, (sSend s2 (sMk s2 i) (sMt s2 i) (sMa s2 i)), qn, qt, qa, CI_ag (h := h1) ⟨q6, q7, q8⟩ (fun a ha => rtr (jM_fr ha) (kM_fr ha)) rfl hC1, MI_j (h := h1) jk_r jk_f rfl rfl (mJb_mk n1 n2 n3 n4 n5 n6 n7 n8 n11 n12) hM1, gQ0, gR, ⟨(gJb_up gJ).1, (gJb_up gJ).2.1, by rw [em1, em2, em3]; exact sEq_send gJ.2.2.1 a4, fun _ => ⟨a1, a2, a3, congrArg (· + 1) a4, by show sW s + 1 ≤ 60 + cntB (big kt s) nt; omega, a6, a7, a8, a9, gMs_send (gMs_up a10) b1 b2 b3 (by omega), gQu_up a11⟩⟩⟩, e3⟩
      · have kx := ct_QF_pass_out hS.1 hS.2.2 s jon i hi hw68 how hx
        have ky := ct_QM_pass_no (h := h) s2 (nI i) how true non0 (by
          rw [← in_3, decide_eq_false (p := 0 ≤ how ∧ how < nI 3) (fun q => ?_), Bool.and_false, Bool.and_false]
          have r1 := q.1
          have r2 := q.2
          rw [Int32.le_iff_toInt_le, show (0 : Int32).toInt = 0 from rfl] at r1
          rw [Int32.lt_iff_toInt_lt, nn_toInt (by omega)] at r2
          omega)
        rw [eC] at kx
        rw [eM0] at ky
        exact op_ro (by omega) (by omega) hI0 kx ky
    · have kx := ct_QF_pass_no hS.1 hS.2.2 s true jon k how (by rw [bf hg, Bool.and_false])
      have ky := ct_QM_pass_no (h := h) s2 k how true non0 (by rw [← a4, ← in_z (show sW s < 2 ^ 31 by omega), bf hg, Bool.false_and, Bool.and_false])
      rw [eC] at kx
      rw [eM0] at ky
      exact op_ro (by omega) (by omega) hI0 kx ky
