theorem tAll_a {k : Nat} {q : Nat → Nat} {s : sT} : ∀ w t, tN s + w ≤ t → tA (tAll k q s w) t = tA s t
  | 0, t, _ => rfl
  | w + 1, t, h => by
    have en := tAll_n k q s w
    show va_up (tA (tAll k q s w)) (tN (tAll k q s w)) 0 t = _
    rw [qun (by omega)]
    exact tAll_a w t (by omega)
theorem tP3_a {fm kd wc : Nat} {q0 q1 q2 q3 : Nat → Nat} {s : sT} (h0 : tN s = 0) (t : Nat) (ht : tN (tP3 fm kd wc q0 q1 q2 q3 s) ≤ t) : tA (tP3 fm kd wc q0 q1 q2 q3 s) t = tA s t := by
  rw [tP3_N h0] at ht
  have n0 := tAll_n 0 q0 s wc
  have n1 := tAll_n 1 q1 (tAll 0 q0 s wc) wc
  have nq2 := tAll_n 2 q2 (tAll 1 q1 (tAll 0 q0 s wc) wc) wc
  have e2 : tA (tP2 kd wc q0 q1 q2 s) t = tA s t := by
    unfold tP2
    by_cases ek : kd = 0
    · rw [if_pos ek] at ht
      rw [if_pos ek]
      exact tAll_a wc t (by omega)
    · rw [if_neg ek] at ht
      rw [if_neg ek, tAll_a wc t (by omega), tAll_a wc t (by omega), tAll_a wc t (by omega)]
  have e3 := tP2_n (kd := kd) (wc := wc) (q0 := q0) (q1 := q1) (q2 := q2) h0
  unfold tP3
  by_cases ef : fm = 1
  · rw [if_pos ef] at ht
    rw [if_pos ef, tAll_a wc t (by rw [e3]; exact ht)]
    exact e2
  · rw [if_neg ef]
    exact e2
theorem gMs_m {a b nt : Nat} {s : sJ} (hab : a ≤ b) (h : gMs a nt s) : gMs b nt s := fun i hi => by
  obtain ⟨x1, x2, x3, x4⟩ := h i hi
  exact ⟨x1, x2, x3, by omega⟩
theorem up4_0 {f : Nat → Nat} : ∀ w, w < 4 → (va_up (va_up (va_up (va_up f 0 0) 1 0) 2 0) 3 0) w = 0 := by
  intro w hw
  have e : w = 0 ∨ w = 1 ∨ w = 2 ∨ w = 3 := by omega
  rcases e with rfl | rfl | rfl | rfl <;> rfl
set_option maxRecDepth 100000 in
set_option maxHeartbeats 4000000 in
theorem op_start (w m : Int32) : OpI mi_QF_start mi_QM_start [.int w, .int m] := by
  intro N h hN hI
  have hI0 := hI
  obtain ⟨pp, ti, tn, rt, bg, kd, fi, se, le, ri, dep, EE, tr, nc, no, ok, gr, ob, dw, lm, RES, rs, wd, cn, ps, p, on, wk, nt, kt, pt, tq, dn, tm, ig, s, Q, ud, s2, qn, qt, qa, hC, hM, hP⟩ := hI
  obtain ⟨hS, hT, h3, hE, hX, hRs, hJ⟩ := hC
  obtain ⟨mR, mT, m1, mE, mX, mRs, mJ⟩ := hM
  obtain ⟨gQ, gR, gJ⟩ := hP
  have gQ0 := gQ
  obtain ⟨q1, q2, q3, q4, q5, q6, q7, q8, q9, q10, q11, q12, q13⟩ := gQ
  have hC0 : CI h pp ti tn rt bg kd fi se le ri dep EE tr nc no ok gr ob dw lm RES rs wd cn ps p on wk nt kt pt tq dn tm ig s Q ud := ⟨hS, hT, h3, hE, hX, hRs, hJ⟩
  have hM0 : MI h ti tn rt bg kd fi se le ri dep EE tr nc no ok gr ob dw lm RES rs wd cn ps p on wk nt kt pt tq dn tm ig s2 qn qt qa := ⟨mR, mT, m1, mE, mX, mRs, mJ⟩
  have hl1 : ∀ i, i < dep → (EE i).length ≤ 24 := fun i hi => (hE.2.1 i hi).1.1
  have hl2 : ∀ c, c < nc → (EE (8 + c)).length ≤ 24 := fun c hc => (hE.2.2.1 c hc).1.1
  have hl3 : ∀ o, o < no → (EE (14 + o)).length ≤ 24 := fun o ho => by obtain ⟨t, ht⟩ := (hE.2.2.2 o ho).2; exact ht.1.1
  have hJ0 := hJ
  obtain ⟨j1, j2, j3, j4, j5, j6, j7, j8, j9, j10, j11, j12⟩ := hJ
  have mJ0 := mJ
  obtain ⟨n1, n2, n3, n4, n5, n6, n7, n8, n9, n10, n11, n12, n13, n14, n15, n16, n17, n18, n19⟩ := mJ
  have hn16 := gJ.1
  have eC : cJ h s = h := cJ_of (fun t ht => ⟨(j7 t ht).2.2.2.1, (j7 t ht).2.2.2.2.1⟩) j8 j9 j10 j11
  have eQ : kQ h Q = h := kQ_of j12
  have eCQ : cJ (kQ h Q) s = h := by rw [eQ]; exact eC
  have hst4 : ∀ t, t < 16 → h.1 (90 + t) 0 = nI (kt t) ∧ h.1 (90 + t) 1 = nI (pt t) ∧ h.1 (90 + t) 2 = nI (tq t) ∧ h.1 (90 + t) 5 = b2i (dn t) := fun t ht => ⟨(j7 t ht).1, (j7 t ht).2.1, (j7 t ht).2.2.1, (j7 t ht).2.2.2.2.2⟩
  have hC1 : plC h ti tn rt kd fi se le ri nc (fun c => EE (8 + c)) (fun c => pp (8 + c)) := ⟨hS.2.1, hT, ⟨h3.2.1, q1, h3.2.2.1, q2, h3.2.2.2.1, q3, h3.2.2.2.2.1, q4, h3.2.2.2.2.2.1, q5⟩, h3.2.2.2.2.2.2.2.1, q7, fun c hc => ⟨hE.1.2.2.2.1 c (by omega), hE.1.1 (8 + c) (by omega), (hE.2.2.1 c hc).1, q12 c hc, (hE.2.2.1 c hc).2.2⟩⟩
  have hO1 : plO h gr no (fun o => EE (14 + o)) ok (fun o => pp (14 + o)) := ⟨q10, h3.2.2.2.2.2.2.2.2.2.1, q8, h3.2.2.2.2.2.2.2.2.1, fun o ho => by
    obtain ⟨x1, t, x2⟩ := hE.2.2.2 o ho
    obtain ⟨y1, y2, y3⟩ := q13 o ho
    refine ⟨hE.1.2.2.2.2.1 o (by omega), hE.1.1 (14 + o) (by omega), x1, y1, x2.1, ?_⟩
    by_cases e : ok o = 1
    · exact ⟨[], (by show xT 8 [] (EE (14 + o)) = _; rw [y3 e]; rfl), fun z => absurd e z⟩
    · exact ⟨[false], y2 e, fun _ => rfl⟩⟩
  have hok6 : ∀ o, o < no → h.1 58 o = nI (ok o) ∧ ok o < 6 := fun o ho => ⟨(hE.2.2.2 o ho).1, (q13 o ho).1⟩
  have hfw := form_w (okr := h.1 130) (ok := ok) (no := no) (gr := gr) q10 (fun o ho => ⟨(mE.2.2 o ho).1, (q13 o ho).1⟩)
  have hge : ((bg && !on) && (decide (0 ≤ rform (h.1 130) no (h.1 122 9)) && (decide (dep = 0) && (decide (nI 1 ≤ w ∧ w ≤ nI 4) && decide (nI 3 ≤ m ∧ m ≤ nI 8))))) = ((bg && !on) && (decide (dep = 0) && (cWh gr ok no && (decide (nI 1 ≤ w ∧ w ≤ nI 4) && decide (nI 3 ≤ m ∧ m ≤ nI 8))))) := by
    cases hb : bg with
    | false => rw [Bool.false_and, Bool.false_and, Bool.false_and]
    | true =>
      rw [(m1.2.2.2.2.1 hb).1]
      have e : decide (0 ≤ rform (h.1 130) no (grI gr)) = cWh gr ok no := by
        cases hw : cWh gr ok no
        · rw [hfw.2 hw]; decide
        · rw [hfw.1 hw]
          have f2 := fm_2 (gr := gr) (ok := ok) (no := no)
          have f3 : qfm gr ok no = 0 ∨ qfm gr ok no = 1 := by omega
          rcases f3 with f3 | f3 <;> rw [f3] <;> decide
      rw [e, Bool.and_left_comm (cWh gr ok no)]
  by_cases hg : ((bg && !on) && (decide (dep = 0) && (cWh gr ok no && (decide (nI 1 ≤ w ∧ w ≤ nI 4) && decide (nI 3 ≤ m ∧ m ≤ nI 8))))) = true
  · obtain ⟨g1, hg⟩ := Bool.and_eq_true_iff.mp hg
    obtain ⟨g2, hg⟩ := Bool.and_eq_true_iff.mp hg
    obtain ⟨g3, hg⟩ := Bool.and_eq_true_iff.mp hg
    obtain ⟨g4, g5⟩ := Bool.and_eq_true_iff.mp hg
    have b1 : bg = true := by cases bg <;> first | rfl | cases g1
    have e1 : on = false := by cases on <;> first | rfl | (rw [b1] at g1; cases g1)
    have hb : h.1 3 0 = b2i true := by rw [← b1]; exact h3.1
    have ho : h.1 83 0 = b2i false := by rw [← e1]; exact hJ0.1
    have d0 : dep = 0 := of_decide_eq_true g2
    obtain ⟨wc, w1, w2, rfl⟩ := win_of (by omega) (by omega) g4
    obtain ⟨mm, mm1, mm2, rfl⟩ := win_of (by omega) (by omega) g5
    obtain ⟨cb0, ns0, st0, gb0, go0, gn0, s61, s63, s65, s66, s16, s69, s67, s110⟩ := hX
    obtain ⟨⟨vb0, v81⟩, v82, v4, v5, v6, v7⟩ := hRs
    obtain ⟨nq2, hn2⟩ : ∃ nq2, nq2 = if kd = 0 then 0 else rt se := ⟨_, rfl⟩
    have hn0 : kd = 0 → nq2 = 0 := fun e => by rw [hn2, if_pos e]
    have hn1 : kd ≠ 0 → nq2 = rt se := fun e => by rw [hn2, if_neg e]
    obtain ⟨fm, hfm⟩ : ∃ fm, fm = qfm gr ok no := ⟨_, rfl⟩
    have hfm2 : fm < 2 := by rw [hfm]; exact fm_2
    have hfma : cAgg gr ok no = decide (fm = 1) := by rw [hfm]; exact fm_a
    have hok0 : fm = 0 → gr = none ∧ ∀ o, o < no → ok o = 0 := fun e => whole_0 g3 (hfm ▸ e)
    have hok1 : fm = 1 → ∀ o, o < no → ok o ≠ 0 := fun e => whole_1 g3 (hfm ▸ e)
    have hwd := whole_d g3
    have hgs : grS gr ≤ 1 := by cases gr <;> exact Nat.le_of_ble_eq_true rfl
    have hr1 := (hT fi q2).2.2.2
    have hr2 := (hT se q3).2.2.2
    have hn12 : nq2 ≤ 12 := by by_cases e : kd = 0 <;> omega
    obtain ⟨jo, hjo⟩ : ∃ jo, jo = (jOut (fun f s => allT (jRow (fun k => (ti k).toInt64) tn fi se f s) (fun c => EE (8 + c)) nc) (jM (fun k => (ti k).toInt64) tn fi se le ri) nq2 kd (rt fi)) := ⟨_, rfl⟩
    have hsj : stOk jo := by rw [hjo]; exact stOk_of hr1 hn12 hn0 ⟨rfl, fun _ _ => ⟨rfl, rfl⟩⟩
    have hOEt : ∀ o, o < no → ok o ≠ 1 → ∃ ts, xT 8 [] ((fun o => EE (14 + o)) o) = some ts := fun o ho e => ⟨_, (q13 o ho).2.1 e⟩
    have hcong : ∀ row : Nat → Nat → Option Int64, (∀ k, k < jo.2.2 → ∀ c, c < 4 → row k c = (rowK ti tn fi se jo) k c) → rWn fm gr row jo.2.2 = (rWn fm gr (rowK ti tn fi se jo) jo.2.2) ∧ (∀ i, i < (rWn fm gr (rowK ti tn fi se jo) jo.2.2) → ∀ c, c < (grS gr + no) → rWv fm gr (fun o => EE (14 + o)) ok row jo.2.2 i c = (rWv fm gr (fun o => EE (14 + o)) ok (rowK ti tn fi se jo) jo.2.2) i c) := by
      intro row hr
      have e1 := rWn_c (fm := fm) q10 hr
      refine ⟨e1, fun i hi c hc => rWv_c hfm2 q10 hok0 hOEt hr i (by rw [e1]; exact hi) c hc⟩
    have hpl : ∀ RV : Nat → Nat → Option Int64, (∀ i, i < (rWn fm gr (rowK ti tn fi se jo) jo.2.2) → ∀ c, c < (grS gr + no) → RV i c = (rWv fm gr (fun o => EE (14 + o)) ok (rowK ti tn fi se jo) jo.2.2) i c) → srt (fun a b => bef ob (grS gr + no) dw (RV a) (RV b)) p (rWn fm gr (rowK ti tn fi se jo) jo.2.2) = (srt (fun a b => bef ob (grS gr + no) dw ((rWv fm gr (fun o => EE (14 + o)) ok (rowK ti tn fi se jo) jo.2.2) a) ((rWv fm gr (fun o => EE (14 + o)) ok (rowK ti tn fi se jo) jo.2.2) b)) p (rWn fm gr (rowK ti tn fi se jo) jo.2.2)) := fun RV hv => srt_c (fun a b ha hb => bef_cg hwd (fun c hc => ⟨hv a ha c hc, hv b hb c hc⟩)) _ (Nat.le_refl _)
    have hrs : (rWn fm gr (rowK ti tn fi se jo) jo.2.2) ≤ 144 := by
      have e : fm = 0 ∨ fm = 1 := by omega
      rcases e with e | e
      · rw [e]; exact hsj.1
      · rw [e]
        cases gr with
        | none => exact Nat.le_of_ble_eq_true rfl
        | some g => exact Nat.le_trans (gIt_le _ _) hsj.1
    obtain ⟨cn2, hcn2, hcn⟩ := cnt_of (lm := lm) hrs
    obtain ⟨S3, hS3⟩ : ∃ S3, S3 = (tP3 fm kd wc ((qF (fun k => (ti k).toInt64) tn (fun c => EE (8 + c)) nc kd wc fi se (rt fi) (rt se) (rowK ti tn fi se jo) jo.2.2 le gr (fun o => EE (14 + o)) ok) 0) ((qF (fun k => (ti k).toInt64) tn (fun c => EE (8 + c)) nc kd wc fi se (rt fi) (rt se) (rowK ti tn fi se jo) jo.2.2 le gr (fun o => EE (14 + o)) ok) 1) ((qF (fun k => (ti k).toInt64) tn (fun c => EE (8 + c)) nc kd wc fi se (rt fi) (rt se) (rowK ti tn fi se jo) jo.2.2 le gr (fun o => EE (14 + o)) ok) 2) ((qF (fun k => (ti k).toInt64) tn (fun c => EE (8 + c)) nc kd wc fi se (rt fi) (rt se) (rowK ti tn fi se jo) jo.2.2 le gr (fun o => EE (14 + o)) ok) 3) ((kt, pt, sAt s, dn, tq, 0) : sT)) := ⟨_, rfl⟩
    have hS3n : tN S3 = (if kd = 0 then wc else 3 * wc) + (if fm = 1 then wc else 0) := by rw [hS3]; exact tP3_N rfl
    have hS3g : tGood S3 := by rw [hS3]; exact tP3_good w2 rfl
    have hS316 : tN S3 ≤ 16 := by rw [hS3]; exact tP3_n w2 rfl
    have hS38 : cntB (fun t => decide (2 ≤ tK S3 t)) (tN S3) ≤ 8 := by rw [hS3]; exact tP3_8 w2 rfl
    have hS3a : ∀ t, tN S3 ≤ t → tA S3 t = sAt s t := fun t ht => by rw [hS3] at ht ⊢; exact tP3_a rfl t ht
    have hS30 : 0 < tN S3 := by rw [hS3n]; by_cases e : kd = 0 <;> simp [e] <;> omega
    have kx := ct_QF_start (h := h) ti tn rt kd fi se le ri nc (fun c => EE (8 + c)) (fun c => pp (8 + c)) hC1 gr no (fun o => EE (14 + o)) ok (fun o => pp (14 + o)) hO1 hS.1 hS.2.2 fm hfm2 hfma hok0 hok1 hwd g3 hb ho (by rw [← d0]; exact h3.2.2.2.2.2.2.1) nq2 hn0 hn1 cb0 ns0 s61 s63 st0 s65 s66 s16 gb0 go0 gn0 s69 s67 s110 vb0 v81 p v82 ob q9 h3.2.2.2.2.2.2.2.2.2.2.1 dw h3.2.2.2.2.2.2.2.2.2.2.2.1 lm h3.2.2.2.2.2.2.2.2.2.2.2.2 kt pt (sAt s) tq dn (sSa s) j7 (sMk s) (sMt s) (sMa s) (sW s) j8 j9 j10 j11 Q j12 tm j6 wc mm w1 w2 mm1 mm2
    rw [← hjo] at kx
    refine op_mo (z := nI (tN S3)) (dy := 7) (by omega) (by omega) kx (fun h1 => ∃ sa, (∀ j, tN S3 ≤ j → sa j = sSa s j) ∧ CI h1 pp ti tn rt bg kd fi se le ri dep EE tr nc no ok gr ob dw lm (rWv fm gr (fun o => EE (14 + o)) ok (rowK ti tn fi se jo) jo.2.2) (rWn fm gr (rowK ti tn fi se jo) jo.2.2) (grS gr + no) cn2 (nI (psA mm (rWn fm gr (rowK ti tn fi se jo) jo.2.2))) (srt (fun a b => bef ob (grS gr + no) dw ((rWv fm gr (fun o => EE (14 + o)) ok (rowK ti tn fi se jo) jo.2.2) a) ((rWv fm gr (fun o => EE (14 + o)) ok (rowK ti tn fi se jo) jo.2.2) b)) p (rWn fm gr (rowK ti tn fi se jo) jo.2.2)) true wc (tN S3) (tK S3) (tP S3) (tQ S3) (tF S3) tm (nI 0) (sReady (tK S3) (tF S3) (tN S3) tm ((tA S3, sa, sMk s, sMt s, sMa s, 0) : sJ) (tN S3)) ((Q.1, Q.2.1, Q.2.2.1, (va_up (va_up (va_up (va_up Q.2.2.2 0 0) 1 0) 2 0) 3 0)) : sQ) (tN S3) ∧ MI h1 ti tn rt bg kd fi se le ri dep EE tr nc no ok gr ob dw lm RES rs wd cn ps p on wk nt kt pt tq dn tm ig s2 qn qt qa) ?_ ?_
    · rintro v h1 n ⟨⟨st, G, S, cv, cb, vs, ns, vv, vb, sa, cv2, cb2, vs2, ns2, hq, hG, hres, e1, hsa, e2⟩, e3⟩
      have e2 : h1 = (stF h st G (grS gr + no) (rWn fm gr (rowK ti tn fi se st) st.2.2) vv vb S cv cb vs ns (srt (fun a b => bef ob (grS gr + no) dw ((rWv fm gr (fun o => EE (14 + o)) ok (rowK ti tn fi se st) st.2.2) a) ((rWv fm gr (fun o => EE (14 + o)) ok (rowK ti tn fi se st) st.2.2) b)) p (rWn fm gr (rowK ti tn fi se st) st.2.2)) (if 0 ≤ lm ∧ lm < nI (rWn fm gr (rowK ti tn fi se st) st.2.2) then lm else nI (rWn fm gr (rowK ti tn fi se st) st.2.2)) (nI (psA mm (rWn fm gr (rowK ti tn fi se st) st.2.2))) wc ((Q.1, Q.2.1, Q.2.2.1, (va_up (va_up (va_up (va_up Q.2.2.2 0 0) 1 0) 2 0) 3 0)) : sQ) ((sAt s, sSa s, sMk s, sMt s, sMa s, 0) : sJ) (tI wc (ndF fm kd) (qF (fun k => (ti k).toInt64) tn (fun c => EE (8 + c)) nc kd wc fi se (rt fi) (rt se) (rowK ti tn fi se st) st.2.2 le gr (fun o => EE (14 + o)) ok) ((kt, pt, sAt s, dn, tq, 0) : sT) (4 * wc)) sa cv2 cb2 vs2 ns2 (sReady (tK (tI wc (ndF fm kd) (qF (fun k => (ti k).toInt64) tn (fun c => EE (8 + c)) nc kd wc fi se (rt fi) (rt se) (rowK ti tn fi se st) st.2.2 le gr (fun o => EE (14 + o)) ok) ((kt, pt, sAt s, dn, tq, 0) : sT) (4 * wc))) (tF (tI wc (ndF fm kd) (qF (fun k => (ti k).toInt64) tn (fun c => EE (8 + c)) nc kd wc fi se (rt fi) (rt se) (rowK ti tn fi se st) st.2.2 le gr (fun o => EE (14 + o)) ok) ((kt, pt, sAt s, dn, tq, 0) : sT) (4 * wc))) (tN (tI wc (ndF fm kd) (qF (fun k => (ti k).toInt64) tn (fun c => EE (8 + c)) nc kd wc fi se (rt fi) (rt se) (rowK ti tn fi se st) st.2.2 le gr (fun o => EE (14 + o)) ok) ((kt, pt, sAt s, dn, tq, 0) : sT) (4 * wc))) tm ((tA (tI wc (ndF fm kd) (qF (fun k => (ti k).toInt64) tn (fun c => EE (8 + c)) nc kd wc fi se (rt fi) (rt se) (rowK ti tn fi se st) st.2.2 le gr (fun o => EE (14 + o)) ok) ((kt, pt, sAt s, dn, tq, 0) : sT) (4 * wc)), sa, sMk s, sMt s, sMa s, 0) : sJ) (tN (tI wc (ndF fm kd) (qF (fun k => (ti k).toInt64) tn (fun c => EE (8 + c)) nc kd wc fi se (rt fi) (rt se) (rowK ti tn fi se st) st.2.2 le gr (fun o => EE (14 + o)) ok) ((kt, pt, sAt s, dn, tq, 0) : sT) (4 * wc))))) := e2
      obtain ⟨c1, c2⟩ := hcong (rowK ti tn fi se st) (row_st hq)
      have eRS : (rWn fm gr (rowK ti tn fi se st) st.2.2) = (rWn fm gr (rowK ti tn fi se jo) jo.2.2) := by rw [hq.1]; exact c1
      have eRV : ∀ i, i < (rWn fm gr (rowK ti tn fi se jo) jo.2.2) → ∀ c, c < (grS gr + no) → (rWv fm gr (fun o => EE (14 + o)) ok (rowK ti tn fi se st) st.2.2) i c = (rWv fm gr (fun o => EE (14 + o)) ok (rowK ti tn fi se jo) jo.2.2) i c := by rw [hq.1]; exact c2
      have eP : (srt (fun a b => bef ob (grS gr + no) dw ((rWv fm gr (fun o => EE (14 + o)) ok (rowK ti tn fi se st) st.2.2) a) ((rWv fm gr (fun o => EE (14 + o)) ok (rowK ti tn fi se st) st.2.2) b)) p (rWn fm gr (rowK ti tn fi se st) st.2.2)) = (srt (fun a b => bef ob (grS gr + no) dw ((rWv fm gr (fun o => EE (14 + o)) ok (rowK ti tn fi se jo) jo.2.2) a) ((rWv fm gr (fun o => EE (14 + o)) ok (rowK ti tn fi se jo) jo.2.2) b)) p (rWn fm gr (rowK ti tn fi se jo) jo.2.2)) := by rw [eRS]; exact hpl _ eRV
      have eQF : ∀ k p, (qF (fun k => (ti k).toInt64) tn (fun c => EE (8 + c)) nc kd wc fi se (rt fi) (rt se) (rowK ti tn fi se st) st.2.2 le gr (fun o => EE (14 + o)) ok) k p = (qF (fun k => (ti k).toInt64) tn (fun c => EE (8 + c)) nc kd wc fi se (rt fi) (rt se) (rowK ti tn fi se jo) jo.2.2 le gr (fun o => EE (14 + o)) ok) k p := fun k p => by rw [hq.1]; exact qF_c (no := no) q4 q10 (row_st hq) k p
      have eS3 : (tI wc (ndF fm kd) (qF (fun k => (ti k).toInt64) tn (fun c => EE (8 + c)) nc kd wc fi se (rt fi) (rt se) (rowK ti tn fi se st) st.2.2 le gr (fun o => EE (14 + o)) ok) ((kt, pt, sAt s, dn, tq, 0) : sT) (4 * wc)) = S3 := by rw [tI_all w1, hS3]; exact tP3_c (fun p _ => eQF 0 p) (fun _ p _ => eQF 1 p) (fun _ p _ => eQF 2 p) (fun _ p _ => eQF 3 p)
      rw [eP, eRS, eS3] at e2
      rw [eS3] at e1 hsa
      rw [eRS] at hres
      refine ⟨e1, ⟨sa, hsa, ?_, ?_⟩, e3⟩
      · rw [e2]
        exact ⟨cSt_ag (fun a _ _ _ => by rw [stF_r]) hS, cTb_ag (fun a _ _ => stF_fr (by omega)) hT, by rw [stF_fr (by omega)]; exact h3, cQe_ag q6 q7 q8 (fun a _ _ => stF_fr (by omega)) stF_r hE, stF_scr, stF_rs hcn (fun i hi c hc => by rw [← eRV i hi c hc]; exact hres i hi c hc), stF_job j6⟩
      · rw [e2]
        exact MI_ag (h := h) (fun a ha => ⟨stF_fr (by omega), stF_l ha, by rw [stF_r]⟩) hM0
    · rintro h1 ⟨sa, hsa, hC2, hM1⟩
      have mJ := hM1.2.2.2.2.2.2
      obtain ⟨n1, n2, n3, n4, n5, n6, n7, n8, n9, n10, n11, n12, n13, n14, n15, n16, n17, n18, n19⟩ := mJ
      obtain ⟨hb0, kb0, kp0, rs0, x134, x136, x25, x28⟩ := hM1.2.2.2.2.1
      obtain ⟨⟨vbm, x138⟩, x139, x34, x33, x35, x37⟩ := hM1.2.2.2.2.2.1
      have m1b := hM1.2.2.1
      have mEb := hM1.2.2.2.1
      have mTb0 := hM1.2.1
      have hfw2 := form_w (okr := h1.1 130) (ok := ok) (no := no) (gr := gr) q10 (fun o ho => ⟨(mEb.2.2 o ho).1, (q13 o ho).1⟩)
      have eH : eR (fR (vR h1 (h1.2.1 137) vbm rs0) (h1.2.1 133) hb0 (h1.2.1 135) kb0 kp0) (h1.2.1 131) (h1.1 132) = h1 := by rw [vR_of x138 x28, fR_of x134 x136 x25, eR_of]
      have ky := ct_QM_start (h := h1) hM1.1 (fun k => (ti k).toInt64) tn mTb0.2 nc q7 m1b.2.2.2.2.2.2.2.2.1 (fun c => EE (8 + c)) (fun c hc => ⟨hl2 c hc, (mEb.2.1 c hc).1, (mEb.2.1 c hc).2, q12 c hc⟩) kd fi se le ri q1 q2 m1b.2.1 m1b.2.2.1 (fun e => ⟨(m1b.2.2.2.1 e).1, q3, (m1b.2.2.2.1 e).2.1, q4, (m1b.2.2.2.1 e).2.2, q5⟩) (rt fi) nq2 hr1 hn12 (mTb0.1 fi q2) (fun e => by rw [hn1 e]; exact mTb0.1 se q3) hn0 gr q10 (m1b.2.2.2.2.1 b1).1 (fun o => EE (14 + o)) ok no q8 m1b.2.2.2.2.2.2.2.2.2 (fun o ho => ⟨(mEb.2.2 o ho).1, (q13 o ho).1, fun e => ⟨hl3 o ho, ((mEb.2.2 o ho).2 e).1, ((mEb.2.2 o ho).2 e).2, (q13 o ho).2.1 e⟩⟩) fm hfm2 (by rw [hfm]; exact hfw2.1 g3) tm n5 (sSa s2) (sMk s2) (sMt s2) (sMa s2) n10 n13 n14 n15 ob q9 m1b.2.2.2.2.2.1 dw m1b.2.2.2.2.2.2.1 lm (m1b.2.2.2.2.1 b1).2 p x139 kt pt (sAt s2) tq dn n7 n8 n9 n11 n12 (by rw [← b1]; exact m1b.1) (by rw [← e1]; exact n1) (by rw [← d0]; exact m1b.2.2.2.2.2.2.2.1) wc mm w1 w2 mm1 mm2 (h1.2.1 137) vbm rs0 (h1.2.1 133) hb0 (h1.2.1 135) kb0 kp0 (h1.2.1 131) (h1.1 132)
      rw [eH, ← hjo] at ky
      refine qT.imp ?_ ky
      rintro v h2 n ⟨⟨kv1, kb1, hkr, e1, hv1, hb1, wk1, wn1, vv1, vb1, e2, hvr⟩, e3⟩
      have e2 : h2 = (mtF h1 wc mm (grS gr + no) (rRn fm gr kv1 kb1 jo.2.2) (srt (fun a b => bef ob (grS gr + no) dw ((rRv fm gr (fun o => EE (14 + o)) ok kv1 kb1 jo.2.2) a) ((rRv fm gr (fun o => EE (14 + o)) ok kv1 kb1 jo.2.2) b)) p (rRn fm gr kv1 kb1 jo.2.2)) (if 0 ≤ lm ∧ lm < nI (rRn fm gr kv1 kb1 jo.2.2) then lm else nI (rRn fm gr kv1 kb1 jo.2.2)) (nI (psA mm (rRn fm gr kv1 kb1 jo.2.2))) vv1 vb1 (tP3 fm kd wc (scQ (fun k => (ti k).toInt64) tn (fun c => EE (8 + c)) nc kd wc fi 0 (rt fi)) (scQ (fun k => (ti k).toInt64) tn (fun c => EE (8 + c)) nc kd wc se 1 nq2) (joQ wc kv1 kb1 jo.2.2 le) (grQ wc gr (rRv fm gr (fun o => EE (14 + o)) ok kv1 kb1 jo.2.2) (rRn fm gr kv1 kb1 jo.2.2)) ((kt, pt, sAt s2, dn, tq, 0) : sT)) hv1 hb1 kv1 kb1 jo.2.2 wk1 wn1 (sReady (tK (tP3 fm kd wc (scQ (fun k => (ti k).toInt64) tn (fun c => EE (8 + c)) nc kd wc fi 0 (rt fi)) (scQ (fun k => (ti k).toInt64) tn (fun c => EE (8 + c)) nc kd wc se 1 nq2) (joQ wc kv1 kb1 jo.2.2 le) (grQ wc gr (rRv fm gr (fun o => EE (14 + o)) ok kv1 kb1 jo.2.2) (rRn fm gr kv1 kb1 jo.2.2)) ((kt, pt, sAt s2, dn, tq, 0) : sT))) (tF (tP3 fm kd wc (scQ (fun k => (ti k).toInt64) tn (fun c => EE (8 + c)) nc kd wc fi 0 (rt fi)) (scQ (fun k => (ti k).toInt64) tn (fun c => EE (8 + c)) nc kd wc se 1 nq2) (joQ wc kv1 kb1 jo.2.2 le) (grQ wc gr (rRv fm gr (fun o => EE (14 + o)) ok kv1 kb1 jo.2.2) (rRn fm gr kv1 kb1 jo.2.2)) ((kt, pt, sAt s2, dn, tq, 0) : sT))) (tN (tP3 fm kd wc (scQ (fun k => (ti k).toInt64) tn (fun c => EE (8 + c)) nc kd wc fi 0 (rt fi)) (scQ (fun k => (ti k).toInt64) tn (fun c => EE (8 + c)) nc kd wc se 1 nq2) (joQ wc kv1 kb1 jo.2.2 le) (grQ wc gr (rRv fm gr (fun o => EE (14 + o)) ok kv1 kb1 jo.2.2) (rRn fm gr kv1 kb1 jo.2.2)) ((kt, pt, sAt s2, dn, tq, 0) : sT))) tm ((tA (tP3 fm kd wc (scQ (fun k => (ti k).toInt64) tn (fun c => EE (8 + c)) nc kd wc fi 0 (rt fi)) (scQ (fun k => (ti k).toInt64) tn (fun c => EE (8 + c)) nc kd wc se 1 nq2) (joQ wc kv1 kb1 jo.2.2 le) (grQ wc gr (rRv fm gr (fun o => EE (14 + o)) ok kv1 kb1 jo.2.2) (rRn fm gr kv1 kb1 jo.2.2)) ((kt, pt, sAt s2, dn, tq, 0) : sT)), (sSa s2), sMk s2, sMt s2, sMa s2, 0) : sJ) (tN (tP3 fm kd wc (scQ (fun k => (ti k).toInt64) tn (fun c => EE (8 + c)) nc kd wc fi 0 (rt fi)) (scQ (fun k => (ti k).toInt64) tn (fun c => EE (8 + c)) nc kd wc se 1 nq2) (joQ wc kv1 kb1 jo.2.2 le) (grQ wc gr (rRv fm gr (fun o => EE (14 + o)) ok kv1 kb1 jo.2.2) (rRn fm gr kv1 kb1 jo.2.2)) ((kt, pt, sAt s2, dn, tq, 0) : sT))))) := e2
      obtain ⟨c1, c2⟩ := hcong (kCell kv1 kb1) (row_k hkr)
      have eRN : (rRn fm gr kv1 kb1 jo.2.2) = (rWn fm gr (rowK ti tn fi se jo) jo.2.2) := by rw [rWn_r]; exact c1
      have eRV : ∀ i, i < (rWn fm gr (rowK ti tn fi se jo) jo.2.2) → ∀ c, c < (grS gr + no) → (rRv fm gr (fun o => EE (14 + o)) ok kv1 kb1 jo.2.2) i c = (rWv fm gr (fun o => EE (14 + o)) ok (rowK ti tn fi se jo) jo.2.2) i c := by rw [rWv_r]; exact c2
      have eP : (srt (fun a b => bef ob (grS gr + no) dw ((rRv fm gr (fun o => EE (14 + o)) ok kv1 kb1 jo.2.2) a) ((rRv fm gr (fun o => EE (14 + o)) ok kv1 kb1 jo.2.2) b)) p (rRn fm gr kv1 kb1 jo.2.2)) = (srt (fun a b => bef ob (grS gr + no) dw ((rWv fm gr (fun o => EE (14 + o)) ok (rowK ti tn fi se jo) jo.2.2) a) ((rWv fm gr (fun o => EE (14 + o)) ok (rowK ti tn fi se jo) jo.2.2) b)) p (rWn fm gr (rowK ti tn fi se jo) jo.2.2)) := by rw [eRN]; exact hpl _ eRV
      have eQF : ∀ k p, (qF (fun k => (ti k).toInt64) tn (fun c => EE (8 + c)) nc kd wc fi se (rt fi) (rt se) (kCell kv1 kb1) jo.2.2 le gr (fun o => EE (14 + o)) ok) k p = (qF (fun k => (ti k).toInt64) tn (fun c => EE (8 + c)) nc kd wc fi se (rt fi) (rt se) (rowK ti tn fi se jo) jo.2.2 le gr (fun o => EE (14 + o)) ok) k p := fun k p => qF_c (no := no) q4 q10 (row_k hkr) k p
      have eT3 : (tP3 fm kd wc (scQ (fun k => (ti k).toInt64) tn (fun c => EE (8 + c)) nc kd wc fi 0 (rt fi)) (scQ (fun k => (ti k).toInt64) tn (fun c => EE (8 + c)) nc kd wc se 1 nq2) (joQ wc kv1 kb1 jo.2.2 le) (grQ wc gr (rRv fm gr (fun o => EE (14 + o)) ok kv1 kb1 jo.2.2) (rRn fm gr kv1 kb1 jo.2.2)) ((kt, pt, sAt s2, dn, tq, 0) : sT)) = S3 := by
        rw [hS3, ← gJ.2.2.1.1]
        refine tP3_c (fun p _ => rfl) (fun e p _ => by rw [hn1 e]; rfl) (fun _ p _ => eQF 2 p) (fun e p _ => ?_)
        rw [← eQF 3 p]
        subst e
        rw [rWv_r, rWn_r]
        rfl
      rw [eT3, eP, eRN] at e2
      rw [eT3] at e1
      rw [eRN] at hvr
      rw [e2]
      have hse0 : sEq ((tA S3, sa, sMk s, sMt s, sMa s, 0) : sJ) ((tA S3, sSa s2, sMk s2, sMt s2, sMa s2, 0) : sJ) := ⟨rfl, gJ.2.2.1.2.1, gJ.2.2.1.2.2.1, gJ.2.2.1.2.2.2.1, fun t ht => by
        have ht : 0 < tA S3 t := ht
        show sa t = sSa s2 t
        by_cases tn : t < tN S3
        · rw [(hS3g t tn).2.2.1] at ht; omega
        · rw [hsa t (by omega)]
          rw [hS3a t (by omega)] at ht
          exact gJ.2.2.1.2.2.2.2 t ht⟩
      obtain ⟨re1, re2⟩ := ready_eq (kt := tK S3) (dn := tF S3) (tm := tm) (n := tN S3) hse0 rfl (tN S3)
      have rk := ready_K (N := 0) (nt := tN S3) (kt := tK S3) (dn := tF S3) (tm := tm) (s := ((tA S3, sa, sMk s, sMt s, sMa s, 0) : sJ)) (n := tN S3) (fun i hi => absurd hi (Nat.not_lt_zero _)) (fun t ht => by show tA S3 t ≤ 0; rw [(hS3g t ht).2.2.1]; omega) (tN S3) (Nat.le_refl _)
      have rw0 := sReady_w (tK S3) (tF S3) (tN S3) tm ((tA S3, sa, sMk s, sMt s, sMa s, 0) : sJ) (tN S3)
      have rw0 : sW (sReady (tK S3) (tF S3) (tN S3) tm ((tA S3, sa, sMk s, sMt s, sMa s, 0) : sJ) (tN S3)) ≤ 0 + tN S3 := rw0
      exact ⟨e1, ⟨pp, ti, tn, rt, bg, kd, fi, se, le, ri, dep, EE, tr, nc, no, ok, gr, ob, dw, lm, (rWv fm gr (fun o => EE (14 + o)) ok (rowK ti tn fi se jo) jo.2.2), (rWn fm gr (rowK ti tn fi se jo) jo.2.2), (grS gr + no), cn2, (nI (psA mm (rWn fm gr (rowK ti tn fi se jo) jo.2.2))), (srt (fun a b => bef ob (grS gr + no) dw ((rWv fm gr (fun o => EE (14 + o)) ok (rowK ti tn fi se jo) jo.2.2) a) ((rWv fm gr (fun o => EE (14 + o)) ok (rowK ti tn fi se jo) jo.2.2) b)) p (rWn fm gr (rowK ti tn fi se jo) jo.2.2)), true, wc, (tN S3), (tK S3), (tP S3), (tQ S3), (tF S3), tm, (nI 0), (sReady (tK S3) (tF S3) (tN S3) tm ((tA S3, sa, sMk s, sMt s, sMa s, 0) : sJ) (tN S3)), ((Q.1, Q.2.1, Q.2.2.1, (va_up (va_up (va_up (va_up Q.2.2.2 0 0) 1 0) 2 0) 3 0)) : sQ), (tN S3), (sReady (tK S3) (tF S3) (tN S3) tm ((tA S3, sSa s2, sMk s2, sMt s2, sMa s2, 0) : sJ) (tN S3)), (va_up (va_up (va_up (va_up qn 0 0) 1 0) 2 0) 3 0), qt, qa, CI_ag (h := h1) ⟨q6, q7, q8⟩ (fun a ha => mtF_fr ha) mtF_r hC2, mtF_MI hM1 hcn (fun i hi c hc => by rw [← eRV i hi c hc]; exact hvr i hi c hc) hS30, gQ0, ⟨hrs, by omega, hcn2, fun i hi => srt_lt _ _ _ i (by omega)⟩, ⟨hS316, fun t ht => ⟨(hS3g t ht).1, (hS3g t ht).2.1, by have := (rk.1 t).2; have e : sAt ((tA S3, sa, sMk s, sMt s, sMa s, 0) : sJ) t = 0 := (hS3g t ht).2.2.1; omega⟩, re1, fun _ => ⟨hS30, w1, w2, re2, by omega, hS38, fun t ht hk => ready_s (tN S3) (Nat.le_refl _) t ht hk, fun t ht hd => (by rw [(hS3g t ht).2.2.2] at hd; cases hd), (cntB_all (tN S3) (fun k hk => by rw [(hS3g k hk).2.2.2]; rfl)).symm, gMs_m (by omega) rk.2, fun w hw => ⟨(up4_0 w hw).trans (up4_0 w hw).symm, by rw [up4_0 w hw]; omega, fun j hj => absurd hj (by rw [up4_0 w hw]; omega)⟩⟩⟩⟩, e3⟩
  · exact op_ro (by omega) (by omega) hI0 (ct_QF_start_no hS.1 bg on h3.1 hJ0.1 hE.1.2.2.2.2.2.1 dep q6 h3.2.2.2.2.2.2.1 gr q10 h3.2.2.2.2.2.2.2.2.2.1 no q8 h3.2.2.2.2.2.2.2.2.1 ok hok6 w m (bf hg)) (ct_QM_start_no mR w m bg on m1.1 mJ0.1 no q8 m1.2.2.2.2.2.2.2.2.2 _ rfl dep q6 m1.2.2.2.2.2.2.2.1 (by rw [hge]; exact bf hg))
