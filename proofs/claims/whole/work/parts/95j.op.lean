set_option maxRecDepth 100000 in
set_option maxHeartbeats 4000000 in
theorem ct_QF_pass_deliver2 {h : qH} (hQ : h.2.2 0 = qRQF) (hJ : jobOk h) (s : sJ) (hon : h.1 83 0 = b2i true) (k : Nat) (hk : k < sW s) (hw : sW s ≤ 68) (Rq : Option Value → qH → Nat → Prop) (hRq : ∀ v h n, Rq v h n → ∃ z : Int32, v = some (.int z)) (hD : qT mi_Jo_deliver 2 0 0 [.ref 83, .int (nI k)] (cJ h s) NN Rq) : qT mi_QF_pass 5 0 0 [.ref 0, .int (nI k), .int (nI 0)] (cJ h s) NN (fun v1 h1 n1 => Rq v1 h1 n1) := by
  refine qT.of (lv0 := [_, _, _]) (by decide +kernel) (fun _ _ => Nat.le_of_ble_eq_true rfl) rfl ?_
  refine qx_aload_n d_QF_pass_0 rfl rfl ?_
  refine qx_getR d_QF_pass_1 fR_QF_36 rfl rfl (congrFun hQ 4) ?_
  refine qx_getI d_QF_pass_4 fI_QF_40 rfl rfl (show _ = b2i true from hon) ?_
  refine qx_if_eqB (t := 27) d_QF_pass_7 rfl (fun c7 => by cases c7) (fun c7 => ?_)
  refine qx_iload_n d_QF_pass_10 rfl rfl ?_
  refine qx_aload_n d_QF_pass_11 rfl rfl ?_
  refine qx_getR d_QF_pass_12 fR_QF_36 rfl rfl (congrFun hQ 4) ?_
  refine qx_getR d_QF_pass_15 fR_QF_137 rfl rfl (congrFun hJ.1 7) ?_
  refine qx_getI d_QF_pass_18 fI_QF_141 rfl rfl (show _ = nI (sW s) from rfl) ?_
  refine qx_callS (As := [_, _]) (rest := _) d_QF_pass_21 lk_QF_44 y_QF_isIn s_QF_isIn rfl rfl rfl rfl (by decide) (by decide) (ct_QF_isIn _ _) ?_
  rintro _ _ _ ⟨rfl, rfl, rfl⟩
  refine qx_if_neB (t := 29) d_QF_pass_24 rfl (fun c24 => ?_) (fun c24 => absurd c24 (by rw [in_t hk (by omega)]; decide))
  refine qx_iload_n d_QF_pass_29 rfl rfl ?_
  refine qx_tabIn (t := 56) d_QF_pass_30 (by decide) (by decide) rfl rfl ?_
  refine qx_aload_n d_QF_pass_56 rfl rfl ?_
  refine qx_getR d_QF_pass_57 fR_QF_36 rfl rfl (congrFun hQ 4) ?_
  refine qx_iload_n d_QF_pass_60 rfl rfl ?_
  refine qx_callV (As := [_]) (rest := _) d_QF_pass_61 lk_QF_146 y_Jo_deliver v_Jo_deliver rfl rfl rfl (by decide) rfl rfl rfl rfl (by decide) (by decide) hD ?_
  intro v1 h1 n1 hq
  obtain ⟨z, rfl⟩ := hRq v1 h1 n1 hq
  exact qx_iret d_QF_pass_64 rfl rfl (by omega) (by omega) hq
theorem CI_j {h h1 : qH} {pp : Nat → Nat} {ti : Nat → Int32} {tn : Nat → Bool} {rw : Nat → Nat} {bg : Bool} {kd fi se le ri dep : Nat} {EE : Nat → List xP} {tr : Nat → Bool} {nc no : Nat} {ok : Nat → Nat} {gr : Option Nat} {ob : Nat} {dw : Bool} {lm : Int32} {RES : Nat → Nat → Option Int64} {rs wd cn : Nat} {ps : Int32} {p : Nat → Nat} {on : Bool} {wk nt : Nat} {kt pt tq : Nat → Nat} {dn : Nat → Bool} {tm ig : Int32} {s : sJ} {Q : sQ} {ud : Nat} {on1 : Bool} {wk1 nt1 : Nat} {kt1 pt1 tq1 : Nat → Nat} {dn1 : Nat → Bool} {tm1 ig1 : Int32} {s1 : sJ} {Q1 : sQ} {ud1 : Nat} (hq : dep ≤ 8 ∧ nc ≤ 6 ∧ no ≤ 3) (ha : ∀ a, a < 83 → h1.1 a = h.1 a ∧ h1.2.1 a = h.2.1 a) (hr : h1.2.2 = h.2.2) (hj : cJb h1.1 on1 wk1 nt1 kt1 pt1 tq1 dn1 tm1 ig1 s1 Q1 ud1) (h0 : CI h pp ti tn rw bg kd fi se le ri dep EE tr nc no ok gr ob dw lm RES rs wd cn ps p on wk nt kt pt tq dn tm ig s Q ud) : CI h1 pp ti tn rw bg kd fi se le ri dep EE tr nc no ok gr ob dw lm RES rs wd cn ps p on1 wk1 nt1 kt1 pt1 tq1 dn1 tm1 ig1 s1 Q1 ud1 := by
  obtain ⟨c1, c2, c3, c4, c5, c6, c7⟩ := h0
  exact ⟨cSt_ag (fun a _ _ _ => by rw [hr]) c1, cTb_ag (fun a _ _ => (ha a (by omega)).1) c2, by rw [(ha 3 (by omega)).1]; exact c3, cQe_ag hq.1 hq.2.1 hq.2.2 (fun a _ _ => (ha a (by omega)).1) hr c4, cScr_ag (fun a _ => (ha a (by omega)).1) c5, cRs_ag (fun a _ _ => ha a (by omega)) c6, hj⟩
theorem jfr {h : qH} {Q : sQ} {s : sJ} {a : Nat} (ha : a < 85 ∨ 122 ≤ a) : (cJ (kQ h Q) s).1 a = h.1 a := (cJ_n (by omega)).trans (kQ_x (by omega))
theorem cJb_mk {h : qH} {on : Bool} {wk nt : Nat} {kt pt tq : Nat → Nat} {dn : Nat → Bool} {tm ig : Int32} {s : sJ} {Q : sQ} {ud : Nat} (a0 : h.1 83 0 = b2i on) (a1 : h.1 83 1 = nI wk) (a3 : h.1 83 3 = nI nt) (a4 : on = true → h.1 83 4 = nI ud) (a5 : h.1 83 5 = ig) (a6 : h.1 83 6 = tm) (ht : ∀ t, t < 16 → h.1 (90 + t) 0 = nI (kt t) ∧ h.1 (90 + t) 1 = nI (pt t) ∧ h.1 (90 + t) 2 = nI (tq t) ∧ h.1 (90 + t) 5 = b2i (dn t)) : cJb (cJ (kQ h Q) s).1 on wk nt kt pt tq dn tm ig s Q ud := by
  unfold cJb
  rw [jfr (a := 83) (by omega)]
  refine ⟨a0, a1, a3, a4, a5, a6, fun t h16 => ?_, rfl, rfl, rfl, rfl, fun w hw => ?_⟩
  · rw [cJ_t h16, kQ_x (by omega)]
    obtain ⟨t0, t1, t2, t5⟩ := ht t h16
    exact ⟨t0, t1, t2, rfl, rfl, t5⟩
  · have e0 := kQ_in (h := h) (Q := Q) (j := 0) hw (by omega)
    have e1 := kQ_in (h := h) (Q := Q) (j := 1) hw (by omega)
    have e2 := kQ_in (h := h) (Q := Q) (j := 2) hw (by omega)
    have e3 := kQ_in (h := h) (Q := Q) (j := 3) hw (by omega)
    rw [cJ_n (a := 106 + 4 * w) (by omega), cJ_n (a := 106 + 4 * w + 1) (by omega), cJ_n (a := 106 + 4 * w + 2) (by omega), cJ_n (a := 106 + 4 * w + 3) (by omega), e1, e2, e3]
    exact ⟨congrFun e0 3, rfl, rfl, rfl⟩
theorem jM_fr {h : qH} {s : sJ} {a : Nat} (ha : a < 122) : (jR h s).1 a = h.1 a ∧ (jR h s).2.1 a = h.2.1 a := by
  refine ⟨?_, rfl⟩
  show (if a = 142 then _ else if a = 143 then _ else if a = 146 then _ else if a = 147 then _ else if a = 148 then _ else if a = 122 then _ else h.1 a) = _
  rw [if_neg (by omega), if_neg (by omega), if_neg (by omega), if_neg (by omega), if_neg (by omega), if_neg (by omega)]
theorem kM_fr {h : qH} {qn qt qa : Nat → Nat} {a : Nat} (ha : a < 122) : (kR h qn qt qa).1 a = h.1 a ∧ (kR h qn qt qa).2.1 a = h.2.1 a := by
  refine ⟨?_, rfl⟩
  show (if a = 149 then _ else if a = 150 then _ else if a = 151 then _ else h.1 a) = _
  rw [if_neg (by omega), if_neg (by omega), if_neg (by omega)]
theorem jR_x {h : qH} {s : sJ} {a : Nat} (ha : a ≠ 142 ∧ a ≠ 143 ∧ a ≠ 146 ∧ a ≠ 147 ∧ a ≠ 148 ∧ a ≠ 122) : (jR h s).1 a = h.1 a := by
  show (if a = 142 then _ else if a = 143 then _ else if a = 146 then _ else if a = 147 then _ else if a = 148 then _ else if a = 122 then _ else h.1 a) = _
  rw [if_neg ha.1, if_neg ha.2.1, if_neg ha.2.2.1, if_neg ha.2.2.2.1, if_neg ha.2.2.2.2.1, if_neg ha.2.2.2.2.2]
theorem kR_x {h : qH} {qn qt qa : Nat → Nat} {a : Nat} (ha : a ≠ 149 ∧ a ≠ 150 ∧ a ≠ 151) : (kR h qn qt qa).1 a = h.1 a := by
  show (if a = 149 then _ else if a = 150 then _ else if a = 151 then _ else h.1 a) = _
  rw [if_neg ha.1, if_neg ha.2.1, if_neg ha.2.2]
theorem jR_f {h : qH} {s : sJ} {f : Nat} (hf : f ≠ 49) : (jR h s).1 122 f = h.1 122 f := by
  have e : (jR h s).1 122 = va_up (h.1 122) 49 (nI (sW s)) := rfl
  rw [e, qun hf]
theorem mJb_mk {h : qH} {on : Bool} {wk nt : Nat} {kt pt tq : Nat → Nat} {dn : Nat → Bool} {tm ig : Int32} {s2 : sJ} {qn qt qa : Nat → Nat} (a0 : h.1 122 37 = b2i on) (a1 : h.1 122 36 = b2i (decide (0 < nt))) (a2 : h.1 122 38 = nI wk) (a3 : h.1 122 40 = nI nt) (a4 : h.1 122 47 = tm) (a5 : h.1 122 48 = ig) (a6 : h.1 140 = iN kt) (a7 : h.1 141 = iN pt) (a8 : h.1 144 = iB dn) (a9 : h.1 145 = iN tq) : mJb (jR (kR h qn qt qa) s2).1 on wk nt kt pt tq dn tm ig s2 qn qt qa := by
  unfold mJb
  rw [jR_f (f := 37) (by omega), jR_f (f := 36) (by omega), jR_f (f := 38) (by omega), jR_f (f := 40) (by omega), jR_f (f := 47) (by omega), jR_f (f := 48) (by omega), jR_x (a := 140) (by omega), jR_x (a := 141) (by omega), jR_x (a := 144) (by omega), jR_x (a := 145) (by omega), jR_x (a := 149) (by omega), jR_x (a := 150) (by omega), jR_x (a := 151) (by omega), kR_x (a := 122) (by omega), kR_x (a := 140) (by omega), kR_x (a := 141) (by omega), kR_x (a := 144) (by omega), kR_x (a := 145) (by omega)]
  exact ⟨a0, a1, a2, a3, a4, a5, a6, a7, rfl, rfl, a8, a9, rfl, rfl, rfl, rfl, rfl, rfl, rfl⟩
theorem MI_j {h h1 : qH} {ti : Nat → Int32} {tn : Nat → Bool} {rw : Nat → Nat} {bg : Bool} {kd fi se le ri dep : Nat} {EE : Nat → List xP} {tr : Nat → Bool} {nc no : Nat} {ok : Nat → Nat} {gr : Option Nat} {ob : Nat} {dw : Bool} {lm : Int32} {RES : Nat → Nat → Option Int64} {rs wd cn : Nat} {ps : Int32} {p : Nat → Nat} {on : Bool} {wk nt : Nat} {kt pt tq : Nat → Nat} {dn : Nat → Bool} {tm ig : Int32} {s2 : sJ} {qn qt qa : Nat → Nat} {on1 : Bool} {wk1 nt1 : Nat} {kt1 pt1 tq1 : Nat → Nat} {dn1 : Nat → Bool} {tm1 ig1 : Int32} {s3 : sJ} {qn1 qt1 qa1 : Nat → Nat} (r : ∀ a, 122 < a → a < 140 → h1.1 a = h.1 a) (r2 : ∀ f, f < 36 → h1.1 122 f = h.1 122 f) (l : h1.2.1 = h.2.1) (rr : h1.2.2 = h.2.2) (hj : mJb h1.1 on1 wk1 nt1 kt1 pt1 tq1 dn1 tm1 ig1 s3 qn1 qt1 qa1) (h0 : MI h ti tn rw bg kd fi se le ri dep EE tr nc no ok gr ob dw lm RES rs wd cn ps p on wk nt kt pt tq dn tm ig s2 qn qt qa) : MI h1 ti tn rw bg kd fi se le ri dep EE tr nc no ok gr ob dw lm RES rs wd cn ps p on1 wk1 nt1 kt1 pt1 tq1 dn1 tm1 ig1 s3 qn1 qt1 qa1 := by
  obtain ⟨h2, h3, h4, h5, h6, h7, h8⟩ := h0
  refine ⟨by rw [rr]; exact h2, ?_, ?_, ?_, ?_, ?_, hj⟩
  · unfold mTb
    rw [l, r 123 (by omega) (by omega), r 125 (by omega) (by omega)]
    exact h3
  · unfold mQ1
    rw [r2 3 (by omega), r2 4 (by omega), r2 5 (by omega), r2 6 (by omega), r2 7 (by omega), r2 8 (by omega), r2 9 (by omega), r2 10 (by omega), r2 11 (by omega), r2 12 (by omega), r2 13 (by omega), r2 14 (by omega), r2 15 (by omega)]
    exact h4
  · unfold mQe
    rw [l, r 126 (by omega) (by omega), r 128 (by omega) (by omega), r 129 (by omega) (by omega), r 130 (by omega) (by omega)]
    exact h5
  · unfold mScr
    rw [r 134 (by omega) (by omega), r 136 (by omega) (by omega), r2 25 (by omega), r2 28 (by omega)]
    exact h6
  · unfold mRs
    rw [l, r 138 (by omega) (by omega), r 139 (by omega) (by omega), r2 34 (by omega), r2 33 (by omega), r2 35 (by omega)]
    exact h7
theorem jk_r {h : qH} {s : sJ} {qn qt qa : Nat → Nat} : ∀ a, 122 < a → a < 140 → (jR (kR h qn qt qa) s).1 a = h.1 a := fun a h1 h2 => (jR_x (by omega)).trans (kR_x (by omega))
theorem jk_f {h : qH} {s : sJ} {qn qt qa : Nat → Nat} : ∀ f, f < 36 → (jR (kR h qn qt qa) s).1 122 f = h.1 122 f := fun f hf => (jR_f (by omega)).trans (congrFun (kR_x (by omega)) f)
theorem w68 {kt : Nat → Nat} {s : sJ} {nt : Nat} (h1 : sW s ≤ 60 + cntB (big kt s) nt) (h2 : cntB (fun t => decide (2 ≤ kt t)) nt ≤ 8) : sW s ≤ 68 := by
  have := big_8 (s := s) h2
  omega
theorem sEq_send {s s2 : sJ} {k t a : Nat} (h : sEq s s2) (hw : sW s = sW s2) : sEq (sSend s k t a) (sSend s2 k t a) := by
  obtain ⟨h1, h2, h3, h4, h5⟩ := h
  refine ⟨h1, ?_, ?_, ?_, h5⟩
  · show va_up (sMk s) (sW s) k = va_up (sMk s2) (sW s2) k; rw [h2, hw]
  · show va_up (sMt s) (sW s) t = va_up (sMt s2) (sW s2) t; rw [h3, hw]
  · show va_up (sMa s) (sW s) a = va_up (sMa s2) (sW s2) a; rw [h4, hw]
theorem gMs_send {N nt k t a : Nat} {s : sJ} (h : gMs N nt s) (hk : k ≤ 1) (ht : t < nt) (hp : 0 < sAt s t) (ha : a ≤ N) : gMs N nt (sSend s k t a) := by
  intro i hi
  have hi : i < sW s + 1 := hi
  show va_up (sMk s) (sW s) k i ≤ 1 ∧ va_up (sMt s) (sW s) t i < nt ∧ 0 < sAt s (va_up (sMt s) (sW s) t i) ∧ va_up (sMa s) (sW s) a i ≤ N
  by_cases e : i = sW s
  · subst e; rw [qus, qus, qus]; exact ⟨hk, ht, hp, ha⟩
  · rw [qun e, qun e, qun e]; exact h i (by omega)
theorem big_at {kt : Nat → Nat} {s s2 : sJ} (h : sAt s = sAt s2) : big kt s = big kt s2 := by
  funext t
  unfold big
  rw [h]
theorem gMs_up {N nt : Nat} {s : sJ} (h : gMs N nt s) : gMs (N + 1) nt s := fun i hi => by
  obtain ⟨a, b, c, d⟩ := h i hi
  exact ⟨a, b, c, by omega⟩
theorem gQu_up {N nt : Nat} {s : sJ} {Q : sQ} {qn qt qa : Nat → Nat} (h : gQu N nt s Q qn qt qa) : gQu (N + 1) nt s Q qn qt qa := fun w hw => by
  obtain ⟨a, b, c⟩ := h w hw
  refine ⟨a, b, fun j hj => ?_⟩
  obtain ⟨d1, d2, d3, d4, d5⟩ := c j hj
  exact ⟨d1, d2, d3, d4, by omega⟩
set_option maxRecDepth 100000 in
set_option maxHeartbeats 4000000 in
theorem op_crash (x : Int32) : OpI mi_QF_crash mi_QM_crash [.int x] := by
  intro N h hN hI
  have hI0 := hI
  obtain ⟨pp, ti, tn, rt, bg, kd, fi, se, le, ri, dep, EE, tr, nc, no, ok, gr, ob, dw, lm, RES, rs, wd, cn, ps, p, on, wk, nt, kt, pt, tq, dn, tm, ig, s, Q, ud, s2, qn, qt, qa, hC, hM, hP⟩ := hI
  obtain ⟨hS, hT, h3, hE, hX, hRs, hJ⟩ := hC
  obtain ⟨mR, mT, m1, mE, mX, mRs, mJ⟩ := hM
  obtain ⟨gQ, gR, gJ⟩ := hP
  have gQ0 := gQ
  obtain ⟨q1, q2, q3, q4, q5, q6, q7, q8, q9, q10, q11, q12, q13⟩ := gQ
  have hC0 : CI h pp ti tn rt bg kd fi se le ri dep EE tr nc no ok gr ob dw lm RES rs wd cn ps p on wk nt kt pt tq dn tm ig s Q ud := ⟨hS, hT, h3, hE, hX, hRs, hJ⟩
  have hM0 : MI h ti tn rt bg kd fi se le ri dep EE tr nc no ok gr ob dw lm RES rs wd cn ps p on wk nt kt pt tq dn tm ig s2 qn qt qa := ⟨mR, mT, m1, mE, mX, mRs, mJ⟩
  have hJ0 := hJ
  obtain ⟨j1, j2, j3, j4, j5, j6, j7, j8, j9, j10, j11, j12⟩ := hJ
  have mJ0 := mJ
  obtain ⟨n1, n2, n3, n4, n5, n6, n7, n8, n9, n10, n11, n12, n13, n14, n15, n16, n17, n18, n19⟩ := mJ
  have hn16 := gJ.1
  have eC : cJ h s = h := cJ_of (fun t ht => ⟨(j7 t ht).2.2.2.1, (j7 t ht).2.2.2.2.1⟩) j8 j9 j10 j11
  have eQ : kQ h Q = h := kQ_of j12
  have eCQ : cJ (kQ h Q) s = h := by rw [eQ]; exact eC
  have hst4 : ∀ t, t < 16 → h.1 (90 + t) 0 = nI (kt t) ∧ h.1 (90 + t) 1 = nI (pt t) ∧ h.1 (90 + t) 2 = nI (tq t) ∧ h.1 (90 + t) 5 = b2i (dn t) := fun t ht => ⟨(j7 t ht).1, (j7 t ht).2.1, (j7 t ht).2.2.1, (j7 t ht).2.2.2.2.2⟩
  have hge : (on && decide (nI 0 ≤ x ∧ x ≤ nI wk - nI 1)) = (on && decide (0 ≤ x ∧ x < nI wk)) := by
    cases hon : on
    · rw [Bool.false_and, Bool.false_and]
    · rw [in_z (show wk < 2 ^ 31 by have := (gJ.2.2.2 hon).2.2.1; omega)]
  by_cases hg : (on && decide (0 ≤ x ∧ x < nI wk)) = true
  · rw [Bool.and_eq_true] at hg
    obtain ⟨hon, hg2⟩ := hg
    obtain ⟨a1, a2, a3, a4, a5, a6, a7, a8, a9, a10, a11⟩ := gJ.2.2.2 hon
    have hw68 := w68 a5 a6
    
    obtain ⟨w, hw, rfl⟩ := in_of (show wk < 2 ^ 31 by omega) hg2
    have kx := ct_QF_crash hS.1 hS.2.2 (by rw [← hon]; exact j1) wk a3 j2 w hw Q s
    rw [eCQ, (a11 w (by omega)).1] at kx
    refine op_mo (z := nI (qn w)) (dy := 2) (by omega) (by omega) kx (fun h1 => CI h1 pp ti tn rt bg kd fi se le ri dep EE tr nc no ok gr ob dw lm RES rs wd cn ps p on wk nt kt pt tq dn tm ig s (Q.1, Q.2.1, Q.2.2.1, va_up Q.2.2.2 w 0) ud ∧ MI h1 ti tn rt bg kd fi se le ri dep EE tr nc no ok gr ob dw lm RES rs wd cn ps p on wk nt kt pt tq dn tm ig s2 qn qt qa) ?_ ?_
    · rintro v h1 n ⟨e1, e2, e3⟩
      subst e2
      exact ⟨e1, ⟨CI_j (h := h) ⟨q6, q7, q8⟩ (fun a ha => ⟨jfr (by omega), rfl⟩) rfl (cJb_mk j1 j2 j3 j4 j5 j6 hst4) hC0, MI_ag (h := h) (fun a ha => ⟨jfr (by omega), rfl, rfl⟩) hM0⟩, e3⟩
    · rintro h1 ⟨hC1, hM1⟩
      have mJ1 := hM1.2.2.2.2.2.2
      have eM : jR h1 s2 = h1 := jR_of mJ1.2.2.2.2.2.2.2.2.1 mJ1.2.2.2.2.2.2.2.2.2.1 mJ1.2.2.2.2.2.2.2.2.2.2.2.2.1 mJ1.2.2.2.2.2.2.2.2.2.2.2.2.2.1 mJ1.2.2.2.2.2.2.2.2.2.2.2.2.2.2.1 mJ1.2.2.2.2.2.2.2.2.2.2.2.2.2.2.2.1
      have eK : kR h1 qn qt qa = h1 := kR_of mJ1.2.2.2.2.2.2.2.2.2.2.2.2.2.2.2.2.1 mJ1.2.2.2.2.2.2.2.2.2.2.2.2.2.2.2.2.2.1 mJ1.2.2.2.2.2.2.2.2.2.2.2.2.2.2.2.2.2.2
      have eMK : jR (kR h1 qn qt qa) s2 = h1 := by rw [eK]; exact eM
      have ky := ct_QM_crash (h := h1) hM1.1 s2 qn qt qa (by rw [← hon]; exact mJ1.1) wk a3 mJ1.2.2.1 w hw
      rw [eMK] at ky
      refine qT.imp ?_ ky
      rintro v h2 n ⟨e1, e2, e3⟩
      subst e2
      have mJ := hM1.2.2.2.2.2.2
      obtain ⟨n1, n2, n3, n4, n5, n6, n7, n8, n9, n10, n11, n12, n13, n14, n15, n16, n17, n18, n19⟩ := mJ
      refine ⟨e1, ⟨pp, ti, tn, rt, bg, kd, fi, se, le, ri, dep, EE, tr, nc, no, ok, gr, ob, dw, lm, RES, rs, wd, cn, ps, p, on, wk, nt, kt, pt, tq, dn, tm, ig, s, (Q.1, Q.2.1, Q.2.2.1, va_up Q.2.2.2 w 0), ud, s2, (va_up qn w 0), qt, qa, CI_ag (h := h1) ⟨q6, q7, q8⟩ (fun a ha => rtr (jM_fr ha) (kM_fr ha)) rfl hC1, MI_j (h := h1) jk_r jk_f rfl rfl (mJb_mk n1 n2 n3 n4 n5 n6 n7 n8 n11 n12) hM1, gQ0, gR, ⟨(gJb_up gJ).1, (gJb_up gJ).2.1, (gJb_up gJ).2.2.1, fun _ => ⟨a1, a2, a3, a4, a5, a6, a7, a8, a9, gMs_up a10, fun w2 hw2 => ?_⟩⟩⟩, e3⟩
      obtain ⟨b1, b2, b3⟩ := gQu_up a11 w2 hw2
      dsimp only
      by_cases e : w2 = w
      · subst e; rw [qus, qus]; exact ⟨rfl, by omega, fun j hj => absurd hj (Nat.not_lt_zero _)⟩
      · rw [qun e, qun e]; exact ⟨b1, b2, b3⟩
  · exact op_ro (by omega) (by omega) hI0 (ct_QF_crash_no hS.1 on j1 x _ j2 (bf hg)) (ct_QM_crash_no x on n1 wk n3 (by rw [hge]; exact bf hg))
