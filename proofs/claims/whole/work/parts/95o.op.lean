def mtF (h : qH) (wc mm wd rs : Nat) (P : Nat → Nat) (cnt psv : Int32) (vv : Nat → Int64) (vb : Nat → Bool) (T3 : sT) (hv : Nat → Int64) (hb : Nat → Bool) (kv : Nat → Int64) (kb : Nat → Bool) (kp : Nat) (wk0 : Nat → Int64) (wn0 : Nat → Int32) (sM : sJ) : qH := jR (eR (fR (tR (vR (qpI (qpI (qpI (qpI (qpI (qpI (qpI (qpI (qpI (qpI (qpI (qpI (pR (qpI (qpI (qpI h 122 38 (nI wc)) 122 39 (nI mm)) 122 29 (nI wd)) P) 122 33 cnt) 122 34 (nI wd)) 122 35 psv) 122 36 (b2i true)) 122 37 (b2i true)) 122 40 (nI 0)) 122 49 (nI 0)) 122 48 (nI 0)) 149 0 (nI 0)) 149 (0 + 1) (nI 0)) 149 (0 + 1 + 1) (nI 0)) 149 (0 + 1 + 1 + 1) (nI 0)) vv vb rs) T3) hv hb kv kb kp) wk0 wn0) sM
theorem eM_fr {h : qH} {wk : Nat → Int64} {wn : Nat → Int32} {a : Nat} (ha : a < 122) : (eR h wk wn).1 a = h.1 a ∧ (eR h wk wn).2.1 a = h.2.1 a := ⟨qun (by omega), qun (by omega)⟩
theorem fM_fr {h : qH} {hv : Nat → Int64} {hb : Nat → Bool} {kv : Nat → Int64} {kb : Nat → Bool} {kp a : Nat} (ha : a < 122) : (fR h hv hb kv kb kp).1 a = h.1 a ∧ (fR h hv hb kv kb kp).2.1 a = h.2.1 a := by
  refine ⟨?_, ?_⟩
  · show (if a = 134 then _ else if a = 136 then _ else if a = 122 then _ else h.1 a) = _
    rw [if_neg (by omega), if_neg (by omega), if_neg (by omega)]
  · show (if a = 133 then _ else if a = 135 then _ else h.2.1 a) = _
    rw [if_neg (by omega), if_neg (by omega)]
theorem tM_fr {h : qH} {s : sT} {a : Nat} (ha : a < 122) : (tR h s).1 a = h.1 a ∧ (tR h s).2.1 a = h.2.1 a := by
  refine ⟨?_, rfl⟩
  show (if a = 140 then _ else if a = 141 then _ else if a = 142 then _ else if a = 144 then _ else if a = 145 then _ else if a = 122 then _ else h.1 a) = _
  rw [if_neg (by omega), if_neg (by omega), if_neg (by omega), if_neg (by omega), if_neg (by omega), if_neg (by omega)]
theorem vM_fr {h : qH} {vv : Nat → Int64} {vb : Nat → Bool} {rs a : Nat} (ha : a < 122) : (vR h vv vb rs).1 a = h.1 a ∧ (vR h vv vb rs).2.1 a = h.2.1 a := by
  refine ⟨?_, ?_⟩
  · show (if a = 138 then _ else if a = 122 then _ else h.1 a) = _
    rw [if_neg (by omega), if_neg (by omega)]
  · show (if a = 137 then _ else h.2.1 a) = _
    rw [if_neg (by omega)]
theorem pM_fr {h : qH} {p : Nat → Nat} {a : Nat} (ha : a < 122) : (pR h p).1 a = h.1 a ∧ (pR h p).2.1 a = h.2.1 a := ⟨qun (by omega), rfl⟩
theorem mtF_fr {h : qH} {wc mm wd rs : Nat} {P : Nat → Nat} {cnt psv : Int32} {vv : Nat → Int64} {vb : Nat → Bool} {T3 : sT} {hv : Nat → Int64} {hb : Nat → Bool} {kv : Nat → Int64} {kb : Nat → Bool} {kp : Nat} {wk0 : Nat → Int64} {wn0 : Nat → Int32} {sM : sJ} {a : Nat} (ha : a < 122) : (mtF h wc mm wd rs P cnt psv vv vb T3 hv hb kv kb kp wk0 wn0 sM).1 a = h.1 a ∧ (mtF h wc mm wd rs P cnt psv vv vb T3 hv hb kv kb kp wk0 wn0 sM).2.1 a = h.2.1 a :=
  rtr (jM_fr ha) (rtr (eM_fr ha) (rtr (fM_fr ha) (rtr (tM_fr ha) (rtr (vM_fr ha) (rtr (qo (by omega)) (rtr (qo (by omega)) (rtr (qo (by omega)) (rtr (qo (by omega)) (rtr (qo (by omega)) (rtr (qo (by omega)) (rtr (qo (by omega)) (rtr (qo (by omega)) (rtr (qo (by omega)) (rtr (qo (by omega)) (rtr (qo (by omega)) (rtr (qo (by omega)) (rtr (pM_fr ha) (rtr (qo (by omega)) (rtr (qo (by omega)) (qo (by omega)))))))))))))))))))))
theorem mtF_r {h : qH} {wc mm wd rs : Nat} {P : Nat → Nat} {cnt psv : Int32} {vv : Nat → Int64} {vb : Nat → Bool} {T3 : sT} {hv : Nat → Int64} {hb : Nat → Bool} {kv : Nat → Int64} {kb : Nat → Bool} {kp : Nat} {wk0 : Nat → Int64} {wn0 : Nat → Int32} {sM : sJ} : (mtF h wc mm wd rs P cnt psv vv vb T3 hv hb kv kb kp wk0 wn0 sM).2.2 = h.2.2 := rfl
theorem mtF_q {h : qH} {wc mm wd rs : Nat} {P : Nat → Nat} {cnt psv : Int32} {vv : Nat → Int64} {vb : Nat → Bool} {T3 : sT} {hv : Nat → Int64} {hb : Nat → Bool} {kv : Nat → Int64} {kb : Nat → Bool} {kp : Nat} {wk0 : Nat → Int64} {wn0 : Nat → Int32} {sM : sJ} {f : Nat} (hf : f < 16) : (mtF h wc mm wd rs P cnt psv vv vb T3 hv hb kv kb kp wk0 wn0 sM).1 122 f = h.1 122 f := by
  have e : f = 0 ∨ f = 1 ∨ f = 2 ∨ f = 3 ∨ f = 4 ∨ f = 5 ∨ f = 6 ∨ f = 7 ∨ f = 8 ∨ f = 9 ∨ f = 10 ∨ f = 11 ∨ f = 12 ∨ f = 13 ∨ f = 14 ∨ f = 15 := by omega
  rcases e with rfl | rfl | rfl | rfl | rfl | rfl | rfl | rfl | rfl | rfl | rfl | rfl | rfl | rfl | rfl | rfl <;> rfl
theorem mtF_tm {h : qH} {wc mm wd rs : Nat} {P : Nat → Nat} {cnt psv : Int32} {vv : Nat → Int64} {vb : Nat → Bool} {T3 : sT} {hv : Nat → Int64} {hb : Nat → Bool} {kv : Nat → Int64} {kb : Nat → Bool} {kp : Nat} {wk0 : Nat → Int64} {wn0 : Nat → Int32} {sM : sJ} : (mtF h wc mm wd rs P cnt psv vv vb T3 hv hb kv kb kp wk0 wn0 sM).1 122 47 = h.1 122 47 := rfl
theorem mtF_rows {h : qH} {wc mm wd rs : Nat} {P : Nat → Nat} {cnt psv : Int32} {vv : Nat → Int64} {vb : Nat → Bool} {T3 : sT} {hv : Nat → Int64} {hb : Nat → Bool} {kv : Nat → Int64} {kb : Nat → Bool} {kp : Nat} {wk0 : Nat → Int64} {wn0 : Nat → Int32} {sM : sJ} : (mtF h wc mm wd rs P cnt psv vv vb T3 hv hb kv kb kp wk0 wn0 sM).1 123 = h.1 123 ∧ (mtF h wc mm wd rs P cnt psv vv vb T3 hv hb kv kb kp wk0 wn0 sM).2.1 124 = h.2.1 124 ∧ (mtF h wc mm wd rs P cnt psv vv vb T3 hv hb kv kb kp wk0 wn0 sM).1 125 = h.1 125 ∧ (mtF h wc mm wd rs P cnt psv vv vb T3 hv hb kv kb kp wk0 wn0 sM).1 126 = h.1 126 ∧ (mtF h wc mm wd rs P cnt psv vv vb T3 hv hb kv kb kp wk0 wn0 sM).2.1 127 = h.2.1 127 ∧ (mtF h wc mm wd rs P cnt psv vv vb T3 hv hb kv kb kp wk0 wn0 sM).1 128 = h.1 128 ∧ (mtF h wc mm wd rs P cnt psv vv vb T3 hv hb kv kb kp wk0 wn0 sM).1 129 = h.1 129 ∧ (mtF h wc mm wd rs P cnt psv vv vb T3 hv hb kv kb kp wk0 wn0 sM).1 130 = h.1 130 ∧ (mtF h wc mm wd rs P cnt psv vv vb T3 hv hb kv kb kp wk0 wn0 sM).1 150 = h.1 150 ∧ (mtF h wc mm wd rs P cnt psv vv vb T3 hv hb kv kb kp wk0 wn0 sM).1 151 = h.1 151 := ⟨rfl, rfl, rfl, rfl, rfl, rfl, rfl, rfl, rfl, rfl⟩
theorem mtF_scr {h : qH} {wc mm wd rs : Nat} {P : Nat → Nat} {cnt psv : Int32} {vv : Nat → Int64} {vb : Nat → Bool} {T3 : sT} {hv : Nat → Int64} {hb : Nat → Bool} {kv : Nat → Int64} {kb : Nat → Bool} {kp : Nat} {wk0 : Nat → Int64} {wn0 : Nat → Int32} {sM : sJ} : mScr (mtF h wc mm wd rs P cnt psv vv vb T3 hv hb kv kb kp wk0 wn0 sM) := ⟨hb, kb, kp, rs, rfl, rfl, rfl, rfl⟩
theorem mtF_rs {h : qH} {wc mm wd rs : Nat} {P : Nat → Nat} {cnt psv : Int32} {vv : Nat → Int64} {vb : Nat → Bool} {T3 : sT} {hv : Nat → Int64} {hb : Nat → Bool} {kv : Nat → Int64} {kb : Nat → Bool} {kp : Nat} {wk0 : Nat → Int64} {wn0 : Nat → Int32} {sM : sJ} {RES : Nat → Nat → Option Int64} {cn : Nat} (hc : cnt = nI cn) (hr : ∀ i, i < rs → ∀ c, c < wd → vv (4 * i + c) = (RES i c).getD 0 ∧ vb (4 * i + c) = (RES i c).isNone) : mRs (mtF h wc mm wd rs P cnt psv vv vb T3 hv hb kv kb kp wk0 wn0 sM) RES rs wd cn psv P := by
  refine ⟨⟨vb, rfl⟩, rfl, rfl, hc, rfl, fun i hi c hcc => ⟨(hr i hi c hcc).1, ?_⟩⟩
  exact congrArg b2i (hr i hi c hcc).2
theorem mtF_149 {h : qH} {wc mm wd rs : Nat} {P : Nat → Nat} {cnt psv : Int32} {vv : Nat → Int64} {vb : Nat → Bool} {T3 : sT} {hv : Nat → Int64} {hb : Nat → Bool} {kv : Nat → Int64} {kb : Nat → Bool} {kp : Nat} {wk0 : Nat → Int64} {wn0 : Nat → Int32} {sM : sJ} {qn : Nat → Nat} (hq : h.1 149 = iN qn) : (mtF h wc mm wd rs P cnt psv vv vb T3 hv hb kv kb kp wk0 wn0 sM).1 149 = iN (va_up (va_up (va_up (va_up qn 0 0) 1 0) 2 0) 3 0) := by
  show va_up (va_up (va_up (va_up (h.1 149) 0 (nI 0)) 1 (nI 0)) 2 (nI 0)) 3 (nI 0) = _
  rw [hq, iN_up, iN_up, iN_up, iN_up]
theorem mtF_job {h : qH} {wc mm wd rs : Nat} {P : Nat → Nat} {cnt psv : Int32} {vv : Nat → Int64} {vb : Nat → Bool} {T3 : sT} {hv : Nat → Int64} {hb : Nat → Bool} {kv : Nat → Int64} {kb : Nat → Bool} {kp : Nat} {wk0 : Nat → Int64} {wn0 : Nat → Int32} {sM : sJ} {tm : Int32} {qn qt qa : Nat → Nat} (htm : h.1 122 47 = tm) (h0 : 0 < tN T3) (hq : h.1 149 = iN qn) (hq2 : h.1 150 = iN qt) (hq3 : h.1 151 = iN qa) : mJb (mtF h wc mm wd rs P cnt psv vv vb T3 hv hb kv kb kp wk0 wn0 sM).1 true wc (tN T3) (tK T3) (tP T3) (tQ T3) (tF T3) tm (nI 0) sM (va_up (va_up (va_up (va_up qn 0 0) 1 0) 2 0) 3 0) qt qa := by
  refine ⟨rfl, ?_, rfl, rfl, htm, rfl, rfl, rfl, rfl, rfl, rfl, rfl, rfl, rfl, rfl, rfl, mtF_149 hq, hq2, hq3⟩
  rw [decide_eq_true h0]
  rfl
theorem mtF_MI {h : qH} {wc mm wd rs : Nat} {P : Nat → Nat} {cnt psv : Int32} {vv : Nat → Int64} {vb : Nat → Bool} {T3 : sT} {hv : Nat → Int64} {hb : Nat → Bool} {kv : Nat → Int64} {kb : Nat → Bool} {kp : Nat} {wk0 : Nat → Int64} {wn0 : Nat → Int32} {sM : sJ} {ti : Nat → Int32} {tn : Nat → Bool} {rw : Nat → Nat} {bg : Bool} {kd fi se le ri dep : Nat} {EE : Nat → List xP} {tr : Nat → Bool} {nc no : Nat} {ok : Nat → Nat} {gr : Option Nat} {ob : Nat} {dw : Bool} {lm : Int32} {RES RES0 : Nat → Nat → Option Int64} {rs0 wd0 cn0 cn : Nat} {ps0 : Int32} {p0 : Nat → Nat} {on : Bool} {wk nt : Nat} {kt pt tq : Nat → Nat} {dn : Nat → Bool} {tm ig : Int32} {s2 : sJ} {qn qt qa : Nat → Nat} (h0 : MI h ti tn rw bg kd fi se le ri dep EE tr nc no ok gr ob dw lm RES0 rs0 wd0 cn0 ps0 p0 on wk nt kt pt tq dn tm ig s2 qn qt qa) (hc : cnt = nI cn) (hr : ∀ i, i < rs → ∀ c, c < wd → vv (4 * i + c) = (RES i c).getD 0 ∧ vb (4 * i + c) = (RES i c).isNone) (hn : 0 < tN T3) : MI (mtF h wc mm wd rs P cnt psv vv vb T3 hv hb kv kb kp wk0 wn0 sM) ti tn rw bg kd fi se le ri dep EE tr nc no ok gr ob dw lm RES rs wd cn psv P true wc (tN T3) (tK T3) (tP T3) (tQ T3) (tF T3) tm (nI 0) sM (va_up (va_up (va_up (va_up qn 0 0) 1 0) 2 0) 3 0) qt qa := by
  obtain ⟨h2, h3, h4, h5, h6, h7, h8⟩ := h0
  obtain ⟨r1, r2, r3, r4, r5, r6, r7, r8, r9, r10⟩ := mtF_rows (h := h) (wc := wc) (mm := mm) (wd := wd) (rs := rs) (P := P) (cnt := cnt) (psv := psv) (vv := vv) (vb := vb) (T3 := T3) (hv := hv) (hb := hb) (kv := kv) (kb := kb) (kp := kp) (wk0 := wk0) (wn0 := wn0) (sM := sM)
  refine ⟨h2, ?_, ?_, ?_, mtF_scr, mtF_rs hc hr, mtF_job h8.2.2.2.2.1 hn h8.2.2.2.2.2.2.2.2.2.2.2.2.2.2.2.2.1 h8.2.2.2.2.2.2.2.2.2.2.2.2.2.2.2.2.2.1 h8.2.2.2.2.2.2.2.2.2.2.2.2.2.2.2.2.2.2⟩
  · unfold mTb
    rw [r1, r2, r3]
    exact h3
  · unfold mQ1
    rw [mtF_q (f := 3) (by omega), mtF_q (f := 4) (by omega), mtF_q (f := 5) (by omega), mtF_q (f := 6) (by omega), mtF_q (f := 7) (by omega), mtF_q (f := 8) (by omega), mtF_q (f := 9) (by omega), mtF_q (f := 10) (by omega), mtF_q (f := 11) (by omega), mtF_q (f := 12) (by omega), mtF_q (f := 13) (by omega), mtF_q (f := 14) (by omega), mtF_q (f := 15) (by omega)]
    exact h4
  · unfold mQe
    rw [r4, r5, r6, r7, r8]
    exact h5
