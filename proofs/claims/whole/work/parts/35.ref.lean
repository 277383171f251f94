theorem pR_in {h : qH} {vv : Nat → Int64} {vb : Nat → Bool} {rs : Nat} {hv : Nat → Int64} {hb : Nat → Bool} {kv : Nat → Int64} {kb : Nat → Bool} {kp : Nat} {wk : Nat → Int64} {wn : Nat → Int32} {p : Nat → Nat} : pR (eR (fR (vR h vv vb rs) hv hb kv kb kp) wk wn) p = eR (fR (vR (pR h p) vv vb rs) hv hb kv kb kp) wk wn := by
  unfold pR eR fR vR
  dsimp only
  refine Prod.ext ?_ rfl
  funext a
  dsimp only
  by_cases h1 : a = 139
  · subst h1
    rw [qus, qun (by decide)]
    rfl
  · rw [qun h1]
    by_cases h2 : a = 132
    · subst h2
      rw [qus, qus]
    · rw [qun h2, qun h2]
      by_cases h3 : a = 122
      · subst h3
        rfl
      · simp only [h3, if_false, qun h1]
theorem wi_14 : ∀ x, 1 ≤ x → x ≤ 4 → decide (nI 1 ≤ nI x ∧ nI x ≤ nI 4) = true := by
  intro x h1 h2
  have h : x = 1 ∨ x = 2 ∨ x = 3 ∨ x = 4 := by omega
  rcases h with rfl | rfl | rfl | rfl <;> decide
theorem wi_38 : ∀ x, 3 ≤ x → x ≤ 8 → decide (nI 3 ≤ nI x ∧ nI x ≤ nI 8) = true := by
  intro x h1 h2
  have h : x = 3 ∨ x = 4 ∨ x = 5 ∨ x = 6 ∨ x = 7 ∨ x = 8 := by omega
  rcases h with rfl | rfl | rfl | rfl | rfl | rfl <;> decide
set_option maxRecDepth 100000 in
set_option maxHeartbeats 4000000 in
theorem ct_QM_start_no {h : qH} (hR : h.2.2 122 = qRQM) (w m : Int32) (bg on : Bool) (hbeg : h.1 122 3 = b2i bg) (hon : h.1 122 37 = b2i on) (no : Nat) (hno3 : no ≤ 3) (hno : h.1 122 15 = nI no) (gr : Int32) (hgr : h.1 122 9 = gr) (dep : Nat) (h8 : dep ≤ 8) (hdep : h.1 122 13 = nI dep) (hno2 : ((bg && !on) && (decide (0 ≤ (rform (h.1 130) no gr)) && (decide (dep = 0) && (decide (nI 1 ≤ w ∧ w ≤ nI 4) && decide (nI 3 ≤ m ∧ m ≤ nI 8))))) = false) : qT mi_QM_start 1 0 0 [.ref 122, .int w, .int m] h NN (fun v1 h1 n1 => v1 = some (.int (-1)) ∧ h = h1 ∧ n1 = NN) := by
  refine qT.of (lv0 := [_, _, _, _]) (by decide +kernel) (fun _ _ => Nat.le_of_ble_eq_true rfl) rfl ?_
  refine qx_aload_n d_QM_start_0 rfl rfl ?_
  refine qx_callV (As := []) (rest := _) d_QM_start_1 lk_QM_147 y_QM_open v_QM_open rfl rfl rfl (by decide) rfl rfl rfl rfl (by decide) (by decide) (ct_QM_open bg on hbeg hon) ?_
  rintro _ _ _ ⟨rfl, rfl, rfl⟩
  refine qx_if_eqB (t := 40) d_QM_start_4 rfl (fun c4 => ?_) (fun c4 => ?_)
  · refine qx_iconst (v := (-1)) d_QM_start_40 rfl ?_
    exact qx_iret d_QM_start_41 rfl rfl (by omega) (by omega) ⟨rfl, rfl, rfl⟩
  · refine qx_aload_n d_QM_start_7 rfl rfl ?_
    refine qx_callV (As := []) (rest := _) d_QM_start_8 lk_QM_229 y_QM_form v_QM_form rfl rfl rfl (by decide) rfl rfl rfl rfl (by decide) (by decide) (ct_QM_form hR no hno3 hno gr hgr) ?_
    rintro _ _ _ ⟨rfl, rfl, rfl⟩
    refine qx_if_lt (t := 40) d_QM_start_11 rfl (fun c11 => ?_) (fun c11 => ?_)
    · refine qx_iconst (v := (-1)) d_QM_start_40 rfl ?_
      exact qx_iret d_QM_start_41 rfl rfl (by omega) (by omega) ⟨rfl, rfl, rfl⟩
    · refine qx_aload_n d_QM_start_14 rfl rfl ?_
      refine qx_getI d_QM_start_15 fI_QM_138 rfl rfl hdep ?_
      refine qx_if_gtN (t := 40) d_QM_start_18 rfl (by omega) (fun c18 => ?_) (fun c18 => ?_)
      · refine qx_iconst (v := (-1)) d_QM_start_40 rfl ?_
        exact qx_iret d_QM_start_41 rfl rfl (by omega) (by omega) ⟨rfl, rfl, rfl⟩
      · refine qx_iload_n d_QM_start_21 rfl rfl ?_
        refine qx_iconstN (v := 1) d_QM_start_22 rfl ?_
        refine qx_iconstN (v := 4) d_QM_start_23 rfl ?_
        refine qx_callS (As := [_, _, _]) (rest := _) d_QM_start_24 lk_QM_103 y_QM_within s_QM_within rfl rfl rfl rfl (by decide) (by decide) (ct_QM_within _ _ _) ?_
        rintro _ _ _ ⟨rfl, rfl, rfl⟩
        refine qx_if_eqB (t := 40) d_QM_start_27 rfl (fun c27 => ?_) (fun c27 => ?_)
        · refine qx_iconst (v := (-1)) d_QM_start_40 rfl ?_
          exact qx_iret d_QM_start_41 rfl rfl (by omega) (by omega) ⟨rfl, rfl, rfl⟩
        · refine qx_iload_n d_QM_start_30 rfl rfl ?_
          refine qx_iconstN (v := 3) d_QM_start_31 rfl ?_
          refine qx_bipushN (v := 8) d_QM_start_32 rfl ?_
          refine qx_callS (As := [_, _, _]) (rest := _) d_QM_start_34 lk_QM_103 y_QM_within s_QM_within rfl rfl rfl rfl (by decide) (by decide) (ct_QM_within _ _ _) ?_
          rintro _ _ _ ⟨rfl, rfl, rfl⟩
          refine qx_if_neB (t := 42) d_QM_start_37 rfl (fun c37 => ?_) (fun c37 => ?_)
          · exact absurd hno2 (by rw [c4, decide_eq_true (Int32.not_lt.mp c11), decide_eq_true (show dep = 0 by omega), c27, c37]; decide)
          · refine qx_iconst (v := (-1)) d_QM_start_40 rfl ?_
            exact qx_iret d_QM_start_41 rfl rfl (by omega) (by omega) ⟨rfl, rfl, rfl⟩
set_option maxRecDepth 100000 in
set_option maxHeartbeats 16000000 in
theorem ct_QM_start {h : qH} (hR : h.2.2 122 = qRQM) (tv : Nat → Int64) (tn : Nat → Bool) (htv : ∀ k, k < 72 → h.2.1 124 k = tv k ∧ h.1 125 k = b2i (tn k)) (nc : Nat) (hnc6 : nc ≤ 6) (hnc : h.1 122 14 = nI nc) (CE : Nat → List xP) (hce : ∀ c, c < nc → (CE c).length ≤ 24 ∧ h.1 128 (8 + c) = nI (CE c).length ∧ rExp (h.1 126) (h.2.1 127) (24 * (8 + c)) (CE c) ∧ xT 8 [] (CE c) = some [true]) (kd fi se le ri : Nat) (hk3 : kd < 3) (hfi3 : fi < 3) (hkd : h.1 122 4 = nI kd) (hfi : h.1 122 5 = nI fi) (hse : kd ≠ 0 → h.1 122 6 = nI se ∧ se < 3 ∧ h.1 122 7 = nI le ∧ le < 2 ∧ h.1 122 8 = nI ri ∧ ri < 2) (n1r n2r : Nat) (hn1 : n1r ≤ 12) (hn2 : n2r ≤ 12) (hr1 : h.1 123 fi = nI n1r) (hr2 : kd ≠ 0 → h.1 123 se = nI n2r) (hr0 : kd = 0 → n2r = 0) (gr : Option Nat) (hgr4 : ∀ g, gr = some g → g < 4) (hgr : h.1 122 9 = grI gr) (OE : Nat → List xP) (ok : Nat → Nat) (no : Nat) (hno3 : no ≤ 3) (hno : h.1 122 15 = nI no) (hoe : ∀ o, o < no → h.1 130 o = nI (ok o) ∧ ok o < 6 ∧ (ok o ≠ 1 → (OE o).length ≤ 24 ∧ h.1 128 (14 + o) = nI (OE o).length ∧ rExp (h.1 126) (h.2.1 127) (24 * (14 + o)) (OE o) ∧ xT 8 [] (OE o) = some [false])) (fm : Nat) (hfm : fm < 2) (hform : rform (h.1 130) no (grI gr) = nI fm) (tm : Int32) (htm : h.1 122 47 = tm) (sa : Nat → Int32) (mk mt ma : Nat → Nat) (hsa : h.1 143 = sa) (hmk : h.1 146 = iN mk) (hmt : h.1 147 = iN mt) (hma : h.1 148 = iN ma) (ob : Nat) (hob4 : ob < 4) (hob : h.1 122 10 = nI ob) (dw : Bool) (hdw : h.1 122 11 = b2i dw) (lm : Int32) (hlm : h.1 122 12 = lm) (p0 : Nat → Nat) (hp0 : h.1 139 = iN p0) (tk tp ta tq : Nat → Nat) (tf : Nat → Bool) (htk : h.1 140 = iN tk) (htp : h.1 141 = iN tp) (hta : h.1 142 = iN ta) (htf : h.1 144 = iB tf) (htq : h.1 145 = iN tq) (hbeg : h.1 122 3 = b2i true) (hon : h.1 122 37 = b2i false) (hdep : h.1 122 13 = nI 0) (wc mm : Nat) (h1w : 1 ≤ wc) (hw4 : wc ≤ 4) (h3m : 3 ≤ mm) (hm8 : mm ≤ 8) (vv : Nat → Int64) (vb : Nat → Bool) (rs : Nat) (hv : Nat → Int64) (hb : Nat → Bool) (kv : Nat → Int64) (kb : Nat → Bool) (kp : Nat) (wk : Nat → Int64) (wn : Nat → Int32) : qT mi_QM_start 7 0 0 [.ref 122, .int (nI wc), .int (nI mm)] (eR (fR (vR h vv vb rs) hv hb kv kb kp) wk wn) NN (fun v1 h1 n1 => (∃ kv1 kb1, kRep (jV tv fi se) (jB tn fi se) kv1 kb1 (jOut (fun f s => allT (jRow tv tn fi se f s) CE nc) (jM tv tn fi se le ri) n2r kd n1r) ∧ v1 = some (.int (nI (tN (tP3 fm kd wc (scQ tv tn CE nc kd wc fi 0 n1r) (scQ tv tn CE nc kd wc se 1 n2r) (joQ wc kv1 kb1 (jOut (fun f s => allT (jRow tv tn fi se f s) CE nc) (jM tv tn fi se le ri) n2r kd n1r).2.2 le) (grQ wc gr (rRv fm gr OE ok kv1 kb1 (jOut (fun f s => allT (jRow tv tn fi se f s) CE nc) (jM tv tn fi se le ri) n2r kd n1r).2.2) (rRn fm gr kv1 kb1 (jOut (fun f s => allT (jRow tv tn fi se f s) CE nc) (jM tv tn fi se le ri) n2r kd n1r).2.2)) (tk, tp, ta, tf, tq, 0))))) ∧ (∃ hv1 hb1 wk1 wn1 vv1 vb1, h1 = jR (eR (fR (tR (vR (qpI (qpI (qpI (qpI (qpI (qpI (qpI (qpI (qpI (qpI (qpI (qpI (pR (qpI (qpI (qpI h 122 38 (nI wc)) 122 39 (nI mm)) 122 29 (nI (grS gr + no))) (srt (fun a b => bef ob (grS gr + no) dw ((rRv fm gr OE ok kv1 kb1 (jOut (fun f s => allT (jRow tv tn fi se f s) CE nc) (jM tv tn fi se le ri) n2r kd n1r).2.2) a) ((rRv fm gr OE ok kv1 kb1 (jOut (fun f s => allT (jRow tv tn fi se f s) CE nc) (jM tv tn fi se le ri) n2r kd n1r).2.2) b)) p0 (rRn fm gr kv1 kb1 (jOut (fun f s => allT (jRow tv tn fi se f s) CE nc) (jM tv tn fi se le ri) n2r kd n1r).2.2))) 122 33 (if 0 ≤ lm ∧ lm < nI (rRn fm gr kv1 kb1 (jOut (fun f s => allT (jRow tv tn fi se f s) CE nc) (jM tv tn fi se le ri) n2r kd n1r).2.2) then lm else nI (rRn fm gr kv1 kb1 (jOut (fun f s => allT (jRow tv tn fi se f s) CE nc) (jM tv tn fi se le ri) n2r kd n1r).2.2))) 122 34 (nI (grS gr + no))) 122 35 (nI (psA mm (rRn fm gr kv1 kb1 (jOut (fun f s => allT (jRow tv tn fi se f s) CE nc) (jM tv tn fi se le ri) n2r kd n1r).2.2)))) 122 36 (b2i true)) 122 37 (b2i true)) 122 40 (nI 0)) 122 49 (nI 0)) 122 48 (nI 0)) 149 0 (nI 0)) 149 (0 + 1) (nI 0)) 149 (0 + 1 + 1) (nI 0)) 149 (0 + 1 + 1 + 1) (nI 0)) vv1 vb1 (rRn fm gr kv1 kb1 (jOut (fun f s => allT (jRow tv tn fi se f s) CE nc) (jM tv tn fi se le ri) n2r kd n1r).2.2)) (tP3 fm kd wc (scQ tv tn CE nc kd wc fi 0 n1r) (scQ tv tn CE nc kd wc se 1 n2r) (joQ wc kv1 kb1 (jOut (fun f s => allT (jRow tv tn fi se f s) CE nc) (jM tv tn fi se le ri) n2r kd n1r).2.2 le) (grQ wc gr (rRv fm gr OE ok kv1 kb1 (jOut (fun f s => allT (jRow tv tn fi se f s) CE nc) (jM tv tn fi se le ri) n2r kd n1r).2.2) (rRn fm gr kv1 kb1 (jOut (fun f s => allT (jRow tv tn fi se f s) CE nc) (jM tv tn fi se le ri) n2r kd n1r).2.2)) (tk, tp, ta, tf, tq, 0))) hv1 hb1 kv1 kb1 (jOut (fun f s => allT (jRow tv tn fi se f s) CE nc) (jM tv tn fi se le ri) n2r kd n1r).2.2) wk1 wn1) (sReady (tK (tP3 fm kd wc (scQ tv tn CE nc kd wc fi 0 n1r) (scQ tv tn CE nc kd wc se 1 n2r) (joQ wc kv1 kb1 (jOut (fun f s => allT (jRow tv tn fi se f s) CE nc) (jM tv tn fi se le ri) n2r kd n1r).2.2 le) (grQ wc gr (rRv fm gr OE ok kv1 kb1 (jOut (fun f s => allT (jRow tv tn fi se f s) CE nc) (jM tv tn fi se le ri) n2r kd n1r).2.2) (rRn fm gr kv1 kb1 (jOut (fun f s => allT (jRow tv tn fi se f s) CE nc) (jM tv tn fi se le ri) n2r kd n1r).2.2)) (tk, tp, ta, tf, tq, 0))) (tF (tP3 fm kd wc (scQ tv tn CE nc kd wc fi 0 n1r) (scQ tv tn CE nc kd wc se 1 n2r) (joQ wc kv1 kb1 (jOut (fun f s => allT (jRow tv tn fi se f s) CE nc) (jM tv tn fi se le ri) n2r kd n1r).2.2 le) (grQ wc gr (rRv fm gr OE ok kv1 kb1 (jOut (fun f s => allT (jRow tv tn fi se f s) CE nc) (jM tv tn fi se le ri) n2r kd n1r).2.2) (rRn fm gr kv1 kb1 (jOut (fun f s => allT (jRow tv tn fi se f s) CE nc) (jM tv tn fi se le ri) n2r kd n1r).2.2)) (tk, tp, ta, tf, tq, 0))) (tN (tP3 fm kd wc (scQ tv tn CE nc kd wc fi 0 n1r) (scQ tv tn CE nc kd wc se 1 n2r) (joQ wc kv1 kb1 (jOut (fun f s => allT (jRow tv tn fi se f s) CE nc) (jM tv tn fi se le ri) n2r kd n1r).2.2 le) (grQ wc gr (rRv fm gr OE ok kv1 kb1 (jOut (fun f s => allT (jRow tv tn fi se f s) CE nc) (jM tv tn fi se le ri) n2r kd n1r).2.2) (rRn fm gr kv1 kb1 (jOut (fun f s => allT (jRow tv tn fi se f s) CE nc) (jM tv tn fi se le ri) n2r kd n1r).2.2)) (tk, tp, ta, tf, tq, 0))) tm (tA (tP3 fm kd wc (scQ tv tn CE nc kd wc fi 0 n1r) (scQ tv tn CE nc kd wc se 1 n2r) (joQ wc kv1 kb1 (jOut (fun f s => allT (jRow tv tn fi se f s) CE nc) (jM tv tn fi se le ri) n2r kd n1r).2.2 le) (grQ wc gr (rRv fm gr OE ok kv1 kb1 (jOut (fun f s => allT (jRow tv tn fi se f s) CE nc) (jM tv tn fi se le ri) n2r kd n1r).2.2) (rRn fm gr kv1 kb1 (jOut (fun f s => allT (jRow tv tn fi se f s) CE nc) (jM tv tn fi se le ri) n2r kd n1r).2.2)) (tk, tp, ta, tf, tq, 0)), sa, mk, mt, ma, 0) (tN (tP3 fm kd wc (scQ tv tn CE nc kd wc fi 0 n1r) (scQ tv tn CE nc kd wc se 1 n2r) (joQ wc kv1 kb1 (jOut (fun f s => allT (jRow tv tn fi se f s) CE nc) (jM tv tn fi se le ri) n2r kd n1r).2.2 le) (grQ wc gr (rRv fm gr OE ok kv1 kb1 (jOut (fun f s => allT (jRow tv tn fi se f s) CE nc) (jM tv tn fi se le ri) n2r kd n1r).2.2) (rRn fm gr kv1 kb1 (jOut (fun f s => allT (jRow tv tn fi se f s) CE nc) (jM tv tn fi se le ri) n2r kd n1r).2.2)) (tk, tp, ta, tf, tq, 0)))) ∧ vRep (rRv fm gr OE ok kv1 kb1 (jOut (fun f s => allT (jRow tv tn fi se f s) CE nc) (jM tv tn fi se le ri) n2r kd n1r).2.2) (grS gr + no) vv1 vb1 (rRn fm gr kv1 kb1 (jOut (fun f s => allT (jRow tv tn fi se f s) CE nc) (jM tv tn fi se le ri) n2r kd n1r).2.2))) ∧ n1 = NN) := by
  refine qT.of (lv0 := [_, _, _, _]) (by decide +kernel) (fun _ _ => Nat.le_of_ble_eq_true rfl) rfl ?_
  have hkp : (jOut (fun f s => allT (jRow tv tn fi se f s) CE nc) (jM tv tn fi se le ri) n2r kd n1r).2.2 ≤ 144 := by
    have := jOut_le (fun f s => allT (jRow tv tn fi se f s) CE nc) (jM tv tn fi se le ri) n2r kd hn2 hr0 n1r
    omega
  have h1d : 1 ≤ (grS gr + no) := by
    have hf : fm = 0 ∨ fm = 1 := by omega
    rcases hf with e | e
    · rw [e] at hform
      have := rform_0 hgr4 hform (fun q hq => ⟨(hoe q hq).1, (hoe q hq).2.1⟩)
      omega
    · rw [e] at hform
      exact rform_1 hform
  have hd4 : (grS gr + no) ≤ 4 := by cases gr <;> simp only [grS] <;> omega
  refine qx_aload_n d_QM_start_0 rfl rfl ?_
  refine qx_callV (As := []) (rest := _) d_QM_start_1 lk_QM_147 y_QM_open v_QM_open rfl rfl rfl (by decide) rfl rfl rfl rfl (by decide) (by decide) (ct_QM_open (h := (eR (fR (vR h vv vb rs) hv hb kv kb kp) wk wn)) true false hbeg hon) ?_
  rintro _ _ _ ⟨rfl, rfl, rfl⟩
  refine qx_if_eqB (t := 40) d_QM_start_4 rfl (fun c4 => absurd c4 (by decide)) (fun c4 => ?_)
  refine qx_aload_n d_QM_start_7 rfl rfl ?_
  refine qx_callV (As := []) (rest := _) d_QM_start_8 lk_QM_229 y_QM_form v_QM_form rfl rfl rfl (by decide) rfl rfl rfl rfl (by decide) (by decide) (ct_QM_form (h := (eR (fR (vR h vv vb rs) hv hb kv kb kp) wk wn)) hR no hno3 hno (grI gr) hgr) ?_
  rintro _ _ _ ⟨rfl, rfl, rfl⟩
  rw [show rform ((eR (fR (vR h vv vb rs) hv hb kv kb kp) wk wn).1 130) no (grI gr) = _ from hform]
  refine qx_if_ltN (t := 40) d_QM_start_11 rfl (by omega) ?_
  refine qx_aload_n d_QM_start_14 rfl rfl ?_
  refine qx_getI d_QM_start_15 fI_QM_138 rfl rfl hdep ?_
  refine qx_if_gtN (t := 40) d_QM_start_18 rfl (by omega) (fun c18 => absurd c18 (by omega)) (fun c18 => ?_)
  refine qx_iload_n d_QM_start_21 rfl rfl ?_
  refine qx_iconstN (v := 1) d_QM_start_22 rfl ?_
  refine qx_iconstN (v := 4) d_QM_start_23 rfl ?_
  refine qx_callS (As := [_, _, _]) (rest := _) d_QM_start_24 lk_QM_103 y_QM_within s_QM_within rfl rfl rfl rfl (by decide) (by decide) (ct_QM_within _ _ _) ?_
  rintro _ _ _ ⟨rfl, rfl, rfl⟩
  refine qx_if_eqB (t := 40) d_QM_start_27 rfl (fun c27 => absurd ((wi_14 wc h1w hw4).symm.trans c27) (by decide)) (fun c27 => ?_)
  refine qx_iload_n d_QM_start_30 rfl rfl ?_
  refine qx_iconstN (v := 3) d_QM_start_31 rfl ?_
  refine qx_bipushN (v := 8) d_QM_start_32 rfl ?_
  refine qx_callS (As := [_, _, _]) (rest := _) d_QM_start_34 lk_QM_103 y_QM_within s_QM_within rfl rfl rfl rfl (by decide) (by decide) (ct_QM_within _ _ _) ?_
  rintro _ _ _ ⟨rfl, rfl, rfl⟩
  refine qx_if_neB (t := 42) d_QM_start_37 rfl (fun c37 => ?_) (fun c37 => absurd ((wi_38 mm h3m hm8).symm.trans c37) (by decide))
  refine qx_aload_n d_QM_start_42 rfl rfl ?_
  refine qx_iload_n d_QM_start_43 rfl rfl ?_
  refine qx_putI d_QM_start_44 fI_QM_248 rfl rfl ⟨rfl, rfl⟩ ?_
  refine qx_aload_n d_QM_start_47 rfl rfl ?_
  refine qx_iload_n d_QM_start_48 rfl rfl ?_
  refine qx_putI d_QM_start_49 fI_QM_272 rfl rfl ⟨rfl, rfl⟩ ?_
  refine qx_eq (h1 := (eR (fR (vR (qpI (qpI h 122 38 (nI wc)) 122 39 (nI mm)) vv vb rs) hv hb kv kb kp) wk wn)) rfl rfl rfl (by rw [eR_I (by decide), fR_I (by decide) (by decide) (fun _ => by decide), vR_I (by decide) (fun _ => by decide), eR_I (by decide), fR_I (by decide) (by decide) (fun _ => by decide), vR_I (by decide) (fun _ => by decide)]) ?_
  refine qx_aload_n d_QM_start_52 rfl rfl ?_
  refine qx_callV (As := []) (rest := _) d_QM_start_53 lk_QM_275 y_QM_joinAll v_QM_joinAll rfl rfl rfl (by decide) rfl rfl rfl rfl (by decide) (by decide) (ct_QM_joinAll (h := vR (qpI (qpI h 122 38 (nI wc)) 122 39 (nI mm)) vv vb rs) hR tv tn htv nc hnc6 hnc CE hce kd fi se le ri hk3 hfi3 hkd hfi hse n1r n2r hn1 hn2 hr1 hr2 hr0 hv hb kv kb kp wk wn) ?_
  rintro _ _ _ ⟨rfl, ⟨hv1, hb1, kv1, kb1, wk1, wn1, rfl, hkr⟩, rfl⟩
  refine qx_aload_n d_QM_start_56 rfl rfl ?_
  refine qx_callV (As := []) (rest := _) d_QM_start_57 lk_QM_278 y_QM_makeResults v_QM_makeResults rfl rfl rfl (by decide) rfl rfl rfl rfl (by decide) (by decide) (ct_QM_makeResults (h := (qpI (qpI h 122 38 (nI wc)) 122 39 (nI mm))) hR vv vb rs hv1 hb1 kv1 kb1 (jOut (fun f s => allT (jRow tv tn fi se f s) CE nc) (jM tv tn fi se le ri) n2r kd n1r).2.2 wk1 wn1 gr hgr4 hgr OE ok no hno3 hno hoe hkp fm hfm hform) ?_
  rintro _ _ _ ⟨rfl, ⟨vv1, vb1, hv2, hb2, wk2, wn2, rfl, hvr⟩, rfl⟩
  have hrl : (rRn fm gr kv1 kb1 (jOut (fun f s => allT (jRow tv tn fi se f s) CE nc) (jM tv tn fi se le ri) n2r kd n1r).2.2) ≤ 144 := rRn_le hkp
  refine qx_eq (h1 := pR (eR (fR (vR (qpI (qpI (qpI h 122 38 (nI wc)) 122 39 (nI mm)) 122 29 (nI (grS gr + no))) vv1 vb1 (rRn fm gr kv1 kb1 (jOut (fun f s => allT (jRow tv tn fi se f s) CE nc) (jM tv tn fi se le ri) n2r kd n1r).2.2)) hv2 hb2 kv1 kb1 (jOut (fun f s => allT (jRow tv tn fi se f s) CE nc) (jM tv tn fi se le ri) n2r kd n1r).2.2) wk2 wn2) p0) rfl rfl rfl (pR_of hp0) ?_
  refine qx_aload_n d_QM_start_60 rfl rfl ?_
  refine qx_callV (As := []) (rest := _) d_QM_start_61 lk_QM_281 y_QM_sort v_QM_sort rfl rfl rfl (by decide) rfl rfl rfl rfl (by decide) (by decide) (ct_QM_sort (h := (eR (fR (vR (qpI (qpI (qpI h 122 38 (nI wc)) 122 39 (nI mm)) 122 29 (nI (grS gr + no))) vv1 vb1 (rRn fm gr kv1 kb1 (jOut (fun f s => allT (jRow tv tn fi se f s) CE nc) (jM tv tn fi se le ri) n2r kd n1r).2.2)) hv2 hb2 kv1 kb1 (jOut (fun f s => allT (jRow tv tn fi se f s) CE nc) (jM tv tn fi se le ri) n2r kd n1r).2.2) wk2 wn2)) hR (rRv fm gr OE ok kv1 kb1 (jOut (fun f s => allT (jRow tv tn fi se f s) CE nc) (jM tv tn fi se le ri) n2r kd n1r).2.2) (rRn fm gr kv1 kb1 (jOut (fun f s => allT (jRow tv tn fi se f s) CE nc) (jM tv tn fi se le ri) n2r kd n1r).2.2) (grS gr + no) h1d hd4 hrl (fun i hi c hc => ⟨(hvr i hi c hc).1, congrArg b2i (hvr i hi c hc).2⟩) rfl ob hob4 hob dw hdw rfl p0) ?_
  rintro _ _ _ ⟨rfl, rfl, rfl⟩
  refine qx_eq (h1 := (eR (fR (vR (pR (qpI (qpI (qpI h 122 38 (nI wc)) 122 39 (nI mm)) 122 29 (nI (grS gr + no))) (srt (fun a b => bef ob (grS gr + no) dw ((rRv fm gr OE ok kv1 kb1 (jOut (fun f s => allT (jRow tv tn fi se f s) CE nc) (jM tv tn fi se le ri) n2r kd n1r).2.2) a) ((rRv fm gr OE ok kv1 kb1 (jOut (fun f s => allT (jRow tv tn fi se f s) CE nc) (jM tv tn fi se le ri) n2r kd n1r).2.2) b)) p0 (rRn fm gr kv1 kb1 (jOut (fun f s => allT (jRow tv tn fi se f s) CE nc) (jM tv tn fi se le ri) n2r kd n1r).2.2))) vv1 vb1 (rRn fm gr kv1 kb1 (jOut (fun f s => allT (jRow tv tn fi se f s) CE nc) (jM tv tn fi se le ri) n2r kd n1r).2.2)) hv2 hb2 kv1 kb1 (jOut (fun f s => allT (jRow tv tn fi se f s) CE nc) (jM tv tn fi se le ri) n2r kd n1r).2.2) wk2 wn2)) rfl rfl rfl pR_in.symm ?_
  refine qx_aload_n d_QM_start_64 rfl rfl ?_
  refine qx_aload_n d_QM_start_65 rfl rfl ?_
  refine qx_callV (As := []) (rest := _) d_QM_start_66 lk_QM_284 y_QM_shown v_QM_shown rfl rfl rfl (by decide) rfl rfl rfl rfl (by decide) (by decide) (ct_QM_shown (h := (eR (fR (vR (pR (qpI (qpI (qpI h 122 38 (nI wc)) 122 39 (nI mm)) 122 29 (nI (grS gr + no))) (srt (fun a b => bef ob (grS gr + no) dw ((rRv fm gr OE ok kv1 kb1 (jOut (fun f s => allT (jRow tv tn fi se f s) CE nc) (jM tv tn fi se le ri) n2r kd n1r).2.2) a) ((rRv fm gr OE ok kv1 kb1 (jOut (fun f s => allT (jRow tv tn fi se f s) CE nc) (jM tv tn fi se le ri) n2r kd n1r).2.2) b)) p0 (rRn fm gr kv1 kb1 (jOut (fun f s => allT (jRow tv tn fi se f s) CE nc) (jM tv tn fi se le ri) n2r kd n1r).2.2))) vv1 vb1 (rRn fm gr kv1 kb1 (jOut (fun f s => allT (jRow tv tn fi se f s) CE nc) (jM tv tn fi se le ri) n2r kd n1r).2.2)) hv2 hb2 kv1 kb1 (jOut (fun f s => allT (jRow tv tn fi se f s) CE nc) (jM tv tn fi se le ri) n2r kd n1r).2.2) wk2 wn2)) lm hlm (rRn fm gr kv1 kb1 (jOut (fun f s => allT (jRow tv tn fi se f s) CE nc) (jM tv tn fi se le ri) n2r kd n1r).2.2) rfl) ?_
  rintro _ _ _ ⟨rfl, rfl, rfl⟩
  refine qx_putI d_QM_start_69 fI_QM_287 rfl rfl ⟨rfl, rfl⟩ ?_
  refine qx_aload_n d_QM_start_72 rfl rfl ?_
  refine qx_aload_n d_QM_start_73 rfl rfl ?_
  refine qx_getI d_QM_start_74 fI_QM_232 rfl rfl (show _ = nI (grS gr + no) from rfl) ?_
  refine qx_putI d_QM_start_77 fI_QM_290 rfl rfl ⟨rfl, rfl⟩ ?_
  refine qx_aload_n d_QM_start_80 rfl rfl ?_
  refine qx_aload_n d_QM_start_81 rfl rfl ?_
  refine qx_callV (As := []) (rest := _) d_QM_start_82 lk_QM_293 y_QM_passes v_QM_passes rfl rfl rfl (by decide) rfl rfl rfl rfl (by decide) (by decide) (ct_QM_passes (rRn fm gr kv1 kb1 (jOut (fun f s => allT (jRow tv tn fi se f s) CE nc) (jM tv tn fi se le ri) n2r kd n1r).2.2) hrl rfl mm h3m hm8 rfl) ?_
  rintro _ _ _ ⟨rfl, rfl, rfl⟩
  refine qx_putI d_QM_start_85 fI_QM_296 rfl rfl ⟨rfl, rfl⟩ ?_
  refine qx_aload_n d_QM_start_88 rfl rfl ?_
  refine qx_iconst (v := b2i true) d_QM_start_89 rfl ?_
  refine qx_putI d_QM_start_90 fI_QM_299 rfl rfl ⟨rfl, rfl⟩ ?_
  refine qx_aload_n d_QM_start_93 rfl rfl ?_
  refine qx_iconst (v := b2i true) d_QM_start_94 rfl ?_
  refine qx_putI d_QM_start_95 fI_QM_99 rfl rfl ⟨rfl, rfl⟩ ?_
  refine qx_aload_n d_QM_start_98 rfl rfl ?_
  refine qx_iconstN (v := 0) d_QM_start_99 rfl ?_
  refine qx_putI d_QM_start_100 fI_QM_258 rfl rfl ⟨rfl, rfl⟩ ?_
  refine qx_aload_n d_QM_start_103 rfl rfl ?_
  refine qx_iconstN (v := 0) d_QM_start_104 rfl ?_
  refine qx_putI d_QM_start_105 fI_QM_302 rfl rfl ⟨rfl, rfl⟩ ?_
  refine qx_aload_n d_QM_start_108 rfl rfl ?_
  refine qx_iconstN (v := 0) d_QM_start_109 rfl ?_
  refine qx_putI d_QM_start_110 fI_QM_305 rfl rfl ⟨rfl, rfl⟩ ?_
  refine qx_iconstN (v := 0) d_QM_start_113 rfl ?_
  refine qx_istore_n (lv1 := [_, _, _, _]) d_QM_start_114 rfl (by decide) rfl ?_
  refine qx_iload_n d_QM_start_115 rfl rfl ?_
  refine qx_iconstN (v := 4) d_QM_start_116 rfl ?_
  refine qx_icmp_geN (t := 133) d_QM_start_117 rfl (by omega) (by omega) (fun c117 => absurd c117 (by omega)) (fun c117 => ?_)
  refine qx_aload_n d_QM_start_120 rfl rfl ?_
  refine qx_getR d_QM_start_121 fR_QM_90 rfl rfl (congrFun hR 53) ?_
  refine qx_iload_n d_QM_start_124 rfl rfl ?_
  refine qx_iconstN (v := 0) d_QM_start_125 rfl ?_
  refine qx_iast d_QM_start_126 rfl rfl rfl rfl (by omega) ?_
  refine qx_iincN (w := 1) (lv1 := [_, _, _, _]) d_QM_start_127 rfl rfl (by decide) rfl ?_
  refine qx_goto (t := 115) d_QM_start_130 rfl ?_
  refine qx_iload_n d_QM_start_115 rfl rfl ?_
  refine qx_iconstN (v := 4) d_QM_start_116 rfl ?_
  refine qx_icmp_geN (t := 133) d_QM_start_117 rfl (by omega) (by omega) (fun c117 => absurd c117 (by omega)) (fun c117 => ?_)
  refine qx_aload_n d_QM_start_120 rfl rfl ?_
  refine qx_getR d_QM_start_121 fR_QM_90 rfl rfl (congrFun hR 53) ?_
  refine qx_iload_n d_QM_start_124 rfl rfl ?_
  refine qx_iconstN (v := 0) d_QM_start_125 rfl ?_
  refine qx_iast d_QM_start_126 rfl rfl rfl rfl (by omega) ?_
  refine qx_iincN (w := 1) (lv1 := [_, _, _, _]) d_QM_start_127 rfl rfl (by decide) rfl ?_
  refine qx_goto (t := 115) d_QM_start_130 rfl ?_
  refine qx_iload_n d_QM_start_115 rfl rfl ?_
  refine qx_iconstN (v := 4) d_QM_start_116 rfl ?_
  refine qx_icmp_geN (t := 133) d_QM_start_117 rfl (by omega) (by omega) (fun c117 => absurd c117 (by omega)) (fun c117 => ?_)
  refine qx_aload_n d_QM_start_120 rfl rfl ?_
  refine qx_getR d_QM_start_121 fR_QM_90 rfl rfl (congrFun hR 53) ?_
  refine qx_iload_n d_QM_start_124 rfl rfl ?_
  refine qx_iconstN (v := 0) d_QM_start_125 rfl ?_
  refine qx_iast d_QM_start_126 rfl rfl rfl rfl (by omega) ?_
  refine qx_iincN (w := 1) (lv1 := [_, _, _, _]) d_QM_start_127 rfl rfl (by decide) rfl ?_
  refine qx_goto (t := 115) d_QM_start_130 rfl ?_
  refine qx_iload_n d_QM_start_115 rfl rfl ?_
  refine qx_iconstN (v := 4) d_QM_start_116 rfl ?_
  refine qx_icmp_geN (t := 133) d_QM_start_117 rfl (by omega) (by omega) (fun c117 => absurd c117 (by omega)) (fun c117 => ?_)
  refine qx_aload_n d_QM_start_120 rfl rfl ?_
  refine qx_getR d_QM_start_121 fR_QM_90 rfl rfl (congrFun hR 53) ?_
  refine qx_iload_n d_QM_start_124 rfl rfl ?_
  refine qx_iconstN (v := 0) d_QM_start_125 rfl ?_
  refine qx_iast d_QM_start_126 rfl rfl rfl rfl (by omega) ?_
  refine qx_iincN (w := 1) (lv1 := [_, _, _, _]) d_QM_start_127 rfl rfl (by decide) rfl ?_
  refine qx_goto (t := 115) d_QM_start_130 rfl ?_
  refine qx_iload_n d_QM_start_115 rfl rfl ?_
  refine qx_iconstN (v := 4) d_QM_start_116 rfl ?_
  refine qx_icmp_geN (t := 133) d_QM_start_117 rfl (by omega) (by omega) (fun c117 => ?_) (fun c117 => absurd c117 (by omega))
  refine qx_eq (h1 := (eR (fR (tR (vR (qpI (qpI (qpI (qpI (qpI (qpI (qpI (qpI (qpI (qpI (qpI (qpI (pR (qpI (qpI (qpI h 122 38 (nI wc)) 122 39 (nI mm)) 122 29 (nI (grS gr + no))) (srt (fun a b => bef ob (grS gr + no) dw ((rRv fm gr OE ok kv1 kb1 (jOut (fun f s => allT (jRow tv tn fi se f s) CE nc) (jM tv tn fi se le ri) n2r kd n1r).2.2) a) ((rRv fm gr OE ok kv1 kb1 (jOut (fun f s => allT (jRow tv tn fi se f s) CE nc) (jM tv tn fi se le ri) n2r kd n1r).2.2) b)) p0 (rRn fm gr kv1 kb1 (jOut (fun f s => allT (jRow tv tn fi se f s) CE nc) (jM tv tn fi se le ri) n2r kd n1r).2.2))) 122 33 (if 0 ≤ lm ∧ lm < nI (rRn fm gr kv1 kb1 (jOut (fun f s => allT (jRow tv tn fi se f s) CE nc) (jM tv tn fi se le ri) n2r kd n1r).2.2) then lm else nI (rRn fm gr kv1 kb1 (jOut (fun f s => allT (jRow tv tn fi se f s) CE nc) (jM tv tn fi se le ri) n2r kd n1r).2.2))) 122 34 (nI (grS gr + no))) 122 35 (nI (psA mm (rRn fm gr kv1 kb1 (jOut (fun f s => allT (jRow tv tn fi se f s) CE nc) (jM tv tn fi se le ri) n2r kd n1r).2.2)))) 122 36 (b2i true)) 122 37 (b2i true)) 122 40 (nI 0)) 122 49 (nI 0)) 122 48 (nI 0)) 149 0 (nI 0)) 149 (0 + 1) (nI 0)) 149 (0 + 1 + 1) (nI 0)) 149 (0 + 1 + 1 + 1) (nI 0)) vv1 vb1 (rRn fm gr kv1 kb1 (jOut (fun f s => allT (jRow tv tn fi se f s) CE nc) (jM tv tn fi se le ri) n2r kd n1r).2.2)) (tk, tp, ta, tf, tq, 0)) hv2 hb2 kv1 kb1 (jOut (fun f s => allT (jRow tv tn fi se f s) CE nc) (jM tv tn fi se le ri) n2r kd n1r).2.2) wk2 wn2)) rfl rfl rfl (by rw [eR_I (by decide), fR_I (by decide) (by decide) (fun _ => by decide), vR_I (by decide) (fun _ => by decide), eR_I (by decide), fR_I (by decide) (by decide) (fun _ => by decide), vR_I (by decide) (fun _ => by decide), eR_I (by decide), fR_I (by decide) (by decide) (fun _ => by decide), vR_I (by decide) (fun _ => by decide), eR_I (by decide), fR_I (by decide) (by decide) (fun _ => by decide), vR_I (by decide) (fun _ => by decide), eR_I (by decide), fR_I (by decide) (by decide) (fun _ => by decide), vR_I (by decide) (fun _ => by decide), eR_I (by decide), fR_I (by decide) (by decide) (fun _ => by decide), vR_I (by decide) (fun _ => by decide), eR_I (by decide), fR_I (by decide) (by decide) (fun _ => by decide), vR_I (by decide) (fun _ => by decide), eR_I (by decide), fR_I (by decide) (by decide) (fun _ => by decide), vR_I (by decide) (fun _ => by decide), eR_I (by decide), fR_I (by decide) (by decide) (fun e => absurd e (by decide)), vR_I (by decide) (fun e => absurd e (by decide)), eR_I (by decide), fR_I (by decide) (by decide) (fun e => absurd e (by decide)), vR_I (by decide) (fun e => absurd e (by decide)), eR_I (by decide), fR_I (by decide) (by decide) (fun e => absurd e (by decide)), vR_I (by decide) (fun e => absurd e (by decide)), eR_I (by decide), fR_I (by decide) (by decide) (fun e => absurd e (by decide)), vR_I (by decide) (fun e => absurd e (by decide)), tR_of (h := (vR (qpI (qpI (qpI (qpI (qpI (qpI (qpI (qpI (qpI (qpI (qpI (qpI (pR (qpI (qpI (qpI h 122 38 (nI wc)) 122 39 (nI mm)) 122 29 (nI (grS gr + no))) (srt (fun a b => bef ob (grS gr + no) dw ((rRv fm gr OE ok kv1 kb1 (jOut (fun f s => allT (jRow tv tn fi se f s) CE nc) (jM tv tn fi se le ri) n2r kd n1r).2.2) a) ((rRv fm gr OE ok kv1 kb1 (jOut (fun f s => allT (jRow tv tn fi se f s) CE nc) (jM tv tn fi se le ri) n2r kd n1r).2.2) b)) p0 (rRn fm gr kv1 kb1 (jOut (fun f s => allT (jRow tv tn fi se f s) CE nc) (jM tv tn fi se le ri) n2r kd n1r).2.2))) 122 33 (if 0 ≤ lm ∧ lm < nI (rRn fm gr kv1 kb1 (jOut (fun f s => allT (jRow tv tn fi se f s) CE nc) (jM tv tn fi se le ri) n2r kd n1r).2.2) then lm else nI (rRn fm gr kv1 kb1 (jOut (fun f s => allT (jRow tv tn fi se f s) CE nc) (jM tv tn fi se le ri) n2r kd n1r).2.2))) 122 34 (nI (grS gr + no))) 122 35 (nI (psA mm (rRn fm gr kv1 kb1 (jOut (fun f s => allT (jRow tv tn fi se f s) CE nc) (jM tv tn fi se le ri) n2r kd n1r).2.2)))) 122 36 (b2i true)) 122 37 (b2i true)) 122 40 (nI 0)) 122 49 (nI 0)) 122 48 (nI 0)) 149 0 (nI 0)) 149 (0 + 1) (nI 0)) 149 (0 + 1 + 1) (nI 0)) 149 (0 + 1 + 1 + 1) (nI 0)) vv1 vb1 (rRn fm gr kv1 kb1 (jOut (fun f s => allT (jRow tv tn fi se f s) CE nc) (jM tv tn fi se le ri) n2r kd n1r).2.2))) (s := (tk, tp, ta, tf, tq, 0)) htk htp hta htf htq rfl]) ?_
  exact st_tail (h := (vR (qpI (qpI (qpI (qpI (qpI (qpI (qpI (qpI (qpI (qpI (qpI (qpI (pR (qpI (qpI (qpI h 122 38 (nI wc)) 122 39 (nI mm)) 122 29 (nI (grS gr + no))) (srt (fun a b => bef ob (grS gr + no) dw ((rRv fm gr OE ok kv1 kb1 (jOut (fun f s => allT (jRow tv tn fi se f s) CE nc) (jM tv tn fi se le ri) n2r kd n1r).2.2) a) ((rRv fm gr OE ok kv1 kb1 (jOut (fun f s => allT (jRow tv tn fi se f s) CE nc) (jM tv tn fi se le ri) n2r kd n1r).2.2) b)) p0 (rRn fm gr kv1 kb1 (jOut (fun f s => allT (jRow tv tn fi se f s) CE nc) (jM tv tn fi se le ri) n2r kd n1r).2.2))) 122 33 (if 0 ≤ lm ∧ lm < nI (rRn fm gr kv1 kb1 (jOut (fun f s => allT (jRow tv tn fi se f s) CE nc) (jM tv tn fi se le ri) n2r kd n1r).2.2) then lm else nI (rRn fm gr kv1 kb1 (jOut (fun f s => allT (jRow tv tn fi se f s) CE nc) (jM tv tn fi se le ri) n2r kd n1r).2.2))) 122 34 (nI (grS gr + no))) 122 35 (nI (psA mm (rRn fm gr kv1 kb1 (jOut (fun f s => allT (jRow tv tn fi se f s) CE nc) (jM tv tn fi se le ri) n2r kd n1r).2.2)))) 122 36 (b2i true)) 122 37 (b2i true)) 122 40 (nI 0)) 122 49 (nI 0)) 122 48 (nI 0)) 149 0 (nI 0)) 149 (0 + 1) (nI 0)) 149 (0 + 1 + 1) (nI 0)) 149 (0 + 1 + 1 + 1) (nI 0)) vv1 vb1 (rRn fm gr kv1 kb1 (jOut (fun f s => allT (jRow tv tn fi se f s) CE nc) (jM tv tn fi se le ri) n2r kd n1r).2.2))) hR tv tn htv nc hnc6 hnc CE hce kd fi se le ri hk3 hfi3 hkd hfi hse n1r n2r hn1 hn2 hr1 hr2 hr0 wc h1w hw4 rfl gr hgr4 hgr no hno3 hno fm hfm hform tm htm sa mk mt ma hsa hmk hmt hma rfl hv2 hb2 kv1 kb1 (jOut (fun f s => allT (jRow tv tn fi se f s) CE nc) (jM tv tn fi se le ri) n2r kd n1r).2.2 wk2 wn2 hkp (rRn fm gr kv1 kb1 (jOut (fun f s => allT (jRow tv tn fi se f s) CE nc) (jM tv tn fi se le ri) n2r kd n1r).2.2) hrl rfl (rRv fm gr OE ok kv1 kb1 (jOut (fun f s => allT (jRow tv tn fi se f s) CE nc) (jM tv tn fi se le ri) n2r kd n1r).2.2) (fun i hi => ⟨(hvr i hi 0 (by omega)).1, congrArg b2i (hvr i hi 0 (by omega)).2⟩) (tk, tp, ta, tf, tq, 0) rfl _ _ _ _ (fun hv hb wk wn => ⟨⟨kv1, kb1, hkr, rfl, hv, hb, wk, wn, vv1, vb1, rfl, hvr⟩, rfl⟩)
