/-! the tasks of a job, one after the other -/
def qF (tv : Nat → Int64) (tn : Nat → Bool) (CE : Nat → List xP) (nc kd wc fi se n1 n2 : Nat) (row : Nat → Nat → Option Int64) (kp le : Nat) (gr : Option Nat) (OE : Nat → List xP) (ok : Nat → Nat) (k p : Nat) : Nat :=
  if k = 0 then scQ tv tn CE nc kd wc fi 0 n1 p else if k = 1 then scQ tv tn CE nc kd wc se 1 n2 p else if k = 2 then cntB (fun q => decide (pOf wc (row q le) = p)) kp else grQ wc gr (rWv 1 gr OE ok row kp) (rWn 1 gr row kp) p
theorem ct_Pl_rowsOf {h : qH} (ti : Nat → Int32) (tn : Nat → Bool) (rw : Nat → Nat) (kd fi se le ri nc : Nat) (CE : Nat → List xP) (pc : Nat → Nat) (hC : plC h ti tn rw kd fi se le ri nc CE pc) (st : sK) (hst : stOk st) (G : sG) (hK : plK h st G) (gr : Option Nat) (no : Nat) (OE : Nat → List xP) (ok po : Nat → Nat) (hO : plO h gr no OE ok po) (hG : gOk gr (rowK ti tn fi se st) st.2.2 G) (hG13 : G.2.2.2 ≤ 13) (wc : Nat) (h1w : 1 ≤ wc) (hw4 : wc ≤ 4) (k p : Nat) (hk : k < 4) (hp : p < 4) (cv : Nat → Int64) (cb : Nat → Bool) (vs : Nat → Int64) (ns : Nat → Bool) : qT mi_Pl_rowsOf 6 0 0 [.ref 1, .int (nI k), .int (nI p), .int (nI wc)] (nR (lR h cv cb) vs ns) NN (fun v1 h1 n1 => v1 = some (.int (nI ((qF (fun k => (ti k).toInt64) tn CE nc kd wc fi se (rw fi) (rw se) (rowK ti tn fi se st) st.2.2 le gr OE ok) k p))) ∧ (∃ cv2 cb2 vs2 ns2, h1 = nR (lR h cv2 cb2) vs2 ns2) ∧ n1 = NN) := by
  have e : k = 0 ∨ k = 1 ∨ k = 2 ∨ k = 3 := by omega
  rcases e with rfl | rfl | rfl | rfl
  · exact ct_Pl_rowsOf_0 ti tn rw kd fi se le ri nc CE pc hC wc h1w hw4 p hp cv cb vs ns
  · exact ct_Pl_rowsOf_1 ti tn rw kd fi se le ri nc CE pc hC wc h1w hw4 p hp cv cb vs ns
  · exact ct_Pl_rowsOf_2 ti tn rw kd fi se le ri nc CE pc hC st hst G hK wc h1w hw4 p hp cv cb vs ns
  · exact ct_Pl_rowsOf_3 ti tn rw kd fi se le ri nc CE pc hC st hst G hK wc h1w hw4 p hp cv cb vs ns gr hO.1 hO.2.1 OE ok hG hG13
def tI (wc : Nat) (nd : Nat → Bool) (q : Nat → Nat → Nat) (S : sT) : Nat → sT
  | 0 => S
  | t + 1 => if nd (t / wc) = true then tAdd (tI wc nd q S t) (t / wc) (t % wc) (q (t / wc) (t % wc)) else tI wc nd q S t
theorem tI_blk {wc : Nat} {nd : Nat → Bool} {q : Nat → Nat → Nat} {S : sT} (k : Nat) (h1 : 1 ≤ wc) : ∀ j, j ≤ wc → tI wc nd q S (k * wc + j) = if nd k = true then tAll k (q k) (tI wc nd q S (k * wc)) j else tI wc nd q S (k * wc)
  | 0, _ => by split <;> rfl
  | j + 1, hj => by
    have e1 : (k * wc + j) / wc = k := by rw [Nat.mul_comm, Nat.mul_add_div (by omega), Nat.div_eq_of_lt (by omega), Nat.add_zero]
    have e2 : (k * wc + j) % wc = j := by rw [Nat.mul_comm, Nat.mul_add_mod, Nat.mod_eq_of_lt (by omega)]
    show (if nd ((k * wc + j) / wc) = true then tAdd (tI wc nd q S (k * wc + j)) ((k * wc + j) / wc) ((k * wc + j) % wc) (q ((k * wc + j) / wc) ((k * wc + j) % wc)) else tI wc nd q S (k * wc + j)) = _
    rw [e1, e2, tI_blk k h1 j (by omega)]
    split <;> rfl
def ndF (fm kd : Nat) (k : Nat) : Bool := if k = 1 ∨ k = 2 then decide (kd ≠ 0) else (decide (k = 0) || decide (fm = 1))
theorem tI_all {wc fm kd : Nat} {q : Nat → Nat → Nat} {S : sT} (h1 : 1 ≤ wc) : tI wc (ndF fm kd) q S (4 * wc) = tP3 fm kd wc (q 0) (q 1) (q 2) (q 3) S := by
  have b0 := tI_blk (nd := ndF fm kd) (q := q) (S := S) 0 h1 wc (Nat.le_refl _)
  have b1 := tI_blk (nd := ndF fm kd) (q := q) (S := S) 1 h1 wc (Nat.le_refl _)
  have b2 := tI_blk (nd := ndF fm kd) (q := q) (S := S) 2 h1 wc (Nat.le_refl _)
  have b3 := tI_blk (nd := ndF fm kd) (q := q) (S := S) 3 h1 wc (Nat.le_refl _)
  rw [show 3 * wc + wc = 4 * wc by omega] at b3
  rw [show 2 * wc + wc = 3 * wc by omega] at b2
  rw [show 1 * wc + wc = 2 * wc by omega] at b1
  rw [show 0 * wc + wc = 1 * wc by omega, show 0 * wc = 0 by omega] at b0
  rw [b3, b2, b1, b0]
  show (if decide (fm = 1) = true then tAll 3 (q 3) (if decide (kd ≠ 0) = true then tAll 2 (q 2) (if decide (kd ≠ 0) = true then tAll 1 (q 1) (tAll 0 (q 0) S wc) wc else tAll 0 (q 0) S wc) wc else (if decide (kd ≠ 0) = true then tAll 1 (q 1) (tAll 0 (q 0) S wc) wc else tAll 0 (q 0) S wc)) wc else (if decide (kd ≠ 0) = true then tAll 2 (q 2) (if decide (kd ≠ 0) = true then tAll 1 (q 1) (tAll 0 (q 0) S wc) wc else tAll 0 (q 0) S wc) wc else (if decide (kd ≠ 0) = true then tAll 1 (q 1) (tAll 0 (q 0) S wc) wc else tAll 0 (q 0) S wc))) = tP3 fm kd wc (q 0) (q 1) (q 2) (q 3) S
  unfold tP3 tP2
  by_cases e1 : fm = 1 <;> by_cases e2 : kd = 0 <;> simp [e1, e2]
theorem tI_n {wc : Nat} {nd : Nat → Bool} {q : Nat → Nat → Nat} {S : sT} : ∀ t, tN (tI wc nd q S t) ≤ tN S + t
  | 0 => Nat.le_refl _
  | t + 1 => by
    have := tI_n (wc := wc) (nd := nd) (q := q) (S := S) t
    unfold tI
    split
    · show tN (tI wc nd q S t) + 1 ≤ _; omega
    · omega
theorem plC_t {h : qH} {ti : Nat → Int32} {tn : Nat → Bool} {rw : Nat → Nat} {kd fi se le ri nc : Nat} {CE : Nat → List xP} {pc : Nat → Nat} (hC : plC h ti tn rw kd fi se le ri nc CE pc) {S : sT} {sa : Nat → Int32} : plC (cT h S sa) ti tn rw kd fi se le ri nc CE pc := plC_ag (fun a ha => cT_x (by omega) (by omega)) rfl hC
theorem plO_t {h : qH} {gr : Option Nat} {no : Nat} {OE : Nat → List xP} {ok po : Nat → Nat} (hO : plO h gr no OE ok po) {S : sT} {sa : Nat → Int32} : plO (cT h S sa) gr no OE ok po := plO_ag (fun a ha => cT_x (by omega) (by omega)) rfl hO
theorem cT_of {h : qH} {S : sT} {sa : Nat → Int32} (h0 : ∀ t, t < 16 → h.1 (90 + t) 0 = nI (tK S t) ∧ h.1 (90 + t) 1 = nI (tP S t) ∧ h.1 (90 + t) 2 = nI (tQ S t) ∧ h.1 (90 + t) 3 = nI (tA S t) ∧ h.1 (90 + t) 4 = sa t ∧ h.1 (90 + t) 5 = b2i (tF S t)) (h3 : h.1 83 3 = nI (tN S)) (h4 : h.1 83 4 = nI (tN S)) : cT h S sa = h := by
  refine Prod.ext ?_ rfl
  funext a
  by_cases r : 90 ≤ a ∧ a < 106
  · obtain ⟨u, rfl, hu⟩ : ∃ u, a = 90 + u ∧ u < 16 := ⟨a - 90, by omega, by omega⟩
    rw [cT_r hu]
    obtain ⟨q0, q1, q2, q3, q4, q5⟩ := h0 u hu
    funext i
    unfold tFull
    split
    · next e => rw [e, q0]
    · split
      · next e => rw [e, q1]
      · split
        · next e => rw [e, q2]
        · split
          · next e => rw [e, q3]
          · split
            · next e => rw [e, q4]
            · split
              · next e => rw [e, q5]
              · rfl
  · by_cases e3 : a = 83
    · subst e3
      rw [cT_83, ← h3, qv_self, h3, ← h4, qv_self]
    · exact cT_x (by omega) e3
set_option maxRecDepth 100000 in
set_option maxHeartbeats 4000000 in
theorem st_loop {h : qH} (ti : Nat → Int32) (tn : Nat → Bool) (rw : Nat → Nat) (kd fi se le ri nc : Nat) (CE : Nat → List xP) (pc : Nat → Nat) (hC : plC h ti tn rw kd fi se le ri nc CE pc) (st : sK) (hst : stOk st) (G : sG) (hK : plK h st G) (gr : Option Nat) (no : Nat) (OE : Nat → List xP) (ok po : Nat → Nat) (hO : plO h gr no OE ok po) (hG : gOk gr (rowK ti tn fi se st) st.2.2 G) (hG13 : G.2.2.2 ≤ 13) (wc : Nat) (h1w : 1 ≤ wc) (hw4 : wc ≤ 4) (fm : Nat) (hfm : cAgg gr ok no = decide (fm = 1)) (hQ : h.2.2 0 = qRQF) (hJ : jobOk h) (S0 : sT) (hS0 : tN S0 = 0) (mm : Nat) (sa0 : Nat → Int32) (Rp : Option Value → qH → Nat → Prop)
    (kf : ∀ (sa : Nat → Int32) (cv : Nat → Int64) (cb : Nat → Bool) (vs : Nat → Int64) (ns : Nat → Bool), (∀ j, tN (tI wc (ndF fm kd) (qF (fun k => (ti k).toInt64) tn CE nc kd wc fi se (rw fi) (rw se) (rowK ti tn fi se st) st.2.2 le gr OE ok) S0 (4 * wc)) ≤ j → sa j = sa0 j) → qX mi_QF_start 7 none 0 0 164 [.ref 0, .int (nI wc), .int (nI mm), qdead, qdead, qdead] [] (nR (lR (cT h (tI wc (ndF fm kd) (qF (fun k => (ti k).toInt64) tn CE nc kd wc fi se (rw fi) (rw se) (rowK ti tn fi se st) st.2.2 le gr OE ok) S0 (4 * wc)) sa) cv cb) vs ns) NN 0 0 Rp) : ∀ (m t : Nat) (sa : Nat → Int32) (cv : Nat → Int64) (cb : Nat → Bool) (vs : Nat → Int64) (ns : Nat → Bool), t + m = 4 * wc → (∀ j, tN (tI wc (ndF fm kd) (qF (fun k => (ti k).toInt64) tn CE nc kd wc fi se (rw fi) (rw se) (rowK ti tn fi se st) st.2.2 le gr OE ok) S0 t) ≤ j → sa j = sa0 j) → qX mi_QF_start 7 none 0 0 106 [.ref 0, .int (nI wc), .int (nI mm), .int (nI t), qdead, qdead] [] (nR (lR (cT h (tI wc (ndF fm kd) (qF (fun k => (ti k).toInt64) tn CE nc kd wc fi se (rw fi) (rw se) (rowK ti tn fi se st) st.2.2 le gr OE ok) S0 t) sa) cv cb) vs ns) NN 0 0 Rp := by
  intro m
  induction m with
  | zero =>
    intro t sa cv cb vs ns ht hsa
    have et : t = 4 * wc := by omega
    refine qx_iload_n d_QF_start_106 rfl rfl ?_
    refine qx_iconstN (v := 4) d_QF_start_107 rfl ?_
    refine qx_iload_n d_QF_start_108 rfl rfl ?_
    refine qx_imulN d_QF_start_109 ?_
    refine qx_icmp_geN (t := 164) d_QF_start_110 rfl (by omega) (by omega) (fun c110 => ?_) (fun c110 => absurd c110 (by omega))
    rw [et] at hsa ⊢
    refine qx_less (lv1 := [_, _, _, qdead, qdead, qdead]) ⟨Or.inr rfl, Or.inr rfl, Or.inr rfl, Or.inl rfl, Or.inl rfl, Or.inl rfl, trivial⟩ ?_
    exact kf sa cv cb vs ns hsa
  | succ m ih =>
    intro t sa cv cb vs ns ht hsa
    have hk4 : (t / wc) < 4 := (Nat.div_lt_iff_lt_mul (by omega)).mpr (by omega)
    have hpw : (t % wc) < wc := Nat.mod_lt _ (by omega)
    have hn := tI_n (wc := wc) (nd := ndF fm kd) (q := (qF (fun k => (ti k).toInt64) tn CE nc kd wc fi se (rw fi) (rw se) (rowK ti tn fi se st) st.2.2 le gr OE ok)) (S := S0) t
    have hs : (tI wc (ndF fm kd) (qF (fun k => (ti k).toInt64) tn CE nc kd wc fi se (rw fi) (rw se) (rowK ti tn fi se st) st.2.2 le gr OE ok) S0 (t + 1)) = if ndF fm kd (t / wc) = true then tAdd (tI wc (ndF fm kd) (qF (fun k => (ti k).toInt64) tn CE nc kd wc fi se (rw fi) (rw se) (rowK ti tn fi se st) st.2.2 le gr OE ok) S0 t) (t / wc) (t % wc) ((qF (fun k => (ti k).toInt64) tn CE nc kd wc fi se (rw fi) (rw se) (rowK ti tn fi se st) st.2.2 le gr OE ok) (t / wc) (t % wc)) else (tI wc (ndF fm kd) (qF (fun k => (ti k).toInt64) tn CE nc kd wc fi se (rw fi) (rw se) (rowK ti tn fi se st) st.2.2 le gr OE ok) S0 t) := rfl
    have hnd : (if (t / wc) = 1 ∨ (t / wc) = 2 then decide (kd ≠ 0) else (decide ((t / wc) = 0) || cAgg gr ok no)) = ndF fm kd (t / wc) := by rw [hfm]; rfl
    have hC2 : plC (cT h (tI wc (ndF fm kd) (qF (fun k => (ti k).toInt64) tn CE nc kd wc fi se (rw fi) (rw se) (rowK ti tn fi se st) st.2.2 le gr OE ok) S0 t) sa) ti tn rw kd fi se le ri nc CE pc := plC_t hC
    have hO2 : plO (cT h (tI wc (ndF fm kd) (qF (fun k => (ti k).toInt64) tn CE nc kd wc fi se (rw fi) (rw se) (rowK ti tn fi se st) st.2.2 le gr OE ok) S0 t) sa) gr no OE ok po := plO_t hO
    refine qx_iload_n d_QF_start_106 rfl rfl ?_
    refine qx_iconstN (v := 4) d_QF_start_107 rfl ?_
    refine qx_iload_n d_QF_start_108 rfl rfl ?_
    refine qx_imulN d_QF_start_109 ?_
    refine qx_icmp_geN (t := 164) d_QF_start_110 rfl (by omega) (by omega) (fun c110 => absurd c110 (by omega)) (fun c110 => ?_)
    refine qx_iload_n d_QF_start_113 rfl rfl ?_
    refine qx_iload_n d_QF_start_114 rfl rfl ?_
    refine qx_idivN d_QF_start_115 (by omega) (by omega) (by omega) ?_
    refine qx_istore (lv1 := [_, _, _, _, _, _]) d_QF_start_116 (by decide) rfl ?_
    refine qx_iload_n d_QF_start_118 rfl rfl ?_
    refine qx_iload_n d_QF_start_119 rfl rfl ?_
    refine qx_iremN d_QF_start_120 (by omega) (by omega) (by omega) ?_
    refine qx_istore (lv1 := [_, _, _, _, _, _]) d_QF_start_121 (by decide) rfl ?_
    refine qx_aload_n d_QF_start_123 rfl rfl ?_
    refine qx_getR d_QF_start_124 fR_QF_25 rfl rfl (congrFun hQ 2) ?_
    refine qx_iload d_QF_start_127 rfl ?_
    refine qx_callV (As := [_]) (rest := _) d_QF_start_129 lk_QF_121 y_Qu_needs v_Qu_needs rfl rfl rfl (by decide) rfl rfl rfl rfl (by decide) (by decide) (ct_Qu_needs (h := (nR (lR (cT h (tI wc (ndF fm kd) (qF (fun k => (ti k).toInt64) tn CE nc kd wc fi se (rw fi) (rw se) (rowK ti tn fi se st) st.2.2 le gr OE ok) S0 t) sa) cv cb) vs ns)) hC.1.2.2.2.2.1 kd hC.2.2.1.2.1 hC.2.2.1.1 gr hO.1 hO.2.1 no hO.2.2.1 hO.2.2.2.1 ok (fun o ho => ⟨(hO.2.2.2.2 o ho).2.2.1, (hO.2.2.2.2 o ho).2.2.2.1⟩) (t / wc) hk4) ?_
    rintro _ _ _ ⟨rfl, rfl, rfl⟩
    rw [hnd]
    refine qx_if_eqB (t := 158) d_QF_start_132 rfl (fun c132 => ?_) (fun c132 => ?_)
    · refine qx_iincN (w := 1) (lv1 := [_, _, _, _, _, _]) d_QF_start_158 rfl rfl (by decide) rfl ?_
      refine qx_goto (t := 106) d_QF_start_161 rfl ?_
      refine qx_less (lv1 := [_, _, _, _, qdead, qdead]) ⟨Or.inr rfl, Or.inr rfl, Or.inr rfl, Or.inr rfl, Or.inl rfl, Or.inl rfl, trivial⟩ ?_
      first
        | (have z := vs2
           refine qx_eq rfl rfl rfl ?_ (ih (t + 1) (va_up sa (tN (tI wc (ndF fm kd) (qF (fun k => (ti k).toInt64) tn CE nc kd wc fi se (rw fi) (rw se) (rowK ti tn fi se st) st.2.2 le gr OE ok) S0 t)) (nI 0)) cv2 cb2 vs2 ns2 (by omega) (fun j hj => by rw [hs, if_pos c132] at hj; have hj : tN (tI wc (ndF fm kd) (qF (fun k => (ti k).toInt64) tn CE nc kd wc fi se (rw fi) (rw se) (rowK ti tn fi se st) st.2.2 le gr OE ok) S0 t) + 1 ≤ j := hj; rw [qun (by omega)]; exact hsa j (by omega)))
           rw [hs, if_pos c132]
           exact (nl_add (by omega)).symm)
        | (have k2 := ih (t + 1) sa cv cb vs ns (by omega) (fun j hj => by rw [hs, if_neg (by rw [c132]; decide)] at hj; exact hsa j hj)
           rw [hs, if_neg (by rw [c132]; decide)] at k2
           exact k2)
    · refine qx_aload_n d_QF_start_135 rfl rfl ?_
      refine qx_getR d_QF_start_136 fR_QF_36 rfl rfl (congrFun hQ 4) ?_
      refine qx_iload d_QF_start_139 rfl ?_
      refine qx_iload d_QF_start_141 rfl ?_
      refine qx_aload_n d_QF_start_143 rfl rfl ?_
      refine qx_getR d_QF_start_144 fR_QF_12 rfl rfl (congrFun hQ 0) ?_
      refine qx_iload d_QF_start_147 rfl ?_
      refine qx_iload d_QF_start_149 rfl ?_
      refine qx_iload_n d_QF_start_151 rfl rfl ?_
      refine qx_callV (As := [_, _, _]) (rest := _) d_QF_start_152 lk_QF_124 y_Pl_rowsOf v_Pl_rowsOf rfl rfl rfl (by decide) rfl rfl rfl rfl (by decide) (by decide) (ct_Pl_rowsOf (h := cT h (tI wc (ndF fm kd) (qF (fun k => (ti k).toInt64) tn CE nc kd wc fi se (rw fi) (rw se) (rowK ti tn fi se st) st.2.2 le gr OE ok) S0 t) sa) ti tn rw kd fi se le ri nc CE pc hC2 st hst G hK gr no OE ok po hO2 hG hG13 wc h1w hw4 (t / wc) (t % wc) hk4 (by omega) cv cb vs ns) ?_
      rintro _ _ _ ⟨rfl, ⟨cv2, cb2, vs2, ns2, rfl⟩, rfl⟩
      refine qx_callV (As := [_, _, _]) (rest := _) d_QF_start_155 lk_QF_127 y_Jo_addTask v_Jo_addTask rfl rfl rfl (by decide) rfl rfl rfl rfl (by decide) (by decide) (ct_Jo_addTask (h := nR (lR (cT h (tI wc (ndF fm kd) (qF (fun k => (ti k).toInt64) tn CE nc kd wc fi se (rw fi) (rw se) (rowK ti tn fi se st) st.2.2 le gr OE ok) S0 t) sa) cv2 cb2) vs2 ns2) hJ (tN (tI wc (ndF fm kd) (qF (fun k => (ti k).toInt64) tn CE nc kd wc fi se (rw fi) (rw se) (rowK ti tn fi se st) st.2.2 le gr OE ok) S0 t)) (by omega) rfl rfl (t / wc) (t % wc) ((qF (fun k => (ti k).toInt64) tn CE nc kd wc fi se (rw fi) (rw se) (rowK ti tn fi se st) st.2.2 le gr OE ok) (t / wc) (t % wc))) ?_
      rintro _ _ _ ⟨rfl, rfl, rfl⟩
      refine qx_iincN (w := 1) (lv1 := [_, _, _, _, _, _]) d_QF_start_158 rfl rfl (by decide) rfl ?_
      refine qx_goto (t := 106) d_QF_start_161 rfl ?_
      refine qx_less (lv1 := [_, _, _, _, qdead, qdead]) ⟨Or.inr rfl, Or.inr rfl, Or.inr rfl, Or.inr rfl, Or.inl rfl, Or.inl rfl, trivial⟩ ?_
      first
        | (have z := vs2
           refine qx_eq rfl rfl rfl ?_ (ih (t + 1) (va_up sa (tN (tI wc (ndF fm kd) (qF (fun k => (ti k).toInt64) tn CE nc kd wc fi se (rw fi) (rw se) (rowK ti tn fi se st) st.2.2 le gr OE ok) S0 t)) (nI 0)) cv2 cb2 vs2 ns2 (by omega) (fun j hj => by rw [hs, if_pos c132] at hj; have hj : tN (tI wc (ndF fm kd) (qF (fun k => (ti k).toInt64) tn CE nc kd wc fi se (rw fi) (rw se) (rowK ti tn fi se st) st.2.2 le gr OE ok) S0 t) + 1 ≤ j := hj; rw [qun (by omega)]; exact hsa j (by omega)))
           rw [hs, if_pos c132]
           exact (nl_add (by omega)).symm)
        | (have k2 := ih (t + 1) sa cv cb vs ns (by omega) (fun j hj => by rw [hs, if_neg (by rw [c132]; decide)] at hj; exact hsa j hj)
           rw [hs, if_neg (by rw [c132]; decide)] at k2
           exact k2)
