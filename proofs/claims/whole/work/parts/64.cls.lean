/-! the class's queues over a heap: queue w lies at 106 + 4 * w -/
theorem li_pl {w : Nat} (h : w < 4) : qPl (106 + 4 * w) = (9, 0) ∧ Nat.blt (106 + 4 * w) NN = true ∧ qPl (106 + 4 * w + 1) = (20, 12) ∧ Nat.blt (106 + 4 * w + 1) NN = true ∧ qPl (106 + 4 * w + 2) = (20, 12) ∧ Nat.blt (106 + 4 * w + 2) NN = true ∧ qPl (106 + 4 * w + 3) = (20, 12) ∧ Nat.blt (106 + 4 * w + 3) NN = true := by
  have e : w = 0 ∨ w = 1 ∨ w = 2 ∨ w = 3 := by omega
  rcases e with rfl | rfl | rfl | rfl <;> exact ⟨rfl, rfl, rfl, rfl, rfl, rfl, rfl, rfl⟩
abbrev sQ : Type := (Nat → Nat → Nat) × (Nat → Nat → Nat) × (Nat → Nat → Nat) × (Nat → Nat)
def qRw (Q : sQ) (f : Nat → Int32) (w j : Nat) : Nat → Int32 := if j = 0 then va_up f 3 (nI (Q.2.2.2 w)) else if j = 1 then iN (Q.1 w) else if j = 2 then iN (Q.2.1 w) else iN (Q.2.2.1 w)
def kQ (h : qH) (Q : sQ) : qH := (fun a => if 106 ≤ a ∧ a < 122 then qRw Q (h.1 a) ((a - 106) / 4) ((a - 106) % 4) else h.1 a, h.2.1, h.2.2)
theorem kQ_in {h : qH} {Q : sQ} {w j : Nat} (hw : w < 4) (hj : j < 4) : (kQ h Q).1 (106 + 4 * w + j) = qRw Q (h.1 (106 + 4 * w + j)) w j := by
  show (if 106 ≤ 106 + 4 * w + j ∧ 106 + 4 * w + j < 122 then qRw Q (h.1 (106 + 4 * w + j)) ((106 + 4 * w + j - 106) / 4) ((106 + 4 * w + j - 106) % 4) else _) = _
  rw [if_pos (by omega), show (106 + 4 * w + j - 106) / 4 = w by omega, show (106 + 4 * w + j - 106) % 4 = j by omega]
theorem kQ_x {h : qH} {Q : sQ} {a : Nat} (ha : a < 106 ∨ 122 ≤ a) : (kQ h Q).1 a = h.1 a := if_neg (by omega)
theorem kQ_of {h : qH} {Q : sQ} (h0 : ∀ w, w < 4 → h.1 (106 + 4 * w) 3 = nI (Q.2.2.2 w) ∧ h.1 (106 + 4 * w + 1) = iN (Q.1 w) ∧ h.1 (106 + 4 * w + 2) = iN (Q.2.1 w) ∧ h.1 (106 + 4 * w + 3) = iN (Q.2.2.1 w)) : kQ h Q = h := by
  refine Prod.ext ?_ rfl
  funext a
  by_cases r : 106 ≤ a ∧ a < 122
  · obtain ⟨w, j, rfl, hw, hj⟩ : ∃ w j, a = 106 + 4 * w + j ∧ w < 4 ∧ j < 4 := ⟨(a - 106) / 4, (a - 106) % 4, by omega, by omega, by omega⟩
    rw [kQ_in hw hj]
    have e := h0 w hw
    have ej : j = 0 ∨ j = 1 ∨ j = 2 ∨ j = 3 := by omega
    rcases ej with rfl | rfl | rfl | rfl
    · show va_up _ 3 (nI (Q.2.2.2 w)) = _
      rw [← e.1]
      exact qv_self
    · exact e.2.1.symm
    · exact e.2.2.1.symm
    · exact e.2.2.2.symm
  · exact kQ_x (by omega)
theorem kQ_put {h : qH} {Q Q2 : sQ} {w j i : Nat} {v : Int32} (hw : w < 4) (hj : j < 4) (h0 : ∀ f, va_up (qRw Q f w j) i v = qRw Q2 f w j) (h1 : ∀ f w2 j2, w2 ≠ w ∨ j2 ≠ j → j2 < 4 → qRw Q f w2 j2 = qRw Q2 f w2 j2) : qpI (kQ h Q) (106 + 4 * w + j) i v = kQ h Q2 := by
  refine Prod.ext ?_ rfl
  funext a
  show va_up (kQ h Q).1 (106 + 4 * w + j) (va_up ((kQ h Q).1 (106 + 4 * w + j)) i v) a = (kQ h Q2).1 a
  by_cases e : a = 106 + 4 * w + j
  · subst e
    rw [qus, kQ_in hw hj, kQ_in hw hj, h0]
  · rw [qun e]
    by_cases r : 106 ≤ a ∧ a < 122
    · obtain ⟨w2, j2, rfl, hw2, hj2⟩ : ∃ w j, a = 106 + 4 * w + j ∧ w < 4 ∧ j < 4 := ⟨(a - 106) / 4, (a - 106) % 4, by omega, by omega, by omega⟩
      rw [kQ_in hw2 hj2, kQ_in hw2 hj2]
      exact h1 _ _ _ (by omega) hj2
    · rw [kQ_x (by omega), kQ_x (by omega)]
theorem qj4 {w j w2 j2 : Nat} {P : Prop} (h : w2 ≠ w ∨ j2 ≠ j) (h4 : j2 < 4) (hw : w2 ≠ w → P) (hj : w2 = w → j2 ≠ j → P) : P := by
  by_cases e : w2 = w
  · exact hj e (by omega)
  · exact hw e
theorem kQ_n {h : qH} {Q : sQ} {w v : Nat} (hw : w < 4) : qpI (kQ h Q) (106 + 4 * w) 3 (nI v) = kQ h (Q.1, Q.2.1, Q.2.2.1, va_up Q.2.2.2 w v) := by
  refine kQ_put (w := w) (j := 0) hw (by omega) (fun f => ?_) (fun f w2 j2 hq h4 => ?_)
  · show va_up (va_up f 3 (nI (Q.2.2.2 w))) 3 (nI v) = va_up f 3 (nI (va_up Q.2.2.2 w v w))
    rw [qus]
    exact qv_up
  · unfold qRw
    dsimp only
    by_cases e : w2 = w
    · have ej : j2 ≠ 0 := by omega
      have e3 : j2 = 1 ∨ j2 = 2 ∨ j2 = 3 := by omega
      rcases e3 with rfl | rfl | rfl <;> rfl
    · rw [qun e]
theorem kQ_k {h : qH} {Q : sQ} {w i v : Nat} (hw : w < 4) : qpI (kQ h Q) (106 + 4 * w + 1) i (nI v) = kQ h (va_up (Q.1) w (va_up (Q.1 w) i v), Q.2.1, Q.2.2.1, Q.2.2.2) := by
  refine kQ_put (w := w) (j := 1) hw (by omega) (fun f => ?_) (fun f w2 j2 hq h4 => ?_)
  · show va_up (iN (Q.1 w)) i (nI v) = iN (va_up (Q.1) w (va_up (Q.1 w) i v) w)
    rw [qus]
    exact iN_up
  · unfold qRw
    dsimp only
    by_cases e : w2 = w
    · have ej : j2 ≠ 1 := by omega
      have e3 : j2 = 0 ∨ j2 = 2 ∨ j2 = 3 := by omega
      rcases e3 with rfl | rfl | rfl <;> rfl
    · rw [qun e]
theorem kQ_t {h : qH} {Q : sQ} {w i v : Nat} (hw : w < 4) : qpI (kQ h Q) (106 + 4 * w + 2) i (nI v) = kQ h (Q.1, va_up (Q.2.1) w (va_up (Q.2.1 w) i v), Q.2.2.1, Q.2.2.2) := by
  refine kQ_put (w := w) (j := 2) hw (by omega) (fun f => ?_) (fun f w2 j2 hq h4 => ?_)
  · show va_up (iN (Q.2.1 w)) i (nI v) = iN (va_up (Q.2.1) w (va_up (Q.2.1 w) i v) w)
    rw [qus]
    exact iN_up
  · unfold qRw
    dsimp only
    by_cases e : w2 = w
    · have ej : j2 ≠ 2 := by omega
      have e3 : j2 = 0 ∨ j2 = 1 ∨ j2 = 3 := by omega
      rcases e3 with rfl | rfl | rfl <;> rfl
    · rw [qun e]
theorem kQ_a {h : qH} {Q : sQ} {w i v : Nat} (hw : w < 4) : qpI (kQ h Q) (106 + 4 * w + 3) i (nI v) = kQ h (Q.1, Q.2.1, va_up (Q.2.2.1) w (va_up (Q.2.2.1 w) i v), Q.2.2.2) := by
  refine kQ_put (w := w) (j := 3) hw (by omega) (fun f => ?_) (fun f w2 j2 hq h4 => ?_)
  · show va_up (iN (Q.2.2.1 w)) i (nI v) = iN (va_up (Q.2.2.1) w (va_up (Q.2.2.1 w) i v) w)
    rw [qus]
    exact iN_up
  · unfold qRw
    dsimp only
    by_cases e : w2 = w
    · have ej : j2 ≠ 3 := by omega
      have e3 : j2 = 0 ∨ j2 = 1 ∨ j2 = 2 := by omega
      rcases e3 with rfl | rfl | rfl <;> rfl
    · rw [qun e]
theorem kQ_ov {h : qH} {Q : sQ} {b i : Nat} {v : Int32} (hb : b < 106 ∨ 122 ≤ b) : qpI (kQ h Q) b i v = kQ (qpI h b i v) Q := by
  refine Prod.ext ?_ rfl
  funext a
  show va_up (kQ h Q).1 b (va_up ((kQ h Q).1 b) i v) a = (kQ (qpI h b i v) Q).1 a
  by_cases e : a = b
  · subst e
    rw [qus, kQ_x hb, kQ_x hb, qpI_1]
  · rw [qun e]
    by_cases r : 106 ≤ a ∧ a < 122
    · obtain ⟨w2, j2, rfl, hw2, hj2⟩ : ∃ w j, a = 106 + 4 * w + j ∧ w < 4 ∧ j < 4 := ⟨(a - 106) / 4, (a - 106) % 4, by omega, by omega, by omega⟩
      rw [kQ_in hw2 hj2, kQ_in hw2 hj2, (qpI_o h b i v _ e).1]
    · rw [kQ_x (by omega), kQ_x (by omega), (qpI_o h b i v a e).1]
theorem ckQ {h : qH} {Q : sQ} {s : sJ} : cJ (kQ h Q) s = kQ (cJ h s) Q := by
  refine Prod.ext ?_ rfl
  funext a
  by_cases r : 106 ≤ a ∧ a < 122
  · obtain ⟨w2, j2, rfl, hw2, hj2⟩ : ∃ w j, a = 106 + 4 * w + j ∧ w < 4 ∧ j < 4 := ⟨(a - 106) / 4, (a - 106) % 4, by omega, by omega, by omega⟩
    rw [cJ_n (by omega), kQ_in hw2 hj2, kQ_in hw2 hj2, cJ_n (by omega)]
  · rw [kQ_x (by omega)]
    by_cases r2 : 90 ≤ a ∧ a < 106
    · obtain ⟨u, rfl, hu⟩ : ∃ u, a = 90 + u ∧ u < 16 := ⟨a - 90, by omega, by omega⟩
      rw [cJ_t hu, cJ_t hu, kQ_x (by omega)]
    · by_cases r3 : a < 85 ∨ a = 89 ∨ 106 ≤ a
      · rw [cJ_n r3, cJ_n r3, kQ_x (by omega)]
      · have e4 : a = 85 ∨ a = 86 ∨ a = 87 ∨ a = 88 := by omega
        rcases e4 with rfl | rfl | rfl | rfl <;> rfl
set_option maxRecDepth 100000 in
set_option maxHeartbeats 4000000 in
theorem ct_Li_addQ_full {h : qH} (w : Nat) (hw : w < 4) (hL : h.2.2 (106 + 4 * w) = qRLi (106 + 4 * w)) (n : Nat) (hn : h.1 (106 + 4 * w) 3 = nI n) (hn12 : n = 12) (k t x : Nat) : qT mi_Li_add 0 0 0 [.ref (106 + 4 * w), .int (nI k), .int (nI t), .int (nI x)] h NN (fun v1 h1 n1 => v1 = some (.int (b2i false)) ∧ h = h1 ∧ n1 = NN) := by
  refine qT.of (lv0 := [_, _, _, _]) (by decide +kernel) (fun _ _ => Nat.le_of_ble_eq_true rfl) rfl ?_
  refine qx_aload_n d_Li_add_0 rfl rfl ?_
  refine qx_getI d_Li_add_1 fI_Li_19 (li_pl hw).1 (li_pl hw).2.1 hn ?_
  refine qx_aload_n d_Li_add_4 rfl rfl ?_
  refine qx_getR d_Li_add_5 fR_Li_7 (li_pl hw).1 (li_pl hw).2.1 (congrFun hL 0) ?_
  refine qx_alenI (v := nI 12) d_Li_add_8 (li_pl hw).2.2.1 (li_pl hw).2.2.2.1 rfl ?_
  refine qx_icmp_ltN (t := 14) d_Li_add_9 rfl (by omega) (by omega) (fun c9 => absurd c9 (by omega)) (fun c9 => ?_)
  refine qx_iconst (v := b2i false) d_Li_add_12 rfl ?_
  exact qx_iret d_Li_add_13 rfl (b2i_nar _) (by omega) (by omega) ⟨rfl, rfl, rfl⟩
set_option maxRecDepth 100000 in
set_option maxHeartbeats 4000000 in
theorem ct_Li_addQ {h : qH} (w : Nat) (hw : w < 4) (hL : h.2.2 (106 + 4 * w) = qRLi (106 + 4 * w)) (Q : sQ) (hn : Q.2.2.2 w < 12) (k t x : Nat) : qT mi_Li_add 0 0 0 [.ref (106 + 4 * w), .int (nI k), .int (nI t), .int (nI x)] (kQ h Q) NN (fun v1 h1 n1 => v1 = some (.int (b2i true)) ∧ h1 = kQ h (va_up Q.1 w (va_up (Q.1 w) (Q.2.2.2 w) k), va_up Q.2.1 w (va_up (Q.2.1 w) (Q.2.2.2 w) t), va_up Q.2.2.1 w (va_up (Q.2.2.1 w) (Q.2.2.2 w) x), va_up Q.2.2.2 w (Q.2.2.2 w + 1)) ∧ n1 = NN) := by
  refine qT.of (lv0 := [_, _, _, _]) (by decide +kernel) (fun _ _ => Nat.le_of_ble_eq_true rfl) rfl ?_
  refine qx_aload_n d_Li_add_0 rfl rfl ?_
  refine qx_getI d_Li_add_1 fI_Li_19 (li_pl hw).1 (li_pl hw).2.1 (show _ = nI (Q.2.2.2 w) from congrFun (kQ_in (Q := Q) (j := 0) hw (by omega)) 3) ?_
  refine qx_aload_n d_Li_add_4 rfl rfl ?_
  refine qx_getR d_Li_add_5 fR_Li_7 (li_pl hw).1 (li_pl hw).2.1 (congrFun hL 0) ?_
  refine qx_alenI (v := nI 12) d_Li_add_8 (li_pl hw).2.2.1 (li_pl hw).2.2.2.1 rfl ?_
  refine qx_icmp_ltN (t := 14) d_Li_add_9 rfl (by omega) (by omega) (fun c9 => ?_) (fun c9 => absurd c9 (by omega))
  refine qx_aload_n d_Li_add_14 rfl rfl ?_
  refine qx_getR d_Li_add_15 fR_Li_7 (li_pl hw).1 (li_pl hw).2.1 (congrFun hL 0) ?_
  refine qx_aload_n d_Li_add_18 rfl rfl ?_
  refine qx_getI d_Li_add_19 fI_Li_19 (li_pl hw).1 (li_pl hw).2.1 (show _ = nI (Q.2.2.2 w) from congrFun (kQ_in (Q := Q) (j := 0) hw (by omega)) 3) ?_
  refine qx_iload_n d_Li_add_22 rfl rfl ?_
  refine qx_iast d_Li_add_23 (li_pl hw).2.2.1 (li_pl hw).2.2.2.1 rfl rfl hn ?_
  refine qx_eq (h1 := kQ h (va_up Q.1 w (va_up (Q.1 w) (Q.2.2.2 w) k), Q.2)) rfl rfl rfl (kQ_k hw).symm ?_
  refine qx_aload_n d_Li_add_24 rfl rfl ?_
  refine qx_getR d_Li_add_25 fR_Li_13 (li_pl hw).1 (li_pl hw).2.1 (congrFun hL 1) ?_
  refine qx_aload_n d_Li_add_28 rfl rfl ?_
  refine qx_getI d_Li_add_29 fI_Li_19 (li_pl hw).1 (li_pl hw).2.1 (show _ = nI (Q.2.2.2 w) from congrFun (kQ_in (Q := (va_up Q.1 w (va_up (Q.1 w) (Q.2.2.2 w) k), Q.2)) (j := 0) hw (by omega)) 3) ?_
  refine qx_iload_n d_Li_add_32 rfl rfl ?_
  refine qx_iast d_Li_add_33 (li_pl hw).2.2.2.2.1 (li_pl hw).2.2.2.2.2.1 rfl rfl hn ?_
  refine qx_eq (h1 := kQ h (va_up Q.1 w (va_up (Q.1 w) (Q.2.2.2 w) k), va_up Q.2.1 w (va_up (Q.2.1 w) (Q.2.2.2 w) t), Q.2.2)) rfl rfl rfl (kQ_t (Q := (va_up Q.1 w (va_up (Q.1 w) (Q.2.2.2 w) k), Q.2)) hw).symm ?_
  refine qx_aload_n d_Li_add_34 rfl rfl ?_
  refine qx_getR d_Li_add_35 fR_Li_16 (li_pl hw).1 (li_pl hw).2.1 (congrFun hL 2) ?_
  refine qx_aload_n d_Li_add_38 rfl rfl ?_
  refine qx_getI d_Li_add_39 fI_Li_19 (li_pl hw).1 (li_pl hw).2.1 (show _ = nI (Q.2.2.2 w) from congrFun (kQ_in (Q := (va_up Q.1 w (va_up (Q.1 w) (Q.2.2.2 w) k), va_up Q.2.1 w (va_up (Q.2.1 w) (Q.2.2.2 w) t), Q.2.2)) (j := 0) hw (by omega)) 3) ?_
  refine qx_iload_n d_Li_add_42 rfl rfl ?_
  refine qx_iast d_Li_add_43 (li_pl hw).2.2.2.2.2.2.1 (li_pl hw).2.2.2.2.2.2.2 rfl rfl hn ?_
  refine qx_eq (h1 := kQ h (va_up Q.1 w (va_up (Q.1 w) (Q.2.2.2 w) k), va_up Q.2.1 w (va_up (Q.2.1 w) (Q.2.2.2 w) t), va_up Q.2.2.1 w (va_up (Q.2.2.1 w) (Q.2.2.2 w) x), Q.2.2.2)) rfl rfl rfl (kQ_a (Q := (va_up Q.1 w (va_up (Q.1 w) (Q.2.2.2 w) k), va_up Q.2.1 w (va_up (Q.2.1 w) (Q.2.2.2 w) t), Q.2.2)) hw).symm ?_
  refine qx_aload_n d_Li_add_44 rfl rfl ?_
  refine qx_dup d_Li_add_45 rfl ?_
  refine qx_getI d_Li_add_46 fI_Li_19 (li_pl hw).1 (li_pl hw).2.1 (show _ = nI (Q.2.2.2 w) from congrFun (kQ_in (Q := (va_up Q.1 w (va_up (Q.1 w) (Q.2.2.2 w) k), va_up Q.2.1 w (va_up (Q.2.1 w) (Q.2.2.2 w) t), va_up Q.2.2.1 w (va_up (Q.2.2.1 w) (Q.2.2.2 w) x), Q.2.2.2)) (j := 0) hw (by omega)) 3) ?_
  refine qx_iconstN (v := 1) d_Li_add_49 rfl ?_
  refine qx_iaddN d_Li_add_50 ?_
  refine qx_putI d_Li_add_51 fI_Li_19 (li_pl hw).1 (li_pl hw).2.1 ⟨rfl, rfl⟩ ?_
  refine qx_iconst (v := b2i true) d_Li_add_54 rfl ?_
  exact qx_iret d_Li_add_55 rfl (b2i_nar _) (by omega) (by omega) ⟨rfl, kQ_n (Q := (va_up Q.1 w (va_up (Q.1 w) (Q.2.2.2 w) k), va_up Q.2.1 w (va_up (Q.2.1 w) (Q.2.2.2 w) t), va_up Q.2.2.1 w (va_up (Q.2.2.1 w) (Q.2.2.2 w) x), Q.2.2.2)) hw, rfl⟩
