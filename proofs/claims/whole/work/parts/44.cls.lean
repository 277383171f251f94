set_option maxRecDepth 100000 in
set_option maxHeartbeats 4000000 in
theorem ld_row {h : qH} (hM : h.2.2 59 = qRMa) (cv : Nat → Int64) (cb : Nat → Bool) (vs : Nat → Int64) (ns : Nat → Bool) (t : Nat) (ht : t < 3) (hT : h.2.2 (70 + 3 * t) = qRTb t) (ti : Nat → Int32) (tn : Nat → Bool) (hti : ∀ k, k < 24 → h.1 (70 + 3 * t + 1) k = ti k) (htn : ∀ k, k < 24 → h.1 (70 + 3 * t + 2) k = b2i (tn k)) (q : Nat) (hq : q < 12) (fc c : Nat) (hc : c < 2) (hf : fc + c < 4) (Rp : Option Value → qH → Nat → Prop) (x : Value)
    (k : qX mi_Ma_load 1 none 0 0 3 [.ref 59, .int (nI fc), .ref (70 + 3 * t), .int (nI q), .int (nI (c + 1)), qdead] [] (nR (lR h (va_up cv (fc + c) (if tn (q * 2 + c) = true then 0 else (ti (q * 2 + c)).toInt64)) (va_up cb (fc + c) (tn (q * 2 + c)))) vs ns) NN 0 0 Rp) : qX mi_Ma_load 1 none 0 0 3 [.ref 59, .int (nI fc), .ref (70 + 3 * t), .int (nI q), .int (nI c), x] [] (nR (lR h cv cb) vs ns) NN 0 0 Rp := by
  have e1 : (nR (lR h cv cb) vs ns).1 (70 + 3 * t + 1) (q * 2 + c) = ti (q * 2 + c) := (congrFun ((qun (by omega)).trans (qun (by omega))) _).trans (hti _ (by omega))
  have e2 : (nR (lR h cv cb) vs ns).1 (70 + 3 * t + 2) (q * 2 + c) = b2i (tn (q * 2 + c)) := (congrFun ((qun (by omega)).trans (qun (by omega))) _).trans (htn _ (by omega))
  have eT : (nR (lR h cv cb) vs ns).2.2 (70 + 3 * t) = qRTb t := hT
  generalize hG : (nR (lR h cv cb) vs ns) = g at *
  cases hb : tn (q * 2 + c) with
  | true =>
    rw [hb] at e2 k
    have eM : g.2.2 59 = qRMa := by rw [← hG]; exact hM
    refine qx_iload d_Ma_load_3 rfl ?_
    refine qx_iconstN (v := 2) d_Ma_load_5 rfl ?_
    refine qx_icmp_geN (t := 74) d_Ma_load_6 rfl (by omega) (by omega) (fun c6 => absurd c6 (by omega)) (fun c6 => ?_)
    refine qx_iload_n d_Ma_load_9 rfl rfl ?_
    refine qx_iconst (v := (-1)) d_Ma_load_10 rfl ?_
    refine qx_icmp_eq (t := 24) d_Ma_load_11 rfl (fun c11 => absurd c11 (nI_m1 q hq)) (fun c11 => ?_)
    refine qx_aload_n d_Ma_load_14 rfl rfl ?_
    refine qx_iload_n d_Ma_load_15 rfl rfl ?_
    refine qx_iload d_Ma_load_16 rfl ?_
    refine qx_callV (As := [_, _]) (rest := _) d_Ma_load_18 lk_Ma_25 y_Tb_isNull v_Tb_isNull rfl rfl (tb_pl ht).1 (by decide) rfl (tb_pl ht).2.2.2.1 rfl rfl (by decide) (by decide) (ct_Tb_isNull (h := g) t ht eT q c hq hc true e2) ?_
    rintro _ _ _ ⟨rfl, rfl, rfl⟩
    refine qx_if_eqB (t := 28) d_Ma_load_21 rfl (fun c21 => absurd c21 (by decide)) (fun c21 => ?_)
    refine qx_iconst (v := b2i true) d_Ma_load_24 rfl ?_
    refine qx_goto (t := 29) d_Ma_load_25 rfl ?_
    refine qx_istore (lv1 := [_, _, _, _, _, _]) d_Ma_load_29 (by decide) rfl ?_
    refine qx_aload_n d_Ma_load_31 rfl rfl ?_
    refine qx_getR d_Ma_load_32 fR_Ma_15 rfl rfl (congrFun eM 1) ?_
    refine qx_iload_n d_Ma_load_35 rfl rfl ?_
    refine qx_iload d_Ma_load_36 rfl ?_
    refine qx_iaddN d_Ma_load_38 ?_
    refine qx_iload d_Ma_load_39 rfl ?_
    refine qx_zast d_Ma_load_41 rfl rfl rfl rfl (by omega) rfl ?_
    refine qx_aload_n d_Ma_load_42 rfl rfl ?_
    refine qx_getR d_Ma_load_43 fR_Ma_9 rfl rfl (congrFun eM 0) ?_
    refine qx_iload_n d_Ma_load_46 rfl rfl ?_
    refine qx_iload d_Ma_load_47 rfl ?_
    refine qx_iaddN d_Ma_load_49 ?_
    refine qx_iload d_Ma_load_50 rfl ?_
    refine qx_if_eqB (t := 59) d_Ma_load_52 rfl (fun c52 => absurd c52 (by decide)) (fun c52 => ?_)
    refine qx_lconst (v := 0) d_Ma_load_55 rfl ?_
    refine qx_goto (t := 67) d_Ma_load_56 rfl ?_
    refine qx_last d_Ma_load_67 rfl rfl rfl rfl (by omega) ?_
    refine qx_iincN (w := 1) (lv1 := [_, _, _, _, _, _]) d_Ma_load_68 rfl rfl (by decide) rfl ?_
    refine qx_goto (t := 3) d_Ma_load_71 rfl ?_
    refine qx_less (lv1 := [_, _, _, _, _, qdead]) ⟨Or.inr rfl, Or.inr rfl, Or.inr rfl, Or.inr rfl, Or.inr rfl, Or.inl rfl, trivial⟩ ?_
    refine qx_eq rfl rfl rfl ?_ k
    rw [← hG]
    exact load_eq.symm
  | false =>
    rw [hb] at e2 k
    have eM : g.2.2 59 = qRMa := by rw [← hG]; exact hM
    have e3 : (qpI g 61 (fc + c) (b2i false)).1 (70 + 3 * t + 1) (q * 2 + c) = ti (q * 2 + c) := (congrFun (qun (by omega)) _).trans e1
    refine qx_iload d_Ma_load_3 rfl ?_
    refine qx_iconstN (v := 2) d_Ma_load_5 rfl ?_
    refine qx_icmp_geN (t := 74) d_Ma_load_6 rfl (by omega) (by omega) (fun c6 => absurd c6 (by omega)) (fun c6 => ?_)
    refine qx_iload_n d_Ma_load_9 rfl rfl ?_
    refine qx_iconst (v := (-1)) d_Ma_load_10 rfl ?_
    refine qx_icmp_eq (t := 24) d_Ma_load_11 rfl (fun c11 => absurd c11 (nI_m1 q hq)) (fun c11 => ?_)
    refine qx_aload_n d_Ma_load_14 rfl rfl ?_
    refine qx_iload_n d_Ma_load_15 rfl rfl ?_
    refine qx_iload d_Ma_load_16 rfl ?_
    refine qx_callV (As := [_, _]) (rest := _) d_Ma_load_18 lk_Ma_25 y_Tb_isNull v_Tb_isNull rfl rfl (tb_pl ht).1 (by decide) rfl (tb_pl ht).2.2.2.1 rfl rfl (by decide) (by decide) (ct_Tb_isNull (h := g) t ht eT q c hq hc false e2) ?_
    rintro _ _ _ ⟨rfl, rfl, rfl⟩
    refine qx_if_eqB (t := 28) d_Ma_load_21 rfl (fun c21 => ?_) (fun c21 => absurd c21 (by decide))
    refine qx_iconst (v := b2i false) d_Ma_load_28 rfl ?_
    refine qx_istore (lv1 := [_, _, _, _, _, _]) d_Ma_load_29 (by decide) rfl ?_
    refine qx_aload_n d_Ma_load_31 rfl rfl ?_
    refine qx_getR d_Ma_load_32 fR_Ma_15 rfl rfl (congrFun eM 1) ?_
    refine qx_iload_n d_Ma_load_35 rfl rfl ?_
    refine qx_iload d_Ma_load_36 rfl ?_
    refine qx_iaddN d_Ma_load_38 ?_
    refine qx_iload d_Ma_load_39 rfl ?_
    refine qx_zast d_Ma_load_41 rfl rfl rfl rfl (by omega) rfl ?_
    refine qx_aload_n d_Ma_load_42 rfl rfl ?_
    refine qx_getR d_Ma_load_43 fR_Ma_9 rfl rfl (congrFun eM 0) ?_
    refine qx_iload_n d_Ma_load_46 rfl rfl ?_
    refine qx_iload d_Ma_load_47 rfl ?_
    refine qx_iaddN d_Ma_load_49 ?_
    refine qx_iload d_Ma_load_50 rfl ?_
    refine qx_if_eqB (t := 59) d_Ma_load_52 rfl (fun c52 => ?_) (fun c52 => absurd c52 (by decide))
    refine qx_aload_n d_Ma_load_59 rfl rfl ?_
    refine qx_iload_n d_Ma_load_60 rfl rfl ?_
    refine qx_iload d_Ma_load_61 rfl ?_
    refine qx_callV (As := [_, _]) (rest := _) d_Ma_load_63 lk_Ma_31 y_Tb_value v_Tb_value rfl rfl (tb_pl ht).1 (by decide) rfl (tb_pl ht).2.2.2.1 rfl rfl (by decide) (by decide) (ct_Tb_value (h := qpI g 61 (fc + c) (b2i false)) t ht eT q c hq hc (ti (q * 2 + c)) e3) ?_
    rintro _ _ _ ⟨rfl, rfl, rfl⟩
    refine qx_i2l d_Ma_load_66 ?_
    refine qx_last d_Ma_load_67 rfl rfl rfl rfl (by omega) ?_
    refine qx_iincN (w := 1) (lv1 := [_, _, _, _, _, _]) d_Ma_load_68 rfl rfl (by decide) rfl ?_
    refine qx_goto (t := 3) d_Ma_load_71 rfl ?_
    refine qx_less (lv1 := [_, _, _, _, _, qdead]) ⟨Or.inr rfl, Or.inr rfl, Or.inr rfl, Or.inr rfl, Or.inr rfl, Or.inl rfl, trivial⟩ ?_
    refine qx_eq rfl rfl rfl ?_ k
    rw [← hG]
    exact load_eq.symm
set_option maxRecDepth 100000 in
set_option maxHeartbeats 4000000 in
theorem ct_Ma_load_0 {h : qH} (hM : h.2.2 59 = qRMa) (cv : Nat → Int64) (cb : Nat → Bool) (vs : Nat → Int64) (ns : Nat → Bool) (t : Nat) (ht : t < 3) (hT : h.2.2 (70 + 3 * t) = qRTb t) (ti : Nat → Int32) (tn : Nat → Bool) (hti : ∀ k, k < 24 → h.1 (70 + 3 * t + 1) k = ti k) (htn : ∀ k, k < 24 → h.1 (70 + 3 * t + 2) k = b2i (tn k)) (q : Nat) (hq : q < 12) : qT mi_Ma_load 1 0 0 [.ref 59, .int (nI 0), .ref (70 + 3 * t), .int (nI q)] (nR (lR h cv cb) vs ns) NN (fun v1 h1 n1 => v1 = none ∧ h1 = nR (lR h (va_up (va_up cv 0 (if tn (q * 2 + 0) = true then 0 else (ti (q * 2 + 0)).toInt64)) 1 (if tn (q * 2 + 1) = true then 0 else (ti (q * 2 + 1)).toInt64)) (va_up (va_up cb 0 (tn (q * 2 + 0))) 1 (tn (q * 2 + 1)))) vs ns ∧ n1 = NN) := by
  refine qT.of (lv0 := [_, _, _, _, _, _]) (by decide +kernel) (fun _ _ => Nat.le_of_ble_eq_true rfl) rfl ?_
  refine qx_iconstN (v := 0) d_Ma_load_0 rfl ?_
  refine qx_istore (lv1 := [_, _, _, _, _, _]) d_Ma_load_1 (by decide) rfl ?_
  refine ld_row hM cv cb vs ns t ht hT ti tn hti htn q hq 0 0 (by omega) (by omega) _ _ ?_
  refine ld_row hM _ _ vs ns t ht hT ti tn hti htn q hq 0 (0 + 1) (by omega) (by omega) _ _ ?_
  refine qx_iload d_Ma_load_3 rfl ?_
  refine qx_iconstN (v := 2) d_Ma_load_5 rfl ?_
  refine qx_icmp_geN (t := 74) d_Ma_load_6 rfl (by omega) (by omega) (fun c6 => ?_) (fun c6 => absurd c6 (by omega))
  exact qx_ret d_Ma_load_74 rfl (by omega) (by omega) ⟨rfl, rfl, rfl⟩
set_option maxRecDepth 100000 in
set_option maxHeartbeats 4000000 in
theorem ct_Ma_load_0_none {h : qH} (hM : h.2.2 59 = qRMa) (cv : Nat → Int64) (cb : Nat → Bool) (vs : Nat → Int64) (ns : Nat → Bool) (a : Nat) : qT mi_Ma_load 1 0 0 [.ref 59, .int (nI 0), .ref a, .int (-1)] (nR (lR h cv cb) vs ns) NN (fun v1 h1 n1 => v1 = none ∧ h1 = nR (lR h (va_up (va_up cv 0 0) 1 0) (va_up (va_up cb 0 true) 1 true)) vs ns ∧ n1 = NN) := by
  refine qT.of (lv0 := [_, _, _, _, _, _]) (by decide +kernel) (fun _ _ => Nat.le_of_ble_eq_true rfl) rfl ?_
  refine qx_iconstN (v := 0) d_Ma_load_0 rfl ?_
  refine qx_istore (lv1 := [_, _, _, _, _, _]) d_Ma_load_1 (by decide) rfl ?_
  refine qx_iload d_Ma_load_3 rfl ?_
  refine qx_iconstN (v := 2) d_Ma_load_5 rfl ?_
  refine qx_icmp_geN (t := 74) d_Ma_load_6 rfl (by omega) (by omega) (fun c6 => absurd c6 (by omega)) (fun c6 => ?_)
  refine qx_iload_n d_Ma_load_9 rfl rfl ?_
  refine qx_iconst (v := (-1)) d_Ma_load_10 rfl ?_
  refine qx_icmp_eq (t := 24) d_Ma_load_11 rfl (fun c11 => ?_) (fun c11 => absurd rfl c11)
  refine qx_iconst (v := b2i true) d_Ma_load_24 rfl ?_
  refine qx_goto (t := 29) d_Ma_load_25 rfl ?_
  refine qx_istore (lv1 := [_, _, _, _, _, _]) d_Ma_load_29 (by decide) rfl ?_
  refine qx_aload_n d_Ma_load_31 rfl rfl ?_
  refine qx_getR d_Ma_load_32 fR_Ma_15 rfl rfl (congrFun hM 1) ?_
  refine qx_iload_n d_Ma_load_35 rfl rfl ?_
  refine qx_iload d_Ma_load_36 rfl ?_
  refine qx_iaddN d_Ma_load_38 ?_
  refine qx_iload d_Ma_load_39 rfl ?_
  refine qx_zast d_Ma_load_41 rfl rfl rfl rfl (by omega) rfl ?_
  refine qx_aload_n d_Ma_load_42 rfl rfl ?_
  refine qx_getR d_Ma_load_43 fR_Ma_9 rfl rfl (congrFun hM 0) ?_
  refine qx_iload_n d_Ma_load_46 rfl rfl ?_
  refine qx_iload d_Ma_load_47 rfl ?_
  refine qx_iaddN d_Ma_load_49 ?_
  refine qx_iload d_Ma_load_50 rfl ?_
  refine qx_if_eqB (t := 59) d_Ma_load_52 rfl (fun c52 => absurd c52 (by decide)) (fun c52 => ?_)
  refine qx_lconst (v := 0) d_Ma_load_55 rfl ?_
  refine qx_goto (t := 67) d_Ma_load_56 rfl ?_
  refine qx_last d_Ma_load_67 rfl rfl rfl rfl (by omega) ?_
  refine qx_eq (h1 := nR (lR h (va_up cv 0 0) (va_up cb 0 true)) vs ns) rfl rfl rfl load_eq.symm ?_
  refine qx_iincN (w := 1) (lv1 := [_, _, _, _, _, _]) d_Ma_load_68 rfl rfl (by decide) rfl ?_
  refine qx_goto (t := 3) d_Ma_load_71 rfl ?_
  refine qx_iload d_Ma_load_3 rfl ?_
  refine qx_iconstN (v := 2) d_Ma_load_5 rfl ?_
  refine qx_icmp_geN (t := 74) d_Ma_load_6 rfl (by omega) (by omega) (fun c6 => absurd c6 (by omega)) (fun c6 => ?_)
  refine qx_iload_n d_Ma_load_9 rfl rfl ?_
  refine qx_iconst (v := (-1)) d_Ma_load_10 rfl ?_
  refine qx_icmp_eq (t := 24) d_Ma_load_11 rfl (fun c11 => ?_) (fun c11 => absurd rfl c11)
  refine qx_iconst (v := b2i true) d_Ma_load_24 rfl ?_
  refine qx_goto (t := 29) d_Ma_load_25 rfl ?_
  refine qx_istore (lv1 := [_, _, _, _, _, _]) d_Ma_load_29 (by decide) rfl ?_
  refine qx_aload_n d_Ma_load_31 rfl rfl ?_
  refine qx_getR d_Ma_load_32 fR_Ma_15 rfl rfl (congrFun hM 1) ?_
  refine qx_iload_n d_Ma_load_35 rfl rfl ?_
  refine qx_iload d_Ma_load_36 rfl ?_
  refine qx_iaddN d_Ma_load_38 ?_
  refine qx_iload d_Ma_load_39 rfl ?_
  refine qx_zast d_Ma_load_41 rfl rfl rfl rfl (by omega) rfl ?_
  refine qx_aload_n d_Ma_load_42 rfl rfl ?_
  refine qx_getR d_Ma_load_43 fR_Ma_9 rfl rfl (congrFun hM 0) ?_
  refine qx_iload_n d_Ma_load_46 rfl rfl ?_
  refine qx_iload d_Ma_load_47 rfl ?_
  refine qx_iaddN d_Ma_load_49 ?_
  refine qx_iload d_Ma_load_50 rfl ?_
  refine qx_if_eqB (t := 59) d_Ma_load_52 rfl (fun c52 => absurd c52 (by decide)) (fun c52 => ?_)
  refine qx_lconst (v := 0) d_Ma_load_55 rfl ?_
  refine qx_goto (t := 67) d_Ma_load_56 rfl ?_
  refine qx_last d_Ma_load_67 rfl rfl rfl rfl (by omega) ?_
  refine qx_eq (h1 := nR (lR h (va_up (va_up cv 0 0) 1 0) (va_up (va_up cb 0 true) 1 true)) vs ns) rfl rfl rfl load_eq.symm ?_
  refine qx_iincN (w := 1) (lv1 := [_, _, _, _, _, _]) d_Ma_load_68 rfl rfl (by decide) rfl ?_
  refine qx_goto (t := 3) d_Ma_load_71 rfl ?_
  refine qx_iload d_Ma_load_3 rfl ?_
  refine qx_iconstN (v := 2) d_Ma_load_5 rfl ?_
  refine qx_icmp_geN (t := 74) d_Ma_load_6 rfl (by omega) (by omega) (fun c6 => ?_) (fun c6 => absurd c6 (by omega))
  exact qx_ret d_Ma_load_74 rfl (by omega) (by omega) ⟨rfl, rfl, rfl⟩
set_option maxRecDepth 100000 in
set_option maxHeartbeats 4000000 in
theorem ct_Ma_load_2 {h : qH} (hM : h.2.2 59 = qRMa) (cv : Nat → Int64) (cb : Nat → Bool) (vs : Nat → Int64) (ns : Nat → Bool) (t : Nat) (ht : t < 3) (hT : h.2.2 (70 + 3 * t) = qRTb t) (ti : Nat → Int32) (tn : Nat → Bool) (hti : ∀ k, k < 24 → h.1 (70 + 3 * t + 1) k = ti k) (htn : ∀ k, k < 24 → h.1 (70 + 3 * t + 2) k = b2i (tn k)) (q : Nat) (hq : q < 12) : qT mi_Ma_load 1 0 0 [.ref 59, .int (nI 2), .ref (70 + 3 * t), .int (nI q)] (nR (lR h cv cb) vs ns) NN (fun v1 h1 n1 => v1 = none ∧ h1 = nR (lR h (va_up (va_up cv 2 (if tn (q * 2 + 0) = true then 0 else (ti (q * 2 + 0)).toInt64)) 3 (if tn (q * 2 + 1) = true then 0 else (ti (q * 2 + 1)).toInt64)) (va_up (va_up cb 2 (tn (q * 2 + 0))) 3 (tn (q * 2 + 1)))) vs ns ∧ n1 = NN) := by
  refine qT.of (lv0 := [_, _, _, _, _, _]) (by decide +kernel) (fun _ _ => Nat.le_of_ble_eq_true rfl) rfl ?_
  refine qx_iconstN (v := 0) d_Ma_load_0 rfl ?_
  refine qx_istore (lv1 := [_, _, _, _, _, _]) d_Ma_load_1 (by decide) rfl ?_
  refine ld_row hM cv cb vs ns t ht hT ti tn hti htn q hq 2 0 (by omega) (by omega) _ _ ?_
  refine ld_row hM _ _ vs ns t ht hT ti tn hti htn q hq 2 (0 + 1) (by omega) (by omega) _ _ ?_
  refine qx_iload d_Ma_load_3 rfl ?_
  refine qx_iconstN (v := 2) d_Ma_load_5 rfl ?_
  refine qx_icmp_geN (t := 74) d_Ma_load_6 rfl (by omega) (by omega) (fun c6 => ?_) (fun c6 => absurd c6 (by omega))
  exact qx_ret d_Ma_load_74 rfl (by omega) (by omega) ⟨rfl, rfl, rfl⟩
set_option maxRecDepth 100000 in
set_option maxHeartbeats 4000000 in
theorem ct_Ma_load_2_none {h : qH} (hM : h.2.2 59 = qRMa) (cv : Nat → Int64) (cb : Nat → Bool) (vs : Nat → Int64) (ns : Nat → Bool) (a : Nat) : qT mi_Ma_load 1 0 0 [.ref 59, .int (nI 2), .ref a, .int (-1)] (nR (lR h cv cb) vs ns) NN (fun v1 h1 n1 => v1 = none ∧ h1 = nR (lR h (va_up (va_up cv 2 0) 3 0) (va_up (va_up cb 2 true) 3 true)) vs ns ∧ n1 = NN) := by
  refine qT.of (lv0 := [_, _, _, _, _, _]) (by decide +kernel) (fun _ _ => Nat.le_of_ble_eq_true rfl) rfl ?_
  refine qx_iconstN (v := 0) d_Ma_load_0 rfl ?_
  refine qx_istore (lv1 := [_, _, _, _, _, _]) d_Ma_load_1 (by decide) rfl ?_
  refine qx_iload d_Ma_load_3 rfl ?_
  refine qx_iconstN (v := 2) d_Ma_load_5 rfl ?_
  refine qx_icmp_geN (t := 74) d_Ma_load_6 rfl (by omega) (by omega) (fun c6 => absurd c6 (by omega)) (fun c6 => ?_)
  refine qx_iload_n d_Ma_load_9 rfl rfl ?_
  refine qx_iconst (v := (-1)) d_Ma_load_10 rfl ?_
  refine qx_icmp_eq (t := 24) d_Ma_load_11 rfl (fun c11 => ?_) (fun c11 => absurd rfl c11)
  refine qx_iconst (v := b2i true) d_Ma_load_24 rfl ?_
  refine qx_goto (t := 29) d_Ma_load_25 rfl ?_
  refine qx_istore (lv1 := [_, _, _, _, _, _]) d_Ma_load_29 (by decide) rfl ?_
  refine qx_aload_n d_Ma_load_31 rfl rfl ?_
  refine qx_getR d_Ma_load_32 fR_Ma_15 rfl rfl (congrFun hM 1) ?_
  refine qx_iload_n d_Ma_load_35 rfl rfl ?_
  refine qx_iload d_Ma_load_36 rfl ?_
  refine qx_iaddN d_Ma_load_38 ?_
  refine qx_iload d_Ma_load_39 rfl ?_
  refine qx_zast d_Ma_load_41 rfl rfl rfl rfl (by omega) rfl ?_
  refine qx_aload_n d_Ma_load_42 rfl rfl ?_
  refine qx_getR d_Ma_load_43 fR_Ma_9 rfl rfl (congrFun hM 0) ?_
  refine qx_iload_n d_Ma_load_46 rfl rfl ?_
  refine qx_iload d_Ma_load_47 rfl ?_
  refine qx_iaddN d_Ma_load_49 ?_
  refine qx_iload d_Ma_load_50 rfl ?_
  refine qx_if_eqB (t := 59) d_Ma_load_52 rfl (fun c52 => absurd c52 (by decide)) (fun c52 => ?_)
  refine qx_lconst (v := 0) d_Ma_load_55 rfl ?_
  refine qx_goto (t := 67) d_Ma_load_56 rfl ?_
  refine qx_last d_Ma_load_67 rfl rfl rfl rfl (by omega) ?_
  refine qx_eq (h1 := nR (lR h (va_up cv 2 0) (va_up cb 2 true)) vs ns) rfl rfl rfl load_eq.symm ?_
  refine qx_iincN (w := 1) (lv1 := [_, _, _, _, _, _]) d_Ma_load_68 rfl rfl (by decide) rfl ?_
  refine qx_goto (t := 3) d_Ma_load_71 rfl ?_
  refine qx_iload d_Ma_load_3 rfl ?_
  refine qx_iconstN (v := 2) d_Ma_load_5 rfl ?_
  refine qx_icmp_geN (t := 74) d_Ma_load_6 rfl (by omega) (by omega) (fun c6 => absurd c6 (by omega)) (fun c6 => ?_)
  refine qx_iload_n d_Ma_load_9 rfl rfl ?_
  refine qx_iconst (v := (-1)) d_Ma_load_10 rfl ?_
  refine qx_icmp_eq (t := 24) d_Ma_load_11 rfl (fun c11 => ?_) (fun c11 => absurd rfl c11)
  refine qx_iconst (v := b2i true) d_Ma_load_24 rfl ?_
  refine qx_goto (t := 29) d_Ma_load_25 rfl ?_
  refine qx_istore (lv1 := [_, _, _, _, _, _]) d_Ma_load_29 (by decide) rfl ?_
  refine qx_aload_n d_Ma_load_31 rfl rfl ?_
  refine qx_getR d_Ma_load_32 fR_Ma_15 rfl rfl (congrFun hM 1) ?_
  refine qx_iload_n d_Ma_load_35 rfl rfl ?_
  refine qx_iload d_Ma_load_36 rfl ?_
  refine qx_iaddN d_Ma_load_38 ?_
  refine qx_iload d_Ma_load_39 rfl ?_
  refine qx_zast d_Ma_load_41 rfl rfl rfl rfl (by omega) rfl ?_
  refine qx_aload_n d_Ma_load_42 rfl rfl ?_
  refine qx_getR d_Ma_load_43 fR_Ma_9 rfl rfl (congrFun hM 0) ?_
  refine qx_iload_n d_Ma_load_46 rfl rfl ?_
  refine qx_iload d_Ma_load_47 rfl ?_
  refine qx_iaddN d_Ma_load_49 ?_
  refine qx_iload d_Ma_load_50 rfl ?_
  refine qx_if_eqB (t := 59) d_Ma_load_52 rfl (fun c52 => absurd c52 (by decide)) (fun c52 => ?_)
  refine qx_lconst (v := 0) d_Ma_load_55 rfl ?_
  refine qx_goto (t := 67) d_Ma_load_56 rfl ?_
  refine qx_last d_Ma_load_67 rfl rfl rfl rfl (by omega) ?_
  refine qx_eq (h1 := nR (lR h (va_up (va_up cv 2 0) 3 0) (va_up (va_up cb 2 true) 3 true)) vs ns) rfl rfl rfl load_eq.symm ?_
  refine qx_iincN (w := 1) (lv1 := [_, _, _, _, _, _]) d_Ma_load_68 rfl rfl (by decide) rfl ?_
  refine qx_goto (t := 3) d_Ma_load_71 rfl ?_
  refine qx_iload d_Ma_load_3 rfl ?_
  refine qx_iconstN (v := 2) d_Ma_load_5 rfl ?_
  refine qx_icmp_geN (t := 74) d_Ma_load_6 rfl (by omega) (by omega) (fun c6 => ?_) (fun c6 => absurd c6 (by omega))
  exact qx_ret d_Ma_load_74 rfl (by omega) (by omega) ⟨rfl, rfl, rfl⟩
