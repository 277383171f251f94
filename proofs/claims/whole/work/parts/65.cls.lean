theorem cutS {F : Nat → Nat → Nat} {w i : Nat} : va_up (va_up F w (sCut (F w) 0 i)) w (va_up (va_up F w (sCut (F w) 0 i) w) i (sCut (F w) 0 i (i + 1))) = va_up F w (sCut (F w) 0 (i + 1)) := by
  rw [qus, qv_up, sCut_S (Nat.zero_le _)]
theorem cut0 {F : Nat → Nat → Nat} {w : Nat} : va_up F w (sCut (F w) 0 0) = F := by
  rw [sCut_0, qv_self]
theorem kQ_c {h : qH} {Q Q2 : sQ} (e1 : Q.1 = Q2.1) (e2 : Q.2.1 = Q2.2.1) (e3 : Q.2.2.1 = Q2.2.2.1) (e4 : Q.2.2.2 = Q2.2.2.2) : kQ h Q = kQ h Q2 := by
  rw [show Q = Q2 from Prod.ext e1 (Prod.ext e2 (Prod.ext e3 e4))]
set_option maxRecDepth 100000 in
set_option maxHeartbeats 4000000 in
theorem ct_Li_removeAtQ {h : qH} (w : Nat) (hw : w < 4) (hL : h.2.2 (106 + 4 * w) = qRLi (106 + 4 * w)) (Q : sQ) (hn1 : 0 < Q.2.2.2 w) (hn : Q.2.2.2 w ≤ 12) : qT mi_Li_removeAt 0 0 0 [.ref (106 + 4 * w), .int (nI 0)] (kQ h Q) NN (fun v1 h1 n1 => v1 = none ∧ h1 = kQ h (va_up Q.1 w (sCut (Q.1 w) 0 (Q.2.2.2 w - 1)), va_up Q.2.1 w (sCut (Q.2.1 w) 0 (Q.2.2.2 w - 1)), va_up Q.2.2.1 w (sCut (Q.2.2.1 w) 0 (Q.2.2.2 w - 1)), va_up Q.2.2.2 w (Q.2.2.2 w - 1)) ∧ n1 = NN) := by
  refine qT.of (lv0 := [_, _, _]) (by decide +kernel) (fun _ _ => Nat.le_of_ble_eq_true rfl) rfl ?_
  have key : ∀ (m i : Nat), i + 1 + m = Q.2.2.2 w → qX mi_Li_removeAt 0 none 0 0 4 [.ref (106 + 4 * w), .int (nI 0), .int (nI (i + 1))] [] (kQ h (va_up Q.1 w (sCut (Q.1 w) 0 i), va_up Q.2.1 w (sCut (Q.2.1 w) 0 i), va_up Q.2.2.1 w (sCut (Q.2.2.1 w) 0 i), Q.2.2.2)) NN 0 0 (fun v1 h1 n1 => v1 = none ∧ h1 = kQ h (va_up Q.1 w (sCut (Q.1 w) 0 (Q.2.2.2 w - 1)), va_up Q.2.1 w (sCut (Q.2.1 w) 0 (Q.2.2.2 w - 1)), va_up Q.2.2.1 w (sCut (Q.2.2.1 w) 0 (Q.2.2.2 w - 1)), va_up Q.2.2.2 w (Q.2.2.2 w - 1)) ∧ n1 = NN) := by
    intro m
    induction m with
    | zero =>
      intro i hi
      have e : i = Q.2.2.2 w - 1 := by omega
      refine qx_iload_n d_Li_removeAt_4 rfl rfl ?_
      refine qx_aload_n d_Li_removeAt_5 rfl rfl ?_
      refine qx_getI d_Li_removeAt_6 fI_Li_19 (li_pl hw).1 (li_pl hw).2.1 (show _ = nI (Q.2.2.2 w) from congrFun (kQ_in (Q := (va_up Q.1 w (sCut (Q.1 w) 0 i), va_up Q.2.1 w (sCut (Q.2.1 w) 0 i), va_up Q.2.2.1 w (sCut (Q.2.2.1 w) 0 i), Q.2.2.2)) (j := 0) hw (by omega)) 3) ?_
      refine qx_icmp_geN (t := 60) d_Li_removeAt_9 rfl (by omega) (by omega) (fun c9 => ?_) (fun c9 => absurd c9 (by omega))
      refine qx_aload_n d_Li_removeAt_60 rfl rfl ?_
      refine qx_dup d_Li_removeAt_61 rfl ?_
      refine qx_getI d_Li_removeAt_62 fI_Li_19 (li_pl hw).1 (li_pl hw).2.1 (show _ = nI (Q.2.2.2 w) from congrFun (kQ_in (Q := (va_up Q.1 w (sCut (Q.1 w) 0 i), va_up Q.2.1 w (sCut (Q.2.1 w) 0 i), va_up Q.2.2.1 w (sCut (Q.2.2.1 w) 0 i), Q.2.2.2)) (j := 0) hw (by omega)) 3) ?_
      refine qx_iconstN (v := 1) d_Li_removeAt_65 rfl ?_
      refine qx_isubN d_Li_removeAt_66 (by omega) ?_
      refine qx_putI d_Li_removeAt_67 fI_Li_19 (li_pl hw).1 (li_pl hw).2.1 ⟨rfl, rfl⟩ ?_
      exact qx_ret d_Li_removeAt_70 rfl (by omega) (by omega) ⟨rfl, by rw [kQ_n (Q := (va_up Q.1 w (sCut (Q.1 w) 0 i), va_up Q.2.1 w (sCut (Q.2.1 w) 0 i), va_up Q.2.2.1 w (sCut (Q.2.2.1 w) 0 i), Q.2.2.2)) hw, e], rfl⟩
    | succ m ih =>
      intro i hi
      refine qx_iload_n d_Li_removeAt_4 rfl rfl ?_
      refine qx_aload_n d_Li_removeAt_5 rfl rfl ?_
      refine qx_getI d_Li_removeAt_6 fI_Li_19 (li_pl hw).1 (li_pl hw).2.1 (show _ = nI (Q.2.2.2 w) from congrFun (kQ_in (Q := (va_up Q.1 w (sCut (Q.1 w) 0 i), va_up Q.2.1 w (sCut (Q.2.1 w) 0 i), va_up Q.2.2.1 w (sCut (Q.2.2.1 w) 0 i), Q.2.2.2)) (j := 0) hw (by omega)) 3) ?_
      refine qx_icmp_geN (t := 60) d_Li_removeAt_9 rfl (by omega) (by omega) (fun c9 => absurd c9 (by omega)) (fun c9 => ?_)
      refine qx_aload_n d_Li_removeAt_12 rfl rfl ?_
      refine qx_getR d_Li_removeAt_13 fR_Li_7 (li_pl hw).1 (li_pl hw).2.1 (congrFun hL 0) ?_
      refine qx_iload_n d_Li_removeAt_16 rfl rfl ?_
      refine qx_iconstN (v := 1) d_Li_removeAt_17 rfl ?_
      refine qx_isubN d_Li_removeAt_18 (by omega) ?_
      refine qx_aload_n d_Li_removeAt_19 rfl rfl ?_
      refine qx_getR d_Li_removeAt_20 fR_Li_7 (li_pl hw).1 (li_pl hw).2.1 (congrFun hL 0) ?_
      refine qx_iload_n d_Li_removeAt_23 rfl rfl ?_
      refine qx_iald (j := (i + 1)) d_Li_removeAt_24 (li_pl hw).2.2.1 (li_pl hw).2.2.2.1 rfl rfl (by omega) (show _ = nI (sCut (Q.1 w) 0 i (i + 1)) from (congrFun (kQ_in (Q := (va_up Q.1 w (sCut (Q.1 w) 0 i), va_up Q.2.1 w (sCut (Q.2.1 w) 0 i), va_up Q.2.2.1 w (sCut (Q.2.2.1 w) 0 i), Q.2.2.2)) (j := 1) hw (by omega)) (i + 1)).trans (by show nI (va_up Q.1 w (sCut (Q.1 w) 0 i) w (i + 1)) = _; rw [qus])) ?_
      refine qx_iast (j := i) d_Li_removeAt_25 (li_pl hw).2.2.1 (li_pl hw).2.2.2.1 rfl rfl (by omega) ?_
      refine qx_eq (h1 := kQ h (va_up Q.1 w (sCut (Q.1 w) 0 (i + 1)), va_up Q.2.1 w (sCut (Q.2.1 w) 0 i), va_up Q.2.2.1 w (sCut (Q.2.2.1 w) 0 i), Q.2.2.2)) rfl rfl rfl ((kQ_k (h := h) (Q := (va_up Q.1 w (sCut (Q.1 w) 0 i), va_up Q.2.1 w (sCut (Q.2.1 w) 0 i), va_up Q.2.2.1 w (sCut (Q.2.2.1 w) 0 i), Q.2.2.2)) (i := i) (v := sCut (Q.1 w) 0 i (i + 1)) hw).trans (kQ_c (h := h) (Q2 := (va_up Q.1 w (sCut (Q.1 w) 0 (i + 1)), va_up Q.2.1 w (sCut (Q.2.1 w) 0 i), va_up Q.2.2.1 w (sCut (Q.2.2.1 w) 0 i), Q.2.2.2)) cutS rfl rfl rfl)).symm ?_
      refine qx_aload_n d_Li_removeAt_26 rfl rfl ?_
      refine qx_getR d_Li_removeAt_27 fR_Li_13 (li_pl hw).1 (li_pl hw).2.1 (congrFun hL 1) ?_
      refine qx_iload_n d_Li_removeAt_30 rfl rfl ?_
      refine qx_iconstN (v := 1) d_Li_removeAt_31 rfl ?_
      refine qx_isubN d_Li_removeAt_32 (by omega) ?_
      refine qx_aload_n d_Li_removeAt_33 rfl rfl ?_
      refine qx_getR d_Li_removeAt_34 fR_Li_13 (li_pl hw).1 (li_pl hw).2.1 (congrFun hL 1) ?_
      refine qx_iload_n d_Li_removeAt_37 rfl rfl ?_
      refine qx_iald (j := (i + 1)) d_Li_removeAt_38 (li_pl hw).2.2.2.2.1 (li_pl hw).2.2.2.2.2.1 rfl rfl (by omega) (show _ = nI (sCut (Q.2.1 w) 0 i (i + 1)) from (congrFun (kQ_in (Q := (va_up Q.1 w (sCut (Q.1 w) 0 (i + 1)), va_up Q.2.1 w (sCut (Q.2.1 w) 0 i), va_up Q.2.2.1 w (sCut (Q.2.2.1 w) 0 i), Q.2.2.2)) (j := 2) hw (by omega)) (i + 1)).trans (by show nI (va_up Q.2.1 w (sCut (Q.2.1 w) 0 i) w (i + 1)) = _; rw [qus])) ?_
      refine qx_iast (j := i) d_Li_removeAt_39 (li_pl hw).2.2.2.2.1 (li_pl hw).2.2.2.2.2.1 rfl rfl (by omega) ?_
      refine qx_eq (h1 := kQ h (va_up Q.1 w (sCut (Q.1 w) 0 (i + 1)), va_up Q.2.1 w (sCut (Q.2.1 w) 0 (i + 1)), va_up Q.2.2.1 w (sCut (Q.2.2.1 w) 0 i), Q.2.2.2)) rfl rfl rfl ((kQ_t (h := h) (Q := (va_up Q.1 w (sCut (Q.1 w) 0 (i + 1)), va_up Q.2.1 w (sCut (Q.2.1 w) 0 i), va_up Q.2.2.1 w (sCut (Q.2.2.1 w) 0 i), Q.2.2.2)) (i := i) (v := sCut (Q.2.1 w) 0 i (i + 1)) hw).trans (kQ_c (h := h) (Q2 := (va_up Q.1 w (sCut (Q.1 w) 0 (i + 1)), va_up Q.2.1 w (sCut (Q.2.1 w) 0 (i + 1)), va_up Q.2.2.1 w (sCut (Q.2.2.1 w) 0 i), Q.2.2.2)) rfl cutS rfl rfl)).symm ?_
      refine qx_aload_n d_Li_removeAt_40 rfl rfl ?_
      refine qx_getR d_Li_removeAt_41 fR_Li_16 (li_pl hw).1 (li_pl hw).2.1 (congrFun hL 2) ?_
      refine qx_iload_n d_Li_removeAt_44 rfl rfl ?_
      refine qx_iconstN (v := 1) d_Li_removeAt_45 rfl ?_
      refine qx_isubN d_Li_removeAt_46 (by omega) ?_
      refine qx_aload_n d_Li_removeAt_47 rfl rfl ?_
      refine qx_getR d_Li_removeAt_48 fR_Li_16 (li_pl hw).1 (li_pl hw).2.1 (congrFun hL 2) ?_
      refine qx_iload_n d_Li_removeAt_51 rfl rfl ?_
      refine qx_iald (j := (i + 1)) d_Li_removeAt_52 (li_pl hw).2.2.2.2.2.2.1 (li_pl hw).2.2.2.2.2.2.2 rfl rfl (by omega) (show _ = nI (sCut (Q.2.2.1 w) 0 i (i + 1)) from (congrFun (kQ_in (Q := (va_up Q.1 w (sCut (Q.1 w) 0 (i + 1)), va_up Q.2.1 w (sCut (Q.2.1 w) 0 (i + 1)), va_up Q.2.2.1 w (sCut (Q.2.2.1 w) 0 i), Q.2.2.2)) (j := 3) hw (by omega)) (i + 1)).trans (by show nI (va_up Q.2.2.1 w (sCut (Q.2.2.1 w) 0 i) w (i + 1)) = _; rw [qus])) ?_
      refine qx_iast (j := i) d_Li_removeAt_53 (li_pl hw).2.2.2.2.2.2.1 (li_pl hw).2.2.2.2.2.2.2 rfl rfl (by omega) ?_
      refine qx_eq (h1 := kQ h (va_up Q.1 w (sCut (Q.1 w) 0 (i + 1)), va_up Q.2.1 w (sCut (Q.2.1 w) 0 (i + 1)), va_up Q.2.2.1 w (sCut (Q.2.2.1 w) 0 (i + 1)), Q.2.2.2)) rfl rfl rfl ((kQ_a (h := h) (Q := (va_up Q.1 w (sCut (Q.1 w) 0 (i + 1)), va_up Q.2.1 w (sCut (Q.2.1 w) 0 (i + 1)), va_up Q.2.2.1 w (sCut (Q.2.2.1 w) 0 i), Q.2.2.2)) (i := i) (v := sCut (Q.2.2.1 w) 0 i (i + 1)) hw).trans (kQ_c (h := h) (Q2 := (va_up Q.1 w (sCut (Q.1 w) 0 (i + 1)), va_up Q.2.1 w (sCut (Q.2.1 w) 0 (i + 1)), va_up Q.2.2.1 w (sCut (Q.2.2.1 w) 0 (i + 1)), Q.2.2.2)) rfl rfl cutS rfl)).symm ?_
      refine qx_iincN (w := 1) (lv1 := [_, _, _]) d_Li_removeAt_54 rfl rfl (by decide) rfl ?_
      refine qx_goto (t := 4) d_Li_removeAt_57 rfl ?_
      exact ih (i + 1) (by omega)
  refine qx_iload_n d_Li_removeAt_0 rfl rfl ?_
  refine qx_iconstN (v := 1) d_Li_removeAt_1 rfl ?_
  refine qx_iaddN d_Li_removeAt_2 ?_
  refine qx_istore_n (lv1 := [_, _, _]) d_Li_removeAt_3 rfl (by decide) rfl ?_
  refine qx_eq (h1 := kQ h (va_up Q.1 w (sCut (Q.1 w) 0 0), va_up Q.2.1 w (sCut (Q.2.1 w) 0 0), va_up Q.2.2.1 w (sCut (Q.2.2.1 w) 0 0), Q.2.2.2)) rfl rfl rfl (kQ_c cut0 cut0 cut0 rfl) ?_
  exact key (Q.2.2.2 w - 1) 0 (by omega)
