set_option maxRecDepth 100000 in
set_option maxHeartbeats 4000000 in
theorem ct_Ex_addPart_other {h : qH} (e : Nat) (he : exOk e) (hX : h.2.2 e = qREx e) (cd op : Nat → Int32) (len : Nat) (hl : len < 24) (tr nm : Int32) (c : Nat) (hc : c < 12) (x : Int32) (h10 : ¬ c = 10) : qT mi_Ex_addPart 0 0 0 [.ref e, .int (nI c), .int x] (xR h e (cd, op, nI len, tr, nm)) NN (fun v1 h1 n1 => v1 = none ∧ h1 = xR h e (va_up cd len (nI c), va_up op len x, nI (len + 1), tr, nm) ∧ n1 = NN) := by
  refine qT.of (lv0 := [_, _, _]) (by decide +kernel) (fun _ _ => Nat.le_of_ble_eq_true rfl) rfl ?_
  have hx := ex_pl he
  refine qx_aload_n d_Ex_addPart_0 rfl rfl ?_
  refine qx_getI d_Ex_addPart_1 fI_Ex_18 hx.1 hx.2.2.2.1 (show _ = nI len from congrFun xR_0 2) ?_
  refine qx_bipushN (v := 24) d_Ex_addPart_4 rfl ?_
  refine qx_icmp_ltN (t := 10) d_Ex_addPart_6 rfl (by omega) (by omega) (fun c6 => ?_) (fun c6 => absurd c6 (by omega))
  refine qx_aload_n d_Ex_addPart_10 rfl rfl ?_
  refine qx_getR d_Ex_addPart_11 fR_Ex_9 hx.1 hx.2.2.2.1 (congrFun hX 0) ?_
  refine qx_aload_n d_Ex_addPart_14 rfl rfl ?_
  refine qx_getI d_Ex_addPart_15 fI_Ex_18 hx.1 hx.2.2.2.1 (show _ = nI len from congrFun xR_0 2) ?_
  refine qx_iload_n d_Ex_addPart_18 rfl rfl ?_
  refine qx_iast d_Ex_addPart_19 hx.2.1 hx.2.2.2.2.1 rfl rfl hl ?_
  refine qx_eq (h1 := xR h e (va_up cd len (nI c), op, nI len, tr, nm)) rfl rfl rfl (xR_c (s := (cd, op, nI len, tr, nm))).symm ?_
  refine qx_aload_n d_Ex_addPart_20 rfl rfl ?_
  refine qx_getR d_Ex_addPart_21 fR_Ex_15 hx.1 hx.2.2.2.1 (congrFun hX 1) ?_
  refine qx_aload_n d_Ex_addPart_24 rfl rfl ?_
  refine qx_getI d_Ex_addPart_25 fI_Ex_18 hx.1 hx.2.2.2.1 (show _ = nI len from congrFun xR_0 2) ?_
  refine qx_iload_n d_Ex_addPart_28 rfl rfl ?_
  refine qx_iast d_Ex_addPart_29 hx.2.2.1 hx.2.2.2.2.2.1 rfl rfl hl ?_
  refine qx_eq (h1 := xR h e (va_up cd len (nI c), va_up op len x, nI len, tr, nm)) rfl rfl rfl (xR_p (s := (va_up cd len (nI c), op, nI len, tr, nm))).symm ?_
  refine qx_aload_n d_Ex_addPart_30 rfl rfl ?_
  refine qx_dup d_Ex_addPart_31 rfl ?_
  refine qx_getI d_Ex_addPart_32 fI_Ex_18 hx.1 hx.2.2.2.1 (show _ = nI len from congrFun xR_0 2) ?_
  refine qx_iconstN (v := 1) d_Ex_addPart_35 rfl ?_
  refine qx_iaddN d_Ex_addPart_36 ?_
  refine qx_putI d_Ex_addPart_37 fI_Ex_18 hx.1 hx.2.2.2.1 ⟨rfl, rfl⟩ ?_
  refine qx_eq (h1 := xR h e (va_up cd len (nI c), va_up op len x, nI (len + 1), tr, nm)) rfl rfl rfl (xR_l (s := (va_up cd len (nI c), va_up op len x, nI len, tr, nm))).symm ?_
  refine qx_iload_n d_Ex_addPart_40 rfl rfl ?_
  refine qx_bipushN (v := 10) d_Ex_addPart_41 rfl ?_
  refine qx_icmp_neN (t := 58) d_Ex_addPart_43 rfl (by omega) (by omega) (fun c43 => ?_) (fun c43 => absurd c43 (by omega))
  exact qx_ret d_Ex_addPart_58 rfl (by omega) (by omega) ⟨rfl, rfl, rfl⟩
set_option maxRecDepth 100000 in
set_option maxHeartbeats 4000000 in
theorem ct_Ex_addPart_col {h : qH} (e : Nat) (he : exOk e) (hX : h.2.2 e = qREx e) (cd op : Nat → Int32) (len : Nat) (hl : len < 24) (tr nm : Int32) (c : Nat) (hc : c < 12) (x : Int32) (h10 : c = 10) : qT mi_Ex_addPart 0 0 0 [.ref e, .int (nI c), .int x] (xR h e (cd, op, nI len, tr, nm)) NN (fun v1 h1 n1 => v1 = none ∧ h1 = xR h e (va_up cd len (nI c), va_up op len x, nI (len + 1), tr, nm ||| (nI 1 <<< (x &&& 31))) ∧ n1 = NN) := by
  refine qT.of (lv0 := [_, _, _]) (by decide +kernel) (fun _ _ => Nat.le_of_ble_eq_true rfl) rfl ?_
  have hx := ex_pl he
  refine qx_aload_n d_Ex_addPart_0 rfl rfl ?_
  refine qx_getI d_Ex_addPart_1 fI_Ex_18 hx.1 hx.2.2.2.1 (show _ = nI len from congrFun xR_0 2) ?_
  refine qx_bipushN (v := 24) d_Ex_addPart_4 rfl ?_
  refine qx_icmp_ltN (t := 10) d_Ex_addPart_6 rfl (by omega) (by omega) (fun c6 => ?_) (fun c6 => absurd c6 (by omega))
  refine qx_aload_n d_Ex_addPart_10 rfl rfl ?_
  refine qx_getR d_Ex_addPart_11 fR_Ex_9 hx.1 hx.2.2.2.1 (congrFun hX 0) ?_
  refine qx_aload_n d_Ex_addPart_14 rfl rfl ?_
  refine qx_getI d_Ex_addPart_15 fI_Ex_18 hx.1 hx.2.2.2.1 (show _ = nI len from congrFun xR_0 2) ?_
  refine qx_iload_n d_Ex_addPart_18 rfl rfl ?_
  refine qx_iast d_Ex_addPart_19 hx.2.1 hx.2.2.2.2.1 rfl rfl hl ?_
  refine qx_eq (h1 := xR h e (va_up cd len (nI c), op, nI len, tr, nm)) rfl rfl rfl (xR_c (s := (cd, op, nI len, tr, nm))).symm ?_
  refine qx_aload_n d_Ex_addPart_20 rfl rfl ?_
  refine qx_getR d_Ex_addPart_21 fR_Ex_15 hx.1 hx.2.2.2.1 (congrFun hX 1) ?_
  refine qx_aload_n d_Ex_addPart_24 rfl rfl ?_
  refine qx_getI d_Ex_addPart_25 fI_Ex_18 hx.1 hx.2.2.2.1 (show _ = nI len from congrFun xR_0 2) ?_
  refine qx_iload_n d_Ex_addPart_28 rfl rfl ?_
  refine qx_iast d_Ex_addPart_29 hx.2.2.1 hx.2.2.2.2.2.1 rfl rfl hl ?_
  refine qx_eq (h1 := xR h e (va_up cd len (nI c), va_up op len x, nI len, tr, nm)) rfl rfl rfl (xR_p (s := (va_up cd len (nI c), op, nI len, tr, nm))).symm ?_
  refine qx_aload_n d_Ex_addPart_30 rfl rfl ?_
  refine qx_dup d_Ex_addPart_31 rfl ?_
  refine qx_getI d_Ex_addPart_32 fI_Ex_18 hx.1 hx.2.2.2.1 (show _ = nI len from congrFun xR_0 2) ?_
  refine qx_iconstN (v := 1) d_Ex_addPart_35 rfl ?_
  refine qx_iaddN d_Ex_addPart_36 ?_
  refine qx_putI d_Ex_addPart_37 fI_Ex_18 hx.1 hx.2.2.2.1 ⟨rfl, rfl⟩ ?_
  refine qx_eq (h1 := xR h e (va_up cd len (nI c), va_up op len x, nI (len + 1), tr, nm)) rfl rfl rfl (xR_l (s := (va_up cd len (nI c), va_up op len x, nI len, tr, nm))).symm ?_
  refine qx_iload_n d_Ex_addPart_40 rfl rfl ?_
  refine qx_bipushN (v := 10) d_Ex_addPart_41 rfl ?_
  refine qx_icmp_neN (t := 58) d_Ex_addPart_43 rfl (by omega) (by omega) (fun c43 => absurd c43 (by omega)) (fun c43 => ?_)
  refine qx_aload_n d_Ex_addPart_46 rfl rfl ?_
  refine qx_dup d_Ex_addPart_47 rfl ?_
  refine qx_getI d_Ex_addPart_48 fI_Ex_26 hx.1 hx.2.2.2.1 (show _ = nm from congrFun xR_0 4) ?_
  refine qx_iconstN (v := 1) d_Ex_addPart_51 rfl ?_
  refine qx_iload_n d_Ex_addPart_52 rfl rfl ?_
  refine qx_ishl d_Ex_addPart_53 ?_
  refine qx_ior d_Ex_addPart_54 ?_
  refine qx_putI d_Ex_addPart_55 fI_Ex_26 hx.1 hx.2.2.2.1 ⟨rfl, rfl⟩ ?_
  exact qx_ret d_Ex_addPart_58 rfl (by omega) (by omega) ⟨rfl, xR_n (s := (va_up cd len (nI c), va_up op len x, nI (len + 1), tr, nm)), rfl⟩
