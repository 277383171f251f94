set_option maxRecDepth 100000 in
set_option maxHeartbeats 4000000 in
theorem ct_Li_removeAt {h : qH} (hL : h.2.2 85 = qRLi 85) (mk mt ma : Nat → Nat) (n : Nat) (hn : n ≤ 68) (k : Nat) (hk : k < n) : qT mi_Li_removeAt 0 0 0 [.ref 85, .int (nI k)] (wR h mk mt ma n) NN (fun v1 h1 n1 => v1 = none ∧ h1 = (wR h (sCut mk k (n - 1)) (sCut mt k (n - 1)) (sCut ma k (n - 1)) (n - 1)) ∧ n1 = NN) := by
  refine qT.of (lv0 := [_, _, _]) (by decide +kernel) (fun _ _ => Nat.le_of_ble_eq_true rfl) rfl ?_
  have key : ∀ (m i : Nat), i + 1 + m = n → k ≤ i → qX mi_Li_removeAt 0 none 0 0 4 [.ref 85, .int (nI k), .int (nI (i + 1))] [] (wR h (sCut mk k i) (sCut mt k i) (sCut ma k i) n) NN 0 0 (fun v1 h1 n1 => v1 = none ∧ h1 = (wR h (sCut mk k (n - 1)) (sCut mt k (n - 1)) (sCut ma k (n - 1)) (n - 1)) ∧ n1 = NN) := by
    intro m
    induction m with
    | zero =>
      intro i hi hki
      have e : i = n - 1 := by omega
      refine qx_iload_n d_Li_removeAt_4 rfl rfl ?_
      refine qx_aload_n d_Li_removeAt_5 rfl rfl ?_
      refine qx_getI d_Li_removeAt_6 fI_Li_19 rfl rfl (show _ = nI n from rfl) ?_
      refine qx_icmp_geN (t := 60) d_Li_removeAt_9 rfl (by omega) (by omega) (fun c9 => ?_) (fun c9 => absurd c9 (by omega))
      refine qx_aload_n d_Li_removeAt_60 rfl rfl ?_
      refine qx_dup d_Li_removeAt_61 rfl ?_
      refine qx_getI d_Li_removeAt_62 fI_Li_19 rfl rfl (show _ = nI n from rfl) ?_
      refine qx_iconstN (v := 1) d_Li_removeAt_65 rfl ?_
      refine qx_isubN d_Li_removeAt_66 (by omega) ?_
      refine qx_putI d_Li_removeAt_67 fI_Li_19 rfl rfl ⟨rfl, rfl⟩ ?_
      exact qx_ret d_Li_removeAt_70 rfl (by omega) (by omega) ⟨rfl, by rw [wR_n, e], rfl⟩
    | succ m ih =>
      intro i hi hki
      refine qx_iload_n d_Li_removeAt_4 rfl rfl ?_
      refine qx_aload_n d_Li_removeAt_5 rfl rfl ?_
      refine qx_getI d_Li_removeAt_6 fI_Li_19 rfl rfl (show _ = nI n from rfl) ?_
      refine qx_icmp_geN (t := 60) d_Li_removeAt_9 rfl (by omega) (by omega) (fun c9 => absurd c9 (by omega)) (fun c9 => ?_)
      refine qx_aload_n d_Li_removeAt_12 rfl rfl ?_
      refine qx_getR d_Li_removeAt_13 fR_Li_7 rfl rfl (congrFun hL 0) ?_
      refine qx_iload_n d_Li_removeAt_16 rfl rfl ?_
      refine qx_iconstN (v := 1) d_Li_removeAt_17 rfl ?_
      refine qx_isubN d_Li_removeAt_18 (by omega) ?_
      refine qx_aload_n d_Li_removeAt_19 rfl rfl ?_
      refine qx_getR d_Li_removeAt_20 fR_Li_7 rfl rfl (congrFun hL 0) ?_
      refine qx_iload_n d_Li_removeAt_23 rfl rfl ?_
      refine qx_iald (j := (i + 1)) d_Li_removeAt_24 rfl rfl rfl rfl (by omega) (show _ = nI (sCut mk k i (i + 1)) from rfl) ?_
      refine qx_iast (j := i) d_Li_removeAt_25 rfl rfl rfl rfl (by omega) ?_
      refine qx_aload_n d_Li_removeAt_26 rfl rfl ?_
      refine qx_getR d_Li_removeAt_27 fR_Li_13 rfl rfl (congrFun hL 1) ?_
      refine qx_iload_n d_Li_removeAt_30 rfl rfl ?_
      refine qx_iconstN (v := 1) d_Li_removeAt_31 rfl ?_
      refine qx_isubN d_Li_removeAt_32 (by omega) ?_
      refine qx_aload_n d_Li_removeAt_33 rfl rfl ?_
      refine qx_getR d_Li_removeAt_34 fR_Li_13 rfl rfl (congrFun hL 1) ?_
      refine qx_iload_n d_Li_removeAt_37 rfl rfl ?_
      refine qx_iald (j := (i + 1)) d_Li_removeAt_38 rfl rfl rfl rfl (by omega) (show _ = nI (sCut mt k i (i + 1)) from rfl) ?_
      refine qx_iast (j := i) d_Li_removeAt_39 rfl rfl rfl rfl (by omega) ?_
      refine qx_aload_n d_Li_removeAt_40 rfl rfl ?_
      refine qx_getR d_Li_removeAt_41 fR_Li_16 rfl rfl (congrFun hL 2) ?_
      refine qx_iload_n d_Li_removeAt_44 rfl rfl ?_
      refine qx_iconstN (v := 1) d_Li_removeAt_45 rfl ?_
      refine qx_isubN d_Li_removeAt_46 (by omega) ?_
      refine qx_aload_n d_Li_removeAt_47 rfl rfl ?_
      refine qx_getR d_Li_removeAt_48 fR_Li_16 rfl rfl (congrFun hL 2) ?_
      refine qx_iload_n d_Li_removeAt_51 rfl rfl ?_
      refine qx_iald (j := (i + 1)) d_Li_removeAt_52 rfl rfl rfl rfl (by omega) (show _ = nI (sCut ma k i (i + 1)) from rfl) ?_
      refine qx_iast (j := i) d_Li_removeAt_53 rfl rfl rfl rfl (by omega) ?_
      refine qx_iincN (w := 1) (lv1 := [_, _, _]) d_Li_removeAt_54 rfl rfl (by decide) rfl ?_
      refine qx_goto (t := 4) d_Li_removeAt_57 rfl ?_
      refine qx_eq rfl rfl rfl ?_ (ih (i + 1) (by omega) (by omega))
      rw [wR_k, wR_t, wR_a, sCut_S hki, sCut_S hki, sCut_S hki]
  refine qx_iload_n d_Li_removeAt_0 rfl rfl ?_
  refine qx_iconstN (v := 1) d_Li_removeAt_1 rfl ?_
  refine qx_iaddN d_Li_removeAt_2 ?_
  refine qx_istore_n (lv1 := [_, _, _]) d_Li_removeAt_3 rfl (by decide) rfl ?_
  refine qx_eq rfl rfl rfl ?_ (key (n - 1 - k) k (by omega) (Nat.le_refl _))
  rw [sCut_0, sCut_0, sCut_0]
