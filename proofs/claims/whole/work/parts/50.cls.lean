set_option maxRecDepth 100000 in
set_option maxHeartbeats 4000000 in
theorem ct_Pl_partOf {h : qH} (v : Int64) (b : Bool) (wc : Nat) (h1w : 1 ≤ wc) (hw4 : wc ≤ 4) : qT mi_Pl_partOf 1 0 0 [.long v, .int (b2i b), .int (nI wc)] h NN (fun v1 h1 n1 => v1 = some (.int (nI (pOf wc (if b = true then none else some v)))) ∧ h = h1 ∧ n1 = NN) := by
  refine qT.of (lv0 := [_, _, _, _]) (by decide +kernel) (fun _ _ => Nat.le_of_ble_eq_true rfl) rfl ?_
  refine qx_iload_n d_Pl_partOf_0 rfl rfl ?_
  refine qx_if_neB (t := 9) d_Pl_partOf_1 rfl (fun c1 => ?_) (fun c1 => ?_)
  · refine qx_iconstN (v := 0) d_Pl_partOf_9 rfl ?_
    exact qx_iret d_Pl_partOf_10 rfl rfl (by omega) (by omega) ⟨by rw [c1]; rfl, rfl, rfl⟩
  · refine qx_iload_n d_Pl_partOf_4 rfl rfl ?_
    refine qx_iconstN (v := 1) d_Pl_partOf_5 rfl ?_
    refine qx_icmp_geN (t := 11) d_Pl_partOf_6 rfl (by omega) (by omega) (fun c6 => ?_) (fun c6 => absurd c6 (by omega))
    refine qx_lload_n d_Pl_partOf_11 rfl rfl ?_
    refine qx_iload_n d_Pl_partOf_12 rfl rfl ?_
    refine qx_i2lN d_Pl_partOf_13 (by omega) ?_
    refine qx_callS (As := [_, _]) (rest := _) d_Pl_partOf_14 lk_Pl_217 y_JM_floorModJ s_JM_floorModJ rfl rfl rfl rfl (by decide) (by decide) (ct_JM_floorModJ v (lN wc) (fun e => absurd (congrArg Int64.toInt e) (by rw [lN_toInt (by omega)]; show ¬ ((wc : Int) = 0); omega))) ?_
    rintro _ _ _ ⟨rfl, rfl, rfl⟩
    refine qx_l2i d_Pl_partOf_17 ?_
    refine qx_eq (st1 := [.int (nI (pOf wc (some v)))]) rfl rfl (by rw [fmJ_p h1w hw4]; rfl) rfl ?_
    exact qx_iret d_Pl_partOf_18 rfl rfl (by omega) (by omega) ⟨by rw [c1]; rfl, rfl, rfl⟩
theorem nn_toInt {a : Nat} (h : a < 2 ^ 31) : (nI a).toInt = a := by
  unfold nI
  first
    | exact Int32.toInt_ofNat_of_lt h
    | (rw [Int32.toInt_ofNat']; omega)
set_option maxRecDepth 100000 in
set_option maxHeartbeats 4000000 in
theorem ct_JM_floorModI {h : qH} {n : Nat} (a w : Nat) (ha : a < 2 ^ 31) (h1 : 1 ≤ w) (hw : w < 2 ^ 31) (hx : ¬ (nI a ^^^ nI w) < 0) : qT mi_JM_floorModI 0 0 0 [.int (nI a), .int (nI w)] h n (fun v1 h1 n1 => v1 = some (.int (nI (a % w))) ∧ h = h1 ∧ n1 = n) := by
  refine qT.of (lv0 := [_, _, _]) (by decide +kernel) (fun _ _ => Nat.le_of_ble_eq_true rfl) rfl ?_
  refine qx_iload_n d_JM_floorModI_0 rfl rfl ?_
  refine qx_iload_n d_JM_floorModI_1 rfl rfl ?_
  refine qx_iremN d_JM_floorModI_2 ha h1 hw ?_
  refine qx_istore_n (lv1 := [_, _, _]) d_JM_floorModI_3 rfl (by decide) rfl ?_
  refine qx_iload_n d_JM_floorModI_4 rfl rfl ?_
  refine qx_iload_n d_JM_floorModI_5 rfl rfl ?_
  refine qx_ixor d_JM_floorModI_6 ?_
  refine qx_if_ge (t := 18) d_JM_floorModI_7 rfl (fun c7 => ?_) (fun c7 => absurd c7 (by first | exact hx | exact fun e => hx e | exact fun e => e (Int32.not_lt.mp hx)))
  refine qx_iload_n d_JM_floorModI_18 rfl rfl ?_
  exact qx_iret d_JM_floorModI_19 rfl rfl (by omega) (by omega) ⟨rfl, rfl, rfl⟩
