theorem xr_J {v w : Int64} (hw : 0 ≤ w.toInt) : (v ^^^ w).toInt < 0 ↔ v.toInt < 0 := by
  have e1 : (v ^^^ w).toBitVec.msb = decide ((v ^^^ w).toInt < 0) := BitVec.msb_eq_toInt
  have e2 : v.toBitVec.msb = decide (v.toInt < 0) := BitVec.msb_eq_toInt
  have e3 : w.toBitVec.msb = decide (w.toInt < 0) := BitVec.msb_eq_toInt
  rw [decide_eq_false (by omega)] at e3
  rw [Int64.toBitVec_xor, BitVec.msb_xor, e2, e3, Bool.xor_false] at e1
  exact ⟨fun h => of_decide_eq_true (e1.trans (decide_eq_true h)), fun h => of_decide_eq_true (e1.symm.trans (decide_eq_true h))⟩
theorem xr_I {v w : Int32} (hw : 0 ≤ w.toInt) : (v ^^^ w).toInt < 0 ↔ v.toInt < 0 := by
  have e1 : (v ^^^ w).toBitVec.msb = decide ((v ^^^ w).toInt < 0) := BitVec.msb_eq_toInt
  have e2 : v.toBitVec.msb = decide (v.toInt < 0) := BitVec.msb_eq_toInt
  have e3 : w.toBitVec.msb = decide (w.toInt < 0) := BitVec.msb_eq_toInt
  rw [decide_eq_false (by omega)] at e3
  rw [Int32.toBitVec_xor, BitVec.msb_xor, e2, e3, Bool.xor_false] at e1
  exact ⟨fun h => of_decide_eq_true (e1.trans (decide_eq_true h)), fun h => of_decide_eq_true (e1.symm.trans (decide_eq_true h))⟩
theorem rem_lo {v : Int64} {k : Nat} (h1 : 1 ≤ k) (h4 : k ≤ 4) (hv : 0 ≤ v.toInt) : 0 ≤ (v - v / lN k * lN k) := by
  refine Int64.le_iff_toInt_le.mpr ?_
  rw [pn_rem (lN_toInt (by omega)) h1 h4]
  exact Int.tmod_nonneg _ hv
theorem rem_hi {v : Int64} {k : Nat} (h1 : 1 ≤ k) (h4 : k ≤ 4) (hv : v.toInt < 0) (h0 : ¬ (v - v / lN k * lN k) = 0) : (v - v / lN k * lN k) < 0 := by
  refine Int64.lt_iff_toInt_lt.mpr ?_
  have hne : (v - v / lN k * lN k).toInt ≠ 0 := fun e => h0 (Int64.toInt_inj.mp (by rw [e]; rfl))
  rw [pn_rem (lN_toInt (by omega)) h1 h4] at hne ⊢
  obtain ⟨y, hy⟩ : ∃ y, v.toInt = -y := ⟨-v.toInt, by omega⟩
  rw [hy, Int.neg_tmod] at hne ⊢
  have := Int.tmod_nonneg (k : Int) (show 0 ≤ y by omega)
  show _ < (0 : Int)
  omega
set_option maxRecDepth 100000 in
set_option maxHeartbeats 4000000 in
theorem ct_Re_value {h : qH} (hR : h.2.2 79 = qRRe) (i c p : Nat) (hi : i < 144) (hc : c < 4) (hp : p < 144) (hpl : h.1 82 i = nI p) (v : Int64) (hv : h.2.1 80 (p * 4 + c) = v) : qT mi_Re_value 0 0 0 [.ref 79, .int (nI i), .int (nI c)] h NN (fun v1 h1 n1 => v1 = some (.long v) ∧ h = h1 ∧ n1 = NN) := by
  refine qT.of (lv0 := [_, _, _]) (by decide +kernel) (fun _ _ => Nat.le_of_ble_eq_true rfl) rfl ?_
  refine qx_aload_n d_Re_value_0 rfl rfl ?_
  refine qx_getR d_Re_value_1 fR_Re_9 rfl rfl (congrFun hR 0) ?_
  refine qx_aload_n d_Re_value_4 rfl rfl ?_
  refine qx_getR d_Re_value_5 fR_Re_19 rfl rfl (congrFun hR 2) ?_
  refine qx_iload_n d_Re_value_8 rfl rfl ?_
  refine qx_iald d_Re_value_9 rfl rfl rfl rfl (by omega) hpl ?_
  refine qx_iconstN (v := 4) d_Re_value_10 rfl ?_
  refine qx_imulN d_Re_value_11 ?_
  refine qx_iload_n d_Re_value_12 rfl rfl ?_
  refine qx_iaddN d_Re_value_13 ?_
  refine qx_lald d_Re_value_14 rfl rfl rfl rfl (by omega) hv ?_
  exact qx_lret d_Re_value_15 rfl (by omega) (by omega) ⟨rfl, rfl, rfl⟩
set_option maxRecDepth 100000 in
set_option maxHeartbeats 4000000 in
theorem ct_Re_isNull {h : qH} (hR : h.2.2 79 = qRRe) (i c p : Nat) (hi : i < 144) (hc : c < 4) (hp : p < 144) (hpl : h.1 82 i = nI p) (b : Bool) (hv : h.1 81 (p * 4 + c) = b2i b) : qT mi_Re_isNull 0 0 0 [.ref 79, .int (nI i), .int (nI c)] h NN (fun v1 h1 n1 => v1 = some (.int (b2i b)) ∧ h = h1 ∧ n1 = NN) := by
  refine qT.of (lv0 := [_, _, _]) (by decide +kernel) (fun _ _ => Nat.le_of_ble_eq_true rfl) rfl ?_
  refine qx_aload_n d_Re_isNull_0 rfl rfl ?_
  refine qx_getR d_Re_isNull_1 fR_Re_15 rfl rfl (congrFun hR 1) ?_
  refine qx_aload_n d_Re_isNull_4 rfl rfl ?_
  refine qx_getR d_Re_isNull_5 fR_Re_19 rfl rfl (congrFun hR 2) ?_
  refine qx_iload_n d_Re_isNull_8 rfl rfl ?_
  refine qx_iald d_Re_isNull_9 rfl rfl rfl rfl (by omega) hpl ?_
  refine qx_iconstN (v := 4) d_Re_isNull_10 rfl ?_
  refine qx_imulN d_Re_isNull_11 ?_
  refine qx_iload_n d_Re_isNull_12 rfl rfl ?_
  refine qx_iaddN d_Re_isNull_13 ?_
  refine qx_zald d_Re_isNull_14 rfl rfl rfl rfl (by omega) hv ?_
  exact qx_iret d_Re_isNull_15 rfl (b2i_nar _) (by omega) (by omega) ⟨rfl, rfl, rfl⟩
theorem qpI2 {h : qH} {a f : Nat} {x y : Int32} : qpI (qpI h a f x) a f y = qpI h a f y := by
  unfold qpI
  dsimp only
  rw [qus, qv_up, qv_up]
set_option maxRecDepth 100000 in
set_option maxHeartbeats 4000000 in
theorem ct_Re_countPasses {h : qH} (rs : Nat) (hr1 : rs ≤ 144) (hrs : h.1 79 3 = nI rs) (mm : Nat) (h3 : 3 ≤ mm) (hm8 : mm ≤ 8) : qT mi_Re_countPasses 0 0 0 [.ref 79, .int (nI mm)] h NN (fun v1 h1 n1 => v1 = none ∧ h1 = qpI h 79 6 (nI (psA mm rs)) ∧ n1 = NN) := by
  refine qT.of (lv0 := [_, _, _]) (by decide +kernel) (fun _ _ => Nat.le_of_ble_eq_true rfl) rfl ?_
  have key : ∀ (f x k : Nat), x ≤ f → x ≤ 200 → x + k ≤ rs + 1 → psA mm rs = k + psl mm f x → qX mi_Re_countPasses 0 none 0 0 34 [.ref 79, .int (nI mm), .int (nI x)] [] (qpI h 79 6 (nI k)) NN 0 0 (fun v1 h1 n1 => v1 = none ∧ h1 = qpI h 79 6 (nI (psA mm rs)) ∧ n1 = NN) := by
    intro f
    induction f with
    | zero =>
      intro x k hx h2 hxk he
      refine qx_iload_n d_Re_countPasses_34 rfl rfl ?_
      refine qx_iconstN (v := 1) d_Re_countPasses_35 rfl ?_
      refine qx_icmp_leN (t := 73) d_Re_countPasses_36 rfl (by omega) (by omega) (fun c36 => ?_) (fun c36 => absurd c36 (by omega))
      exact qx_ret d_Re_countPasses_73 rfl (by omega) (by omega) ⟨rfl, by rw [he]; rfl, rfl⟩
    | succ f ih =>
      intro x k hx h2 hxk he
      have hs : psl mm (f + 1) x = if x ≤ 1 then 0 else psl mm f ((x + mm - 2) / (mm - 1)) + 1 := rfl
      refine qx_iload_n d_Re_countPasses_34 rfl rfl ?_
      refine qx_iconstN (v := 1) d_Re_countPasses_35 rfl ?_
      refine qx_icmp_leN (t := 73) d_Re_countPasses_36 rfl (by omega) (by omega) (fun c36 => ?_) (fun c36 => ?_)
      · exact qx_ret d_Re_countPasses_73 rfl (by omega) (by omega) ⟨rfl, by rw [he, hs, if_pos c36]; rfl, rfl⟩
      · refine qx_aload_n d_Re_countPasses_39 rfl rfl ?_
        refine qx_getI d_Re_countPasses_40 fI_Re_64 rfl rfl (show _ = nI k from rfl) ?_
        refine qx_aload_n d_Re_countPasses_43 rfl rfl ?_
        refine qx_getI d_Re_countPasses_44 fI_Re_32 rfl rfl hrs ?_
        refine qx_icmp_geN (t := 73) d_Re_countPasses_47 rfl (by omega) (by omega) (fun c47 => absurd c47 (by omega)) (fun c47 => ?_)
        refine qx_iload_n d_Re_countPasses_50 rfl rfl ?_
        refine qx_iload_n d_Re_countPasses_51 rfl rfl ?_
        refine qx_iaddN d_Re_countPasses_52 ?_
        refine qx_iconstN (v := 2) d_Re_countPasses_53 rfl ?_
        refine qx_isubN d_Re_countPasses_54 (by omega) ?_
        refine qx_iload_n d_Re_countPasses_55 rfl rfl ?_
        refine qx_iconstN (v := 1) d_Re_countPasses_56 rfl ?_
        refine qx_isubN d_Re_countPasses_57 (by omega) ?_
        refine qx_idivN d_Re_countPasses_58 (by omega) (by omega) (by omega) ?_
        refine qx_istore_n (lv1 := [_, _, _]) d_Re_countPasses_59 rfl (by decide) rfl ?_
        refine qx_aload_n d_Re_countPasses_60 rfl rfl ?_
        refine qx_dup d_Re_countPasses_61 rfl ?_
        refine qx_getI d_Re_countPasses_62 fI_Re_64 rfl rfl (show _ = nI k from rfl) ?_
        refine qx_iconstN (v := 1) d_Re_countPasses_65 rfl ?_
        refine qx_iaddN d_Re_countPasses_66 ?_
        refine qx_putI d_Re_countPasses_67 fI_Re_64 rfl rfl ⟨rfl, rfl⟩ ?_
        refine qx_goto (t := 34) d_Re_countPasses_70 rfl ?_
        have hl := psl_lt h3 (show 1 < x by omega)
        refine qx_eq rfl rfl rfl ?_ (ih _ (k + 1) (by omega) (by omega) (by omega) (by rw [he, hs, if_neg (by omega)]; omega))
        exact qpI2.symm
  refine qx_aload_n d_Re_countPasses_0 rfl rfl ?_
  refine qx_iconstN (v := 0) d_Re_countPasses_1 rfl ?_
  refine qx_putI d_Re_countPasses_2 fI_Re_64 rfl rfl ⟨rfl, rfl⟩ ?_
  refine qx_aload_n d_Re_countPasses_5 rfl rfl ?_
  refine qx_getI d_Re_countPasses_6 fI_Re_32 rfl rfl hrs ?_
  refine qx_if_eqN (t := 17) d_Re_countPasses_9 rfl (by omega) (fun c9 => ?_) (fun c9 => ?_)
  · exact qx_ret d_Re_countPasses_17 rfl (by omega) (by omega) ⟨rfl, by rw [show psA mm rs = 0 by unfold psA; rw [if_pos (by omega)]], rfl⟩
  · refine qx_iload_n d_Re_countPasses_12 rfl rfl ?_
    refine qx_iconstN (v := 3) d_Re_countPasses_13 rfl ?_
    refine qx_icmp_geN (t := 18) d_Re_countPasses_14 rfl (by omega) (by omega) (fun c14 => ?_) (fun c14 => absurd c14 (by omega))
    refine qx_aload_n d_Re_countPasses_18 rfl rfl ?_
    refine qx_getI d_Re_countPasses_19 fI_Re_32 rfl rfl hrs ?_
    refine qx_iload_n d_Re_countPasses_22 rfl rfl ?_
    refine qx_iaddN d_Re_countPasses_23 ?_
    refine qx_iconstN (v := 1) d_Re_countPasses_24 rfl ?_
    refine qx_isubN d_Re_countPasses_25 (by omega) ?_
    refine qx_iload_n d_Re_countPasses_26 rfl rfl ?_
    refine qx_idivN d_Re_countPasses_27 (by omega) (by omega) (by omega) ?_
    refine qx_istore_n (lv1 := [_, _, _]) d_Re_countPasses_28 rfl (by decide) rfl ?_
    refine qx_aload_n d_Re_countPasses_29 rfl rfl ?_
    refine qx_iconstN (v := 1) d_Re_countPasses_30 rfl ?_
    refine qx_putI d_Re_countPasses_31 fI_Re_64 rfl rfl ⟨rfl, rfl⟩ ?_
    have hd : (rs + mm - 1) / mm ≤ rs := by
      rw [Nat.div_le_iff_le_mul_add_pred (by omega)]
      have : rs * 1 ≤ mm * rs := by rw [Nat.mul_comm mm]; exact Nat.mul_le_mul_left _ (by omega)
      omega
    refine qx_eq rfl rfl rfl ?_ (key 200 _ 1 (by omega) (by omega) (by omega) (by unfold psA; rw [if_neg (by omega)]))
    exact qpI2.symm
