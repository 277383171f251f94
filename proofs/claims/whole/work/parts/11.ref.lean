/-! the reference's references: its row never changes behind its constructor -/
def qRQM (f : Nat) : Option Nat := (([some 123, some 124, some 125, none, none, none, none, none, none, none, none, none, none, none, none, none, some 126, some 127, some 128, some 129, some 130, some 131, some 132, some 133, some 134, none, some 135, some 136, none, none, some 137, some 138, some 139, none, none, none, none, none, none, none, none, some 140, some 141, some 142, some 143, some 144, some 145, none, none, none, some 146, some 147, some 148, some 149, some 150, some 151] : List (Option Nat))[f]?).getD none
set_option maxRecDepth 100000 in
set_option maxHeartbeats 4000000 in
theorem ct_QM_open {h : qH} (bg on : Bool) (hbeg : h.1 122 3 = b2i bg) (hon : h.1 122 37 = b2i on) : qT mi_QM_open 0 0 0 [.ref 122] h NN (fun v1 h1 n1 => v1 = some (.int (b2i (bg && !on))) ∧ h = h1 ∧ n1 = NN) := by
  refine qT.of (lv0 := [_]) (by decide +kernel) (fun _ _ => Nat.le_of_ble_eq_true rfl) rfl ?_
  refine qx_aload_n d_QM_open_0 rfl rfl ?_
  refine qx_getI d_QM_open_1 fI_QM_107 rfl rfl hbeg ?_
  refine qx_if_eqB (t := 18) d_QM_open_4 rfl (fun c4 => ?_) (fun c4 => ?_)
  · refine qx_iconstN (v := 0) d_QM_open_18 rfl ?_
    exact qx_iret d_QM_open_19 rfl rfl (by omega) (by omega) ⟨by first | (rw [c4, c11]; rfl) | (rw [c4]; rfl), rfl, rfl⟩
  · refine qx_aload_n d_QM_open_7 rfl rfl ?_
    refine qx_getI d_QM_open_8 fI_QM_99 rfl rfl hon ?_
    refine qx_if_neB (t := 18) d_QM_open_11 rfl (fun c11 => ?_) (fun c11 => ?_)
    · refine qx_iconstN (v := 0) d_QM_open_18 rfl ?_
      exact qx_iret d_QM_open_19 rfl rfl (by omega) (by omega) ⟨by first | (rw [c4, c11]; rfl) | (rw [c4]; rfl), rfl, rfl⟩
    · refine qx_iconstN (v := 1) d_QM_open_14 rfl ?_
      refine qx_goto (t := 19) d_QM_open_15 rfl ?_
      exact qx_iret d_QM_open_19 rfl rfl (by omega) (by omega) ⟨by first | (rw [c4, c11]; rfl) | (rw [c4]; rfl), rfl, rfl⟩
set_option maxRecDepth 100000 in
set_option maxHeartbeats 4000000 in
theorem ct_QM_isColumn {h : qH} (c : Int32) (kd : Nat) (hk3 : kd < 3) (hkd : h.1 122 4 = nI kd) : qT mi_QM_isColumn 1 0 0 [.ref 122, .int c] h NN (fun v1 h1 n1 => v1 = some (.int (b2i (decide (nI 0 ≤ c ∧ c ≤ nI (if kd = 0 then 1 else 3))))) ∧ h = h1 ∧ n1 = NN) := by
  refine qT.of (lv0 := [_, _]) (by decide +kernel) (fun _ _ => Nat.le_of_ble_eq_true rfl) rfl ?_
  refine qx_iload_n d_QM_isColumn_0 rfl rfl ?_
  refine qx_iconstN (v := 0) d_QM_isColumn_1 rfl ?_
  refine qx_aload_n d_QM_isColumn_2 rfl rfl ?_
  refine qx_getI d_QM_isColumn_3 fI_QM_110 rfl rfl hkd ?_
  refine qx_if_neN (t := 13) d_QM_isColumn_6 rfl (by omega) (fun c6 => ?_) (fun c6 => ?_)
  · refine qx_iconstN (v := 3) d_QM_isColumn_13 rfl ?_
    refine qx_callS (As := [_, _, _]) (rest := _) d_QM_isColumn_14 lk_QM_103 y_QM_within s_QM_within rfl rfl rfl rfl (by decide) (by decide) (ct_QM_within _ _ _) ?_
    rintro _ _ _ ⟨rfl, rfl, rfl⟩
    exact qx_iret d_QM_isColumn_17 rfl (b2i_nar _) (by omega) (by omega) ⟨by first | rw [if_pos c6] | rw [if_neg (by omega)], rfl, rfl⟩
  · refine qx_iconstN (v := 1) d_QM_isColumn_9 rfl ?_
    refine qx_goto (t := 14) d_QM_isColumn_10 rfl ?_
    refine qx_callS (As := [_, _, _]) (rest := _) d_QM_isColumn_14 lk_QM_103 y_QM_within s_QM_within rfl rfl rfl rfl (by decide) (by decide) (ct_QM_within _ _ _) ?_
    rintro _ _ _ ⟨rfl, rfl, rfl⟩
    exact qx_iret d_QM_isColumn_17 rfl (b2i_nar _) (by omega) (by omega) ⟨by first | rw [if_pos c6] | rw [if_neg (by omega)], rfl, rfl⟩
set_option maxRecDepth 100000 in
set_option maxHeartbeats 4000000 in
theorem ct_QM_push {h : qH} (w : Int32) (x : Int64) (dep : Nat) (h8 : dep < 8) (hR : h.2.2 122 = qRQM) (hdep : h.1 122 13 = nI dep) : qT mi_QM_push 0 0 0 [.ref 122, .int w, .long x] h NN (fun v1 h1 n1 => v1 = none ∧ h1 = qpI (qpI (qpI (qpL (qpI h 126 (24 * dep) w) 127 (24 * dep) x) 128 dep (nI 1)) 129 dep (nI 0)) 122 13 (nI (dep + 1)) ∧ n1 = NN) := by
  refine qT.of (lv0 := [_, _, _, _]) (by decide +kernel) (fun _ _ => Nat.le_of_ble_eq_true rfl) rfl ?_
  refine qx_aload_n d_QM_push_0 rfl rfl ?_
  refine qx_getR d_QM_push_1 fR_QM_21 rfl rfl (congrFun hR 16) ?_
  refine qx_bipushN (v := 24) d_QM_push_4 rfl ?_
  refine qx_aload_n d_QM_push_6 rfl rfl ?_
  refine qx_getI d_QM_push_7 fI_QM_138 rfl rfl hdep ?_
  refine qx_imulN d_QM_push_10 ?_
  refine qx_iload_n d_QM_push_11 rfl rfl ?_
  refine qx_iast d_QM_push_12 rfl rfl rfl rfl (by omega) ?_
  refine qx_aload_n d_QM_push_13 rfl rfl ?_
  refine qx_getR d_QM_push_14 fR_QM_24 rfl rfl (congrFun hR 17) ?_
  refine qx_bipushN (v := 24) d_QM_push_17 rfl ?_
  refine qx_aload_n d_QM_push_19 rfl rfl ?_
  refine qx_getI d_QM_push_20 fI_QM_138 rfl rfl hdep ?_
  refine qx_imulN d_QM_push_23 ?_
  refine qx_lload_n d_QM_push_24 rfl rfl ?_
  refine qx_last d_QM_push_25 rfl rfl rfl rfl (by omega) ?_
  refine qx_aload_n d_QM_push_26 rfl rfl ?_
  refine qx_getR d_QM_push_27 fR_QM_27 rfl rfl (congrFun hR 18) ?_
  refine qx_aload_n d_QM_push_30 rfl rfl ?_
  refine qx_getI d_QM_push_31 fI_QM_138 rfl rfl hdep ?_
  refine qx_iconstN (v := 1) d_QM_push_34 rfl ?_
  refine qx_iast d_QM_push_35 rfl rfl rfl rfl (by omega) ?_
  refine qx_aload_n d_QM_push_36 rfl rfl ?_
  refine qx_getR d_QM_push_37 fR_QM_30 rfl rfl (congrFun hR 19) ?_
  refine qx_aload_n d_QM_push_40 rfl rfl ?_
  refine qx_getI d_QM_push_41 fI_QM_138 rfl rfl hdep ?_
  refine qx_iconstN (v := 0) d_QM_push_44 rfl ?_
  refine qx_zast d_QM_push_45 rfl rfl rfl rfl (by omega) rfl ?_
  refine qx_aload_n d_QM_push_46 rfl rfl ?_
  refine qx_dup d_QM_push_47 rfl ?_
  refine qx_getI d_QM_push_48 fI_QM_138 rfl rfl hdep ?_
  refine qx_iconstN (v := 1) d_QM_push_51 rfl ?_
  refine qx_iaddN d_QM_push_52 ?_
  refine qx_putI d_QM_push_53 fI_QM_138 rfl rfl ⟨rfl, rfl⟩ ?_
  exact qx_ret d_QM_push_56 rfl (by omega) (by omega) ⟨rfl, rfl, rfl⟩
