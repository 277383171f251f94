/-! constructors: what is behind n is empty -/
def zr (h : qH) (a : Nat) : Prop := ∀ c, a ≤ c → ∀ j, h.1 c j = 0 ∧ h.2.1 c j = 0 ∧ h.2.2 c j = none
theorem zr_R {h : qH} {a b i : Nat} {v : Option Nat} (hb : b < a) (hz : zr h a) : zr (qpR h b i v) a := fun c hc j => by
  rw [(qpR_o h b i v c (by omega)).1, (qpR_o h b i v c (by omega)).2.1, (qpR_o h b i v c (by omega)).2.2]
  exact hz c hc j
theorem zr_I {h : qH} {a b i : Nat} {v : Int32} (hb : b < a) (hz : zr h a) : zr (qpI h b i v) a := fun c hc j => by
  rw [(qpI_o h b i v c (by omega)).1, (qpI_o h b i v c (by omega)).2.1, (qpI_o h b i v c (by omega)).2.2]
  exact hz c hc j
theorem zr_m {h : qH} {a b : Nat} (hb : a ≤ b) (hz : zr h a) : zr h b := fun c hc => hz c (by omega)
set_option maxRecDepth 100000 in
set_option maxHeartbeats 4000000 in
theorem ct_Ex_init {h : qH} (e : Nat) (he : exOk e) (hz : zr h (e + 1)) : qT mi_Ex_init 1 2 48 [.ref e] h (e + 1) (fun v1 h1 n1 => v1 = none ∧ h1 = (qpR (qpR h e 0 (some (e + 1))) e 1 (some (e + 2))) ∧ n1 = e + 3) := by
  refine qT.of (lv0 := [_]) (by decide +kernel) (fun _ _ => Nat.le_of_ble_eq_true rfl) rfl ?_
  have hx := ex_pl he
  refine qx_aload_n d_Ex_init_0 rfl rfl ?_
  refine qx_objInit d_Ex_init_1 oi_Ex_3 rfl (by decide) ?_
  refine qx_aload_n d_Ex_init_4 rfl rfl ?_
  refine qx_bipushN (v := 24) d_Ex_init_5 rfl ?_
  refine qx_newI d_Ex_init_7 aw_int hx.2.1 rfl rfl (fun j => (hz (e + 1) (by omega) j).1) (by decide) (by decide) ?_
  refine qx_putRF d_Ex_init_9 fF_Ex_9 rfl hx.1 (Nat.blt_eq.mpr (by omega)) ?_
  refine qx_aload_n d_Ex_init_12 rfl rfl ?_
  refine qx_bipushN (v := 24) d_Ex_init_13 rfl ?_
  refine qx_newI d_Ex_init_15 aw_int hx.2.2.1 rfl rfl (fun j => (hz (e + 2) (by omega) j).1) (by decide) (by decide) ?_
  refine qx_putRF d_Ex_init_17 fF_Ex_15 rfl hx.1 (Nat.blt_eq.mpr (by omega)) ?_
  exact qx_ret d_Ex_init_20 rfl (by omega) (by omega) ⟨rfl, rfl, rfl⟩
set_option maxRecDepth 100000 in
set_option maxHeartbeats 4000000 in
theorem ct_Ma_init {h : qH} (hz : zr h 60) : qT mi_Ma_init 1 4 24 [.ref 59] h 60 (fun v1 h1 n1 => v1 = none ∧ h1 = (qpR (qpR (qpR (qpR h 59 0 (some 60)) 59 1 (some 61)) 59 2 (some 62)) 59 3 (some 63)) ∧ n1 = 64) := by
  refine qT.of (lv0 := [_]) (by decide +kernel) (fun _ _ => Nat.le_of_ble_eq_true rfl) rfl ?_
  refine qx_aload_n d_Ma_init_0 rfl rfl ?_
  refine qx_objInit d_Ma_init_1 oi_Ma_3 rfl (by decide) ?_
  refine qx_aload_n d_Ma_init_4 rfl rfl ?_
  refine qx_iconstN (v := 4) d_Ma_init_5 rfl ?_
  refine qx_newL d_Ma_init_6 aw_long rfl rfl rfl (fun j => (hz 60 (by omega) j).2.1) (by decide) (by decide) ?_
  refine qx_putRF d_Ma_init_8 fF_Ma_9 rfl rfl rfl ?_
  refine qx_aload_n d_Ma_init_11 rfl rfl ?_
  refine qx_iconstN (v := 4) d_Ma_init_12 rfl ?_
  refine qx_newZ d_Ma_init_13 aw_boolean rfl rfl rfl (fun j => (hz 61 (by omega) j).1) (by decide) (by decide) ?_
  refine qx_putRF d_Ma_init_15 fF_Ma_15 rfl rfl rfl ?_
  refine qx_aload_n d_Ma_init_18 rfl rfl ?_
  refine qx_bipushN (v := 8) d_Ma_init_19 rfl ?_
  refine qx_newL d_Ma_init_21 aw_long rfl rfl rfl (fun j => (hz 62 (by omega) j).2.1) (by decide) (by decide) ?_
  refine qx_putRF d_Ma_init_23 fF_Ma_19 rfl rfl rfl ?_
  refine qx_aload_n d_Ma_init_26 rfl rfl ?_
  refine qx_bipushN (v := 8) d_Ma_init_27 rfl ?_
  refine qx_newZ d_Ma_init_29 aw_boolean rfl rfl rfl (fun j => (hz 63 (by omega) j).1) (by decide) (by decide) ?_
  refine qx_putRF d_Ma_init_31 fF_Ma_22 rfl rfl rfl ?_
  exact qx_ret d_Ma_init_34 rfl (by omega) (by omega) ⟨rfl, rfl, rfl⟩
set_option maxRecDepth 100000 in
set_option maxHeartbeats 4000000 in
theorem ct_Tb_init_0 {h : qH} (hz : zr h 71) : qT mi_Tb_init 1 2 48 [.ref 70] h 71 (fun v1 h1 n1 => v1 = none ∧ h1 = (qpR (qpR h 70 0 (some 71)) 70 1 (some 72)) ∧ n1 = 73) := by
  refine qT.of (lv0 := [_]) (by decide +kernel) (fun _ _ => Nat.le_of_ble_eq_true rfl) rfl ?_
  refine qx_aload_n d_Tb_init_0 rfl rfl ?_
  refine qx_objInit d_Tb_init_1 oi_Tb_3 rfl (by decide) ?_
  refine qx_aload_n d_Tb_init_4 rfl rfl ?_
  refine qx_bipushN (v := 24) d_Tb_init_5 rfl ?_
  refine qx_newI d_Tb_init_7 aw_int rfl rfl rfl (fun j => (hz 71 (by omega) j).1) (by decide) (by decide) ?_
  refine qx_putRF d_Tb_init_9 fF_Tb_9 rfl rfl rfl ?_
  refine qx_aload_n d_Tb_init_12 rfl rfl ?_
  refine qx_bipushN (v := 24) d_Tb_init_13 rfl ?_
  refine qx_newZ d_Tb_init_15 aw_boolean rfl rfl rfl (fun j => (hz 72 (by omega) j).1) (by decide) (by decide) ?_
  refine qx_putRF d_Tb_init_17 fF_Tb_15 rfl rfl rfl ?_
  exact qx_ret d_Tb_init_20 rfl (by omega) (by omega) ⟨rfl, rfl, rfl⟩
set_option maxRecDepth 100000 in
set_option maxHeartbeats 4000000 in
theorem ct_Tb_init_1 {h : qH} (hz : zr h 74) : qT mi_Tb_init 1 2 48 [.ref 73] h 74 (fun v1 h1 n1 => v1 = none ∧ h1 = (qpR (qpR h 73 0 (some 74)) 73 1 (some 75)) ∧ n1 = 76) := by
  refine qT.of (lv0 := [_]) (by decide +kernel) (fun _ _ => Nat.le_of_ble_eq_true rfl) rfl ?_
  refine qx_aload_n d_Tb_init_0 rfl rfl ?_
  refine qx_objInit d_Tb_init_1 oi_Tb_3 rfl (by decide) ?_
  refine qx_aload_n d_Tb_init_4 rfl rfl ?_
  refine qx_bipushN (v := 24) d_Tb_init_5 rfl ?_
  refine qx_newI d_Tb_init_7 aw_int rfl rfl rfl (fun j => (hz 74 (by omega) j).1) (by decide) (by decide) ?_
  refine qx_putRF d_Tb_init_9 fF_Tb_9 rfl rfl rfl ?_
  refine qx_aload_n d_Tb_init_12 rfl rfl ?_
  refine qx_bipushN (v := 24) d_Tb_init_13 rfl ?_
  refine qx_newZ d_Tb_init_15 aw_boolean rfl rfl rfl (fun j => (hz 75 (by omega) j).1) (by decide) (by decide) ?_
  refine qx_putRF d_Tb_init_17 fF_Tb_15 rfl rfl rfl ?_
  exact qx_ret d_Tb_init_20 rfl (by omega) (by omega) ⟨rfl, rfl, rfl⟩
set_option maxRecDepth 100000 in
set_option maxHeartbeats 4000000 in
theorem ct_Tb_init_2 {h : qH} (hz : zr h 77) : qT mi_Tb_init 1 2 48 [.ref 76] h 77 (fun v1 h1 n1 => v1 = none ∧ h1 = (qpR (qpR h 76 0 (some 77)) 76 1 (some 78)) ∧ n1 = 79) := by
  refine qT.of (lv0 := [_]) (by decide +kernel) (fun _ _ => Nat.le_of_ble_eq_true rfl) rfl ?_
  refine qx_aload_n d_Tb_init_0 rfl rfl ?_
  refine qx_objInit d_Tb_init_1 oi_Tb_3 rfl (by decide) ?_
  refine qx_aload_n d_Tb_init_4 rfl rfl ?_
  refine qx_bipushN (v := 24) d_Tb_init_5 rfl ?_
  refine qx_newI d_Tb_init_7 aw_int rfl rfl rfl (fun j => (hz 77 (by omega) j).1) (by decide) (by decide) ?_
  refine qx_putRF d_Tb_init_9 fF_Tb_9 rfl rfl rfl ?_
  refine qx_aload_n d_Tb_init_12 rfl rfl ?_
  refine qx_bipushN (v := 24) d_Tb_init_13 rfl ?_
  refine qx_newZ d_Tb_init_15 aw_boolean rfl rfl rfl (fun j => (hz 78 (by omega) j).1) (by decide) (by decide) ?_
  refine qx_putRF d_Tb_init_17 fF_Tb_15 rfl rfl rfl ?_
  exact qx_ret d_Tb_init_20 rfl (by omega) (by omega) ⟨rfl, rfl, rfl⟩
set_option maxRecDepth 100000 in
set_option maxHeartbeats 4000000 in
theorem ct_Re_init {h : qH} (hz : zr h 80) : qT mi_Re_init 1 3 1296 [.ref 79] h 80 (fun v1 h1 n1 => v1 = none ∧ h1 = (qpR (qpR (qpR h 79 0 (some 80)) 79 1 (some 81)) 79 2 (some 82)) ∧ n1 = 83) := by
  refine qT.of (lv0 := [_]) (by decide +kernel) (fun _ _ => Nat.le_of_ble_eq_true rfl) rfl ?_
  refine qx_aload_n d_Re_init_0 rfl rfl ?_
  refine qx_objInit d_Re_init_1 oi_Re_3 rfl (by decide) ?_
  refine qx_aload_n d_Re_init_4 rfl rfl ?_
  refine qx_sipushN (v := 576) d_Re_init_5 rfl ?_
  refine qx_newL d_Re_init_8 aw_long rfl rfl rfl (fun j => (hz 80 (by omega) j).2.1) (by decide) (by decide) ?_
  refine qx_putRF d_Re_init_10 fF_Re_9 rfl rfl rfl ?_
  refine qx_aload_n d_Re_init_13 rfl rfl ?_
  refine qx_sipushN (v := 576) d_Re_init_14 rfl ?_
  refine qx_newZ d_Re_init_17 aw_boolean rfl rfl rfl (fun j => (hz 81 (by omega) j).1) (by decide) (by decide) ?_
  refine qx_putRF d_Re_init_19 fF_Re_15 rfl rfl rfl ?_
  refine qx_aload_n d_Re_init_22 rfl rfl ?_
  refine qx_sipushN (v := 144) d_Re_init_23 rfl ?_
  refine qx_newI d_Re_init_26 aw_int rfl rfl rfl (fun j => (hz 82 (by omega) j).1) (by decide) (by decide) ?_
  refine qx_putRF d_Re_init_28 fF_Re_19 rfl rfl rfl ?_
  exact qx_ret d_Re_init_31 rfl (by omega) (by omega) ⟨rfl, rfl, rfl⟩
set_option maxRecDepth 100000 in
set_option maxHeartbeats 4000000 in
theorem ct_Li_init_w {h : qH} (hz : zr h 86) : qT mi_Li_init 1 3 204 [.ref 85, .int (nI 68)] h 86 (fun v1 h1 n1 => v1 = none ∧ h1 = (qpR (qpR (qpR h 85 0 (some 86)) 85 1 (some 87)) 85 2 (some 88)) ∧ n1 = 89) := by
  refine qT.of (lv0 := [_, _]) (by decide +kernel) (fun _ _ => Nat.le_of_ble_eq_true rfl) rfl ?_
  refine qx_aload_n d_Li_init_0 rfl rfl ?_
  refine qx_objInit d_Li_init_1 oi_Li_1 rfl (by decide) ?_
  refine qx_aload_n d_Li_init_4 rfl rfl ?_
  refine qx_iload_n d_Li_init_5 rfl rfl ?_
  refine qx_newI d_Li_init_6 aw_int rfl rfl rfl (fun j => (hz 86 (by omega) j).1) (by decide) (by decide) ?_
  refine qx_putRF d_Li_init_8 fF_Li_7 rfl rfl rfl ?_
  refine qx_aload_n d_Li_init_11 rfl rfl ?_
  refine qx_iload_n d_Li_init_12 rfl rfl ?_
  refine qx_newI d_Li_init_13 aw_int rfl rfl rfl (fun j => (hz 87 (by omega) j).1) (by decide) (by decide) ?_
  refine qx_putRF d_Li_init_15 fF_Li_13 rfl rfl rfl ?_
  refine qx_aload_n d_Li_init_18 rfl rfl ?_
  refine qx_iload_n d_Li_init_19 rfl rfl ?_
  refine qx_newI d_Li_init_20 aw_int rfl rfl rfl (fun j => (hz 88 (by omega) j).1) (by decide) (by decide) ?_
  refine qx_putRF d_Li_init_22 fF_Li_16 rfl rfl rfl ?_
  exact qx_ret d_Li_init_25 rfl (by omega) (by omega) ⟨rfl, rfl, rfl⟩
set_option maxRecDepth 100000 in
set_option maxHeartbeats 4000000 in
theorem ct_Li_init_0 {h : qH} (hz : zr h 107) : qT mi_Li_init 1 3 36 [.ref 106, .int (nI 12)] h 107 (fun v1 h1 n1 => v1 = none ∧ h1 = (qpR (qpR (qpR h 106 0 (some 107)) 106 1 (some 108)) 106 2 (some 109)) ∧ n1 = 110) := by
  refine qT.of (lv0 := [_, _]) (by decide +kernel) (fun _ _ => Nat.le_of_ble_eq_true rfl) rfl ?_
  refine qx_aload_n d_Li_init_0 rfl rfl ?_
  refine qx_objInit d_Li_init_1 oi_Li_1 rfl (by decide) ?_
  refine qx_aload_n d_Li_init_4 rfl rfl ?_
  refine qx_iload_n d_Li_init_5 rfl rfl ?_
  refine qx_newI d_Li_init_6 aw_int rfl rfl rfl (fun j => (hz 107 (by omega) j).1) (by decide) (by decide) ?_
  refine qx_putRF d_Li_init_8 fF_Li_7 rfl rfl rfl ?_
  refine qx_aload_n d_Li_init_11 rfl rfl ?_
  refine qx_iload_n d_Li_init_12 rfl rfl ?_
  refine qx_newI d_Li_init_13 aw_int rfl rfl rfl (fun j => (hz 108 (by omega) j).1) (by decide) (by decide) ?_
  refine qx_putRF d_Li_init_15 fF_Li_13 rfl rfl rfl ?_
  refine qx_aload_n d_Li_init_18 rfl rfl ?_
  refine qx_iload_n d_Li_init_19 rfl rfl ?_
  refine qx_newI d_Li_init_20 aw_int rfl rfl rfl (fun j => (hz 109 (by omega) j).1) (by decide) (by decide) ?_
  refine qx_putRF d_Li_init_22 fF_Li_16 rfl rfl rfl ?_
  exact qx_ret d_Li_init_25 rfl (by omega) (by omega) ⟨rfl, rfl, rfl⟩
set_option maxRecDepth 100000 in
set_option maxHeartbeats 4000000 in
theorem ct_Li_init_1 {h : qH} (hz : zr h 111) : qT mi_Li_init 1 3 36 [.ref 110, .int (nI 12)] h 111 (fun v1 h1 n1 => v1 = none ∧ h1 = (qpR (qpR (qpR h 110 0 (some 111)) 110 1 (some 112)) 110 2 (some 113)) ∧ n1 = 114) := by
  refine qT.of (lv0 := [_, _]) (by decide +kernel) (fun _ _ => Nat.le_of_ble_eq_true rfl) rfl ?_
  refine qx_aload_n d_Li_init_0 rfl rfl ?_
  refine qx_objInit d_Li_init_1 oi_Li_1 rfl (by decide) ?_
  refine qx_aload_n d_Li_init_4 rfl rfl ?_
  refine qx_iload_n d_Li_init_5 rfl rfl ?_
  refine qx_newI d_Li_init_6 aw_int rfl rfl rfl (fun j => (hz 111 (by omega) j).1) (by decide) (by decide) ?_
  refine qx_putRF d_Li_init_8 fF_Li_7 rfl rfl rfl ?_
  refine qx_aload_n d_Li_init_11 rfl rfl ?_
  refine qx_iload_n d_Li_init_12 rfl rfl ?_
  refine qx_newI d_Li_init_13 aw_int rfl rfl rfl (fun j => (hz 112 (by omega) j).1) (by decide) (by decide) ?_
  refine qx_putRF d_Li_init_15 fF_Li_13 rfl rfl rfl ?_
  refine qx_aload_n d_Li_init_18 rfl rfl ?_
  refine qx_iload_n d_Li_init_19 rfl rfl ?_
  refine qx_newI d_Li_init_20 aw_int rfl rfl rfl (fun j => (hz 113 (by omega) j).1) (by decide) (by decide) ?_
  refine qx_putRF d_Li_init_22 fF_Li_16 rfl rfl rfl ?_
  exact qx_ret d_Li_init_25 rfl (by omega) (by omega) ⟨rfl, rfl, rfl⟩
set_option maxRecDepth 100000 in
set_option maxHeartbeats 4000000 in
theorem ct_Li_init_2 {h : qH} (hz : zr h 115) : qT mi_Li_init 1 3 36 [.ref 114, .int (nI 12)] h 115 (fun v1 h1 n1 => v1 = none ∧ h1 = (qpR (qpR (qpR h 114 0 (some 115)) 114 1 (some 116)) 114 2 (some 117)) ∧ n1 = 118) := by
  refine qT.of (lv0 := [_, _]) (by decide +kernel) (fun _ _ => Nat.le_of_ble_eq_true rfl) rfl ?_
  refine qx_aload_n d_Li_init_0 rfl rfl ?_
  refine qx_objInit d_Li_init_1 oi_Li_1 rfl (by decide) ?_
  refine qx_aload_n d_Li_init_4 rfl rfl ?_
  refine qx_iload_n d_Li_init_5 rfl rfl ?_
  refine qx_newI d_Li_init_6 aw_int rfl rfl rfl (fun j => (hz 115 (by omega) j).1) (by decide) (by decide) ?_
  refine qx_putRF d_Li_init_8 fF_Li_7 rfl rfl rfl ?_
  refine qx_aload_n d_Li_init_11 rfl rfl ?_
  refine qx_iload_n d_Li_init_12 rfl rfl ?_
  refine qx_newI d_Li_init_13 aw_int rfl rfl rfl (fun j => (hz 116 (by omega) j).1) (by decide) (by decide) ?_
  refine qx_putRF d_Li_init_15 fF_Li_13 rfl rfl rfl ?_
  refine qx_aload_n d_Li_init_18 rfl rfl ?_
  refine qx_iload_n d_Li_init_19 rfl rfl ?_
  refine qx_newI d_Li_init_20 aw_int rfl rfl rfl (fun j => (hz 117 (by omega) j).1) (by decide) (by decide) ?_
  refine qx_putRF d_Li_init_22 fF_Li_16 rfl rfl rfl ?_
  exact qx_ret d_Li_init_25 rfl (by omega) (by omega) ⟨rfl, rfl, rfl⟩
set_option maxRecDepth 100000 in
set_option maxHeartbeats 4000000 in
theorem ct_Li_init_3 {h : qH} (hz : zr h 119) : qT mi_Li_init 1 3 36 [.ref 118, .int (nI 12)] h 119 (fun v1 h1 n1 => v1 = none ∧ h1 = (qpR (qpR (qpR h 118 0 (some 119)) 118 1 (some 120)) 118 2 (some 121)) ∧ n1 = 122) := by
  refine qT.of (lv0 := [_, _]) (by decide +kernel) (fun _ _ => Nat.le_of_ble_eq_true rfl) rfl ?_
  refine qx_aload_n d_Li_init_0 rfl rfl ?_
  refine qx_objInit d_Li_init_1 oi_Li_1 rfl (by decide) ?_
  refine qx_aload_n d_Li_init_4 rfl rfl ?_
  refine qx_iload_n d_Li_init_5 rfl rfl ?_
  refine qx_newI d_Li_init_6 aw_int rfl rfl rfl (fun j => (hz 119 (by omega) j).1) (by decide) (by decide) ?_
  refine qx_putRF d_Li_init_8 fF_Li_7 rfl rfl rfl ?_
  refine qx_aload_n d_Li_init_11 rfl rfl ?_
  refine qx_iload_n d_Li_init_12 rfl rfl ?_
  refine qx_newI d_Li_init_13 aw_int rfl rfl rfl (fun j => (hz 120 (by omega) j).1) (by decide) (by decide) ?_
  refine qx_putRF d_Li_init_15 fF_Li_13 rfl rfl rfl ?_
  refine qx_aload_n d_Li_init_18 rfl rfl ?_
  refine qx_iload_n d_Li_init_19 rfl rfl ?_
  refine qx_newI d_Li_init_20 aw_int rfl rfl rfl (fun j => (hz 121 (by omega) j).1) (by decide) (by decide) ?_
  refine qx_putRF d_Li_init_22 fF_Li_16 rfl rfl rfl ?_
  exact qx_ret d_Li_init_25 rfl (by omega) (by omega) ⟨rfl, rfl, rfl⟩
set_option maxRecDepth 100000 in
set_option maxHeartbeats 4000000 in
theorem ct_Ta_init {h : qH} {n : Nat} (a : Nat) : qT mi_Ta_init 1 0 0 [.ref a] h n (fun v1 h1 n1 => v1 = none ∧ h = h1 ∧ n1 = n) := by
  refine qT.of (lv0 := [_]) (by decide +kernel) (fun _ _ => Nat.le_of_ble_eq_true rfl) rfl ?_
  refine qx_aload_n d_Ta_init_0 rfl rfl ?_
  refine qx_objInit d_Ta_init_1 oi_Ta_3 rfl (by decide) ?_
  exact qx_ret d_Ta_init_4 rfl (by omega) (by omega) ⟨rfl, rfl, rfl⟩
set_option maxRecDepth 100000 in
set_option maxHeartbeats 4000000 in
theorem ct_Ag_init {h : qH} {n : Nat} (a : Nat) : qT mi_Ag_init 1 0 0 [.ref a] h n (fun v1 h1 n1 => v1 = none ∧ h = h1 ∧ n1 = n) := by
  refine qT.of (lv0 := [_]) (by decide +kernel) (fun _ _ => Nat.le_of_ble_eq_true rfl) rfl ?_
  refine qx_aload_n d_Ag_init_0 rfl rfl ?_
  refine qx_objInit d_Ag_init_1 oi_Ag_3 rfl (by decide) ?_
  exact qx_ret d_Ag_init_4 rfl (by omega) (by omega) ⟨rfl, rfl, rfl⟩
set_option maxRecDepth 100000 in
set_option maxHeartbeats 4000000 in
theorem ct_Qu_makeExpressions_8 {h : qH} (hz : zr h 4) : qT mi_Qu_makeExpressions 2 25 432 [.int (nI 8)] h 4 (fun v1 h1 n1 => v1 = some (.ref 4) ∧ h1 = (qpR (qpR (qpR (qpR (qpR (qpR (qpR (qpR (qpR (qpR (qpR (qpR (qpR (qpR (qpR (qpR (qpR (qpR (qpR (qpR (qpR (qpR (qpR (qpR h 5 0 (some 6)) 5 1 (some 7)) 4 0 (some 5)) 8 0 (some 9)) 8 1 (some 10)) 4 1 (some 8)) 11 0 (some 12)) 11 1 (some 13)) 4 2 (some 11)) 14 0 (some 15)) 14 1 (some 16)) 4 3 (some 14)) 17 0 (some 18)) 17 1 (some 19)) 4 4 (some 17)) 20 0 (some 21)) 20 1 (some 22)) 4 5 (some 20)) 23 0 (some 24)) 23 1 (some 25)) 4 6 (some 23)) 26 0 (some 27)) 26 1 (some 28)) 4 7 (some 26)) ∧ n1 = 29) := by
  refine qT.of (lv0 := [_, _, _]) (by decide +kernel) (fun _ _ => Nat.le_of_ble_eq_true rfl) rfl ?_
  refine qx_iload_n d_Qu_makeExpressions_0 rfl rfl ?_
  refine qx_newR (t := 1) d_Qu_makeExpressions_1 cl_Qu_36 (by decide) (fun _ => rfl) rfl rfl rfl (fun j => (hz 4 (by omega) j).2.2) (by decide) (by decide) ?_
  refine qx_astore_n (lv1 := [_, _, _]) d_Qu_makeExpressions_4 rfl (by decide) rfl ?_
  refine qx_iconstN (v := 0) d_Qu_makeExpressions_5 rfl ?_
  refine qx_istore_n (lv1 := [_, _, _]) d_Qu_makeExpressions_6 rfl (by decide) rfl ?_
  refine qx_iload_n d_Qu_makeExpressions_7 rfl rfl ?_
  refine qx_iload_n d_Qu_makeExpressions_8 rfl rfl ?_
  refine qx_icmp_geN (t := 28) d_Qu_makeExpressions_9 rfl (by omega) (by omega) (fun c9 => absurd c9 (by omega)) (fun c9 => ?_)
  refine qx_aload_n d_Qu_makeExpressions_12 rfl rfl ?_
  refine qx_iload_n d_Qu_makeExpressions_13 rfl rfl ?_
  refine qx_new d_Qu_makeExpressions_14 nw_Qu_36 rfl (hz 5 (by omega)) (by decide) (by decide) ?_
  refine qx_dup d_Qu_makeExpressions_17 rfl ?_
  refine qx_callI (As := []) (rest := _) d_Qu_makeExpressions_18 lk_Qu_38 y_Ex_init i_Ex_init rfl rfl rfl rfl (by decide) (by decide) (ct_Ex_init (h := h) 5 (Or.inl ⟨0, by omega, rfl⟩) (show zr h 6 from (zr_m (by omega) hz))) ?_
  rintro _ _ _ ⟨rfl, rfl, rfl⟩
  refine qx_aast (j := 0) (t := 1) d_Qu_makeExpressions_21 rfl (fun _ => rfl) rfl rfl rfl (by omega) rfl (by decide) rfl rfl ?_
  refine qx_iincN (w := 1) (lv1 := [_, _, _]) d_Qu_makeExpressions_22 rfl rfl (by decide) rfl ?_
  refine qx_goto (t := 7) d_Qu_makeExpressions_25 rfl ?_
  refine qx_iload_n d_Qu_makeExpressions_7 rfl rfl ?_
  refine qx_iload_n d_Qu_makeExpressions_8 rfl rfl ?_
  refine qx_icmp_geN (t := 28) d_Qu_makeExpressions_9 rfl (by omega) (by omega) (fun c9 => absurd c9 (by omega)) (fun c9 => ?_)
  refine qx_aload_n d_Qu_makeExpressions_12 rfl rfl ?_
  refine qx_iload_n d_Qu_makeExpressions_13 rfl rfl ?_
  refine qx_new d_Qu_makeExpressions_14 nw_Qu_36 rfl ((show zr (qpR (qpR (qpR h 5 0 (some 6)) 5 1 (some 7)) 4 0 (some 5)) 8 from (zr_R (by omega) (zr_R (by omega) (zr_R (by omega) (zr_m (by omega) hz))))) 8 (by omega)) (by decide) (by decide) ?_
  refine qx_dup d_Qu_makeExpressions_17 rfl ?_
  refine qx_callI (As := []) (rest := _) d_Qu_makeExpressions_18 lk_Qu_38 y_Ex_init i_Ex_init rfl rfl rfl rfl (by decide) (by decide) (ct_Ex_init (h := (qpR (qpR (qpR h 5 0 (some 6)) 5 1 (some 7)) 4 0 (some 5))) 8 (Or.inl ⟨1, by omega, rfl⟩) (show zr (qpR (qpR (qpR h 5 0 (some 6)) 5 1 (some 7)) 4 0 (some 5)) 9 from (zr_R (by omega) (zr_R (by omega) (zr_R (by omega) (zr_m (by omega) hz)))))) ?_
  rintro _ _ _ ⟨rfl, rfl, rfl⟩
  refine qx_aast (j := 1) (t := 1) d_Qu_makeExpressions_21 rfl (fun _ => rfl) rfl rfl rfl (by omega) rfl (by decide) rfl rfl ?_
  refine qx_iincN (w := 1) (lv1 := [_, _, _]) d_Qu_makeExpressions_22 rfl rfl (by decide) rfl ?_
  refine qx_goto (t := 7) d_Qu_makeExpressions_25 rfl ?_
  refine qx_iload_n d_Qu_makeExpressions_7 rfl rfl ?_
  refine qx_iload_n d_Qu_makeExpressions_8 rfl rfl ?_
  refine qx_icmp_geN (t := 28) d_Qu_makeExpressions_9 rfl (by omega) (by omega) (fun c9 => absurd c9 (by omega)) (fun c9 => ?_)
  refine qx_aload_n d_Qu_makeExpressions_12 rfl rfl ?_
  refine qx_iload_n d_Qu_makeExpressions_13 rfl rfl ?_
  refine qx_new d_Qu_makeExpressions_14 nw_Qu_36 rfl ((show zr (qpR (qpR (qpR (qpR (qpR (qpR h 5 0 (some 6)) 5 1 (some 7)) 4 0 (some 5)) 8 0 (some 9)) 8 1 (some 10)) 4 1 (some 8)) 11 from (zr_R (by omega) (zr_R (by omega) (zr_R (by omega) (zr_R (by omega) (zr_R (by omega) (zr_R (by omega) (zr_m (by omega) hz)))))))) 11 (by omega)) (by decide) (by decide) ?_
  refine qx_dup d_Qu_makeExpressions_17 rfl ?_
  refine qx_callI (As := []) (rest := _) d_Qu_makeExpressions_18 lk_Qu_38 y_Ex_init i_Ex_init rfl rfl rfl rfl (by decide) (by decide) (ct_Ex_init (h := (qpR (qpR (qpR (qpR (qpR (qpR h 5 0 (some 6)) 5 1 (some 7)) 4 0 (some 5)) 8 0 (some 9)) 8 1 (some 10)) 4 1 (some 8))) 11 (Or.inl ⟨2, by omega, rfl⟩) (show zr (qpR (qpR (qpR (qpR (qpR (qpR h 5 0 (some 6)) 5 1 (some 7)) 4 0 (some 5)) 8 0 (some 9)) 8 1 (some 10)) 4 1 (some 8)) 12 from (zr_R (by omega) (zr_R (by omega) (zr_R (by omega) (zr_R (by omega) (zr_R (by omega) (zr_R (by omega) (zr_m (by omega) hz))))))))) ?_
  rintro _ _ _ ⟨rfl, rfl, rfl⟩
  refine qx_aast (j := 2) (t := 1) d_Qu_makeExpressions_21 rfl (fun _ => rfl) rfl rfl rfl (by omega) rfl (by decide) rfl rfl ?_
  refine qx_iincN (w := 1) (lv1 := [_, _, _]) d_Qu_makeExpressions_22 rfl rfl (by decide) rfl ?_
  refine qx_goto (t := 7) d_Qu_makeExpressions_25 rfl ?_
  refine qx_iload_n d_Qu_makeExpressions_7 rfl rfl ?_
  refine qx_iload_n d_Qu_makeExpressions_8 rfl rfl ?_
  refine qx_icmp_geN (t := 28) d_Qu_makeExpressions_9 rfl (by omega) (by omega) (fun c9 => absurd c9 (by omega)) (fun c9 => ?_)
  refine qx_aload_n d_Qu_makeExpressions_12 rfl rfl ?_
  refine qx_iload_n d_Qu_makeExpressions_13 rfl rfl ?_
  refine qx_new d_Qu_makeExpressions_14 nw_Qu_36 rfl ((show zr (qpR (qpR (qpR (qpR (qpR (qpR (qpR (qpR (qpR h 5 0 (some 6)) 5 1 (some 7)) 4 0 (some 5)) 8 0 (some 9)) 8 1 (some 10)) 4 1 (some 8)) 11 0 (some 12)) 11 1 (some 13)) 4 2 (some 11)) 14 from (zr_R (by omega) (zr_R (by omega) (zr_R (by omega) (zr_R (by omega) (zr_R (by omega) (zr_R (by omega) (zr_R (by omega) (zr_R (by omega) (zr_R (by omega) (zr_m (by omega) hz))))))))))) 14 (by omega)) (by decide) (by decide) ?_
  refine qx_dup d_Qu_makeExpressions_17 rfl ?_
  refine qx_callI (As := []) (rest := _) d_Qu_makeExpressions_18 lk_Qu_38 y_Ex_init i_Ex_init rfl rfl rfl rfl (by decide) (by decide) (ct_Ex_init (h := (qpR (qpR (qpR (qpR (qpR (qpR (qpR (qpR (qpR h 5 0 (some 6)) 5 1 (some 7)) 4 0 (some 5)) 8 0 (some 9)) 8 1 (some 10)) 4 1 (some 8)) 11 0 (some 12)) 11 1 (some 13)) 4 2 (some 11))) 14 (Or.inl ⟨3, by omega, rfl⟩) (show zr (qpR (qpR (qpR (qpR (qpR (qpR (qpR (qpR (qpR h 5 0 (some 6)) 5 1 (some 7)) 4 0 (some 5)) 8 0 (some 9)) 8 1 (some 10)) 4 1 (some 8)) 11 0 (some 12)) 11 1 (some 13)) 4 2 (some 11)) 15 from (zr_R (by omega) (zr_R (by omega) (zr_R (by omega) (zr_R (by omega) (zr_R (by omega) (zr_R (by omega) (zr_R (by omega) (zr_R (by omega) (zr_R (by omega) (zr_m (by omega) hz)))))))))))) ?_
  rintro _ _ _ ⟨rfl, rfl, rfl⟩
  refine qx_aast (j := 3) (t := 1) d_Qu_makeExpressions_21 rfl (fun _ => rfl) rfl rfl rfl (by omega) rfl (by decide) rfl rfl ?_
  refine qx_iincN (w := 1) (lv1 := [_, _, _]) d_Qu_makeExpressions_22 rfl rfl (by decide) rfl ?_
  refine qx_goto (t := 7) d_Qu_makeExpressions_25 rfl ?_
  refine qx_iload_n d_Qu_makeExpressions_7 rfl rfl ?_
  refine qx_iload_n d_Qu_makeExpressions_8 rfl rfl ?_
  refine qx_icmp_geN (t := 28) d_Qu_makeExpressions_9 rfl (by omega) (by omega) (fun c9 => absurd c9 (by omega)) (fun c9 => ?_)
  refine qx_aload_n d_Qu_makeExpressions_12 rfl rfl ?_
  refine qx_iload_n d_Qu_makeExpressions_13 rfl rfl ?_
  refine qx_new d_Qu_makeExpressions_14 nw_Qu_36 rfl ((show zr (qpR (qpR (qpR (qpR (qpR (qpR (qpR (qpR (qpR (qpR (qpR (qpR h 5 0 (some 6)) 5 1 (some 7)) 4 0 (some 5)) 8 0 (some 9)) 8 1 (some 10)) 4 1 (some 8)) 11 0 (some 12)) 11 1 (some 13)) 4 2 (some 11)) 14 0 (some 15)) 14 1 (some 16)) 4 3 (some 14)) 17 from (zr_R (by omega) (zr_R (by omega) (zr_R (by omega) (zr_R (by omega) (zr_R (by omega) (zr_R (by omega) (zr_R (by omega) (zr_R (by omega) (zr_R (by omega) (zr_R (by omega) (zr_R (by omega) (zr_R (by omega) (zr_m (by omega) hz)))))))))))))) 17 (by omega)) (by decide) (by decide) ?_
  refine qx_dup d_Qu_makeExpressions_17 rfl ?_
  refine qx_callI (As := []) (rest := _) d_Qu_makeExpressions_18 lk_Qu_38 y_Ex_init i_Ex_init rfl rfl rfl rfl (by decide) (by decide) (ct_Ex_init (h := (qpR (qpR (qpR (qpR (qpR (qpR (qpR (qpR (qpR (qpR (qpR (qpR h 5 0 (some 6)) 5 1 (some 7)) 4 0 (some 5)) 8 0 (some 9)) 8 1 (some 10)) 4 1 (some 8)) 11 0 (some 12)) 11 1 (some 13)) 4 2 (some 11)) 14 0 (some 15)) 14 1 (some 16)) 4 3 (some 14))) 17 (Or.inl ⟨4, by omega, rfl⟩) (show zr (qpR (qpR (qpR (qpR (qpR (qpR (qpR (qpR (qpR (qpR (qpR (qpR h 5 0 (some 6)) 5 1 (some 7)) 4 0 (some 5)) 8 0 (some 9)) 8 1 (some 10)) 4 1 (some 8)) 11 0 (some 12)) 11 1 (some 13)) 4 2 (some 11)) 14 0 (some 15)) 14 1 (some 16)) 4 3 (some 14)) 18 from (zr_R (by omega) (zr_R (by omega) (zr_R (by omega) (zr_R (by omega) (zr_R (by omega) (zr_R (by omega) (zr_R (by omega) (zr_R (by omega) (zr_R (by omega) (zr_R (by omega) (zr_R (by omega) (zr_R (by omega) (zr_m (by omega) hz))))))))))))))) ?_
  rintro _ _ _ ⟨rfl, rfl, rfl⟩
  refine qx_aast (j := 4) (t := 1) d_Qu_makeExpressions_21 rfl (fun _ => rfl) rfl rfl rfl (by omega) rfl (by decide) rfl rfl ?_
  refine qx_iincN (w := 1) (lv1 := [_, _, _]) d_Qu_makeExpressions_22 rfl rfl (by decide) rfl ?_
  refine qx_goto (t := 7) d_Qu_makeExpressions_25 rfl ?_
  refine qx_iload_n d_Qu_makeExpressions_7 rfl rfl ?_
  refine qx_iload_n d_Qu_makeExpressions_8 rfl rfl ?_
  refine qx_icmp_geN (t := 28) d_Qu_makeExpressions_9 rfl (by omega) (by omega) (fun c9 => absurd c9 (by omega)) (fun c9 => ?_)
  refine qx_aload_n d_Qu_makeExpressions_12 rfl rfl ?_
  refine qx_iload_n d_Qu_makeExpressions_13 rfl rfl ?_
  refine qx_new d_Qu_makeExpressions_14 nw_Qu_36 rfl ((show zr (qpR (qpR (qpR (qpR (qpR (qpR (qpR (qpR (qpR (qpR (qpR (qpR (qpR (qpR (qpR h 5 0 (some 6)) 5 1 (some 7)) 4 0 (some 5)) 8 0 (some 9)) 8 1 (some 10)) 4 1 (some 8)) 11 0 (some 12)) 11 1 (some 13)) 4 2 (some 11)) 14 0 (some 15)) 14 1 (some 16)) 4 3 (some 14)) 17 0 (some 18)) 17 1 (some 19)) 4 4 (some 17)) 20 from (zr_R (by omega) (zr_R (by omega) (zr_R (by omega) (zr_R (by omega) (zr_R (by omega) (zr_R (by omega) (zr_R (by omega) (zr_R (by omega) (zr_R (by omega) (zr_R (by omega) (zr_R (by omega) (zr_R (by omega) (zr_R (by omega) (zr_R (by omega) (zr_R (by omega) (zr_m (by omega) hz))))))))))))))))) 20 (by omega)) (by decide) (by decide) ?_
  refine qx_dup d_Qu_makeExpressions_17 rfl ?_
  refine qx_callI (As := []) (rest := _) d_Qu_makeExpressions_18 lk_Qu_38 y_Ex_init i_Ex_init rfl rfl rfl rfl (by decide) (by decide) (ct_Ex_init (h := (qpR (qpR (qpR (qpR (qpR (qpR (qpR (qpR (qpR (qpR (qpR (qpR (qpR (qpR (qpR h 5 0 (some 6)) 5 1 (some 7)) 4 0 (some 5)) 8 0 (some 9)) 8 1 (some 10)) 4 1 (some 8)) 11 0 (some 12)) 11 1 (some 13)) 4 2 (some 11)) 14 0 (some 15)) 14 1 (some 16)) 4 3 (some 14)) 17 0 (some 18)) 17 1 (some 19)) 4 4 (some 17))) 20 (Or.inl ⟨5, by omega, rfl⟩) (show zr (qpR (qpR (qpR (qpR (qpR (qpR (qpR (qpR (qpR (qpR (qpR (qpR (qpR (qpR (qpR h 5 0 (some 6)) 5 1 (some 7)) 4 0 (some 5)) 8 0 (some 9)) 8 1 (some 10)) 4 1 (some 8)) 11 0 (some 12)) 11 1 (some 13)) 4 2 (some 11)) 14 0 (some 15)) 14 1 (some 16)) 4 3 (some 14)) 17 0 (some 18)) 17 1 (some 19)) 4 4 (some 17)) 21 from (zr_R (by omega) (zr_R (by omega) (zr_R (by omega) (zr_R (by omega) (zr_R (by omega) (zr_R (by omega) (zr_R (by omega) (zr_R (by omega) (zr_R (by omega) (zr_R (by omega) (zr_R (by omega) (zr_R (by omega) (zr_R (by omega) (zr_R (by omega) (zr_R (by omega) (zr_m (by omega) hz)))))))))))))))))) ?_
  rintro _ _ _ ⟨rfl, rfl, rfl⟩
  refine qx_aast (j := 5) (t := 1) d_Qu_makeExpressions_21 rfl (fun _ => rfl) rfl rfl rfl (by omega) rfl (by decide) rfl rfl ?_
  refine qx_iincN (w := 1) (lv1 := [_, _, _]) d_Qu_makeExpressions_22 rfl rfl (by decide) rfl ?_
  refine qx_goto (t := 7) d_Qu_makeExpressions_25 rfl ?_
  refine qx_iload_n d_Qu_makeExpressions_7 rfl rfl ?_
  refine qx_iload_n d_Qu_makeExpressions_8 rfl rfl ?_
  refine qx_icmp_geN (t := 28) d_Qu_makeExpressions_9 rfl (by omega) (by omega) (fun c9 => absurd c9 (by omega)) (fun c9 => ?_)
  refine qx_aload_n d_Qu_makeExpressions_12 rfl rfl ?_
  refine qx_iload_n d_Qu_makeExpressions_13 rfl rfl ?_
  refine qx_new d_Qu_makeExpressions_14 nw_Qu_36 rfl ((show zr (qpR (qpR (qpR (qpR (qpR (qpR (qpR (qpR (qpR (qpR (qpR (qpR (qpR (qpR (qpR (qpR (qpR (qpR h 5 0 (some 6)) 5 1 (some 7)) 4 0 (some 5)) 8 0 (some 9)) 8 1 (some 10)) 4 1 (some 8)) 11 0 (some 12)) 11 1 (some 13)) 4 2 (some 11)) 14 0 (some 15)) 14 1 (some 16)) 4 3 (some 14)) 17 0 (some 18)) 17 1 (some 19)) 4 4 (some 17)) 20 0 (some 21)) 20 1 (some 22)) 4 5 (some 20)) 23 from (zr_R (by omega) (zr_R (by omega) (zr_R (by omega) (zr_R (by omega) (zr_R (by omega) (zr_R (by omega) (zr_R (by omega) (zr_R (by omega) (zr_R (by omega) (zr_R (by omega) (zr_R (by omega) (zr_R (by omega) (zr_R (by omega) (zr_R (by omega) (zr_R (by omega) (zr_R (by omega) (zr_R (by omega) (zr_R (by omega) (zr_m (by omega) hz)))))))))))))))))))) 23 (by omega)) (by decide) (by decide) ?_
  refine qx_dup d_Qu_makeExpressions_17 rfl ?_
  refine qx_callI (As := []) (rest := _) d_Qu_makeExpressions_18 lk_Qu_38 y_Ex_init i_Ex_init rfl rfl rfl rfl (by decide) (by decide) (ct_Ex_init (h := (qpR (qpR (qpR (qpR (qpR (qpR (qpR (qpR (qpR (qpR (qpR (qpR (qpR (qpR (qpR (qpR (qpR (qpR h 5 0 (some 6)) 5 1 (some 7)) 4 0 (some 5)) 8 0 (some 9)) 8 1 (some 10)) 4 1 (some 8)) 11 0 (some 12)) 11 1 (some 13)) 4 2 (some 11)) 14 0 (some 15)) 14 1 (some 16)) 4 3 (some 14)) 17 0 (some 18)) 17 1 (some 19)) 4 4 (some 17)) 20 0 (some 21)) 20 1 (some 22)) 4 5 (some 20))) 23 (Or.inl ⟨6, by omega, rfl⟩) (show zr (qpR (qpR (qpR (qpR (qpR (qpR (qpR (qpR (qpR (qpR (qpR (qpR (qpR (qpR (qpR (qpR (qpR (qpR h 5 0 (some 6)) 5 1 (some 7)) 4 0 (some 5)) 8 0 (some 9)) 8 1 (some 10)) 4 1 (some 8)) 11 0 (some 12)) 11 1 (some 13)) 4 2 (some 11)) 14 0 (some 15)) 14 1 (some 16)) 4 3 (some 14)) 17 0 (some 18)) 17 1 (some 19)) 4 4 (some 17)) 20 0 (some 21)) 20 1 (some 22)) 4 5 (some 20)) 24 from (zr_R (by omega) (zr_R (by omega) (zr_R (by omega) (zr_R (by omega) (zr_R (by omega) (zr_R (by omega) (zr_R (by omega) (zr_R (by omega) (zr_R (by omega) (zr_R (by omega) (zr_R (by omega) (zr_R (by omega) (zr_R (by omega) (zr_R (by omega) (zr_R (by omega) (zr_R (by omega) (zr_R (by omega) (zr_R (by omega) (zr_m (by omega) hz))))))))))))))))))))) ?_
  rintro _ _ _ ⟨rfl, rfl, rfl⟩
  refine qx_aast (j := 6) (t := 1) d_Qu_makeExpressions_21 rfl (fun _ => rfl) rfl rfl rfl (by omega) rfl (by decide) rfl rfl ?_
  refine qx_iincN (w := 1) (lv1 := [_, _, _]) d_Qu_makeExpressions_22 rfl rfl (by decide) rfl ?_
  refine qx_goto (t := 7) d_Qu_makeExpressions_25 rfl ?_
  refine qx_iload_n d_Qu_makeExpressions_7 rfl rfl ?_
  refine qx_iload_n d_Qu_makeExpressions_8 rfl rfl ?_
  refine qx_icmp_geN (t := 28) d_Qu_makeExpressions_9 rfl (by omega) (by omega) (fun c9 => absurd c9 (by omega)) (fun c9 => ?_)
  refine qx_aload_n d_Qu_makeExpressions_12 rfl rfl ?_
  refine qx_iload_n d_Qu_makeExpressions_13 rfl rfl ?_
  refine qx_new d_Qu_makeExpressions_14 nw_Qu_36 rfl ((show zr (qpR (qpR (qpR (qpR (qpR (qpR (qpR (qpR (qpR (qpR (qpR (qpR (qpR (qpR (qpR (qpR (qpR (qpR (qpR (qpR (qpR h 5 0 (some 6)) 5 1 (some 7)) 4 0 (some 5)) 8 0 (some 9)) 8 1 (some 10)) 4 1 (some 8)) 11 0 (some 12)) 11 1 (some 13)) 4 2 (some 11)) 14 0 (some 15)) 14 1 (some 16)) 4 3 (some 14)) 17 0 (some 18)) 17 1 (some 19)) 4 4 (some 17)) 20 0 (some 21)) 20 1 (some 22)) 4 5 (some 20)) 23 0 (some 24)) 23 1 (some 25)) 4 6 (some 23)) 26 from (zr_R (by omega) (zr_R (by omega) (zr_R (by omega) (zr_R (by omega) (zr_R (by omega) (zr_R (by omega) (zr_R (by omega) (zr_R (by omega) (zr_R (by omega) (zr_R (by omega) (zr_R (by omega) (zr_R (by omega) (zr_R (by omega) (zr_R (by omega) (zr_R (by omega) (zr_R (by omega) (zr_R (by omega) (zr_R (by omega) (zr_R (by omega) (zr_R (by omega) (zr_R (by omega) (zr_m (by omega) hz))))))))))))))))))))))) 26 (by omega)) (by decide) (by decide) ?_
  refine qx_dup d_Qu_makeExpressions_17 rfl ?_
  refine qx_callI (As := []) (rest := _) d_Qu_makeExpressions_18 lk_Qu_38 y_Ex_init i_Ex_init rfl rfl rfl rfl (by decide) (by decide) (ct_Ex_init (h := (qpR (qpR (qpR (qpR (qpR (qpR (qpR (qpR (qpR (qpR (qpR (qpR (qpR (qpR (qpR (qpR (qpR (qpR (qpR (qpR (qpR h 5 0 (some 6)) 5 1 (some 7)) 4 0 (some 5)) 8 0 (some 9)) 8 1 (some 10)) 4 1 (some 8)) 11 0 (some 12)) 11 1 (some 13)) 4 2 (some 11)) 14 0 (some 15)) 14 1 (some 16)) 4 3 (some 14)) 17 0 (some 18)) 17 1 (some 19)) 4 4 (some 17)) 20 0 (some 21)) 20 1 (some 22)) 4 5 (some 20)) 23 0 (some 24)) 23 1 (some 25)) 4 6 (some 23))) 26 (Or.inl ⟨7, by omega, rfl⟩) (show zr (qpR (qpR (qpR (qpR (qpR (qpR (qpR (qpR (qpR (qpR (qpR (qpR (qpR (qpR (qpR (qpR (qpR (qpR (qpR (qpR (qpR h 5 0 (some 6)) 5 1 (some 7)) 4 0 (some 5)) 8 0 (some 9)) 8 1 (some 10)) 4 1 (some 8)) 11 0 (some 12)) 11 1 (some 13)) 4 2 (some 11)) 14 0 (some 15)) 14 1 (some 16)) 4 3 (some 14)) 17 0 (some 18)) 17 1 (some 19)) 4 4 (some 17)) 20 0 (some 21)) 20 1 (some 22)) 4 5 (some 20)) 23 0 (some 24)) 23 1 (some 25)) 4 6 (some 23)) 27 from (zr_R (by omega) (zr_R (by omega) (zr_R (by omega) (zr_R (by omega) (zr_R (by omega) (zr_R (by omega) (zr_R (by omega) (zr_R (by omega) (zr_R (by omega) (zr_R (by omega) (zr_R (by omega) (zr_R (by omega) (zr_R (by omega) (zr_R (by omega) (zr_R (by omega) (zr_R (by omega) (zr_R (by omega) (zr_R (by omega) (zr_R (by omega) (zr_R (by omega) (zr_R (by omega) (zr_m (by omega) hz)))))))))))))))))))))))) ?_
  rintro _ _ _ ⟨rfl, rfl, rfl⟩
  refine qx_aast (j := 7) (t := 1) d_Qu_makeExpressions_21 rfl (fun _ => rfl) rfl rfl rfl (by omega) rfl (by decide) rfl rfl ?_
  refine qx_iincN (w := 1) (lv1 := [_, _, _]) d_Qu_makeExpressions_22 rfl rfl (by decide) rfl ?_
  refine qx_goto (t := 7) d_Qu_makeExpressions_25 rfl ?_
  refine qx_iload_n d_Qu_makeExpressions_7 rfl rfl ?_
  refine qx_iload_n d_Qu_makeExpressions_8 rfl rfl ?_
  refine qx_icmp_geN (t := 28) d_Qu_makeExpressions_9 rfl (by omega) (by omega) (fun c9 => ?_) (fun c9 => absurd c9 (by omega))
  refine qx_aload_n d_Qu_makeExpressions_28 rfl rfl ?_
  exact qx_aret d_Qu_makeExpressions_29 rfl (by first | exact Or.inl ⟨_, rfl⟩ | exact Or.inr ⟨_, rfl⟩) (by decide) (by decide) ⟨rfl, rfl, rfl⟩
set_option maxRecDepth 100000 in
set_option maxHeartbeats 4000000 in
theorem ct_Qu_makeExpressions_6 {h : qH} (hz : zr h 29) : qT mi_Qu_makeExpressions 2 19 324 [.int (nI 6)] h 29 (fun v1 h1 n1 => v1 = some (.ref 29) ∧ h1 = (qpR (qpR (qpR (qpR (qpR (qpR (qpR (qpR (qpR (qpR (qpR (qpR (qpR (qpR (qpR (qpR (qpR (qpR h 30 0 (some 31)) 30 1 (some 32)) 29 0 (some 30)) 33 0 (some 34)) 33 1 (some 35)) 29 1 (some 33)) 36 0 (some 37)) 36 1 (some 38)) 29 2 (some 36)) 39 0 (some 40)) 39 1 (some 41)) 29 3 (some 39)) 42 0 (some 43)) 42 1 (some 44)) 29 4 (some 42)) 45 0 (some 46)) 45 1 (some 47)) 29 5 (some 45)) ∧ n1 = 48) := by
  refine qT.of (lv0 := [_, _, _]) (by decide +kernel) (fun _ _ => Nat.le_of_ble_eq_true rfl) rfl ?_
  refine qx_iload_n d_Qu_makeExpressions_0 rfl rfl ?_
  refine qx_newR (t := 1) d_Qu_makeExpressions_1 cl_Qu_36 (by decide) (fun _ => rfl) rfl rfl rfl (fun j => (hz 29 (by omega) j).2.2) (by decide) (by decide) ?_
  refine qx_astore_n (lv1 := [_, _, _]) d_Qu_makeExpressions_4 rfl (by decide) rfl ?_
  refine qx_iconstN (v := 0) d_Qu_makeExpressions_5 rfl ?_
  refine qx_istore_n (lv1 := [_, _, _]) d_Qu_makeExpressions_6 rfl (by decide) rfl ?_
  refine qx_iload_n d_Qu_makeExpressions_7 rfl rfl ?_
  refine qx_iload_n d_Qu_makeExpressions_8 rfl rfl ?_
  refine qx_icmp_geN (t := 28) d_Qu_makeExpressions_9 rfl (by omega) (by omega) (fun c9 => absurd c9 (by omega)) (fun c9 => ?_)
  refine qx_aload_n d_Qu_makeExpressions_12 rfl rfl ?_
  refine qx_iload_n d_Qu_makeExpressions_13 rfl rfl ?_
  refine qx_new d_Qu_makeExpressions_14 nw_Qu_36 rfl (hz 30 (by omega)) (by decide) (by decide) ?_
  refine qx_dup d_Qu_makeExpressions_17 rfl ?_
  refine qx_callI (As := []) (rest := _) d_Qu_makeExpressions_18 lk_Qu_38 y_Ex_init i_Ex_init rfl rfl rfl rfl (by decide) (by decide) (ct_Ex_init (h := h) 30 (Or.inr (Or.inl ⟨0, by omega, rfl⟩)) (show zr h 31 from (zr_m (by omega) hz))) ?_
  rintro _ _ _ ⟨rfl, rfl, rfl⟩
  refine qx_aast (j := 0) (t := 1) d_Qu_makeExpressions_21 rfl (fun _ => rfl) rfl rfl rfl (by omega) rfl (by decide) rfl rfl ?_
  refine qx_iincN (w := 1) (lv1 := [_, _, _]) d_Qu_makeExpressions_22 rfl rfl (by decide) rfl ?_
  refine qx_goto (t := 7) d_Qu_makeExpressions_25 rfl ?_
  refine qx_iload_n d_Qu_makeExpressions_7 rfl rfl ?_
  refine qx_iload_n d_Qu_makeExpressions_8 rfl rfl ?_
  refine qx_icmp_geN (t := 28) d_Qu_makeExpressions_9 rfl (by omega) (by omega) (fun c9 => absurd c9 (by omega)) (fun c9 => ?_)
  refine qx_aload_n d_Qu_makeExpressions_12 rfl rfl ?_
  refine qx_iload_n d_Qu_makeExpressions_13 rfl rfl ?_
  refine qx_new d_Qu_makeExpressions_14 nw_Qu_36 rfl ((show zr (qpR (qpR (qpR h 30 0 (some 31)) 30 1 (some 32)) 29 0 (some 30)) 33 from (zr_R (by omega) (zr_R (by omega) (zr_R (by omega) (zr_m (by omega) hz))))) 33 (by omega)) (by decide) (by decide) ?_
  refine qx_dup d_Qu_makeExpressions_17 rfl ?_
  refine qx_callI (As := []) (rest := _) d_Qu_makeExpressions_18 lk_Qu_38 y_Ex_init i_Ex_init rfl rfl rfl rfl (by decide) (by decide) (ct_Ex_init (h := (qpR (qpR (qpR h 30 0 (some 31)) 30 1 (some 32)) 29 0 (some 30))) 33 (Or.inr (Or.inl ⟨1, by omega, rfl⟩)) (show zr (qpR (qpR (qpR h 30 0 (some 31)) 30 1 (some 32)) 29 0 (some 30)) 34 from (zr_R (by omega) (zr_R (by omega) (zr_R (by omega) (zr_m (by omega) hz)))))) ?_
  rintro _ _ _ ⟨rfl, rfl, rfl⟩
  refine qx_aast (j := 1) (t := 1) d_Qu_makeExpressions_21 rfl (fun _ => rfl) rfl rfl rfl (by omega) rfl (by decide) rfl rfl ?_
  refine qx_iincN (w := 1) (lv1 := [_, _, _]) d_Qu_makeExpressions_22 rfl rfl (by decide) rfl ?_
  refine qx_goto (t := 7) d_Qu_makeExpressions_25 rfl ?_
  refine qx_iload_n d_Qu_makeExpressions_7 rfl rfl ?_
  refine qx_iload_n d_Qu_makeExpressions_8 rfl rfl ?_
  refine qx_icmp_geN (t := 28) d_Qu_makeExpressions_9 rfl (by omega) (by omega) (fun c9 => absurd c9 (by omega)) (fun c9 => ?_)
  refine qx_aload_n d_Qu_makeExpressions_12 rfl rfl ?_
  refine qx_iload_n d_Qu_makeExpressions_13 rfl rfl ?_
  refine qx_new d_Qu_makeExpressions_14 nw_Qu_36 rfl ((show zr (qpR (qpR (qpR (qpR (qpR (qpR h 30 0 (some 31)) 30 1 (some 32)) 29 0 (some 30)) 33 0 (some 34)) 33 1 (some 35)) 29 1 (some 33)) 36 from (zr_R (by omega) (zr_R (by omega) (zr_R (by omega) (zr_R (by omega) (zr_R (by omega) (zr_R (by omega) (zr_m (by omega) hz)))))))) 36 (by omega)) (by decide) (by decide) ?_
  refine qx_dup d_Qu_makeExpressions_17 rfl ?_
  refine qx_callI (As := []) (rest := _) d_Qu_makeExpressions_18 lk_Qu_38 y_Ex_init i_Ex_init rfl rfl rfl rfl (by decide) (by decide) (ct_Ex_init (h := (qpR (qpR (qpR (qpR (qpR (qpR h 30 0 (some 31)) 30 1 (some 32)) 29 0 (some 30)) 33 0 (some 34)) 33 1 (some 35)) 29 1 (some 33))) 36 (Or.inr (Or.inl ⟨2, by omega, rfl⟩)) (show zr (qpR (qpR (qpR (qpR (qpR (qpR h 30 0 (some 31)) 30 1 (some 32)) 29 0 (some 30)) 33 0 (some 34)) 33 1 (some 35)) 29 1 (some 33)) 37 from (zr_R (by omega) (zr_R (by omega) (zr_R (by omega) (zr_R (by omega) (zr_R (by omega) (zr_R (by omega) (zr_m (by omega) hz))))))))) ?_
  rintro _ _ _ ⟨rfl, rfl, rfl⟩
  refine qx_aast (j := 2) (t := 1) d_Qu_makeExpressions_21 rfl (fun _ => rfl) rfl rfl rfl (by omega) rfl (by decide) rfl rfl ?_
  refine qx_iincN (w := 1) (lv1 := [_, _, _]) d_Qu_makeExpressions_22 rfl rfl (by decide) rfl ?_
  refine qx_goto (t := 7) d_Qu_makeExpressions_25 rfl ?_
  refine qx_iload_n d_Qu_makeExpressions_7 rfl rfl ?_
  refine qx_iload_n d_Qu_makeExpressions_8 rfl rfl ?_
  refine qx_icmp_geN (t := 28) d_Qu_makeExpressions_9 rfl (by omega) (by omega) (fun c9 => absurd c9 (by omega)) (fun c9 => ?_)
  refine qx_aload_n d_Qu_makeExpressions_12 rfl rfl ?_
  refine qx_iload_n d_Qu_makeExpressions_13 rfl rfl ?_
  refine qx_new d_Qu_makeExpressions_14 nw_Qu_36 rfl ((show zr (qpR (qpR (qpR (qpR (qpR (qpR (qpR (qpR (qpR h 30 0 (some 31)) 30 1 (some 32)) 29 0 (some 30)) 33 0 (some 34)) 33 1 (some 35)) 29 1 (some 33)) 36 0 (some 37)) 36 1 (some 38)) 29 2 (some 36)) 39 from (zr_R (by omega) (zr_R (by omega) (zr_R (by omega) (zr_R (by omega) (zr_R (by omega) (zr_R (by omega) (zr_R (by omega) (zr_R (by omega) (zr_R (by omega) (zr_m (by omega) hz))))))))))) 39 (by omega)) (by decide) (by decide) ?_
  refine qx_dup d_Qu_makeExpressions_17 rfl ?_
  refine qx_callI (As := []) (rest := _) d_Qu_makeExpressions_18 lk_Qu_38 y_Ex_init i_Ex_init rfl rfl rfl rfl (by decide) (by decide) (ct_Ex_init (h := (qpR (qpR (qpR (qpR (qpR (qpR (qpR (qpR (qpR h 30 0 (some 31)) 30 1 (some 32)) 29 0 (some 30)) 33 0 (some 34)) 33 1 (some 35)) 29 1 (some 33)) 36 0 (some 37)) 36 1 (some 38)) 29 2 (some 36))) 39 (Or.inr (Or.inl ⟨3, by omega, rfl⟩)) (show zr (qpR (qpR (qpR (qpR (qpR (qpR (qpR (qpR (qpR h 30 0 (some 31)) 30 1 (some 32)) 29 0 (some 30)) 33 0 (some 34)) 33 1 (some 35)) 29 1 (some 33)) 36 0 (some 37)) 36 1 (some 38)) 29 2 (some 36)) 40 from (zr_R (by omega) (zr_R (by omega) (zr_R (by omega) (zr_R (by omega) (zr_R (by omega) (zr_R (by omega) (zr_R (by omega) (zr_R (by omega) (zr_R (by omega) (zr_m (by omega) hz)))))))))))) ?_
  rintro _ _ _ ⟨rfl, rfl, rfl⟩
  refine qx_aast (j := 3) (t := 1) d_Qu_makeExpressions_21 rfl (fun _ => rfl) rfl rfl rfl (by omega) rfl (by decide) rfl rfl ?_
  refine qx_iincN (w := 1) (lv1 := [_, _, _]) d_Qu_makeExpressions_22 rfl rfl (by decide) rfl ?_
  refine qx_goto (t := 7) d_Qu_makeExpressions_25 rfl ?_
  refine qx_iload_n d_Qu_makeExpressions_7 rfl rfl ?_
  refine qx_iload_n d_Qu_makeExpressions_8 rfl rfl ?_
  refine qx_icmp_geN (t := 28) d_Qu_makeExpressions_9 rfl (by omega) (by omega) (fun c9 => absurd c9 (by omega)) (fun c9 => ?_)
  refine qx_aload_n d_Qu_makeExpressions_12 rfl rfl ?_
  refine qx_iload_n d_Qu_makeExpressions_13 rfl rfl ?_
  refine qx_new d_Qu_makeExpressions_14 nw_Qu_36 rfl ((show zr (qpR (qpR (qpR (qpR (qpR (qpR (qpR (qpR (qpR (qpR (qpR (qpR h 30 0 (some 31)) 30 1 (some 32)) 29 0 (some 30)) 33 0 (some 34)) 33 1 (some 35)) 29 1 (some 33)) 36 0 (some 37)) 36 1 (some 38)) 29 2 (some 36)) 39 0 (some 40)) 39 1 (some 41)) 29 3 (some 39)) 42 from (zr_R (by omega) (zr_R (by omega) (zr_R (by omega) (zr_R (by omega) (zr_R (by omega) (zr_R (by omega) (zr_R (by omega) (zr_R (by omega) (zr_R (by omega) (zr_R (by omega) (zr_R (by omega) (zr_R (by omega) (zr_m (by omega) hz)))))))))))))) 42 (by omega)) (by decide) (by decide) ?_
  refine qx_dup d_Qu_makeExpressions_17 rfl ?_
  refine qx_callI (As := []) (rest := _) d_Qu_makeExpressions_18 lk_Qu_38 y_Ex_init i_Ex_init rfl rfl rfl rfl (by decide) (by decide) (ct_Ex_init (h := (qpR (qpR (qpR (qpR (qpR (qpR (qpR (qpR (qpR (qpR (qpR (qpR h 30 0 (some 31)) 30 1 (some 32)) 29 0 (some 30)) 33 0 (some 34)) 33 1 (some 35)) 29 1 (some 33)) 36 0 (some 37)) 36 1 (some 38)) 29 2 (some 36)) 39 0 (some 40)) 39 1 (some 41)) 29 3 (some 39))) 42 (Or.inr (Or.inl ⟨4, by omega, rfl⟩)) (show zr (qpR (qpR (qpR (qpR (qpR (qpR (qpR (qpR (qpR (qpR (qpR (qpR h 30 0 (some 31)) 30 1 (some 32)) 29 0 (some 30)) 33 0 (some 34)) 33 1 (some 35)) 29 1 (some 33)) 36 0 (some 37)) 36 1 (some 38)) 29 2 (some 36)) 39 0 (some 40)) 39 1 (some 41)) 29 3 (some 39)) 43 from (zr_R (by omega) (zr_R (by omega) (zr_R (by omega) (zr_R (by omega) (zr_R (by omega) (zr_R (by omega) (zr_R (by omega) (zr_R (by omega) (zr_R (by omega) (zr_R (by omega) (zr_R (by omega) (zr_R (by omega) (zr_m (by omega) hz))))))))))))))) ?_
  rintro _ _ _ ⟨rfl, rfl, rfl⟩
  refine qx_aast (j := 4) (t := 1) d_Qu_makeExpressions_21 rfl (fun _ => rfl) rfl rfl rfl (by omega) rfl (by decide) rfl rfl ?_
  refine qx_iincN (w := 1) (lv1 := [_, _, _]) d_Qu_makeExpressions_22 rfl rfl (by decide) rfl ?_
  refine qx_goto (t := 7) d_Qu_makeExpressions_25 rfl ?_
  refine qx_iload_n d_Qu_makeExpressions_7 rfl rfl ?_
  refine qx_iload_n d_Qu_makeExpressions_8 rfl rfl ?_
  refine qx_icmp_geN (t := 28) d_Qu_makeExpressions_9 rfl (by omega) (by omega) (fun c9 => absurd c9 (by omega)) (fun c9 => ?_)
  refine qx_aload_n d_Qu_makeExpressions_12 rfl rfl ?_
  refine qx_iload_n d_Qu_makeExpressions_13 rfl rfl ?_
  refine qx_new d_Qu_makeExpressions_14 nw_Qu_36 rfl ((show zr (qpR (qpR (qpR (qpR (qpR (qpR (qpR (qpR (qpR (qpR (qpR (qpR (qpR (qpR (qpR h 30 0 (some 31)) 30 1 (some 32)) 29 0 (some 30)) 33 0 (some 34)) 33 1 (some 35)) 29 1 (some 33)) 36 0 (some 37)) 36 1 (some 38)) 29 2 (some 36)) 39 0 (some 40)) 39 1 (some 41)) 29 3 (some 39)) 42 0 (some 43)) 42 1 (some 44)) 29 4 (some 42)) 45 from (zr_R (by omega) (zr_R (by omega) (zr_R (by omega) (zr_R (by omega) (zr_R (by omega) (zr_R (by omega) (zr_R (by omega) (zr_R (by omega) (zr_R (by omega) (zr_R (by omega) (zr_R (by omega) (zr_R (by omega) (zr_R (by omega) (zr_R (by omega) (zr_R (by omega) (zr_m (by omega) hz))))))))))))))))) 45 (by omega)) (by decide) (by decide) ?_
  refine qx_dup d_Qu_makeExpressions_17 rfl ?_
  refine qx_callI (As := []) (rest := _) d_Qu_makeExpressions_18 lk_Qu_38 y_Ex_init i_Ex_init rfl rfl rfl rfl (by decide) (by decide) (ct_Ex_init (h := (qpR (qpR (qpR (qpR (qpR (qpR (qpR (qpR (qpR (qpR (qpR (qpR (qpR (qpR (qpR h 30 0 (some 31)) 30 1 (some 32)) 29 0 (some 30)) 33 0 (some 34)) 33 1 (some 35)) 29 1 (some 33)) 36 0 (some 37)) 36 1 (some 38)) 29 2 (some 36)) 39 0 (some 40)) 39 1 (some 41)) 29 3 (some 39)) 42 0 (some 43)) 42 1 (some 44)) 29 4 (some 42))) 45 (Or.inr (Or.inl ⟨5, by omega, rfl⟩)) (show zr (qpR (qpR (qpR (qpR (qpR (qpR (qpR (qpR (qpR (qpR (qpR (qpR (qpR (qpR (qpR h 30 0 (some 31)) 30 1 (some 32)) 29 0 (some 30)) 33 0 (some 34)) 33 1 (some 35)) 29 1 (some 33)) 36 0 (some 37)) 36 1 (some 38)) 29 2 (some 36)) 39 0 (some 40)) 39 1 (some 41)) 29 3 (some 39)) 42 0 (some 43)) 42 1 (some 44)) 29 4 (some 42)) 46 from (zr_R (by omega) (zr_R (by omega) (zr_R (by omega) (zr_R (by omega) (zr_R (by omega) (zr_R (by omega) (zr_R (by omega) (zr_R (by omega) (zr_R (by omega) (zr_R (by omega) (zr_R (by omega) (zr_R (by omega) (zr_R (by omega) (zr_R (by omega) (zr_R (by omega) (zr_m (by omega) hz)))))))))))))))))) ?_
  rintro _ _ _ ⟨rfl, rfl, rfl⟩
  refine qx_aast (j := 5) (t := 1) d_Qu_makeExpressions_21 rfl (fun _ => rfl) rfl rfl rfl (by omega) rfl (by decide) rfl rfl ?_
  refine qx_iincN (w := 1) (lv1 := [_, _, _]) d_Qu_makeExpressions_22 rfl rfl (by decide) rfl ?_
  refine qx_goto (t := 7) d_Qu_makeExpressions_25 rfl ?_
  refine qx_iload_n d_Qu_makeExpressions_7 rfl rfl ?_
  refine qx_iload_n d_Qu_makeExpressions_8 rfl rfl ?_
  refine qx_icmp_geN (t := 28) d_Qu_makeExpressions_9 rfl (by omega) (by omega) (fun c9 => ?_) (fun c9 => absurd c9 (by omega))
  refine qx_aload_n d_Qu_makeExpressions_28 rfl rfl ?_
  exact qx_aret d_Qu_makeExpressions_29 rfl (by first | exact Or.inl ⟨_, rfl⟩ | exact Or.inr ⟨_, rfl⟩) (by decide) (by decide) ⟨rfl, rfl, rfl⟩
set_option maxRecDepth 100000 in
set_option maxHeartbeats 4000000 in
theorem ct_Qu_makeExpressions_3 {h : qH} (hz : zr h 48) : qT mi_Qu_makeExpressions 2 10 162 [.int (nI 3)] h 48 (fun v1 h1 n1 => v1 = some (.ref 48) ∧ h1 = (qpR (qpR (qpR (qpR (qpR (qpR (qpR (qpR (qpR h 49 0 (some 50)) 49 1 (some 51)) 48 0 (some 49)) 52 0 (some 53)) 52 1 (some 54)) 48 1 (some 52)) 55 0 (some 56)) 55 1 (some 57)) 48 2 (some 55)) ∧ n1 = 58) := by
  refine qT.of (lv0 := [_, _, _]) (by decide +kernel) (fun _ _ => Nat.le_of_ble_eq_true rfl) rfl ?_
  refine qx_iload_n d_Qu_makeExpressions_0 rfl rfl ?_
  refine qx_newR (t := 1) d_Qu_makeExpressions_1 cl_Qu_36 (by decide) (fun _ => rfl) rfl rfl rfl (fun j => (hz 48 (by omega) j).2.2) (by decide) (by decide) ?_
  refine qx_astore_n (lv1 := [_, _, _]) d_Qu_makeExpressions_4 rfl (by decide) rfl ?_
  refine qx_iconstN (v := 0) d_Qu_makeExpressions_5 rfl ?_
  refine qx_istore_n (lv1 := [_, _, _]) d_Qu_makeExpressions_6 rfl (by decide) rfl ?_
  refine qx_iload_n d_Qu_makeExpressions_7 rfl rfl ?_
  refine qx_iload_n d_Qu_makeExpressions_8 rfl rfl ?_
  refine qx_icmp_geN (t := 28) d_Qu_makeExpressions_9 rfl (by omega) (by omega) (fun c9 => absurd c9 (by omega)) (fun c9 => ?_)
  refine qx_aload_n d_Qu_makeExpressions_12 rfl rfl ?_
  refine qx_iload_n d_Qu_makeExpressions_13 rfl rfl ?_
  refine qx_new d_Qu_makeExpressions_14 nw_Qu_36 rfl (hz 49 (by omega)) (by decide) (by decide) ?_
  refine qx_dup d_Qu_makeExpressions_17 rfl ?_
  refine qx_callI (As := []) (rest := _) d_Qu_makeExpressions_18 lk_Qu_38 y_Ex_init i_Ex_init rfl rfl rfl rfl (by decide) (by decide) (ct_Ex_init (h := h) 49 (Or.inr (Or.inr ⟨0, by omega, rfl⟩)) (show zr h 50 from (zr_m (by omega) hz))) ?_
  rintro _ _ _ ⟨rfl, rfl, rfl⟩
  refine qx_aast (j := 0) (t := 1) d_Qu_makeExpressions_21 rfl (fun _ => rfl) rfl rfl rfl (by omega) rfl (by decide) rfl rfl ?_
  refine qx_iincN (w := 1) (lv1 := [_, _, _]) d_Qu_makeExpressions_22 rfl rfl (by decide) rfl ?_
  refine qx_goto (t := 7) d_Qu_makeExpressions_25 rfl ?_
  refine qx_iload_n d_Qu_makeExpressions_7 rfl rfl ?_
  refine qx_iload_n d_Qu_makeExpressions_8 rfl rfl ?_
  refine qx_icmp_geN (t := 28) d_Qu_makeExpressions_9 rfl (by omega) (by omega) (fun c9 => absurd c9 (by omega)) (fun c9 => ?_)
  refine qx_aload_n d_Qu_makeExpressions_12 rfl rfl ?_
  refine qx_iload_n d_Qu_makeExpressions_13 rfl rfl ?_
  refine qx_new d_Qu_makeExpressions_14 nw_Qu_36 rfl ((show zr (qpR (qpR (qpR h 49 0 (some 50)) 49 1 (some 51)) 48 0 (some 49)) 52 from (zr_R (by omega) (zr_R (by omega) (zr_R (by omega) (zr_m (by omega) hz))))) 52 (by omega)) (by decide) (by decide) ?_
  refine qx_dup d_Qu_makeExpressions_17 rfl ?_
  refine qx_callI (As := []) (rest := _) d_Qu_makeExpressions_18 lk_Qu_38 y_Ex_init i_Ex_init rfl rfl rfl rfl (by decide) (by decide) (ct_Ex_init (h := (qpR (qpR (qpR h 49 0 (some 50)) 49 1 (some 51)) 48 0 (some 49))) 52 (Or.inr (Or.inr ⟨1, by omega, rfl⟩)) (show zr (qpR (qpR (qpR h 49 0 (some 50)) 49 1 (some 51)) 48 0 (some 49)) 53 from (zr_R (by omega) (zr_R (by omega) (zr_R (by omega) (zr_m (by omega) hz)))))) ?_
  rintro _ _ _ ⟨rfl, rfl, rfl⟩
  refine qx_aast (j := 1) (t := 1) d_Qu_makeExpressions_21 rfl (fun _ => rfl) rfl rfl rfl (by omega) rfl (by decide) rfl rfl ?_
  refine qx_iincN (w := 1) (lv1 := [_, _, _]) d_Qu_makeExpressions_22 rfl rfl (by decide) rfl ?_
  refine qx_goto (t := 7) d_Qu_makeExpressions_25 rfl ?_
  refine qx_iload_n d_Qu_makeExpressions_7 rfl rfl ?_
  refine qx_iload_n d_Qu_makeExpressions_8 rfl rfl ?_
  refine qx_icmp_geN (t := 28) d_Qu_makeExpressions_9 rfl (by omega) (by omega) (fun c9 => absurd c9 (by omega)) (fun c9 => ?_)
  refine qx_aload_n d_Qu_makeExpressions_12 rfl rfl ?_
  refine qx_iload_n d_Qu_makeExpressions_13 rfl rfl ?_
  refine qx_new d_Qu_makeExpressions_14 nw_Qu_36 rfl ((show zr (qpR (qpR (qpR (qpR (qpR (qpR h 49 0 (some 50)) 49 1 (some 51)) 48 0 (some 49)) 52 0 (some 53)) 52 1 (some 54)) 48 1 (some 52)) 55 from (zr_R (by omega) (zr_R (by omega) (zr_R (by omega) (zr_R (by omega) (zr_R (by omega) (zr_R (by omega) (zr_m (by omega) hz)))))))) 55 (by omega)) (by decide) (by decide) ?_
  refine qx_dup d_Qu_makeExpressions_17 rfl ?_
  refine qx_callI (As := []) (rest := _) d_Qu_makeExpressions_18 lk_Qu_38 y_Ex_init i_Ex_init rfl rfl rfl rfl (by decide) (by decide) (ct_Ex_init (h := (qpR (qpR (qpR (qpR (qpR (qpR h 49 0 (some 50)) 49 1 (some 51)) 48 0 (some 49)) 52 0 (some 53)) 52 1 (some 54)) 48 1 (some 52))) 55 (Or.inr (Or.inr ⟨2, by omega, rfl⟩)) (show zr (qpR (qpR (qpR (qpR (qpR (qpR h 49 0 (some 50)) 49 1 (some 51)) 48 0 (some 49)) 52 0 (some 53)) 52 1 (some 54)) 48 1 (some 52)) 56 from (zr_R (by omega) (zr_R (by omega) (zr_R (by omega) (zr_R (by omega) (zr_R (by omega) (zr_R (by omega) (zr_m (by omega) hz))))))))) ?_
  rintro _ _ _ ⟨rfl, rfl, rfl⟩
  refine qx_aast (j := 2) (t := 1) d_Qu_makeExpressions_21 rfl (fun _ => rfl) rfl rfl rfl (by omega) rfl (by decide) rfl rfl ?_
  refine qx_iincN (w := 1) (lv1 := [_, _, _]) d_Qu_makeExpressions_22 rfl rfl (by decide) rfl ?_
  refine qx_goto (t := 7) d_Qu_makeExpressions_25 rfl ?_
  refine qx_iload_n d_Qu_makeExpressions_7 rfl rfl ?_
  refine qx_iload_n d_Qu_makeExpressions_8 rfl rfl ?_
  refine qx_icmp_geN (t := 28) d_Qu_makeExpressions_9 rfl (by omega) (by omega) (fun c9 => ?_) (fun c9 => absurd c9 (by omega))
  refine qx_aload_n d_Qu_makeExpressions_28 rfl rfl ?_
  exact qx_aret d_Qu_makeExpressions_29 rfl (by first | exact Or.inl ⟨_, rfl⟩ | exact Or.inr ⟨_, rfl⟩) (by decide) (by decide) ⟨rfl, rfl, rfl⟩
