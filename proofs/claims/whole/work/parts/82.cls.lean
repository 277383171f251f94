theorem aB_f {f : Nat → Bool} : ∀ n, aB false f n = false
  | 0 => rfl
  | n + 1 => by show (aB false f n && _) = false; rw [aB_f n]; rfl
theorem aB_c {b : Bool} {f g : Nat → Bool} : ∀ n, (∀ c, c < n → f c = g c) → aB b f n = aB b g n
  | 0, _ => rfl
  | n + 1, h => by
    show (aB b f n && f n) = (aB b g n && g n)
    rw [aB_c n (fun c hc => h c (by omega)), h n (by omega)]
theorem pOf_n {wc i : Nat} (hi : i < 2 ^ 31) : pOf wc (some (lN i)) = i % wc := by
  show ((lN i).toInt % (wc : Int)).toNat = i % wc
  rw [lN_toInt hi]
  rfl
theorem sc_row_0 {ti : Nat → Int32} {tn : Nat → Bool} {cv : Nat → Int64} {cb : Nat → Bool} {t i : Nat} : ∀ c, c < 4 → c / 2 = 0 → (fun c => if (va_up (va_up cb 0 (tn (24 * t + (i * 2 + 0)))) 1 (tn (24 * t + (i * 2 + 1)))) c = true then none else some ((va_up (va_up cv 0 (if tn (24 * t + (i * 2 + 0)) = true then 0 else (ti (24 * t + (i * 2 + 0))).toInt64)) 1 (if tn (24 * t + (i * 2 + 1)) = true then 0 else (ti (24 * t + (i * 2 + 1))).toInt64)) c)) c = scR (fun k => (ti k).toInt64) tn t 0 i c := by
  intro c h4 hw
  have e : c = 0 ∨ c = 1 := by omega
  rcases e with rfl | rfl
  · show (if tn (24 * t + (i * 2 + 0)) = true then none else some (if tn (24 * t + (i * 2 + 0)) = true then 0 else (ti (24 * t + (i * 2 + 0))).toInt64)) = (if tn (24 * t + 2 * i + 0) = true then none else some ((ti (24 * t + 2 * i + 0)).toInt64))
    rw [show 24 * t + 2 * i + 0 = 24 * t + (i * 2 + 0) by omega]
    exact c_if
  · show (if tn (24 * t + (i * 2 + 1)) = true then none else some (if tn (24 * t + (i * 2 + 1)) = true then 0 else (ti (24 * t + (i * 2 + 1))).toInt64)) = (if tn (24 * t + 2 * i + 1) = true then none else some ((ti (24 * t + 2 * i + 1)).toInt64))
    rw [show 24 * t + 2 * i + 1 = 24 * t + (i * 2 + 1) by omega]
    exact c_if
theorem sc_row_1 {ti : Nat → Int32} {tn : Nat → Bool} {cv : Nat → Int64} {cb : Nat → Bool} {t i : Nat} : ∀ c, c < 4 → c / 2 = 1 → (fun c => if (va_up (va_up cb 2 (tn (24 * t + (i * 2 + 0)))) 3 (tn (24 * t + (i * 2 + 1)))) c = true then none else some ((va_up (va_up cv 2 (if tn (24 * t + (i * 2 + 0)) = true then 0 else (ti (24 * t + (i * 2 + 0))).toInt64)) 3 (if tn (24 * t + (i * 2 + 1)) = true then 0 else (ti (24 * t + (i * 2 + 1))).toInt64)) c)) c = scR (fun k => (ti k).toInt64) tn t 1 i c := by
  intro c h4 hw
  have e : c = 2 ∨ c = 3 := by omega
  rcases e with rfl | rfl
  · show (if tn (24 * t + (i * 2 + 0)) = true then none else some (if tn (24 * t + (i * 2 + 0)) = true then 0 else (ti (24 * t + (i * 2 + 0))).toInt64)) = (if tn (24 * t + 2 * i + 0) = true then none else some ((ti (24 * t + 2 * i + 0)).toInt64))
    rw [show 24 * t + 2 * i + 0 = 24 * t + (i * 2 + 0) by omega]
    exact c_if
  · show (if tn (24 * t + (i * 2 + 1)) = true then none else some (if tn (24 * t + (i * 2 + 1)) = true then 0 else (ti (24 * t + (i * 2 + 1))).toInt64)) = (if tn (24 * t + 2 * i + 1) = true then none else some ((ti (24 * t + 2 * i + 1)).toInt64))
    rw [show 24 * t + 2 * i + 1 = 24 * t + (i * 2 + 1) by omega]
    exact c_if
set_option maxRecDepth 100000 in
set_option maxHeartbeats 4000000 in
theorem ct_Pl_scannedRows_0 {h : qH} (ti : Nat → Int32) (tn : Nat → Bool) (rw : Nat → Nat) (kd fi se le ri nc : Nat) (CE : Nat → List xP) (pc : Nat → Nat) (hC : plC h ti tn rw kd fi se le ri nc CE pc) (wc : Nat) (h1w : 1 ≤ wc) (hw4 : wc ≤ 4) (p : Nat) (hp : p < 4) (t : Nat) (ht : t < 3) (cv0 : Nat → Int64) (cb0 : Nat → Bool) (vs0 : Nat → Int64) (ns0 : Nat → Bool) : qT mi_Pl_scannedRows 5 0 0 [.ref 1, .int (nI 0), .int (nI t), .int (nI p), .int (nI wc)] (nR (lR h cv0 cb0) vs0 ns0) NN (fun v1 h1 n1 => v1 = some (.int (nI (cntB (fun q => (aB (decide (q % wc = p)) (fun c => !pu kd 0 (CE c) || xTru (scR (fun k => (ti k).toInt64) tn t 0 q) (CE c)) nc)) (rw t)))) ∧ (∃ cv2 cb2 vs2 ns2, h1 = nR (lR h cv2 cb2) vs2 ns2) ∧ n1 = NN) := by
  have hr12 := (hC.2.1 t ht).2.2.2
  refine qT.of (lv0 := [_, _, _, _, _, _, _]) (by decide +kernel) (fun _ _ => Nat.le_of_ble_eq_true rfl) rfl ?_
  have key : ∀ (m i : Nat) (cv : Nat → Int64) (cb : Nat → Bool) (vs : Nat → Int64) (ns : Nat → Bool), i + m = rw t → qX mi_Pl_scannedRows 5 none 0 0 6 [.ref 1, .int (nI 0), .int (nI t), .int (nI p), .int (nI wc), .int (nI (cntB (fun q => (aB (decide (q % wc = p)) (fun c => !pu kd 0 (CE c) || xTru (scR (fun k => (ti k).toInt64) tn t 0 q) (CE c)) nc)) i)), .int (nI i)] [] (nR (lR h cv cb) vs ns) NN 0 0 (fun v1 h1 n1 => v1 = some (.int (nI (cntB (fun q => (aB (decide (q % wc = p)) (fun c => !pu kd 0 (CE c) || xTru (scR (fun k => (ti k).toInt64) tn t 0 q) (CE c)) nc)) (rw t)))) ∧ (∃ cv2 cb2 vs2 ns2, h1 = nR (lR h cv2 cb2) vs2 ns2) ∧ n1 = NN) := by
    intro m
    induction m with
    | zero =>
      intro i cv cb vs ns hi
      have ei : i = rw t := by omega
      refine qx_iload d_Pl_scannedRows_6 rfl ?_
      refine qx_aload_n d_Pl_scannedRows_8 rfl rfl ?_
      refine qx_getR d_Pl_scannedRows_9 fR_Pl_11 rfl rfl (congrFun hC.1.1 0) ?_
      refine qx_iload_n d_Pl_scannedRows_12 rfl rfl ?_
      refine qx_aald (j := t) (t := 0)  d_Pl_scannedRows_13 rfl (fun _ => rfl) rfl rfl rfl ht (hC.1.2.1 t ht) ?_
      refine qx_getI d_Pl_scannedRows_14 fI_Pl_68 (tb_pl ht).1 (tb_pl ht).2.2.2.1 (show _ = nI (rw t) from (congrFun ((qun (by omega)).trans (qun (by omega))) 2).trans (hC.2.1 t ht).2.2.1) ?_
      refine qx_icmp_geN (t := 74) d_Pl_scannedRows_17 rfl (by omega) (by omega) (fun c17 => ?_) (fun c17 => absurd c17 (by omega))
      refine qx_iload d_Pl_scannedRows_74 rfl ?_
      exact qx_iret d_Pl_scannedRows_76 rfl rfl (by omega) (by omega) ⟨by rw [ei], ⟨cv, cb, vs, ns, rfl⟩, rfl⟩
    | succ m ih =>
      intro i cv cb vs ns hi
      have hs : (cntB (fun q => (aB (decide (q % wc = p)) (fun c => !pu kd 0 (CE c) || xTru (scR (fun k => (ti k).toInt64) tn t 0 q) (CE c)) nc)) (i + 1)) = if (aB (decide (i % wc = p)) (fun c => !pu kd 0 (CE c) || xTru (scR (fun k => (ti k).toInt64) tn t 0 i) (CE c)) nc) = true then (cntB (fun q => (aB (decide (q % wc = p)) (fun c => !pu kd 0 (CE c) || xTru (scR (fun k => (ti k).toInt64) tn t 0 q) (CE c)) nc)) i) + 1 else (cntB (fun q => (aB (decide (q % wc = p)) (fun c => !pu kd 0 (CE c) || xTru (scR (fun k => (ti k).toInt64) tn t 0 q) (CE c)) nc)) i) := rfl
      have hpo : pOf wc (if false = true then none else some (lN i)) = i % wc := pOf_n (by omega)
      have hml : i % wc < wc := Nat.mod_lt _ (by omega)
      have hcg : aB true (fun c => !pu kd 0 (CE c) || xTru (fun c => if (va_up (va_up cb 0 (tn (24 * t + (i * 2 + 0)))) 1 (tn (24 * t + (i * 2 + 1)))) c = true then none else some ((va_up (va_up cv 0 (if tn (24 * t + (i * 2 + 0)) = true then 0 else (ti (24 * t + (i * 2 + 0))).toInt64)) 1 (if tn (24 * t + (i * 2 + 1)) = true then 0 else (ti (24 * t + (i * 2 + 1))).toInt64)) c)) (CE c)) nc = aB true (fun c => !pu kd 0 (CE c) || xTru (scR (fun k => (ti k).toInt64) tn t 0 i) (CE c)) nc := by
        refine aB_c nc (fun c hc => ?_)
        cases q : pu kd 0 (CE c)
        · rfl
        · rw [xTru_sc (by omega) (hC.2.2.2.2.2 c hc).2.2.2.1 sc_row_0 q]
      refine qx_iload d_Pl_scannedRows_6 rfl ?_
      refine qx_aload_n d_Pl_scannedRows_8 rfl rfl ?_
      refine qx_getR d_Pl_scannedRows_9 fR_Pl_11 rfl rfl (congrFun hC.1.1 0) ?_
      refine qx_iload_n d_Pl_scannedRows_12 rfl rfl ?_
      refine qx_aald (j := t) (t := 0)  d_Pl_scannedRows_13 rfl (fun _ => rfl) rfl rfl rfl ht (hC.1.2.1 t ht) ?_
      refine qx_getI d_Pl_scannedRows_14 fI_Pl_68 (tb_pl ht).1 (tb_pl ht).2.2.2.1 (show _ = nI (rw t) from (congrFun ((qun (by omega)).trans (qun (by omega))) 2).trans (hC.2.1 t ht).2.2.1) ?_
      refine qx_icmp_geN (t := 74) d_Pl_scannedRows_17 rfl (by omega) (by omega) (fun c17 => absurd c17 (by omega)) (fun c17 => ?_)
      refine qx_iload d_Pl_scannedRows_20 rfl ?_
      refine qx_i2lN d_Pl_scannedRows_22 (by omega) ?_
      refine qx_iconst (v := b2i false) d_Pl_scannedRows_23 rfl ?_
      refine qx_iload d_Pl_scannedRows_24 rfl ?_
      refine qx_callS (As := [_, _, _]) (rest := _) d_Pl_scannedRows_26 lk_Pl_206 y_Pl_partOf s_Pl_partOf rfl rfl rfl rfl (by decide) (by decide) (ct_Pl_partOf (lN i) false wc h1w hw4) ?_
      rintro _ _ _ ⟨rfl, rfl, rfl⟩
      rw [hpo]
      refine qx_iload_n d_Pl_scannedRows_29 rfl rfl ?_
      refine qx_icmp_neN (t := 68) d_Pl_scannedRows_30 rfl (by omega) (by omega) (fun c30 => ?_) (fun c30 => ?_)
      · refine qx_iincN (w := 1) (lv1 := [_, _, _, _, _, _, _]) d_Pl_scannedRows_68 rfl rfl (by decide) rfl ?_
        refine qx_goto (t := 6) d_Pl_scannedRows_71 rfl ?_
        first
          | (have z := c62
             have k2 := ih (i + 1) (va_up (va_up cv 0 (if tn (24 * t + (i * 2 + 0)) = true then 0 else (ti (24 * t + (i * 2 + 0))).toInt64)) 1 (if tn (24 * t + (i * 2 + 1)) = true then 0 else (ti (24 * t + (i * 2 + 1))).toInt64)) (va_up (va_up cb 0 (tn (24 * t + (i * 2 + 0)))) 1 (tn (24 * t + (i * 2 + 1)))) vs3 ns3 (by omega)
             rw [hs, decide_eq_true c30, ← hcg, z] at k2
             exact k2)
          | (have k2 := ih (i + 1) cv cb vs ns (by omega)
             rw [hs, decide_eq_false c30, aB_f] at k2
             exact k2)
      · refine qx_aload_n d_Pl_scannedRows_33 rfl rfl ?_
        refine qx_getR d_Pl_scannedRows_34 fR_Pl_27 rfl rfl (congrFun hC.1.1 2) ?_
        refine qx_iload_n d_Pl_scannedRows_37 rfl rfl ?_
        refine qx_if_neN (t := 45) d_Pl_scannedRows_38 rfl (by omega) (fun c38 => absurd c38 (by omega)) (fun c38 => ?_)
        refine qx_iconstN (v := 0) d_Pl_scannedRows_41 rfl ?_
        refine qx_goto (t := 46) d_Pl_scannedRows_42 rfl ?_
        refine qx_aload_n d_Pl_scannedRows_46 rfl rfl ?_
        refine qx_getR d_Pl_scannedRows_47 fR_Pl_11 rfl rfl (congrFun hC.1.1 0) ?_
        refine qx_iload_n d_Pl_scannedRows_50 rfl rfl ?_
        refine qx_aald (j := t) (t := 0)  d_Pl_scannedRows_51 rfl (fun _ => rfl) rfl rfl rfl ht (hC.1.2.1 t ht) ?_
        refine qx_iload d_Pl_scannedRows_52 rfl ?_
        refine qx_callV (As := [_, _, _]) (rest := _) d_Pl_scannedRows_54 lk_Pl_116 y_Ma_load v_Ma_load rfl rfl rfl (by decide) rfl rfl rfl rfl (by decide) (by decide) (ct_Ma_load_0 hC.1.2.2.1 cv cb vs ns t ht (hC.1.2.2.2.1 t ht) (fun q => ti (24 * t + q)) (fun q => tn (24 * t + q)) (hC.2.1 t ht).1 (hC.2.1 t ht).2.1 i (by omega)) ?_
        rintro _ _ _ ⟨rfl, rfl, rfl⟩
        refine qx_aload_n d_Pl_scannedRows_57 rfl rfl ?_
        refine qx_iload_n d_Pl_scannedRows_58 rfl rfl ?_
        refine qx_callV (As := [_]) (rest := _) d_Pl_scannedRows_59 lk_Pl_210 y_Pl_passesPushed v_Pl_passesPushed rfl rfl rfl (by decide) rfl rfl rfl rfl (by decide) (by decide) (ct_Pl_passesPushed ti tn rw kd fi se le ri nc CE pc hC (va_up (va_up cv 0 (if tn (24 * t + (i * 2 + 0)) = true then 0 else (ti (24 * t + (i * 2 + 0))).toInt64)) 1 (if tn (24 * t + (i * 2 + 1)) = true then 0 else (ti (24 * t + (i * 2 + 1))).toInt64)) (va_up (va_up cb 0 (tn (24 * t + (i * 2 + 0)))) 1 (tn (24 * t + (i * 2 + 1)))) vs ns (fun c => if (va_up (va_up cb 0 (tn (24 * t + (i * 2 + 0)))) 1 (tn (24 * t + (i * 2 + 1)))) c = true then none else some ((va_up (va_up cv 0 (if tn (24 * t + (i * 2 + 0)) = true then 0 else (ti (24 * t + (i * 2 + 0))).toInt64)) 1 (if tn (24 * t + (i * 2 + 1)) = true then 0 else (ti (24 * t + (i * 2 + 1))).toInt64)) c)) (fun c _ => rfl) 0 (by omega)) ?_
        rintro _ _ _ ⟨rfl, ⟨vs3, ns3, rfl⟩, rfl⟩
        refine qx_if_eqB (t := 68) d_Pl_scannedRows_62 rfl (fun c62 => ?_) (fun c62 => ?_)
        · refine qx_iincN (w := 1) (lv1 := [_, _, _, _, _, _, _]) d_Pl_scannedRows_68 rfl rfl (by decide) rfl ?_
          refine qx_goto (t := 6) d_Pl_scannedRows_71 rfl ?_
          first
            | (have z := c62
               have k2 := ih (i + 1) (va_up (va_up cv 0 (if tn (24 * t + (i * 2 + 0)) = true then 0 else (ti (24 * t + (i * 2 + 0))).toInt64)) 1 (if tn (24 * t + (i * 2 + 1)) = true then 0 else (ti (24 * t + (i * 2 + 1))).toInt64)) (va_up (va_up cb 0 (tn (24 * t + (i * 2 + 0)))) 1 (tn (24 * t + (i * 2 + 1)))) vs3 ns3 (by omega)
               rw [hs, decide_eq_true c30, ← hcg, z] at k2
               exact k2)
            | (have k2 := ih (i + 1) cv cb vs ns (by omega)
               rw [hs, decide_eq_false c30, aB_f] at k2
               exact k2)
        · refine qx_iincN (w := 1) (lv1 := [_, _, _, _, _, _, _]) d_Pl_scannedRows_65 rfl rfl (by decide) rfl ?_
          refine qx_iincN (w := 1) (lv1 := [_, _, _, _, _, _, _]) d_Pl_scannedRows_68 rfl rfl (by decide) rfl ?_
          refine qx_goto (t := 6) d_Pl_scannedRows_71 rfl ?_
          first
            | (have z := c62
               have k2 := ih (i + 1) (va_up (va_up cv 0 (if tn (24 * t + (i * 2 + 0)) = true then 0 else (ti (24 * t + (i * 2 + 0))).toInt64)) 1 (if tn (24 * t + (i * 2 + 1)) = true then 0 else (ti (24 * t + (i * 2 + 1))).toInt64)) (va_up (va_up cb 0 (tn (24 * t + (i * 2 + 0)))) 1 (tn (24 * t + (i * 2 + 1)))) vs3 ns3 (by omega)
               rw [hs, decide_eq_true c30, ← hcg, z] at k2
               exact k2)
            | (have k2 := ih (i + 1) cv cb vs ns (by omega)
               rw [hs, decide_eq_false c30, aB_f] at k2
               exact k2)
  refine qx_iconstN (v := 0) d_Pl_scannedRows_0 rfl ?_
  refine qx_istore (lv1 := [_, _, _, _, _, _, _]) d_Pl_scannedRows_1 (by decide) rfl ?_
  refine qx_iconstN (v := 0) d_Pl_scannedRows_3 rfl ?_
  refine qx_istore (lv1 := [_, _, _, _, _, _, _]) d_Pl_scannedRows_4 (by decide) rfl ?_
  exact key (rw t) 0 cv0 cb0 vs0 ns0 (by omega)
set_option maxRecDepth 100000 in
set_option maxHeartbeats 4000000 in
theorem ct_Pl_scannedRows_1 {h : qH} (ti : Nat → Int32) (tn : Nat → Bool) (rw : Nat → Nat) (kd fi se le ri nc : Nat) (CE : Nat → List xP) (pc : Nat → Nat) (hC : plC h ti tn rw kd fi se le ri nc CE pc) (wc : Nat) (h1w : 1 ≤ wc) (hw4 : wc ≤ 4) (p : Nat) (hp : p < 4) (t : Nat) (ht : t < 3) (cv0 : Nat → Int64) (cb0 : Nat → Bool) (vs0 : Nat → Int64) (ns0 : Nat → Bool) : qT mi_Pl_scannedRows 5 0 0 [.ref 1, .int (nI 1), .int (nI t), .int (nI p), .int (nI wc)] (nR (lR h cv0 cb0) vs0 ns0) NN (fun v1 h1 n1 => v1 = some (.int (nI (cntB (fun q => (aB (decide (q % wc = p)) (fun c => !pu kd 1 (CE c) || xTru (scR (fun k => (ti k).toInt64) tn t 1 q) (CE c)) nc)) (rw t)))) ∧ (∃ cv2 cb2 vs2 ns2, h1 = nR (lR h cv2 cb2) vs2 ns2) ∧ n1 = NN) := by
  have hr12 := (hC.2.1 t ht).2.2.2
  refine qT.of (lv0 := [_, _, _, _, _, _, _]) (by decide +kernel) (fun _ _ => Nat.le_of_ble_eq_true rfl) rfl ?_
  have key : ∀ (m i : Nat) (cv : Nat → Int64) (cb : Nat → Bool) (vs : Nat → Int64) (ns : Nat → Bool), i + m = rw t → qX mi_Pl_scannedRows 5 none 0 0 6 [.ref 1, .int (nI 1), .int (nI t), .int (nI p), .int (nI wc), .int (nI (cntB (fun q => (aB (decide (q % wc = p)) (fun c => !pu kd 1 (CE c) || xTru (scR (fun k => (ti k).toInt64) tn t 1 q) (CE c)) nc)) i)), .int (nI i)] [] (nR (lR h cv cb) vs ns) NN 0 0 (fun v1 h1 n1 => v1 = some (.int (nI (cntB (fun q => (aB (decide (q % wc = p)) (fun c => !pu kd 1 (CE c) || xTru (scR (fun k => (ti k).toInt64) tn t 1 q) (CE c)) nc)) (rw t)))) ∧ (∃ cv2 cb2 vs2 ns2, h1 = nR (lR h cv2 cb2) vs2 ns2) ∧ n1 = NN) := by
    intro m
    induction m with
    | zero =>
      intro i cv cb vs ns hi
      have ei : i = rw t := by omega
      refine qx_iload d_Pl_scannedRows_6 rfl ?_
      refine qx_aload_n d_Pl_scannedRows_8 rfl rfl ?_
      refine qx_getR d_Pl_scannedRows_9 fR_Pl_11 rfl rfl (congrFun hC.1.1 0) ?_
      refine qx_iload_n d_Pl_scannedRows_12 rfl rfl ?_
      refine qx_aald (j := t) (t := 0)  d_Pl_scannedRows_13 rfl (fun _ => rfl) rfl rfl rfl ht (hC.1.2.1 t ht) ?_
      refine qx_getI d_Pl_scannedRows_14 fI_Pl_68 (tb_pl ht).1 (tb_pl ht).2.2.2.1 (show _ = nI (rw t) from (congrFun ((qun (by omega)).trans (qun (by omega))) 2).trans (hC.2.1 t ht).2.2.1) ?_
      refine qx_icmp_geN (t := 74) d_Pl_scannedRows_17 rfl (by omega) (by omega) (fun c17 => ?_) (fun c17 => absurd c17 (by omega))
      refine qx_iload d_Pl_scannedRows_74 rfl ?_
      exact qx_iret d_Pl_scannedRows_76 rfl rfl (by omega) (by omega) ⟨by rw [ei], ⟨cv, cb, vs, ns, rfl⟩, rfl⟩
    | succ m ih =>
      intro i cv cb vs ns hi
      have hs : (cntB (fun q => (aB (decide (q % wc = p)) (fun c => !pu kd 1 (CE c) || xTru (scR (fun k => (ti k).toInt64) tn t 1 q) (CE c)) nc)) (i + 1)) = if (aB (decide (i % wc = p)) (fun c => !pu kd 1 (CE c) || xTru (scR (fun k => (ti k).toInt64) tn t 1 i) (CE c)) nc) = true then (cntB (fun q => (aB (decide (q % wc = p)) (fun c => !pu kd 1 (CE c) || xTru (scR (fun k => (ti k).toInt64) tn t 1 q) (CE c)) nc)) i) + 1 else (cntB (fun q => (aB (decide (q % wc = p)) (fun c => !pu kd 1 (CE c) || xTru (scR (fun k => (ti k).toInt64) tn t 1 q) (CE c)) nc)) i) := rfl
      have hpo : pOf wc (if false = true then none else some (lN i)) = i % wc := pOf_n (by omega)
      have hml : i % wc < wc := Nat.mod_lt _ (by omega)
      have hcg : aB true (fun c => !pu kd 1 (CE c) || xTru (fun c => if (va_up (va_up cb 2 (tn (24 * t + (i * 2 + 0)))) 3 (tn (24 * t + (i * 2 + 1)))) c = true then none else some ((va_up (va_up cv 2 (if tn (24 * t + (i * 2 + 0)) = true then 0 else (ti (24 * t + (i * 2 + 0))).toInt64)) 3 (if tn (24 * t + (i * 2 + 1)) = true then 0 else (ti (24 * t + (i * 2 + 1))).toInt64)) c)) (CE c)) nc = aB true (fun c => !pu kd 1 (CE c) || xTru (scR (fun k => (ti k).toInt64) tn t 1 i) (CE c)) nc := by
        refine aB_c nc (fun c hc => ?_)
        cases q : pu kd 1 (CE c)
        · rfl
        · rw [xTru_sc (by omega) (hC.2.2.2.2.2 c hc).2.2.2.1 sc_row_1 q]
      refine qx_iload d_Pl_scannedRows_6 rfl ?_
      refine qx_aload_n d_Pl_scannedRows_8 rfl rfl ?_
      refine qx_getR d_Pl_scannedRows_9 fR_Pl_11 rfl rfl (congrFun hC.1.1 0) ?_
      refine qx_iload_n d_Pl_scannedRows_12 rfl rfl ?_
      refine qx_aald (j := t) (t := 0)  d_Pl_scannedRows_13 rfl (fun _ => rfl) rfl rfl rfl ht (hC.1.2.1 t ht) ?_
      refine qx_getI d_Pl_scannedRows_14 fI_Pl_68 (tb_pl ht).1 (tb_pl ht).2.2.2.1 (show _ = nI (rw t) from (congrFun ((qun (by omega)).trans (qun (by omega))) 2).trans (hC.2.1 t ht).2.2.1) ?_
      refine qx_icmp_geN (t := 74) d_Pl_scannedRows_17 rfl (by omega) (by omega) (fun c17 => absurd c17 (by omega)) (fun c17 => ?_)
      refine qx_iload d_Pl_scannedRows_20 rfl ?_
      refine qx_i2lN d_Pl_scannedRows_22 (by omega) ?_
      refine qx_iconst (v := b2i false) d_Pl_scannedRows_23 rfl ?_
      refine qx_iload d_Pl_scannedRows_24 rfl ?_
      refine qx_callS (As := [_, _, _]) (rest := _) d_Pl_scannedRows_26 lk_Pl_206 y_Pl_partOf s_Pl_partOf rfl rfl rfl rfl (by decide) (by decide) (ct_Pl_partOf (lN i) false wc h1w hw4) ?_
      rintro _ _ _ ⟨rfl, rfl, rfl⟩
      rw [hpo]
      refine qx_iload_n d_Pl_scannedRows_29 rfl rfl ?_
      refine qx_icmp_neN (t := 68) d_Pl_scannedRows_30 rfl (by omega) (by omega) (fun c30 => ?_) (fun c30 => ?_)
      · refine qx_iincN (w := 1) (lv1 := [_, _, _, _, _, _, _]) d_Pl_scannedRows_68 rfl rfl (by decide) rfl ?_
        refine qx_goto (t := 6) d_Pl_scannedRows_71 rfl ?_
        first
          | (have z := c62
             have k2 := ih (i + 1) (va_up (va_up cv 2 (if tn (24 * t + (i * 2 + 0)) = true then 0 else (ti (24 * t + (i * 2 + 0))).toInt64)) 3 (if tn (24 * t + (i * 2 + 1)) = true then 0 else (ti (24 * t + (i * 2 + 1))).toInt64)) (va_up (va_up cb 2 (tn (24 * t + (i * 2 + 0)))) 3 (tn (24 * t + (i * 2 + 1)))) vs3 ns3 (by omega)
             rw [hs, decide_eq_true c30, ← hcg, z] at k2
             exact k2)
          | (have k2 := ih (i + 1) cv cb vs ns (by omega)
             rw [hs, decide_eq_false c30, aB_f] at k2
             exact k2)
      · refine qx_aload_n d_Pl_scannedRows_33 rfl rfl ?_
        refine qx_getR d_Pl_scannedRows_34 fR_Pl_27 rfl rfl (congrFun hC.1.1 2) ?_
        refine qx_iload_n d_Pl_scannedRows_37 rfl rfl ?_
        refine qx_if_neN (t := 45) d_Pl_scannedRows_38 rfl (by omega) (fun c38 => ?_) (fun c38 => absurd c38 (by omega))
        refine qx_iconstN (v := 2) d_Pl_scannedRows_45 rfl ?_
        refine qx_aload_n d_Pl_scannedRows_46 rfl rfl ?_
        refine qx_getR d_Pl_scannedRows_47 fR_Pl_11 rfl rfl (congrFun hC.1.1 0) ?_
        refine qx_iload_n d_Pl_scannedRows_50 rfl rfl ?_
        refine qx_aald (j := t) (t := 0)  d_Pl_scannedRows_51 rfl (fun _ => rfl) rfl rfl rfl ht (hC.1.2.1 t ht) ?_
        refine qx_iload d_Pl_scannedRows_52 rfl ?_
        refine qx_callV (As := [_, _, _]) (rest := _) d_Pl_scannedRows_54 lk_Pl_116 y_Ma_load v_Ma_load rfl rfl rfl (by decide) rfl rfl rfl rfl (by decide) (by decide) (ct_Ma_load_2 hC.1.2.2.1 cv cb vs ns t ht (hC.1.2.2.2.1 t ht) (fun q => ti (24 * t + q)) (fun q => tn (24 * t + q)) (hC.2.1 t ht).1 (hC.2.1 t ht).2.1 i (by omega)) ?_
        rintro _ _ _ ⟨rfl, rfl, rfl⟩
        refine qx_aload_n d_Pl_scannedRows_57 rfl rfl ?_
        refine qx_iload_n d_Pl_scannedRows_58 rfl rfl ?_
        refine qx_callV (As := [_]) (rest := _) d_Pl_scannedRows_59 lk_Pl_210 y_Pl_passesPushed v_Pl_passesPushed rfl rfl rfl (by decide) rfl rfl rfl rfl (by decide) (by decide) (ct_Pl_passesPushed ti tn rw kd fi se le ri nc CE pc hC (va_up (va_up cv 2 (if tn (24 * t + (i * 2 + 0)) = true then 0 else (ti (24 * t + (i * 2 + 0))).toInt64)) 3 (if tn (24 * t + (i * 2 + 1)) = true then 0 else (ti (24 * t + (i * 2 + 1))).toInt64)) (va_up (va_up cb 2 (tn (24 * t + (i * 2 + 0)))) 3 (tn (24 * t + (i * 2 + 1)))) vs ns (fun c => if (va_up (va_up cb 2 (tn (24 * t + (i * 2 + 0)))) 3 (tn (24 * t + (i * 2 + 1)))) c = true then none else some ((va_up (va_up cv 2 (if tn (24 * t + (i * 2 + 0)) = true then 0 else (ti (24 * t + (i * 2 + 0))).toInt64)) 3 (if tn (24 * t + (i * 2 + 1)) = true then 0 else (ti (24 * t + (i * 2 + 1))).toInt64)) c)) (fun c _ => rfl) 1 (by omega)) ?_
        rintro _ _ _ ⟨rfl, ⟨vs3, ns3, rfl⟩, rfl⟩
        refine qx_if_eqB (t := 68) d_Pl_scannedRows_62 rfl (fun c62 => ?_) (fun c62 => ?_)
        · refine qx_iincN (w := 1) (lv1 := [_, _, _, _, _, _, _]) d_Pl_scannedRows_68 rfl rfl (by decide) rfl ?_
          refine qx_goto (t := 6) d_Pl_scannedRows_71 rfl ?_
          first
            | (have z := c62
               have k2 := ih (i + 1) (va_up (va_up cv 2 (if tn (24 * t + (i * 2 + 0)) = true then 0 else (ti (24 * t + (i * 2 + 0))).toInt64)) 3 (if tn (24 * t + (i * 2 + 1)) = true then 0 else (ti (24 * t + (i * 2 + 1))).toInt64)) (va_up (va_up cb 2 (tn (24 * t + (i * 2 + 0)))) 3 (tn (24 * t + (i * 2 + 1)))) vs3 ns3 (by omega)
               rw [hs, decide_eq_true c30, ← hcg, z] at k2
               exact k2)
            | (have k2 := ih (i + 1) cv cb vs ns (by omega)
               rw [hs, decide_eq_false c30, aB_f] at k2
               exact k2)
        · refine qx_iincN (w := 1) (lv1 := [_, _, _, _, _, _, _]) d_Pl_scannedRows_65 rfl rfl (by decide) rfl ?_
          refine qx_iincN (w := 1) (lv1 := [_, _, _, _, _, _, _]) d_Pl_scannedRows_68 rfl rfl (by decide) rfl ?_
          refine qx_goto (t := 6) d_Pl_scannedRows_71 rfl ?_
          first
            | (have z := c62
               have k2 := ih (i + 1) (va_up (va_up cv 2 (if tn (24 * t + (i * 2 + 0)) = true then 0 else (ti (24 * t + (i * 2 + 0))).toInt64)) 3 (if tn (24 * t + (i * 2 + 1)) = true then 0 else (ti (24 * t + (i * 2 + 1))).toInt64)) (va_up (va_up cb 2 (tn (24 * t + (i * 2 + 0)))) 3 (tn (24 * t + (i * 2 + 1)))) vs3 ns3 (by omega)
               rw [hs, decide_eq_true c30, ← hcg, z] at k2
               exact k2)
            | (have k2 := ih (i + 1) cv cb vs ns (by omega)
               rw [hs, decide_eq_false c30, aB_f] at k2
               exact k2)
  refine qx_iconstN (v := 0) d_Pl_scannedRows_0 rfl ?_
  refine qx_istore (lv1 := [_, _, _, _, _, _, _]) d_Pl_scannedRows_1 (by decide) rfl ?_
  refine qx_iconstN (v := 0) d_Pl_scannedRows_3 rfl ?_
  refine qx_istore (lv1 := [_, _, _, _, _, _, _]) d_Pl_scannedRows_4 (by decide) rfl ?_
  exact key (rw t) 0 cv0 cb0 vs0 ns0 (by omega)
