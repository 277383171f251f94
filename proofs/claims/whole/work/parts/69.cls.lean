set_option maxRecDepth 100000 in
set_option maxHeartbeats 4000000 in
theorem ct_Jo_workOff_none {h : qH} (hJ : jobOk h) (Q : sQ) (s : sJ) (w : Nat) (hw : w < 4) (h68 : sW s ≤ 68) (hq : Q.2.2.2 w = 0) : qT mi_Jo_workOff 1 0 0 [.ref 83, .ref (106 + 4 * w)] (cJ (kQ h Q) s) NN (fun v1 h1 n1 => v1 = some (.int (-1)) ∧ cJ (kQ h Q) s = h1 ∧ n1 = NN) := by
  refine qT.of (lv0 := [_, _, _]) (by decide +kernel) (fun _ _ => Nat.le_of_ble_eq_true rfl) rfl ?_
  refine qx_aload_n d_Jo_workOff_0 rfl rfl ?_
  refine qx_getI d_Jo_workOff_1 fI_Jo_51 (li_pl hw).1 (li_pl hw).2.1 (show _ = nI (Q.2.2.2 w) from (congrFun (cJ_n (by omega)) 3).trans (congrFun (kQ_in (j := 0) hw (by omega)) 3)) ?_
  refine qx_if_neN (t := 9) d_Jo_workOff_4 rfl (by omega) (fun c4 => absurd c4 (by omega)) (fun c4 => ?_)
  refine qx_iconst (v := (-1)) d_Jo_workOff_7 rfl ?_
  exact qx_iret d_Jo_workOff_8 rfl rfl (by omega) (by omega) ⟨rfl, rfl, rfl⟩
set_option maxRecDepth 100000 in
set_option maxHeartbeats 4000000 in
theorem ct_Jo_workOff_full {h : qH} (hJ : jobOk h) (Q : sQ) (s : sJ) (w : Nat) (hw : w < 4) (h68 : sW s ≤ 68) (hq : 0 < Q.2.2.2 w) (hq12 : Q.2.2.2 w ≤ 12) (h60 : 60 ≤ sW s) : qT mi_Jo_workOff 1 0 0 [.ref 83, .ref (106 + 4 * w)] (cJ (kQ h Q) s) NN (fun v1 h1 n1 => v1 = some (.int (-2)) ∧ cJ (kQ h Q) s = h1 ∧ n1 = NN) := by
  refine qT.of (lv0 := [_, _, _]) (by decide +kernel) (fun _ _ => Nat.le_of_ble_eq_true rfl) rfl ?_
  refine qx_aload_n d_Jo_workOff_0 rfl rfl ?_
  refine qx_getI d_Jo_workOff_1 fI_Jo_51 (li_pl hw).1 (li_pl hw).2.1 (show _ = nI (Q.2.2.2 w) from (congrFun (cJ_n (by omega)) 3).trans (congrFun (kQ_in (j := 0) hw (by omega)) 3)) ?_
  refine qx_if_neN (t := 9) d_Jo_workOff_4 rfl (by omega) (fun c4 => ?_) (fun c4 => absurd c4 (by omega))
  refine qx_aload_n d_Jo_workOff_9 rfl rfl ?_
  refine qx_getR d_Jo_workOff_10 fR_Jo_22 rfl rfl (congrFun hJ.1 7) ?_
  refine qx_getI d_Jo_workOff_13 fI_Jo_51 rfl rfl (show _ = nI (sW s) from rfl) ?_
  refine qx_bipushN (v := 60) d_Jo_workOff_16 rfl ?_
  refine qx_icmp_ltN (t := 24) d_Jo_workOff_18 rfl (by omega) (by omega) (fun c18 => absurd c18 (by omega)) (fun c18 => ?_)
  refine qx_bipush (v := (-2)) d_Jo_workOff_21 rfl ?_
  exact qx_iret d_Jo_workOff_23 rfl rfl (by omega) (by omega) ⟨rfl, rfl, rfl⟩
set_option maxRecDepth 100000 in
set_option maxHeartbeats 4000000 in
theorem ct_Jo_workOff {h : qH} (hJ : jobOk h) (Q : sQ) (s : sJ) (w : Nat) (hw : w < 4) (h68 : sW s ≤ 68) (hq : 0 < Q.2.2.2 w) (hq12 : Q.2.2.2 w ≤ 12) (h60 : sW s < 60) : qT mi_Jo_workOff 1 0 0 [.ref 83, .ref (106 + 4 * w)] (cJ (kQ h Q) s) NN (fun v1 h1 n1 => v1 = some (.int (nI (Q.2.1 w 0))) ∧ h1 = cJ (kQ h (va_up Q.1 w (sCut (Q.1 w) 0 (Q.2.2.2 w - 1)), va_up Q.2.1 w (sCut (Q.2.1 w) 0 (Q.2.2.2 w - 1)), va_up Q.2.2.1 w (sCut (Q.2.2.1 w) 0 (Q.2.2.2 w - 1)), va_up Q.2.2.2 w (Q.2.2.2 w - 1))) (sSend s 1 (Q.2.1 w 0) (Q.2.2.1 w 0)) ∧ n1 = NN) := by
  refine qT.of (lv0 := [_, _, _]) (by decide +kernel) (fun _ _ => Nat.le_of_ble_eq_true rfl) rfl ?_
  refine qx_aload_n d_Jo_workOff_0 rfl rfl ?_
  refine qx_getI d_Jo_workOff_1 fI_Jo_51 (li_pl hw).1 (li_pl hw).2.1 (show _ = nI (Q.2.2.2 w) from (congrFun (cJ_n (by omega)) 3).trans (congrFun (kQ_in (j := 0) hw (by omega)) 3)) ?_
  refine qx_if_neN (t := 9) d_Jo_workOff_4 rfl (by omega) (fun c4 => ?_) (fun c4 => absurd c4 (by omega))
  refine qx_aload_n d_Jo_workOff_9 rfl rfl ?_
  refine qx_getR d_Jo_workOff_10 fR_Jo_22 rfl rfl (congrFun hJ.1 7) ?_
  refine qx_getI d_Jo_workOff_13 fI_Jo_51 rfl rfl (show _ = nI (sW s) from rfl) ?_
  refine qx_bipushN (v := 60) d_Jo_workOff_16 rfl ?_
  refine qx_icmp_ltN (t := 24) d_Jo_workOff_18 rfl (by omega) (by omega) (fun c18 => ?_) (fun c18 => absurd c18 (by omega))
  refine qx_aload_n d_Jo_workOff_24 rfl rfl ?_
  refine qx_getR d_Jo_workOff_25 fR_Jo_97 (li_pl hw).1 (li_pl hw).2.1 (congrFun (hJ.2.2.2.2 w hw) 1) ?_
  refine qx_iconstN (v := 0) d_Jo_workOff_28 rfl ?_
  refine qx_iald (j := 0) d_Jo_workOff_29 (li_pl hw).2.2.2.2.1 (li_pl hw).2.2.2.2.2.1 rfl rfl (by omega) (show _ = nI (Q.2.1 w 0) from (congrFun (cJ_n (by omega)) 0).trans (congrFun (kQ_in (j := 2) hw (by omega)) 0)) ?_
  refine qx_istore_n (lv1 := [_, _, _]) d_Jo_workOff_30 rfl (by decide) rfl ?_
  refine qx_aload_n d_Jo_workOff_31 rfl rfl ?_
  refine qx_getR d_Jo_workOff_32 fR_Jo_22 rfl rfl (congrFun hJ.1 7) ?_
  refine qx_iconstN (v := 1) d_Jo_workOff_35 rfl ?_
  refine qx_iload_n d_Jo_workOff_36 rfl rfl ?_
  refine qx_aload_n d_Jo_workOff_37 rfl rfl ?_
  refine qx_getR d_Jo_workOff_38 fR_Jo_99 (li_pl hw).1 (li_pl hw).2.1 (congrFun (hJ.2.2.2.2 w hw) 2) ?_
  refine qx_iconstN (v := 0) d_Jo_workOff_41 rfl ?_
  refine qx_iald (j := 0) d_Jo_workOff_42 (li_pl hw).2.2.2.2.2.2.1 (li_pl hw).2.2.2.2.2.2.2 rfl rfl (by omega) (show _ = nI (Q.2.2.1 w 0) from (congrFun (cJ_n (by omega)) 0).trans (congrFun (kQ_in (j := 3) hw (by omega)) 0)) ?_
  refine qx_callV (As := [_, _, _]) (rest := _) d_Jo_workOff_43 lk_Jo_74 y_Li_add v_Li_add rfl rfl rfl (by decide) rfl rfl rfl rfl (by decide) (by decide) (ct_Li_add (h := tO (kQ h Q) (sAt s) (sSa s)) hJ.2.2.1 (sMk s) (sMt s) (sMa s) (sW s) (by omega) 1 (Q.2.1 w 0) (Q.2.2.1 w 0)) ?_
  rintro _ _ _ ⟨rfl, rfl, rfl⟩
  refine qx_eq (h1 := kQ (cJ h (sSend s 1 (Q.2.1 w 0) (Q.2.2.1 w 0))) Q) rfl rfl rfl (ckQ (s := (sSend s 1 (Q.2.1 w 0) (Q.2.2.1 w 0)))).symm ?_
  refine qx_pop d_Jo_workOff_46 rfl ?_
  refine qx_aload_n d_Jo_workOff_47 rfl rfl ?_
  refine qx_iconstN (v := 0) d_Jo_workOff_48 rfl ?_
  refine qx_callV (As := [_]) (rest := _) d_Jo_workOff_49 lk_Jo_101 y_Li_removeAt v_Li_removeAt rfl rfl (li_pl hw).1 (by decide) rfl (li_pl hw).2.1 rfl rfl (by decide) (by decide) (ct_Li_removeAtQ (h := cJ h (sSend s 1 (Q.2.1 w 0) (Q.2.2.1 w 0))) w hw (hJ.2.2.2.2 w hw) Q hq hq12) ?_
  rintro _ _ _ ⟨rfl, rfl, rfl⟩
  refine qx_iload_n d_Jo_workOff_52 rfl rfl ?_
  exact qx_iret d_Jo_workOff_53 rfl rfl (by omega) (by omega) ⟨rfl, ckQ.symm, rfl⟩
set_option maxRecDepth 100000 in
set_option maxHeartbeats 4000000 in
theorem ct_Jo_sendAgain {h : qH} (hJ : jobOk h) (nt : Nat) (hnt16 : nt ≤ 16) (hnt : h.1 83 3 = nI nt) (kd : Nat → Nat) (hkd4 : ∀ t, t < nt → kd t < 4) (hkd : ∀ t, t < nt → h.1 (90 + t) 0 = nI (kd t)) (dn : Nat → Bool) (hdn : ∀ t, t < nt → h.1 (90 + t) 5 = b2i (dn t)) (s : sJ) (tm : Int32) (htm : h.1 83 6 = tm) (hw : sW s ≤ 68) (hat : ∀ t, t < nt → sAt s t < 100000) : qT mi_Jo_sendAgain 2 0 0 [.ref 83] (cJ h s) NN (fun v1 h1 n1 => v1 = some (.int (nI (sTick dn (tm + nI 1) s nt).2)) ∧ h1 = cJ (qpI h 83 6 (tm + nI 1)) (sTick dn (tm + nI 1) s nt).1 ∧ n1 = NN) := by
  refine qT.of (lv0 := [_, _, _, _, _]) (by decide +kernel) (fun _ _ => Nat.le_of_ble_eq_true rfl) rfl ?_
  have key : ∀ (m i : Nat), i + m = nt → qX mi_Jo_sendAgain 2 none 0 0 14 [.ref 83, .int (nI (sTick dn (tm + nI 1) s i).2), .int (nI i), qdead, qdead] [] (cJ (qpI h 83 6 (tm + nI 1)) (sTick dn (tm + nI 1) s i).1) NN 0 0 (fun v1 h1 n1 => v1 = some (.int (nI (sTick dn (tm + nI 1) s nt).2)) ∧ h1 = cJ (qpI h 83 6 (tm + nI 1)) (sTick dn (tm + nI 1) s nt).1 ∧ n1 = NN) := by
    intro m
    induction m with
    | zero =>
      intro i hi
      refine qx_iload_n d_Jo_sendAgain_14 rfl rfl ?_
      refine qx_aload_n d_Jo_sendAgain_15 rfl rfl ?_
      refine qx_getI d_Jo_sendAgain_16 fI_Jo_39 rfl rfl hnt ?_
      refine qx_icmp_geN (t := 94) d_Jo_sendAgain_19 rfl (by omega) (by omega) (fun c19 => ?_) (fun c19 => absurd c19 (by omega))
      refine qx_iload_n d_Jo_sendAgain_94 rfl rfl ?_
      exact qx_iret d_Jo_sendAgain_95 rfl rfl (by omega) (by omega) (by rw [show i = nt by omega]; exact ⟨rfl, rfl, rfl⟩)
    | succ m ih =>
      intro i hi
      have ht : i < 16 := by omega
      have hs : sTick dn (tm + nI 1) s (i + 1) = if sAt (sTick dn (tm + nI 1) s i).1 i = 0 ∨ dn i = true ∨ (tm + nI 1) - sSa (sTick dn (tm + nI 1) s i).1 i < nI 3 ∨ 60 ≤ sW (sTick dn (tm + nI 1) s i).1 then (sTick dn (tm + nI 1) s i) else (sRun (tm + nI 1) (sTick dn (tm + nI 1) s i).1 i, (sTick dn (tm + nI 1) s i).2 + 1) := rfl
      have k2 := ih (i + 1) (by omega)
      rw [hs] at k2
      refine qx_iload_n d_Jo_sendAgain_14 rfl rfl ?_
      refine qx_aload_n d_Jo_sendAgain_15 rfl rfl ?_
      refine qx_getI d_Jo_sendAgain_16 fI_Jo_39 rfl rfl hnt ?_
      refine qx_icmp_geN (t := 94) d_Jo_sendAgain_19 rfl (by omega) (by omega) (fun c19 => absurd c19 (by omega)) (fun c19 => ?_)
      refine qx_aload_n d_Jo_sendAgain_22 rfl rfl ?_
      refine qx_getR d_Jo_sendAgain_23 fR_Jo_11 rfl rfl (congrFun hJ.1 2) ?_
      refine qx_iload_n d_Jo_sendAgain_26 rfl rfl ?_
      refine qx_aald (j := i) (t := 2)  d_Jo_sendAgain_27 rfl (fun _ => rfl) rfl rfl rfl ht (hJ.2.1 i ht) ?_
      refine qx_astore_n (lv1 := [_, _, _, _, _]) d_Jo_sendAgain_28 rfl (by decide) rfl ?_
      refine qx_aload_n d_Jo_sendAgain_29 rfl rfl ?_
      refine qx_getI d_Jo_sendAgain_30 fI_Jo_58 (ta_pl ht).1 (ta_pl ht).2 (show _ = nI (sAt (sTick dn (tm + nI 1) s i).1 i) from cJ_as ht) ?_
      refine qx_if_leN (t := 60) d_Jo_sendAgain_33 rfl (by rw [sTick_at dn (tm + nI 1) s i i (Nat.le_refl _)]; have := hat i (by omega); omega) (fun c33 => ?_) (fun c33 => ?_)
      · refine qx_iconst (v := b2i false) d_Jo_sendAgain_60 rfl ?_
        refine qx_istore (lv1 := [_, _, _, _, _]) d_Jo_sendAgain_61 (by decide) rfl ?_
        refine qx_iload d_Jo_sendAgain_63 rfl ?_
        refine qx_if_eqB (t := 88) d_Jo_sendAgain_65 rfl (fun c65 => ?_) (fun c65 => ?_)
        · refine qx_iincN (w := 1) (lv1 := [_, _, _, _, _]) d_Jo_sendAgain_88 rfl rfl (by decide) rfl ?_
          refine qx_goto (t := 14) d_Jo_sendAgain_91 rfl ?_
          refine qx_less (lv1 := [_, _, _, qdead, qdead]) ⟨Or.inr rfl, Or.inr rfl, Or.inr rfl, Or.inl rfl, Or.inl rfl, trivial⟩ ?_
          first
            | exact absurd c65 (by decide)
            | (have z := c77; rw [if_neg (fun q => q.elim (fun e => by omega) (fun q => q.elim (fun e => by rw [c40] at e; cases e) (fun q => q.elim c53 (fun e => by omega))))] at k2; exact k2)
            | (have z := c77; rw [if_pos (Or.inr (Or.inr (Or.inr z)))] at k2; exact k2)
            | (have z := c53; rw [if_pos (Or.inr (Or.inr (Or.inl z)))] at k2; exact k2)
            | (have z := c40; rw [if_pos (Or.inr (Or.inl z))] at k2; exact k2)
            | (rw [if_pos (Or.inl c33)] at k2; exact k2)
        · refine qx_aload_n d_Jo_sendAgain_68 rfl rfl ?_
          refine qx_getR d_Jo_sendAgain_69 fR_Jo_22 rfl rfl (congrFun hJ.1 7) ?_
          refine qx_getI d_Jo_sendAgain_72 fI_Jo_51 rfl rfl (show _ = nI (sW (sTick dn (tm + nI 1) s i).1) from rfl) ?_
          refine qx_bipushN (v := 60) d_Jo_sendAgain_75 rfl ?_
          refine qx_icmp_geN (t := 88) d_Jo_sendAgain_77 rfl (by have := sTick_w dn (tm + nI 1) s (by omega) i; omega) (by omega) (fun c77 => ?_) (fun c77 => ?_)
          · refine qx_iincN (w := 1) (lv1 := [_, _, _, _, _]) d_Jo_sendAgain_88 rfl rfl (by decide) rfl ?_
            refine qx_goto (t := 14) d_Jo_sendAgain_91 rfl ?_
            refine qx_less (lv1 := [_, _, _, qdead, qdead]) ⟨Or.inr rfl, Or.inr rfl, Or.inr rfl, Or.inl rfl, Or.inl rfl, trivial⟩ ?_
            first
              | exact absurd c65 (by decide)
              | (have z := c77; rw [if_neg (fun q => q.elim (fun e => by omega) (fun q => q.elim (fun e => by rw [c40] at e; cases e) (fun q => q.elim c53 (fun e => by omega))))] at k2; exact k2)
              | (have z := c77; rw [if_pos (Or.inr (Or.inr (Or.inr z)))] at k2; exact k2)
              | (have z := c53; rw [if_pos (Or.inr (Or.inr (Or.inl z)))] at k2; exact k2)
              | (have z := c40; rw [if_pos (Or.inr (Or.inl z))] at k2; exact k2)
              | (rw [if_pos (Or.inl c33)] at k2; exact k2)
          · refine qx_aload_n d_Jo_sendAgain_80 rfl rfl ?_
            refine qx_iload_n d_Jo_sendAgain_81 rfl rfl ?_
            refine qx_callV (As := [_]) (rest := _) d_Jo_sendAgain_82 lk_Jo_68 y_Jo_sendRun v_Jo_sendRun rfl rfl rfl (by decide) rfl rfl rfl rfl (by decide) (by decide) (ct_Jo_sendRun (h := (qpI h 83 6 (tm + nI 1))) hJ (sTick dn (tm + nI 1) s i).1 (tm + nI 1) rfl i (by omega) (by omega)) ?_
            rintro _ _ _ ⟨rfl, rfl, rfl⟩
            refine qx_iincN (w := 1) (lv1 := [_, _, _, _, _]) d_Jo_sendAgain_85 rfl rfl (by decide) rfl ?_
            refine qx_iincN (w := 1) (lv1 := [_, _, _, _, _]) d_Jo_sendAgain_88 rfl rfl (by decide) rfl ?_
            refine qx_goto (t := 14) d_Jo_sendAgain_91 rfl ?_
            refine qx_less (lv1 := [_, _, _, qdead, qdead]) ⟨Or.inr rfl, Or.inr rfl, Or.inr rfl, Or.inl rfl, Or.inl rfl, trivial⟩ ?_
            first
              | exact absurd c65 (by decide)
              | (have z := c77; rw [if_neg (fun q => q.elim (fun e => by omega) (fun q => q.elim (fun e => by rw [c40] at e; cases e) (fun q => q.elim c53 (fun e => by omega))))] at k2; exact k2)
              | (have z := c77; rw [if_pos (Or.inr (Or.inr (Or.inr z)))] at k2; exact k2)
              | (have z := c53; rw [if_pos (Or.inr (Or.inr (Or.inl z)))] at k2; exact k2)
              | (have z := c40; rw [if_pos (Or.inr (Or.inl z))] at k2; exact k2)
              | (rw [if_pos (Or.inl c33)] at k2; exact k2)
      · refine qx_aload_n d_Jo_sendAgain_36 rfl rfl ?_
        refine qx_getI d_Jo_sendAgain_37 fI_Jo_71 (ta_pl ht).1 (ta_pl ht).2 (show _ = b2i (dn i) from (cJ_dn ht).trans ((congrFun (qpI_o h 83 6 _ (90 + i) (by omega)).1 5).trans (hdn i (by omega)))) ?_
        refine qx_if_neB (t := 60) d_Jo_sendAgain_40 rfl (fun c40 => ?_) (fun c40 => ?_)
        · refine qx_iconst (v := b2i false) d_Jo_sendAgain_60 rfl ?_
          refine qx_istore (lv1 := [_, _, _, _, _]) d_Jo_sendAgain_61 (by decide) rfl ?_
          refine qx_iload d_Jo_sendAgain_63 rfl ?_
          refine qx_if_eqB (t := 88) d_Jo_sendAgain_65 rfl (fun c65 => ?_) (fun c65 => ?_)
          · refine qx_iincN (w := 1) (lv1 := [_, _, _, _, _]) d_Jo_sendAgain_88 rfl rfl (by decide) rfl ?_
            refine qx_goto (t := 14) d_Jo_sendAgain_91 rfl ?_
            refine qx_less (lv1 := [_, _, _, qdead, qdead]) ⟨Or.inr rfl, Or.inr rfl, Or.inr rfl, Or.inl rfl, Or.inl rfl, trivial⟩ ?_
            first
              | exact absurd c65 (by decide)
              | (have z := c77; rw [if_neg (fun q => q.elim (fun e => by omega) (fun q => q.elim (fun e => by rw [c40] at e; cases e) (fun q => q.elim c53 (fun e => by omega))))] at k2; exact k2)
              | (have z := c77; rw [if_pos (Or.inr (Or.inr (Or.inr z)))] at k2; exact k2)
              | (have z := c53; rw [if_pos (Or.inr (Or.inr (Or.inl z)))] at k2; exact k2)
              | (have z := c40; rw [if_pos (Or.inr (Or.inl z))] at k2; exact k2)
              | (rw [if_pos (Or.inl c33)] at k2; exact k2)
          · refine qx_aload_n d_Jo_sendAgain_68 rfl rfl ?_
            refine qx_getR d_Jo_sendAgain_69 fR_Jo_22 rfl rfl (congrFun hJ.1 7) ?_
            refine qx_getI d_Jo_sendAgain_72 fI_Jo_51 rfl rfl (show _ = nI (sW (sTick dn (tm + nI 1) s i).1) from rfl) ?_
            refine qx_bipushN (v := 60) d_Jo_sendAgain_75 rfl ?_
            refine qx_icmp_geN (t := 88) d_Jo_sendAgain_77 rfl (by have := sTick_w dn (tm + nI 1) s (by omega) i; omega) (by omega) (fun c77 => ?_) (fun c77 => ?_)
            · refine qx_iincN (w := 1) (lv1 := [_, _, _, _, _]) d_Jo_sendAgain_88 rfl rfl (by decide) rfl ?_
              refine qx_goto (t := 14) d_Jo_sendAgain_91 rfl ?_
              refine qx_less (lv1 := [_, _, _, qdead, qdead]) ⟨Or.inr rfl, Or.inr rfl, Or.inr rfl, Or.inl rfl, Or.inl rfl, trivial⟩ ?_
              first
                | exact absurd c65 (by decide)
                | (have z := c77; rw [if_neg (fun q => q.elim (fun e => by omega) (fun q => q.elim (fun e => by rw [c40] at e; cases e) (fun q => q.elim c53 (fun e => by omega))))] at k2; exact k2)
                | (have z := c77; rw [if_pos (Or.inr (Or.inr (Or.inr z)))] at k2; exact k2)
                | (have z := c53; rw [if_pos (Or.inr (Or.inr (Or.inl z)))] at k2; exact k2)
                | (have z := c40; rw [if_pos (Or.inr (Or.inl z))] at k2; exact k2)
                | (rw [if_pos (Or.inl c33)] at k2; exact k2)
            · refine qx_aload_n d_Jo_sendAgain_80 rfl rfl ?_
              refine qx_iload_n d_Jo_sendAgain_81 rfl rfl ?_
              refine qx_callV (As := [_]) (rest := _) d_Jo_sendAgain_82 lk_Jo_68 y_Jo_sendRun v_Jo_sendRun rfl rfl rfl (by decide) rfl rfl rfl rfl (by decide) (by decide) (ct_Jo_sendRun (h := (qpI h 83 6 (tm + nI 1))) hJ (sTick dn (tm + nI 1) s i).1 (tm + nI 1) rfl i (by omega) (by omega)) ?_
              rintro _ _ _ ⟨rfl, rfl, rfl⟩
              refine qx_iincN (w := 1) (lv1 := [_, _, _, _, _]) d_Jo_sendAgain_85 rfl rfl (by decide) rfl ?_
              refine qx_iincN (w := 1) (lv1 := [_, _, _, _, _]) d_Jo_sendAgain_88 rfl rfl (by decide) rfl ?_
              refine qx_goto (t := 14) d_Jo_sendAgain_91 rfl ?_
              refine qx_less (lv1 := [_, _, _, qdead, qdead]) ⟨Or.inr rfl, Or.inr rfl, Or.inr rfl, Or.inl rfl, Or.inl rfl, trivial⟩ ?_
              first
                | exact absurd c65 (by decide)
                | (have z := c77; rw [if_neg (fun q => q.elim (fun e => by omega) (fun q => q.elim (fun e => by rw [c40] at e; cases e) (fun q => q.elim c53 (fun e => by omega))))] at k2; exact k2)
                | (have z := c77; rw [if_pos (Or.inr (Or.inr (Or.inr z)))] at k2; exact k2)
                | (have z := c53; rw [if_pos (Or.inr (Or.inr (Or.inl z)))] at k2; exact k2)
                | (have z := c40; rw [if_pos (Or.inr (Or.inl z))] at k2; exact k2)
                | (rw [if_pos (Or.inl c33)] at k2; exact k2)
        · refine qx_aload_n d_Jo_sendAgain_43 rfl rfl ?_
          refine qx_getI d_Jo_sendAgain_44 fI_Jo_78 rfl rfl (show _ = tm + nI 1 from rfl) ?_
          refine qx_aload_n d_Jo_sendAgain_47 rfl rfl ?_
          refine qx_getI d_Jo_sendAgain_48 fI_Jo_81 (ta_pl ht).1 (ta_pl ht).2 (show _ = sSa (sTick dn (tm + nI 1) s i).1 i from cJ_ss ht) ?_
          refine qx_isub d_Jo_sendAgain_51 ?_
          refine qx_iconstN (v := 3) d_Jo_sendAgain_52 rfl ?_
          refine qx_icmp_lt (t := 60) d_Jo_sendAgain_53 rfl (fun c53 => ?_) (fun c53 => ?_)
          · refine qx_iconst (v := b2i false) d_Jo_sendAgain_60 rfl ?_
            refine qx_istore (lv1 := [_, _, _, _, _]) d_Jo_sendAgain_61 (by decide) rfl ?_
            refine qx_iload d_Jo_sendAgain_63 rfl ?_
            refine qx_if_eqB (t := 88) d_Jo_sendAgain_65 rfl (fun c65 => ?_) (fun c65 => ?_)
            · refine qx_iincN (w := 1) (lv1 := [_, _, _, _, _]) d_Jo_sendAgain_88 rfl rfl (by decide) rfl ?_
              refine qx_goto (t := 14) d_Jo_sendAgain_91 rfl ?_
              refine qx_less (lv1 := [_, _, _, qdead, qdead]) ⟨Or.inr rfl, Or.inr rfl, Or.inr rfl, Or.inl rfl, Or.inl rfl, trivial⟩ ?_
              first
                | exact absurd c65 (by decide)
                | (have z := c77; rw [if_neg (fun q => q.elim (fun e => by omega) (fun q => q.elim (fun e => by rw [c40] at e; cases e) (fun q => q.elim c53 (fun e => by omega))))] at k2; exact k2)
                | (have z := c77; rw [if_pos (Or.inr (Or.inr (Or.inr z)))] at k2; exact k2)
                | (have z := c53; rw [if_pos (Or.inr (Or.inr (Or.inl z)))] at k2; exact k2)
                | (have z := c40; rw [if_pos (Or.inr (Or.inl z))] at k2; exact k2)
                | (rw [if_pos (Or.inl c33)] at k2; exact k2)
            · refine qx_aload_n d_Jo_sendAgain_68 rfl rfl ?_
              refine qx_getR d_Jo_sendAgain_69 fR_Jo_22 rfl rfl (congrFun hJ.1 7) ?_
              refine qx_getI d_Jo_sendAgain_72 fI_Jo_51 rfl rfl (show _ = nI (sW (sTick dn (tm + nI 1) s i).1) from rfl) ?_
              refine qx_bipushN (v := 60) d_Jo_sendAgain_75 rfl ?_
              refine qx_icmp_geN (t := 88) d_Jo_sendAgain_77 rfl (by have := sTick_w dn (tm + nI 1) s (by omega) i; omega) (by omega) (fun c77 => ?_) (fun c77 => ?_)
              · refine qx_iincN (w := 1) (lv1 := [_, _, _, _, _]) d_Jo_sendAgain_88 rfl rfl (by decide) rfl ?_
                refine qx_goto (t := 14) d_Jo_sendAgain_91 rfl ?_
                refine qx_less (lv1 := [_, _, _, qdead, qdead]) ⟨Or.inr rfl, Or.inr rfl, Or.inr rfl, Or.inl rfl, Or.inl rfl, trivial⟩ ?_
                first
                  | exact absurd c65 (by decide)
                  | (have z := c77; rw [if_neg (fun q => q.elim (fun e => by omega) (fun q => q.elim (fun e => by rw [c40] at e; cases e) (fun q => q.elim c53 (fun e => by omega))))] at k2; exact k2)
                  | (have z := c77; rw [if_pos (Or.inr (Or.inr (Or.inr z)))] at k2; exact k2)
                  | (have z := c53; rw [if_pos (Or.inr (Or.inr (Or.inl z)))] at k2; exact k2)
                  | (have z := c40; rw [if_pos (Or.inr (Or.inl z))] at k2; exact k2)
                  | (rw [if_pos (Or.inl c33)] at k2; exact k2)
              · refine qx_aload_n d_Jo_sendAgain_80 rfl rfl ?_
                refine qx_iload_n d_Jo_sendAgain_81 rfl rfl ?_
                refine qx_callV (As := [_]) (rest := _) d_Jo_sendAgain_82 lk_Jo_68 y_Jo_sendRun v_Jo_sendRun rfl rfl rfl (by decide) rfl rfl rfl rfl (by decide) (by decide) (ct_Jo_sendRun (h := (qpI h 83 6 (tm + nI 1))) hJ (sTick dn (tm + nI 1) s i).1 (tm + nI 1) rfl i (by omega) (by omega)) ?_
                rintro _ _ _ ⟨rfl, rfl, rfl⟩
                refine qx_iincN (w := 1) (lv1 := [_, _, _, _, _]) d_Jo_sendAgain_85 rfl rfl (by decide) rfl ?_
                refine qx_iincN (w := 1) (lv1 := [_, _, _, _, _]) d_Jo_sendAgain_88 rfl rfl (by decide) rfl ?_
                refine qx_goto (t := 14) d_Jo_sendAgain_91 rfl ?_
                refine qx_less (lv1 := [_, _, _, qdead, qdead]) ⟨Or.inr rfl, Or.inr rfl, Or.inr rfl, Or.inl rfl, Or.inl rfl, trivial⟩ ?_
                first
                  | exact absurd c65 (by decide)
                  | (have z := c77; rw [if_neg (fun q => q.elim (fun e => by omega) (fun q => q.elim (fun e => by rw [c40] at e; cases e) (fun q => q.elim c53 (fun e => by omega))))] at k2; exact k2)
                  | (have z := c77; rw [if_pos (Or.inr (Or.inr (Or.inr z)))] at k2; exact k2)
                  | (have z := c53; rw [if_pos (Or.inr (Or.inr (Or.inl z)))] at k2; exact k2)
                  | (have z := c40; rw [if_pos (Or.inr (Or.inl z))] at k2; exact k2)
                  | (rw [if_pos (Or.inl c33)] at k2; exact k2)
          · refine qx_iconst (v := b2i true) d_Jo_sendAgain_56 rfl ?_
            refine qx_goto (t := 61) d_Jo_sendAgain_57 rfl ?_
            refine qx_istore (lv1 := [_, _, _, _, _]) d_Jo_sendAgain_61 (by decide) rfl ?_
            refine qx_iload d_Jo_sendAgain_63 rfl ?_
            refine qx_if_eqB (t := 88) d_Jo_sendAgain_65 rfl (fun c65 => ?_) (fun c65 => ?_)
            · refine qx_iincN (w := 1) (lv1 := [_, _, _, _, _]) d_Jo_sendAgain_88 rfl rfl (by decide) rfl ?_
              refine qx_goto (t := 14) d_Jo_sendAgain_91 rfl ?_
              refine qx_less (lv1 := [_, _, _, qdead, qdead]) ⟨Or.inr rfl, Or.inr rfl, Or.inr rfl, Or.inl rfl, Or.inl rfl, trivial⟩ ?_
              first
                | exact absurd c65 (by decide)
                | (have z := c77; rw [if_neg (fun q => q.elim (fun e => by omega) (fun q => q.elim (fun e => by rw [c40] at e; cases e) (fun q => q.elim c53 (fun e => by omega))))] at k2; exact k2)
                | (have z := c77; rw [if_pos (Or.inr (Or.inr (Or.inr z)))] at k2; exact k2)
                | (have z := c53; rw [if_pos (Or.inr (Or.inr (Or.inl z)))] at k2; exact k2)
                | (have z := c40; rw [if_pos (Or.inr (Or.inl z))] at k2; exact k2)
                | (rw [if_pos (Or.inl c33)] at k2; exact k2)
            · refine qx_aload_n d_Jo_sendAgain_68 rfl rfl ?_
              refine qx_getR d_Jo_sendAgain_69 fR_Jo_22 rfl rfl (congrFun hJ.1 7) ?_
              refine qx_getI d_Jo_sendAgain_72 fI_Jo_51 rfl rfl (show _ = nI (sW (sTick dn (tm + nI 1) s i).1) from rfl) ?_
              refine qx_bipushN (v := 60) d_Jo_sendAgain_75 rfl ?_
              refine qx_icmp_geN (t := 88) d_Jo_sendAgain_77 rfl (by have := sTick_w dn (tm + nI 1) s (by omega) i; omega) (by omega) (fun c77 => ?_) (fun c77 => ?_)
              · refine qx_iincN (w := 1) (lv1 := [_, _, _, _, _]) d_Jo_sendAgain_88 rfl rfl (by decide) rfl ?_
                refine qx_goto (t := 14) d_Jo_sendAgain_91 rfl ?_
                refine qx_less (lv1 := [_, _, _, qdead, qdead]) ⟨Or.inr rfl, Or.inr rfl, Or.inr rfl, Or.inl rfl, Or.inl rfl, trivial⟩ ?_
                first
                  | exact absurd c65 (by decide)
                  | (have z := c77; rw [if_neg (fun q => q.elim (fun e => by omega) (fun q => q.elim (fun e => by rw [c40] at e; cases e) (fun q => q.elim c53 (fun e => by omega))))] at k2; exact k2)
                  | (have z := c77; rw [if_pos (Or.inr (Or.inr (Or.inr z)))] at k2; exact k2)
                  | (have z := c53; rw [if_pos (Or.inr (Or.inr (Or.inl z)))] at k2; exact k2)
                  | (have z := c40; rw [if_pos (Or.inr (Or.inl z))] at k2; exact k2)
                  | (rw [if_pos (Or.inl c33)] at k2; exact k2)
              · refine qx_aload_n d_Jo_sendAgain_80 rfl rfl ?_
                refine qx_iload_n d_Jo_sendAgain_81 rfl rfl ?_
                refine qx_callV (As := [_]) (rest := _) d_Jo_sendAgain_82 lk_Jo_68 y_Jo_sendRun v_Jo_sendRun rfl rfl rfl (by decide) rfl rfl rfl rfl (by decide) (by decide) (ct_Jo_sendRun (h := (qpI h 83 6 (tm + nI 1))) hJ (sTick dn (tm + nI 1) s i).1 (tm + nI 1) rfl i (by omega) (by omega)) ?_
                rintro _ _ _ ⟨rfl, rfl, rfl⟩
                refine qx_iincN (w := 1) (lv1 := [_, _, _, _, _]) d_Jo_sendAgain_85 rfl rfl (by decide) rfl ?_
                refine qx_iincN (w := 1) (lv1 := [_, _, _, _, _]) d_Jo_sendAgain_88 rfl rfl (by decide) rfl ?_
                refine qx_goto (t := 14) d_Jo_sendAgain_91 rfl ?_
                refine qx_less (lv1 := [_, _, _, qdead, qdead]) ⟨Or.inr rfl, Or.inr rfl, Or.inr rfl, Or.inl rfl, Or.inl rfl, trivial⟩ ?_
                first
                  | exact absurd c65 (by decide)
                  | (have z := c77; rw [if_neg (fun q => q.elim (fun e => by omega) (fun q => q.elim (fun e => by rw [c40] at e; cases e) (fun q => q.elim c53 (fun e => by omega))))] at k2; exact k2)
                  | (have z := c77; rw [if_pos (Or.inr (Or.inr (Or.inr z)))] at k2; exact k2)
                  | (have z := c53; rw [if_pos (Or.inr (Or.inr (Or.inl z)))] at k2; exact k2)
                  | (have z := c40; rw [if_pos (Or.inr (Or.inl z))] at k2; exact k2)
                  | (rw [if_pos (Or.inl c33)] at k2; exact k2)
  refine qx_aload_n d_Jo_sendAgain_0 rfl rfl ?_
  refine qx_dup d_Jo_sendAgain_1 rfl ?_
  refine qx_getI d_Jo_sendAgain_2 fI_Jo_78 rfl rfl htm ?_
  refine qx_iconstN (v := 1) d_Jo_sendAgain_5 rfl ?_
  refine qx_iadd d_Jo_sendAgain_6 ?_
  refine qx_putI d_Jo_sendAgain_7 fI_Jo_78 rfl rfl ⟨rfl, rfl⟩ ?_
  refine qx_iconstN (v := 0) d_Jo_sendAgain_10 rfl ?_
  refine qx_istore_n (lv1 := [_, _, _, _, _]) d_Jo_sendAgain_11 rfl (by decide) rfl ?_
  refine qx_iconstN (v := 0) d_Jo_sendAgain_12 rfl ?_
  refine qx_istore_n (lv1 := [_, _, _, _, _]) d_Jo_sendAgain_13 rfl (by decide) rfl ?_
  refine qx_eq (h1 := cJ (qpI h 83 6 (tm + nI 1)) s) rfl rfl rfl (cJ_x (Or.inl (by omega))).symm ?_
  exact key nt 0 (by omega)
set_option maxRecDepth 100000 in
set_option maxHeartbeats 4000000 in
theorem ct_Jo_tell_0 {h : qH} (hJ : jobOk h) (s : sJ) (k : Nat) (hk : k < sW s) (hw : sW s ≤ 68) : qT mi_Jo_tell 2 0 0 [.ref 83, .int (nI k), .int (nI 0)] (cJ h s) NN (fun v1 h1 n1 => v1 = some (.int (nI (sMk s k))) ∧ cJ h s = h1 ∧ n1 = NN) := by
  refine qT.of (lv0 := [_, _, _, _]) (by decide +kernel) (fun _ _ => Nat.le_of_ble_eq_true rfl) rfl ?_
  refine qx_aload_n d_Jo_tell_0 rfl rfl ?_
  refine qx_getR d_Jo_tell_1 fR_Jo_22 rfl rfl (congrFun hJ.1 7) ?_
  refine qx_getR d_Jo_tell_4 fR_Jo_97 rfl rfl (congrFun hJ.2.2.1 1) ?_
  refine qx_iload_n d_Jo_tell_7 rfl rfl ?_
  refine qx_iald (j := k) d_Jo_tell_8 rfl rfl rfl rfl (by omega) (show _ = nI (sMt s k) from rfl) ?_
  refine qx_istore_n (lv1 := [_, _, _, _]) d_Jo_tell_9 rfl (by decide) rfl ?_
  refine qx_iload_n d_Jo_tell_10 rfl rfl ?_
  refine qx_tabIn (t := 40) d_Jo_tell_11 (by decide) (by decide) rfl rfl ?_
  refine qx_aload_n d_Jo_tell_40 rfl rfl ?_
  refine qx_getR d_Jo_tell_41 fR_Jo_22 rfl rfl (congrFun hJ.1 7) ?_
  refine qx_getR d_Jo_tell_44 fR_Jo_93 rfl rfl (congrFun hJ.2.2.1 0) ?_
  refine qx_iload_n d_Jo_tell_47 rfl rfl ?_
  refine qx_iald (j := k) d_Jo_tell_48 rfl rfl rfl rfl (by omega) (show _ = nI (sMk s k) from rfl) ?_
  exact qx_iret d_Jo_tell_49 rfl rfl (by omega) (by omega) ⟨rfl, rfl, rfl⟩
set_option maxRecDepth 100000 in
set_option maxHeartbeats 4000000 in
theorem ct_Jo_tell_1 {h : qH} (hJ : jobOk h) (s : sJ) (k : Nat) (hk : k < sW s) (hw : sW s ≤ 68) : qT mi_Jo_tell 2 0 0 [.ref 83, .int (nI k), .int (nI 1)] (cJ h s) NN (fun v1 h1 n1 => v1 = some (.int (nI (sMt s k))) ∧ cJ h s = h1 ∧ n1 = NN) := by
  refine qT.of (lv0 := [_, _, _, _]) (by decide +kernel) (fun _ _ => Nat.le_of_ble_eq_true rfl) rfl ?_
  refine qx_aload_n d_Jo_tell_0 rfl rfl ?_
  refine qx_getR d_Jo_tell_1 fR_Jo_22 rfl rfl (congrFun hJ.1 7) ?_
  refine qx_getR d_Jo_tell_4 fR_Jo_97 rfl rfl (congrFun hJ.2.2.1 1) ?_
  refine qx_iload_n d_Jo_tell_7 rfl rfl ?_
  refine qx_iald (j := k) d_Jo_tell_8 rfl rfl rfl rfl (by omega) (show _ = nI (sMt s k) from rfl) ?_
  refine qx_istore_n (lv1 := [_, _, _, _]) d_Jo_tell_9 rfl (by decide) rfl ?_
  refine qx_iload_n d_Jo_tell_10 rfl rfl ?_
  refine qx_tabIn (t := 50) d_Jo_tell_11 (by decide) (by decide) rfl rfl ?_
  refine qx_iload_n d_Jo_tell_50 rfl rfl ?_
  exact qx_iret d_Jo_tell_51 rfl rfl (by omega) (by omega) ⟨rfl, rfl, rfl⟩
set_option maxRecDepth 100000 in
set_option maxHeartbeats 4000000 in
theorem ct_Jo_tell_2 {h : qH} (hJ : jobOk h) (s : sJ) (k : Nat) (hk : k < sW s) (hw : sW s ≤ 68) : qT mi_Jo_tell 2 0 0 [.ref 83, .int (nI k), .int (nI 2)] (cJ h s) NN (fun v1 h1 n1 => v1 = some (.int (nI (sMa s k))) ∧ cJ h s = h1 ∧ n1 = NN) := by
  refine qT.of (lv0 := [_, _, _, _]) (by decide +kernel) (fun _ _ => Nat.le_of_ble_eq_true rfl) rfl ?_
  refine qx_aload_n d_Jo_tell_0 rfl rfl ?_
  refine qx_getR d_Jo_tell_1 fR_Jo_22 rfl rfl (congrFun hJ.1 7) ?_
  refine qx_getR d_Jo_tell_4 fR_Jo_97 rfl rfl (congrFun hJ.2.2.1 1) ?_
  refine qx_iload_n d_Jo_tell_7 rfl rfl ?_
  refine qx_iald (j := k) d_Jo_tell_8 rfl rfl rfl rfl (by omega) (show _ = nI (sMt s k) from rfl) ?_
  refine qx_istore_n (lv1 := [_, _, _, _]) d_Jo_tell_9 rfl (by decide) rfl ?_
  refine qx_iload_n d_Jo_tell_10 rfl rfl ?_
  refine qx_tabIn (t := 52) d_Jo_tell_11 (by decide) (by decide) rfl rfl ?_
  refine qx_aload_n d_Jo_tell_52 rfl rfl ?_
  refine qx_getR d_Jo_tell_53 fR_Jo_22 rfl rfl (congrFun hJ.1 7) ?_
  refine qx_getR d_Jo_tell_56 fR_Jo_99 rfl rfl (congrFun hJ.2.2.1 2) ?_
  refine qx_iload_n d_Jo_tell_59 rfl rfl ?_
  refine qx_iald (j := k) d_Jo_tell_60 rfl rfl rfl rfl (by omega) (show _ = nI (sMa s k) from rfl) ?_
  exact qx_iret d_Jo_tell_61 rfl rfl (by omega) (by omega) ⟨rfl, rfl, rfl⟩
set_option maxRecDepth 100000 in
set_option maxHeartbeats 4000000 in
theorem ct_Jo_tell_3r {h : qH} (hJ : jobOk h) (s : sJ) (k : Nat) (hk : k < sW s) (hw : sW s ≤ 68) (h0 : sMk s k = 0) (pt : Nat → Nat) (wk : Nat) (h1w : 1 ≤ wk) (hw4 : wk ≤ 4) (hwk : h.1 83 1 = nI wk) (ht : sMt s k < 16) (hpt : h.1 (90 + sMt s k) 1 = nI (pt (sMt s k))) (hp4 : pt (sMt s k) < 4) (ha : sMa s k < 100000) : qT mi_Jo_tell 2 0 0 [.ref 83, .int (nI k), .int (nI 3)] (cJ h s) NN (fun v1 h1 n1 => v1 = some (.int (nI ((pt (sMt s k) + sMa s k) % wk))) ∧ cJ h s = h1 ∧ n1 = NN) := by
  refine qT.of (lv0 := [_, _, _, _]) (by decide +kernel) (fun _ _ => Nat.le_of_ble_eq_true rfl) rfl ?_
  refine qx_aload_n d_Jo_tell_0 rfl rfl ?_
  refine qx_getR d_Jo_tell_1 fR_Jo_22 rfl rfl (congrFun hJ.1 7) ?_
  refine qx_getR d_Jo_tell_4 fR_Jo_97 rfl rfl (congrFun hJ.2.2.1 1) ?_
  refine qx_iload_n d_Jo_tell_7 rfl rfl ?_
  refine qx_iald (j := k) d_Jo_tell_8 rfl rfl rfl rfl (by omega) (show _ = nI (sMt s k) from rfl) ?_
  refine qx_istore_n (lv1 := [_, _, _, _]) d_Jo_tell_9 rfl (by decide) rfl ?_
  refine qx_iload_n d_Jo_tell_10 rfl rfl ?_
  refine qx_tabIn (t := 62) d_Jo_tell_11 (by decide) (by decide) rfl rfl ?_
  refine qx_aload_n d_Jo_tell_62 rfl rfl ?_
  refine qx_getR d_Jo_tell_63 fR_Jo_22 rfl rfl (congrFun hJ.1 7) ?_
  refine qx_getR d_Jo_tell_66 fR_Jo_93 rfl rfl (congrFun hJ.2.2.1 0) ?_
  refine qx_iload_n d_Jo_tell_69 rfl rfl ?_
  refine qx_iald (j := k) d_Jo_tell_70 rfl rfl rfl rfl (by omega) (show _ = nI (sMk s k) from rfl) ?_
  refine qx_if_neN (t := 91) d_Jo_tell_71 rfl (by omega) (fun c71 => absurd c71 (by omega)) (fun c71 => ?_)
  refine qx_aload_n d_Jo_tell_74 rfl rfl ?_
  refine qx_iload_n d_Jo_tell_75 rfl rfl ?_
  refine qx_aload_n d_Jo_tell_76 rfl rfl ?_
  refine qx_getR d_Jo_tell_77 fR_Jo_22 rfl rfl (congrFun hJ.1 7) ?_
  refine qx_getR d_Jo_tell_80 fR_Jo_99 rfl rfl (congrFun hJ.2.2.1 2) ?_
  refine qx_iload_n d_Jo_tell_83 rfl rfl ?_
  refine qx_iald (j := k) d_Jo_tell_84 rfl rfl rfl rfl (by omega) (show _ = nI (sMa s k) from rfl) ?_
  refine qx_callV (As := [_, _]) (rest := _) d_Jo_tell_85 lk_Jo_104 y_Jo_workerOf v_Jo_workerOf rfl rfl rfl (by decide) rfl rfl rfl rfl (by decide) (by decide) (ct_Jo_workerOf (h := cJ h s) hJ pt (sMt s k) (sMa s k) wk ht ((cJ_pt ht).trans hpt) hp4 ha hwk h1w hw4) ?_
  rintro _ _ _ ⟨rfl, rfl, rfl⟩
  refine qx_goto (t := 100) d_Jo_tell_88 rfl ?_
  exact qx_iret d_Jo_tell_100 rfl rfl (by omega) (by omega) ⟨rfl, rfl, rfl⟩
set_option maxRecDepth 100000 in
set_option maxHeartbeats 4000000 in
theorem ct_Jo_tell_3d {h : qH} (hJ : jobOk h) (s : sJ) (k : Nat) (hk : k < sW s) (hw : sW s ≤ 68) (h0 : sMk s k = 1) (ht : sMt s k < 16) (rw : Int32) (hrw : h.1 (90 + sMt s k) 2 = rw) : qT mi_Jo_tell 2 0 0 [.ref 83, .int (nI k), .int (nI 3)] (cJ h s) NN (fun v1 h1 n1 => v1 = some (.int rw) ∧ cJ h s = h1 ∧ n1 = NN) := by
  refine qT.of (lv0 := [_, _, _, _]) (by decide +kernel) (fun _ _ => Nat.le_of_ble_eq_true rfl) rfl ?_
  refine qx_aload_n d_Jo_tell_0 rfl rfl ?_
  refine qx_getR d_Jo_tell_1 fR_Jo_22 rfl rfl (congrFun hJ.1 7) ?_
  refine qx_getR d_Jo_tell_4 fR_Jo_97 rfl rfl (congrFun hJ.2.2.1 1) ?_
  refine qx_iload_n d_Jo_tell_7 rfl rfl ?_
  refine qx_iald (j := k) d_Jo_tell_8 rfl rfl rfl rfl (by omega) (show _ = nI (sMt s k) from rfl) ?_
  refine qx_istore_n (lv1 := [_, _, _, _]) d_Jo_tell_9 rfl (by decide) rfl ?_
  refine qx_iload_n d_Jo_tell_10 rfl rfl ?_
  refine qx_tabIn (t := 62) d_Jo_tell_11 (by decide) (by decide) rfl rfl ?_
  refine qx_aload_n d_Jo_tell_62 rfl rfl ?_
  refine qx_getR d_Jo_tell_63 fR_Jo_22 rfl rfl (congrFun hJ.1 7) ?_
  refine qx_getR d_Jo_tell_66 fR_Jo_93 rfl rfl (congrFun hJ.2.2.1 0) ?_
  refine qx_iload_n d_Jo_tell_69 rfl rfl ?_
  refine qx_iald (j := k) d_Jo_tell_70 rfl rfl rfl rfl (by omega) (show _ = nI (sMk s k) from rfl) ?_
  refine qx_if_neN (t := 91) d_Jo_tell_71 rfl (by omega) (fun c71 => ?_) (fun c71 => absurd c71 (by omega))
  refine qx_aload_n d_Jo_tell_91 rfl rfl ?_
  refine qx_getR d_Jo_tell_92 fR_Jo_11 rfl rfl (congrFun hJ.1 2) ?_
  refine qx_iload_n d_Jo_tell_95 rfl rfl ?_
  refine qx_aald (j := (sMt s k)) (t := 2)  d_Jo_tell_96 rfl (fun _ => rfl) rfl rfl rfl ht (hJ.2.1 _ ht) ?_
  refine qx_getI d_Jo_tell_97 fI_Jo_113 (ta_pl ht).1 (ta_pl ht).2 (show _ = rw from (cJ_rw ht).trans hrw) ?_
  exact qx_iret d_Jo_tell_100 rfl rfl (by omega) (by omega) ⟨rfl, rfl, rfl⟩
set_option maxRecDepth 100000 in
set_option maxHeartbeats 4000000 in
theorem ct_Jo_tell_out {h : qH} (hJ : jobOk h) (s : sJ) (k : Nat) (hk : k < sW s) (hw : sW s ≤ 68) (x : Int32) (hx : x.toInt < 0 ∨ 3 < x.toInt) : qT mi_Jo_tell 2 0 0 [.ref 83, .int (nI k), .int x] (cJ h s) NN (fun v1 h1 n1 => v1 = some (.int (-1)) ∧ cJ h s = h1 ∧ n1 = NN) := by
  refine qT.of (lv0 := [_, _, _, _]) (by decide +kernel) (fun _ _ => Nat.le_of_ble_eq_true rfl) rfl ?_
  refine qx_aload_n d_Jo_tell_0 rfl rfl ?_
  refine qx_getR d_Jo_tell_1 fR_Jo_22 rfl rfl (congrFun hJ.1 7) ?_
  refine qx_getR d_Jo_tell_4 fR_Jo_97 rfl rfl (congrFun hJ.2.2.1 1) ?_
  refine qx_iload_n d_Jo_tell_7 rfl rfl ?_
  refine qx_iald (j := k) d_Jo_tell_8 rfl rfl rfl rfl (by omega) (show _ = nI (sMt s k) from rfl) ?_
  refine qx_istore_n (lv1 := [_, _, _, _]) d_Jo_tell_9 rfl (by decide) rfl ?_
  refine qx_iload_n d_Jo_tell_10 rfl rfl ?_
  refine qx_tabOut (t := 101) d_Jo_tell_11 hx rfl ?_
  refine qx_iconst (v := (-1)) d_Jo_tell_101 rfl ?_
  exact qx_iret d_Jo_tell_102 rfl rfl (by omega) (by omega) ⟨rfl, rfl, rfl⟩
