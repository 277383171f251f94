theorem qT.imp {y : qMi} {d cT sT : Nat} {av : List Value} {h : qH} {n : Nat} {Rp Rq : Option Value → qH → Nat → Prop} (hi : ∀ v h n, Rp v h n → Rq v h n) (k : qT y d cT sT av h n Rp) : qT y d cT sT av h n Rq := by
  intro l b0 b D dA p e ha hc hk s m args below hf hn hP hT
  obtain ⟨k1, o, h1, h2, h3, ⟨v, h', n', e1, e2, e3⟩, h5⟩ := k l b0 b D dA p e ha hc hk s m args below hf hn hP hT
  exact ⟨k1, o, h1, h2, h3, ⟨v, h', n', e1, hi _ _ _ e2, e3⟩, h5⟩
set_option maxRecDepth 100000 in
set_option maxHeartbeats 4000000 in
theorem ct_QM_calculate_0 {h : qH} (hR : h.2.2 122 = qRQM) (wk : Nat → Int64) (wn : Nat → Int32) (i : Nat) (hi : i + 1 < 24) (x y : Int64) (n m : Bool) (hx : wk i = x) (hy : wk (i + 1) = y) (hn : wn i = b2i n) (hm : wn (i + 1) = b2i m) : qT mi_QM_calculate 1 0 0 [.ref 122, .int (nI 0), .int (nI i)] (eR h wk wn) NN (fun v1 h1 n1 => v1 = none ∧ h1 = eR h (va_up wk i (if ((n || m) || !xLong 0 x y) = true then 0 else xCalc 0 x y)) (va_up wn i (b2i ((n || m) || !xLong 0 x y))) ∧ n1 = NN) := by
  refine qT.of (lv0 := [_, _, _, _, _, _, _, _, _, _]) (by decide +kernel) (fun _ _ => Nat.le_of_ble_eq_true rfl) rfl ?_
  refine qx_aload_n d_QM_calculate_0 rfl rfl ?_
  refine qx_getR d_QM_calculate_1 fR_QM_36 rfl rfl (congrFun hR 21) ?_
  refine qx_iload_n d_QM_calculate_4 rfl rfl ?_
  refine qx_lald d_QM_calculate_5 rfl rfl rfl rfl (by omega) hx ?_
  refine qx_lstore_n (lv1 := [_, _, _, _, _, _, _, _, _, _]) d_QM_calculate_6 rfl (by decide) rfl ?_
  refine qx_aload_n d_QM_calculate_7 rfl rfl ?_
  refine qx_getR d_QM_calculate_8 fR_QM_36 rfl rfl (congrFun hR 21) ?_
  refine qx_iload_n d_QM_calculate_11 rfl rfl ?_
  refine qx_iconstN (v := 1) d_QM_calculate_12 rfl ?_
  refine qx_iaddN d_QM_calculate_13 ?_
  refine qx_lald d_QM_calculate_14 rfl rfl rfl rfl (by omega) hy ?_
  refine qx_lstore (lv1 := [_, _, _, _, _, _, _, _, _, _]) d_QM_calculate_15 (by decide) rfl ?_
  refine qx_aload_n d_QM_calculate_17 rfl rfl ?_
  refine qx_getR d_QM_calculate_18 fR_QM_39 rfl rfl (congrFun hR 22) ?_
  refine qx_iload_n d_QM_calculate_21 rfl rfl ?_
  refine qx_zald d_QM_calculate_22 rfl rfl rfl rfl (by omega) hn ?_
  refine qx_if_neB (t := 37) d_QM_calculate_23 rfl (fun c23 => ?_) (fun c23 => ?_)
  · refine qx_iconst (v := b2i true) d_QM_calculate_37 rfl ?_
    refine qx_goto (t := 42) d_QM_calculate_38 rfl ?_
    refine qx_istore (lv1 := [_, _, _, _, _, _, _, _, _, _]) d_QM_calculate_42 (by decide) rfl ?_
    refine qx_iload_n d_QM_calculate_44 rfl rfl ?_
    refine qx_iconstN (v := 4) d_QM_calculate_45 rfl ?_
    refine qx_icmp_geN (t := 133) d_QM_calculate_46 rfl (by omega) (by omega) (fun c46 => absurd c46 (by decide)) (fun c46 => ?_)
    refine qx_iload d_QM_calculate_49 rfl ?_
    refine qx_if_neB (t := 64) d_QM_calculate_51 rfl (fun c51 => ?_) (fun c51 => ?_)
    · refine qx_iconst (v := b2i true) d_QM_calculate_64 rfl ?_
      refine qx_goto (t := 69) d_QM_calculate_65 rfl ?_
      refine qx_istore (lv1 := [_, _, _, _, _, _, _, _, _, _]) d_QM_calculate_69 (by decide) rfl ?_
      refine qx_iload d_QM_calculate_71 rfl ?_
      refine qx_if_eqB (t := 80) d_QM_calculate_73 rfl (fun c73 => ?_) (fun c73 => ?_)
      · refine qx_iload_n d_QM_calculate_80 rfl rfl ?_
        refine qx_if_neN (t := 91) d_QM_calculate_81 rfl (by omega) (fun c81 => absurd c81 (by decide)) (fun c81 => ?_)
        refine qx_lload_n d_QM_calculate_84 rfl rfl ?_
        refine qx_lload d_QM_calculate_85 rfl ?_
        refine qx_ladd d_QM_calculate_87 ?_
        refine qx_goto (t := 119) d_QM_calculate_88 rfl ?_
        refine qx_lstore (lv1 := [_, _, _, _, _, _, _, _, _, _]) d_QM_calculate_119 (by decide) rfl ?_
        refine qx_aload_n d_QM_calculate_121 rfl rfl ?_
        refine qx_iload_n d_QM_calculate_122 rfl rfl ?_
        refine qx_lload d_QM_calculate_123 rfl ?_
        refine qx_iload d_QM_calculate_125 rfl ?_
        refine qx_callV (As := [_, _, _]) (rest := _) d_QM_calculate_127 lk_QM_171 y_QM_set v_QM_set rfl rfl rfl (by decide) rfl rfl rfl rfl (by decide) (by decide) (ct_QM_set hR wk wn i (by omega) _ _) ?_
        rintro _ _ _ ⟨rfl, rfl, rfl⟩
        refine qx_goto (t := 250) d_QM_calculate_130 rfl ?_
        exact qx_ret d_QM_calculate_250 rfl (by omega) (by omega) (by first | exact absurd c51 (by decide) | exact absurd c73 (by decide) | (rw [c23]; exact ⟨rfl, rfl, rfl⟩) | (rw [c23, c34]; exact ⟨rfl, rfl, rfl⟩) | (rw [c23, c34, c61]; exact ⟨rfl, rfl, rfl⟩))
      · refine qx_lconst (v := 0) d_QM_calculate_76 rfl ?_
        refine qx_goto (t := 119) d_QM_calculate_77 rfl ?_
        refine qx_lstore (lv1 := [_, _, _, _, _, _, _, _, _, _]) d_QM_calculate_119 (by decide) rfl ?_
        refine qx_aload_n d_QM_calculate_121 rfl rfl ?_
        refine qx_iload_n d_QM_calculate_122 rfl rfl ?_
        refine qx_lload d_QM_calculate_123 rfl ?_
        refine qx_iload d_QM_calculate_125 rfl ?_
        refine qx_callV (As := [_, _, _]) (rest := _) d_QM_calculate_127 lk_QM_171 y_QM_set v_QM_set rfl rfl rfl (by decide) rfl rfl rfl rfl (by decide) (by decide) (ct_QM_set hR wk wn i (by omega) _ _) ?_
        rintro _ _ _ ⟨rfl, rfl, rfl⟩
        refine qx_goto (t := 250) d_QM_calculate_130 rfl ?_
        exact qx_ret d_QM_calculate_250 rfl (by omega) (by omega) (by first | exact absurd c51 (by decide) | exact absurd c73 (by decide) | (rw [c23]; exact ⟨rfl, rfl, rfl⟩) | (rw [c23, c34]; exact ⟨rfl, rfl, rfl⟩) | (rw [c23, c34, c61]; exact ⟨rfl, rfl, rfl⟩))
    · refine qx_iload_n d_QM_calculate_54 rfl rfl ?_
      refine qx_lload_n d_QM_calculate_55 rfl rfl ?_
      refine qx_lload d_QM_calculate_56 rfl ?_
      refine qx_callS (As := [_, _, _]) (rest := _) d_QM_calculate_58 lk_QM_167 y_QM_overflows s_QM_overflows rfl rfl rfl rfl (by decide) (by decide) (ct_QM_overflows_0 x y) ?_
      rintro _ _ _ ⟨rfl, rfl, rfl⟩
      refine qx_if_eqB (t := 68) d_QM_calculate_61 rfl (fun c61 => ?_) (fun c61 => ?_)
      · refine qx_iconst (v := b2i false) d_QM_calculate_68 rfl ?_
        refine qx_istore (lv1 := [_, _, _, _, _, _, _, _, _, _]) d_QM_calculate_69 (by decide) rfl ?_
        refine qx_iload d_QM_calculate_71 rfl ?_
        refine qx_if_eqB (t := 80) d_QM_calculate_73 rfl (fun c73 => ?_) (fun c73 => ?_)
        · refine qx_iload_n d_QM_calculate_80 rfl rfl ?_
          refine qx_if_neN (t := 91) d_QM_calculate_81 rfl (by omega) (fun c81 => absurd c81 (by decide)) (fun c81 => ?_)
          refine qx_lload_n d_QM_calculate_84 rfl rfl ?_
          refine qx_lload d_QM_calculate_85 rfl ?_
          refine qx_ladd d_QM_calculate_87 ?_
          refine qx_goto (t := 119) d_QM_calculate_88 rfl ?_
          refine qx_lstore (lv1 := [_, _, _, _, _, _, _, _, _, _]) d_QM_calculate_119 (by decide) rfl ?_
          refine qx_aload_n d_QM_calculate_121 rfl rfl ?_
          refine qx_iload_n d_QM_calculate_122 rfl rfl ?_
          refine qx_lload d_QM_calculate_123 rfl ?_
          refine qx_iload d_QM_calculate_125 rfl ?_
          refine qx_callV (As := [_, _, _]) (rest := _) d_QM_calculate_127 lk_QM_171 y_QM_set v_QM_set rfl rfl rfl (by decide) rfl rfl rfl rfl (by decide) (by decide) (ct_QM_set hR wk wn i (by omega) _ _) ?_
          rintro _ _ _ ⟨rfl, rfl, rfl⟩
          refine qx_goto (t := 250) d_QM_calculate_130 rfl ?_
          exact qx_ret d_QM_calculate_250 rfl (by omega) (by omega) (by first | exact absurd c51 (by decide) | exact absurd c73 (by decide) | (rw [c23]; exact ⟨rfl, rfl, rfl⟩) | (rw [c23, c34]; exact ⟨rfl, rfl, rfl⟩) | (rw [c23, c34, c61]; exact ⟨rfl, rfl, rfl⟩))
        · refine qx_lconst (v := 0) d_QM_calculate_76 rfl ?_
          refine qx_goto (t := 119) d_QM_calculate_77 rfl ?_
          refine qx_lstore (lv1 := [_, _, _, _, _, _, _, _, _, _]) d_QM_calculate_119 (by decide) rfl ?_
          refine qx_aload_n d_QM_calculate_121 rfl rfl ?_
          refine qx_iload_n d_QM_calculate_122 rfl rfl ?_
          refine qx_lload d_QM_calculate_123 rfl ?_
          refine qx_iload d_QM_calculate_125 rfl ?_
          refine qx_callV (As := [_, _, _]) (rest := _) d_QM_calculate_127 lk_QM_171 y_QM_set v_QM_set rfl rfl rfl (by decide) rfl rfl rfl rfl (by decide) (by decide) (ct_QM_set hR wk wn i (by omega) _ _) ?_
          rintro _ _ _ ⟨rfl, rfl, rfl⟩
          refine qx_goto (t := 250) d_QM_calculate_130 rfl ?_
          exact qx_ret d_QM_calculate_250 rfl (by omega) (by omega) (by first | exact absurd c51 (by decide) | exact absurd c73 (by decide) | (rw [c23]; exact ⟨rfl, rfl, rfl⟩) | (rw [c23, c34]; exact ⟨rfl, rfl, rfl⟩) | (rw [c23, c34, c61]; exact ⟨rfl, rfl, rfl⟩))
      · refine qx_iconst (v := b2i true) d_QM_calculate_64 rfl ?_
        refine qx_goto (t := 69) d_QM_calculate_65 rfl ?_
        refine qx_istore (lv1 := [_, _, _, _, _, _, _, _, _, _]) d_QM_calculate_69 (by decide) rfl ?_
        refine qx_iload d_QM_calculate_71 rfl ?_
        refine qx_if_eqB (t := 80) d_QM_calculate_73 rfl (fun c73 => ?_) (fun c73 => ?_)
        · refine qx_iload_n d_QM_calculate_80 rfl rfl ?_
          refine qx_if_neN (t := 91) d_QM_calculate_81 rfl (by omega) (fun c81 => absurd c81 (by decide)) (fun c81 => ?_)
          refine qx_lload_n d_QM_calculate_84 rfl rfl ?_
          refine qx_lload d_QM_calculate_85 rfl ?_
          refine qx_ladd d_QM_calculate_87 ?_
          refine qx_goto (t := 119) d_QM_calculate_88 rfl ?_
          refine qx_lstore (lv1 := [_, _, _, _, _, _, _, _, _, _]) d_QM_calculate_119 (by decide) rfl ?_
          refine qx_aload_n d_QM_calculate_121 rfl rfl ?_
          refine qx_iload_n d_QM_calculate_122 rfl rfl ?_
          refine qx_lload d_QM_calculate_123 rfl ?_
          refine qx_iload d_QM_calculate_125 rfl ?_
          refine qx_callV (As := [_, _, _]) (rest := _) d_QM_calculate_127 lk_QM_171 y_QM_set v_QM_set rfl rfl rfl (by decide) rfl rfl rfl rfl (by decide) (by decide) (ct_QM_set hR wk wn i (by omega) _ _) ?_
          rintro _ _ _ ⟨rfl, rfl, rfl⟩
          refine qx_goto (t := 250) d_QM_calculate_130 rfl ?_
          exact qx_ret d_QM_calculate_250 rfl (by omega) (by omega) (by first | exact absurd c51 (by decide) | exact absurd c73 (by decide) | (rw [c23]; exact ⟨rfl, rfl, rfl⟩) | (rw [c23, c34]; exact ⟨rfl, rfl, rfl⟩) | (rw [c23, c34, c61]; exact ⟨rfl, rfl, rfl⟩))
        · refine qx_lconst (v := 0) d_QM_calculate_76 rfl ?_
          refine qx_goto (t := 119) d_QM_calculate_77 rfl ?_
          refine qx_lstore (lv1 := [_, _, _, _, _, _, _, _, _, _]) d_QM_calculate_119 (by decide) rfl ?_
          refine qx_aload_n d_QM_calculate_121 rfl rfl ?_
          refine qx_iload_n d_QM_calculate_122 rfl rfl ?_
          refine qx_lload d_QM_calculate_123 rfl ?_
          refine qx_iload d_QM_calculate_125 rfl ?_
          refine qx_callV (As := [_, _, _]) (rest := _) d_QM_calculate_127 lk_QM_171 y_QM_set v_QM_set rfl rfl rfl (by decide) rfl rfl rfl rfl (by decide) (by decide) (ct_QM_set hR wk wn i (by omega) _ _) ?_
          rintro _ _ _ ⟨rfl, rfl, rfl⟩
          refine qx_goto (t := 250) d_QM_calculate_130 rfl ?_
          exact qx_ret d_QM_calculate_250 rfl (by omega) (by omega) (by first | exact absurd c51 (by decide) | exact absurd c73 (by decide) | (rw [c23]; exact ⟨rfl, rfl, rfl⟩) | (rw [c23, c34]; exact ⟨rfl, rfl, rfl⟩) | (rw [c23, c34, c61]; exact ⟨rfl, rfl, rfl⟩))
  · refine qx_aload_n d_QM_calculate_26 rfl rfl ?_
    refine qx_getR d_QM_calculate_27 fR_QM_39 rfl rfl (congrFun hR 22) ?_
    refine qx_iload_n d_QM_calculate_30 rfl rfl ?_
    refine qx_iconstN (v := 1) d_QM_calculate_31 rfl ?_
    refine qx_iaddN d_QM_calculate_32 ?_
    refine qx_zald d_QM_calculate_33 rfl rfl rfl rfl (by omega) hm ?_
    refine qx_if_eqB (t := 41) d_QM_calculate_34 rfl (fun c34 => ?_) (fun c34 => ?_)
    · refine qx_iconst (v := b2i false) d_QM_calculate_41 rfl ?_
      refine qx_istore (lv1 := [_, _, _, _, _, _, _, _, _, _]) d_QM_calculate_42 (by decide) rfl ?_
      refine qx_iload_n d_QM_calculate_44 rfl rfl ?_
      refine qx_iconstN (v := 4) d_QM_calculate_45 rfl ?_
      refine qx_icmp_geN (t := 133) d_QM_calculate_46 rfl (by omega) (by omega) (fun c46 => absurd c46 (by decide)) (fun c46 => ?_)
      refine qx_iload d_QM_calculate_49 rfl ?_
      refine qx_if_neB (t := 64) d_QM_calculate_51 rfl (fun c51 => ?_) (fun c51 => ?_)
      · refine qx_iconst (v := b2i true) d_QM_calculate_64 rfl ?_
        refine qx_goto (t := 69) d_QM_calculate_65 rfl ?_
        refine qx_istore (lv1 := [_, _, _, _, _, _, _, _, _, _]) d_QM_calculate_69 (by decide) rfl ?_
        refine qx_iload d_QM_calculate_71 rfl ?_
        refine qx_if_eqB (t := 80) d_QM_calculate_73 rfl (fun c73 => ?_) (fun c73 => ?_)
        · refine qx_iload_n d_QM_calculate_80 rfl rfl ?_
          refine qx_if_neN (t := 91) d_QM_calculate_81 rfl (by omega) (fun c81 => absurd c81 (by decide)) (fun c81 => ?_)
          refine qx_lload_n d_QM_calculate_84 rfl rfl ?_
          refine qx_lload d_QM_calculate_85 rfl ?_
          refine qx_ladd d_QM_calculate_87 ?_
          refine qx_goto (t := 119) d_QM_calculate_88 rfl ?_
          refine qx_lstore (lv1 := [_, _, _, _, _, _, _, _, _, _]) d_QM_calculate_119 (by decide) rfl ?_
          refine qx_aload_n d_QM_calculate_121 rfl rfl ?_
          refine qx_iload_n d_QM_calculate_122 rfl rfl ?_
          refine qx_lload d_QM_calculate_123 rfl ?_
          refine qx_iload d_QM_calculate_125 rfl ?_
          refine qx_callV (As := [_, _, _]) (rest := _) d_QM_calculate_127 lk_QM_171 y_QM_set v_QM_set rfl rfl rfl (by decide) rfl rfl rfl rfl (by decide) (by decide) (ct_QM_set hR wk wn i (by omega) _ _) ?_
          rintro _ _ _ ⟨rfl, rfl, rfl⟩
          refine qx_goto (t := 250) d_QM_calculate_130 rfl ?_
          exact qx_ret d_QM_calculate_250 rfl (by omega) (by omega) (by first | exact absurd c51 (by decide) | exact absurd c73 (by decide) | (rw [c23]; exact ⟨rfl, rfl, rfl⟩) | (rw [c23, c34]; exact ⟨rfl, rfl, rfl⟩) | (rw [c23, c34, c61]; exact ⟨rfl, rfl, rfl⟩))
        · refine qx_lconst (v := 0) d_QM_calculate_76 rfl ?_
          refine qx_goto (t := 119) d_QM_calculate_77 rfl ?_
          refine qx_lstore (lv1 := [_, _, _, _, _, _, _, _, _, _]) d_QM_calculate_119 (by decide) rfl ?_
          refine qx_aload_n d_QM_calculate_121 rfl rfl ?_
          refine qx_iload_n d_QM_calculate_122 rfl rfl ?_
          refine qx_lload d_QM_calculate_123 rfl ?_
          refine qx_iload d_QM_calculate_125 rfl ?_
          refine qx_callV (As := [_, _, _]) (rest := _) d_QM_calculate_127 lk_QM_171 y_QM_set v_QM_set rfl rfl rfl (by decide) rfl rfl rfl rfl (by decide) (by decide) (ct_QM_set hR wk wn i (by omega) _ _) ?_
          rintro _ _ _ ⟨rfl, rfl, rfl⟩
          refine qx_goto (t := 250) d_QM_calculate_130 rfl ?_
          exact qx_ret d_QM_calculate_250 rfl (by omega) (by omega) (by first | exact absurd c51 (by decide) | exact absurd c73 (by decide) | (rw [c23]; exact ⟨rfl, rfl, rfl⟩) | (rw [c23, c34]; exact ⟨rfl, rfl, rfl⟩) | (rw [c23, c34, c61]; exact ⟨rfl, rfl, rfl⟩))
      · refine qx_iload_n d_QM_calculate_54 rfl rfl ?_
        refine qx_lload_n d_QM_calculate_55 rfl rfl ?_
        refine qx_lload d_QM_calculate_56 rfl ?_
        refine qx_callS (As := [_, _, _]) (rest := _) d_QM_calculate_58 lk_QM_167 y_QM_overflows s_QM_overflows rfl rfl rfl rfl (by decide) (by decide) (ct_QM_overflows_0 x y) ?_
        rintro _ _ _ ⟨rfl, rfl, rfl⟩
        refine qx_if_eqB (t := 68) d_QM_calculate_61 rfl (fun c61 => ?_) (fun c61 => ?_)
        · refine qx_iconst (v := b2i false) d_QM_calculate_68 rfl ?_
          refine qx_istore (lv1 := [_, _, _, _, _, _, _, _, _, _]) d_QM_calculate_69 (by decide) rfl ?_
          refine qx_iload d_QM_calculate_71 rfl ?_
          refine qx_if_eqB (t := 80) d_QM_calculate_73 rfl (fun c73 => ?_) (fun c73 => ?_)
          · refine qx_iload_n d_QM_calculate_80 rfl rfl ?_
            refine qx_if_neN (t := 91) d_QM_calculate_81 rfl (by omega) (fun c81 => absurd c81 (by decide)) (fun c81 => ?_)
            refine qx_lload_n d_QM_calculate_84 rfl rfl ?_
            refine qx_lload d_QM_calculate_85 rfl ?_
            refine qx_ladd d_QM_calculate_87 ?_
            refine qx_goto (t := 119) d_QM_calculate_88 rfl ?_
            refine qx_lstore (lv1 := [_, _, _, _, _, _, _, _, _, _]) d_QM_calculate_119 (by decide) rfl ?_
            refine qx_aload_n d_QM_calculate_121 rfl rfl ?_
            refine qx_iload_n d_QM_calculate_122 rfl rfl ?_
            refine qx_lload d_QM_calculate_123 rfl ?_
            refine qx_iload d_QM_calculate_125 rfl ?_
            refine qx_callV (As := [_, _, _]) (rest := _) d_QM_calculate_127 lk_QM_171 y_QM_set v_QM_set rfl rfl rfl (by decide) rfl rfl rfl rfl (by decide) (by decide) (ct_QM_set hR wk wn i (by omega) _ _) ?_
            rintro _ _ _ ⟨rfl, rfl, rfl⟩
            refine qx_goto (t := 250) d_QM_calculate_130 rfl ?_
            exact qx_ret d_QM_calculate_250 rfl (by omega) (by omega) (by first | exact absurd c51 (by decide) | exact absurd c73 (by decide) | (rw [c23]; exact ⟨rfl, rfl, rfl⟩) | (rw [c23, c34]; exact ⟨rfl, rfl, rfl⟩) | (rw [c23, c34, c61]; exact ⟨rfl, rfl, rfl⟩))
          · refine qx_lconst (v := 0) d_QM_calculate_76 rfl ?_
            refine qx_goto (t := 119) d_QM_calculate_77 rfl ?_
            refine qx_lstore (lv1 := [_, _, _, _, _, _, _, _, _, _]) d_QM_calculate_119 (by decide) rfl ?_
            refine qx_aload_n d_QM_calculate_121 rfl rfl ?_
            refine qx_iload_n d_QM_calculate_122 rfl rfl ?_
            refine qx_lload d_QM_calculate_123 rfl ?_
            refine qx_iload d_QM_calculate_125 rfl ?_
            refine qx_callV (As := [_, _, _]) (rest := _) d_QM_calculate_127 lk_QM_171 y_QM_set v_QM_set rfl rfl rfl (by decide) rfl rfl rfl rfl (by decide) (by decide) (ct_QM_set hR wk wn i (by omega) _ _) ?_
            rintro _ _ _ ⟨rfl, rfl, rfl⟩
            refine qx_goto (t := 250) d_QM_calculate_130 rfl ?_
            exact qx_ret d_QM_calculate_250 rfl (by omega) (by omega) (by first | exact absurd c51 (by decide) | exact absurd c73 (by decide) | (rw [c23]; exact ⟨rfl, rfl, rfl⟩) | (rw [c23, c34]; exact ⟨rfl, rfl, rfl⟩) | (rw [c23, c34, c61]; exact ⟨rfl, rfl, rfl⟩))
        · refine qx_iconst (v := b2i true) d_QM_calculate_64 rfl ?_
          refine qx_goto (t := 69) d_QM_calculate_65 rfl ?_
          refine qx_istore (lv1 := [_, _, _, _, _, _, _, _, _, _]) d_QM_calculate_69 (by decide) rfl ?_
          refine qx_iload d_QM_calculate_71 rfl ?_
          refine qx_if_eqB (t := 80) d_QM_calculate_73 rfl (fun c73 => ?_) (fun c73 => ?_)
          · refine qx_iload_n d_QM_calculate_80 rfl rfl ?_
            refine qx_if_neN (t := 91) d_QM_calculate_81 rfl (by omega) (fun c81 => absurd c81 (by decide)) (fun c81 => ?_)
            refine qx_lload_n d_QM_calculate_84 rfl rfl ?_
            refine qx_lload d_QM_calculate_85 rfl ?_
            refine qx_ladd d_QM_calculate_87 ?_
            refine qx_goto (t := 119) d_QM_calculate_88 rfl ?_
            refine qx_lstore (lv1 := [_, _, _, _, _, _, _, _, _, _]) d_QM_calculate_119 (by decide) rfl ?_
            refine qx_aload_n d_QM_calculate_121 rfl rfl ?_
            refine qx_iload_n d_QM_calculate_122 rfl rfl ?_
            refine qx_lload d_QM_calculate_123 rfl ?_
            refine qx_iload d_QM_calculate_125 rfl ?_
            refine qx_callV (As := [_, _, _]) (rest := _) d_QM_calculate_127 lk_QM_171 y_QM_set v_QM_set rfl rfl rfl (by decide) rfl rfl rfl rfl (by decide) (by decide) (ct_QM_set hR wk wn i (by omega) _ _) ?_
            rintro _ _ _ ⟨rfl, rfl, rfl⟩
            refine qx_goto (t := 250) d_QM_calculate_130 rfl ?_
            exact qx_ret d_QM_calculate_250 rfl (by omega) (by omega) (by first | exact absurd c51 (by decide) | exact absurd c73 (by decide) | (rw [c23]; exact ⟨rfl, rfl, rfl⟩) | (rw [c23, c34]; exact ⟨rfl, rfl, rfl⟩) | (rw [c23, c34, c61]; exact ⟨rfl, rfl, rfl⟩))
          · refine qx_lconst (v := 0) d_QM_calculate_76 rfl ?_
            refine qx_goto (t := 119) d_QM_calculate_77 rfl ?_
            refine qx_lstore (lv1 := [_, _, _, _, _, _, _, _, _, _]) d_QM_calculate_119 (by decide) rfl ?_
            refine qx_aload_n d_QM_calculate_121 rfl rfl ?_
            refine qx_iload_n d_QM_calculate_122 rfl rfl ?_
            refine qx_lload d_QM_calculate_123 rfl ?_
            refine qx_iload d_QM_calculate_125 rfl ?_
            refine qx_callV (As := [_, _, _]) (rest := _) d_QM_calculate_127 lk_QM_171 y_QM_set v_QM_set rfl rfl rfl (by decide) rfl rfl rfl rfl (by decide) (by decide) (ct_QM_set hR wk wn i (by omega) _ _) ?_
            rintro _ _ _ ⟨rfl, rfl, rfl⟩
            refine qx_goto (t := 250) d_QM_calculate_130 rfl ?_
            exact qx_ret d_QM_calculate_250 rfl (by omega) (by omega) (by first | exact absurd c51 (by decide) | exact absurd c73 (by decide) | (rw [c23]; exact ⟨rfl, rfl, rfl⟩) | (rw [c23, c34]; exact ⟨rfl, rfl, rfl⟩) | (rw [c23, c34, c61]; exact ⟨rfl, rfl, rfl⟩))
    · refine qx_iconst (v := b2i true) d_QM_calculate_37 rfl ?_
      refine qx_goto (t := 42) d_QM_calculate_38 rfl ?_
      refine qx_istore (lv1 := [_, _, _, _, _, _, _, _, _, _]) d_QM_calculate_42 (by decide) rfl ?_
      refine qx_iload_n d_QM_calculate_44 rfl rfl ?_
      refine qx_iconstN (v := 4) d_QM_calculate_45 rfl ?_
      refine qx_icmp_geN (t := 133) d_QM_calculate_46 rfl (by omega) (by omega) (fun c46 => absurd c46 (by decide)) (fun c46 => ?_)
      refine qx_iload d_QM_calculate_49 rfl ?_
      refine qx_if_neB (t := 64) d_QM_calculate_51 rfl (fun c51 => ?_) (fun c51 => ?_)
      · refine qx_iconst (v := b2i true) d_QM_calculate_64 rfl ?_
        refine qx_goto (t := 69) d_QM_calculate_65 rfl ?_
        refine qx_istore (lv1 := [_, _, _, _, _, _, _, _, _, _]) d_QM_calculate_69 (by decide) rfl ?_
        refine qx_iload d_QM_calculate_71 rfl ?_
        refine qx_if_eqB (t := 80) d_QM_calculate_73 rfl (fun c73 => ?_) (fun c73 => ?_)
        · refine qx_iload_n d_QM_calculate_80 rfl rfl ?_
          refine qx_if_neN (t := 91) d_QM_calculate_81 rfl (by omega) (fun c81 => absurd c81 (by decide)) (fun c81 => ?_)
          refine qx_lload_n d_QM_calculate_84 rfl rfl ?_
          refine qx_lload d_QM_calculate_85 rfl ?_
          refine qx_ladd d_QM_calculate_87 ?_
          refine qx_goto (t := 119) d_QM_calculate_88 rfl ?_
          refine qx_lstore (lv1 := [_, _, _, _, _, _, _, _, _, _]) d_QM_calculate_119 (by decide) rfl ?_
          refine qx_aload_n d_QM_calculate_121 rfl rfl ?_
          refine qx_iload_n d_QM_calculate_122 rfl rfl ?_
          refine qx_lload d_QM_calculate_123 rfl ?_
          refine qx_iload d_QM_calculate_125 rfl ?_
          refine qx_callV (As := [_, _, _]) (rest := _) d_QM_calculate_127 lk_QM_171 y_QM_set v_QM_set rfl rfl rfl (by decide) rfl rfl rfl rfl (by decide) (by decide) (ct_QM_set hR wk wn i (by omega) _ _) ?_
          rintro _ _ _ ⟨rfl, rfl, rfl⟩
          refine qx_goto (t := 250) d_QM_calculate_130 rfl ?_
          exact qx_ret d_QM_calculate_250 rfl (by omega) (by omega) (by first | exact absurd c51 (by decide) | exact absurd c73 (by decide) | (rw [c23]; exact ⟨rfl, rfl, rfl⟩) | (rw [c23, c34]; exact ⟨rfl, rfl, rfl⟩) | (rw [c23, c34, c61]; exact ⟨rfl, rfl, rfl⟩))
        · refine qx_lconst (v := 0) d_QM_calculate_76 rfl ?_
          refine qx_goto (t := 119) d_QM_calculate_77 rfl ?_
          refine qx_lstore (lv1 := [_, _, _, _, _, _, _, _, _, _]) d_QM_calculate_119 (by decide) rfl ?_
          refine qx_aload_n d_QM_calculate_121 rfl rfl ?_
          refine qx_iload_n d_QM_calculate_122 rfl rfl ?_
          refine qx_lload d_QM_calculate_123 rfl ?_
          refine qx_iload d_QM_calculate_125 rfl ?_
          refine qx_callV (As := [_, _, _]) (rest := _) d_QM_calculate_127 lk_QM_171 y_QM_set v_QM_set rfl rfl rfl (by decide) rfl rfl rfl rfl (by decide) (by decide) (ct_QM_set hR wk wn i (by omega) _ _) ?_
          rintro _ _ _ ⟨rfl, rfl, rfl⟩
          refine qx_goto (t := 250) d_QM_calculate_130 rfl ?_
          exact qx_ret d_QM_calculate_250 rfl (by omega) (by omega) (by first | exact absurd c51 (by decide) | exact absurd c73 (by decide) | (rw [c23]; exact ⟨rfl, rfl, rfl⟩) | (rw [c23, c34]; exact ⟨rfl, rfl, rfl⟩) | (rw [c23, c34, c61]; exact ⟨rfl, rfl, rfl⟩))
      · refine qx_iload_n d_QM_calculate_54 rfl rfl ?_
        refine qx_lload_n d_QM_calculate_55 rfl rfl ?_
        refine qx_lload d_QM_calculate_56 rfl ?_
        refine qx_callS (As := [_, _, _]) (rest := _) d_QM_calculate_58 lk_QM_167 y_QM_overflows s_QM_overflows rfl rfl rfl rfl (by decide) (by decide) (ct_QM_overflows_0 x y) ?_
        rintro _ _ _ ⟨rfl, rfl, rfl⟩
        refine qx_if_eqB (t := 68) d_QM_calculate_61 rfl (fun c61 => ?_) (fun c61 => ?_)
        · refine qx_iconst (v := b2i false) d_QM_calculate_68 rfl ?_
          refine qx_istore (lv1 := [_, _, _, _, _, _, _, _, _, _]) d_QM_calculate_69 (by decide) rfl ?_
          refine qx_iload d_QM_calculate_71 rfl ?_
          refine qx_if_eqB (t := 80) d_QM_calculate_73 rfl (fun c73 => ?_) (fun c73 => ?_)
          · refine qx_iload_n d_QM_calculate_80 rfl rfl ?_
            refine qx_if_neN (t := 91) d_QM_calculate_81 rfl (by omega) (fun c81 => absurd c81 (by decide)) (fun c81 => ?_)
            refine qx_lload_n d_QM_calculate_84 rfl rfl ?_
            refine qx_lload d_QM_calculate_85 rfl ?_
            refine qx_ladd d_QM_calculate_87 ?_
            refine qx_goto (t := 119) d_QM_calculate_88 rfl ?_
            refine qx_lstore (lv1 := [_, _, _, _, _, _, _, _, _, _]) d_QM_calculate_119 (by decide) rfl ?_
            refine qx_aload_n d_QM_calculate_121 rfl rfl ?_
            refine qx_iload_n d_QM_calculate_122 rfl rfl ?_
            refine qx_lload d_QM_calculate_123 rfl ?_
            refine qx_iload d_QM_calculate_125 rfl ?_
            refine qx_callV (As := [_, _, _]) (rest := _) d_QM_calculate_127 lk_QM_171 y_QM_set v_QM_set rfl rfl rfl (by decide) rfl rfl rfl rfl (by decide) (by decide) (ct_QM_set hR wk wn i (by omega) _ _) ?_
            rintro _ _ _ ⟨rfl, rfl, rfl⟩
            refine qx_goto (t := 250) d_QM_calculate_130 rfl ?_
            exact qx_ret d_QM_calculate_250 rfl (by omega) (by omega) (by first | exact absurd c51 (by decide) | exact absurd c73 (by decide) | (rw [c23]; exact ⟨rfl, rfl, rfl⟩) | (rw [c23, c34]; exact ⟨rfl, rfl, rfl⟩) | (rw [c23, c34, c61]; exact ⟨rfl, rfl, rfl⟩))
          · refine qx_lconst (v := 0) d_QM_calculate_76 rfl ?_
            refine qx_goto (t := 119) d_QM_calculate_77 rfl ?_
            refine qx_lstore (lv1 := [_, _, _, _, _, _, _, _, _, _]) d_QM_calculate_119 (by decide) rfl ?_
            refine qx_aload_n d_QM_calculate_121 rfl rfl ?_
            refine qx_iload_n d_QM_calculate_122 rfl rfl ?_
            refine qx_lload d_QM_calculate_123 rfl ?_
            refine qx_iload d_QM_calculate_125 rfl ?_
            refine qx_callV (As := [_, _, _]) (rest := _) d_QM_calculate_127 lk_QM_171 y_QM_set v_QM_set rfl rfl rfl (by decide) rfl rfl rfl rfl (by decide) (by decide) (ct_QM_set hR wk wn i (by omega) _ _) ?_
            rintro _ _ _ ⟨rfl, rfl, rfl⟩
            refine qx_goto (t := 250) d_QM_calculate_130 rfl ?_
            exact qx_ret d_QM_calculate_250 rfl (by omega) (by omega) (by first | exact absurd c51 (by decide) | exact absurd c73 (by decide) | (rw [c23]; exact ⟨rfl, rfl, rfl⟩) | (rw [c23, c34]; exact ⟨rfl, rfl, rfl⟩) | (rw [c23, c34, c61]; exact ⟨rfl, rfl, rfl⟩))
        · refine qx_iconst (v := b2i true) d_QM_calculate_64 rfl ?_
          refine qx_goto (t := 69) d_QM_calculate_65 rfl ?_
          refine qx_istore (lv1 := [_, _, _, _, _, _, _, _, _, _]) d_QM_calculate_69 (by decide) rfl ?_
          refine qx_iload d_QM_calculate_71 rfl ?_
          refine qx_if_eqB (t := 80) d_QM_calculate_73 rfl (fun c73 => ?_) (fun c73 => ?_)
          · refine qx_iload_n d_QM_calculate_80 rfl rfl ?_
            refine qx_if_neN (t := 91) d_QM_calculate_81 rfl (by omega) (fun c81 => absurd c81 (by decide)) (fun c81 => ?_)
            refine qx_lload_n d_QM_calculate_84 rfl rfl ?_
            refine qx_lload d_QM_calculate_85 rfl ?_
            refine qx_ladd d_QM_calculate_87 ?_
            refine qx_goto (t := 119) d_QM_calculate_88 rfl ?_
            refine qx_lstore (lv1 := [_, _, _, _, _, _, _, _, _, _]) d_QM_calculate_119 (by decide) rfl ?_
            refine qx_aload_n d_QM_calculate_121 rfl rfl ?_
            refine qx_iload_n d_QM_calculate_122 rfl rfl ?_
            refine qx_lload d_QM_calculate_123 rfl ?_
            refine qx_iload d_QM_calculate_125 rfl ?_
            refine qx_callV (As := [_, _, _]) (rest := _) d_QM_calculate_127 lk_QM_171 y_QM_set v_QM_set rfl rfl rfl (by decide) rfl rfl rfl rfl (by decide) (by decide) (ct_QM_set hR wk wn i (by omega) _ _) ?_
            rintro _ _ _ ⟨rfl, rfl, rfl⟩
            refine qx_goto (t := 250) d_QM_calculate_130 rfl ?_
            exact qx_ret d_QM_calculate_250 rfl (by omega) (by omega) (by first | exact absurd c51 (by decide) | exact absurd c73 (by decide) | (rw [c23]; exact ⟨rfl, rfl, rfl⟩) | (rw [c23, c34]; exact ⟨rfl, rfl, rfl⟩) | (rw [c23, c34, c61]; exact ⟨rfl, rfl, rfl⟩))
          · refine qx_lconst (v := 0) d_QM_calculate_76 rfl ?_
            refine qx_goto (t := 119) d_QM_calculate_77 rfl ?_
            refine qx_lstore (lv1 := [_, _, _, _, _, _, _, _, _, _]) d_QM_calculate_119 (by decide) rfl ?_
            refine qx_aload_n d_QM_calculate_121 rfl rfl ?_
            refine qx_iload_n d_QM_calculate_122 rfl rfl ?_
            refine qx_lload d_QM_calculate_123 rfl ?_
            refine qx_iload d_QM_calculate_125 rfl ?_
            refine qx_callV (As := [_, _, _]) (rest := _) d_QM_calculate_127 lk_QM_171 y_QM_set v_QM_set rfl rfl rfl (by decide) rfl rfl rfl rfl (by decide) (by decide) (ct_QM_set hR wk wn i (by omega) _ _) ?_
            rintro _ _ _ ⟨rfl, rfl, rfl⟩
            refine qx_goto (t := 250) d_QM_calculate_130 rfl ?_
            exact qx_ret d_QM_calculate_250 rfl (by omega) (by omega) (by first | exact absurd c51 (by decide) | exact absurd c73 (by decide) | (rw [c23]; exact ⟨rfl, rfl, rfl⟩) | (rw [c23, c34]; exact ⟨rfl, rfl, rfl⟩) | (rw [c23, c34, c61]; exact ⟨rfl, rfl, rfl⟩))
set_option maxRecDepth 100000 in
set_option maxHeartbeats 4000000 in
theorem ct_QM_calculate_1 {h : qH} (hR : h.2.2 122 = qRQM) (wk : Nat → Int64) (wn : Nat → Int32) (i : Nat) (hi : i + 1 < 24) (x y : Int64) (n m : Bool) (hx : wk i = x) (hy : wk (i + 1) = y) (hn : wn i = b2i n) (hm : wn (i + 1) = b2i m) : qT mi_QM_calculate 1 0 0 [.ref 122, .int (nI 1), .int (nI i)] (eR h wk wn) NN (fun v1 h1 n1 => v1 = none ∧ h1 = eR h (va_up wk i (if ((n || m) || !xLong 1 x y) = true then 0 else xCalc 1 x y)) (va_up wn i (b2i ((n || m) || !xLong 1 x y))) ∧ n1 = NN) := by
  refine qT.of (lv0 := [_, _, _, _, _, _, _, _, _, _]) (by decide +kernel) (fun _ _ => Nat.le_of_ble_eq_true rfl) rfl ?_
  refine qx_aload_n d_QM_calculate_0 rfl rfl ?_
  refine qx_getR d_QM_calculate_1 fR_QM_36 rfl rfl (congrFun hR 21) ?_
  refine qx_iload_n d_QM_calculate_4 rfl rfl ?_
  refine qx_lald d_QM_calculate_5 rfl rfl rfl rfl (by omega) hx ?_
  refine qx_lstore_n (lv1 := [_, _, _, _, _, _, _, _, _, _]) d_QM_calculate_6 rfl (by decide) rfl ?_
  refine qx_aload_n d_QM_calculate_7 rfl rfl ?_
  refine qx_getR d_QM_calculate_8 fR_QM_36 rfl rfl (congrFun hR 21) ?_
  refine qx_iload_n d_QM_calculate_11 rfl rfl ?_
  refine qx_iconstN (v := 1) d_QM_calculate_12 rfl ?_
  refine qx_iaddN d_QM_calculate_13 ?_
  refine qx_lald d_QM_calculate_14 rfl rfl rfl rfl (by omega) hy ?_
  refine qx_lstore (lv1 := [_, _, _, _, _, _, _, _, _, _]) d_QM_calculate_15 (by decide) rfl ?_
  refine qx_aload_n d_QM_calculate_17 rfl rfl ?_
  refine qx_getR d_QM_calculate_18 fR_QM_39 rfl rfl (congrFun hR 22) ?_
  refine qx_iload_n d_QM_calculate_21 rfl rfl ?_
  refine qx_zald d_QM_calculate_22 rfl rfl rfl rfl (by omega) hn ?_
  refine qx_if_neB (t := 37) d_QM_calculate_23 rfl (fun c23 => ?_) (fun c23 => ?_)
  · refine qx_iconst (v := b2i true) d_QM_calculate_37 rfl ?_
    refine qx_goto (t := 42) d_QM_calculate_38 rfl ?_
    refine qx_istore (lv1 := [_, _, _, _, _, _, _, _, _, _]) d_QM_calculate_42 (by decide) rfl ?_
    refine qx_iload_n d_QM_calculate_44 rfl rfl ?_
    refine qx_iconstN (v := 4) d_QM_calculate_45 rfl ?_
    refine qx_icmp_geN (t := 133) d_QM_calculate_46 rfl (by omega) (by omega) (fun c46 => absurd c46 (by decide)) (fun c46 => ?_)
    refine qx_iload d_QM_calculate_49 rfl ?_
    refine qx_if_neB (t := 64) d_QM_calculate_51 rfl (fun c51 => ?_) (fun c51 => ?_)
    · refine qx_iconst (v := b2i true) d_QM_calculate_64 rfl ?_
      refine qx_goto (t := 69) d_QM_calculate_65 rfl ?_
      refine qx_istore (lv1 := [_, _, _, _, _, _, _, _, _, _]) d_QM_calculate_69 (by decide) rfl ?_
      refine qx_iload d_QM_calculate_71 rfl ?_
      refine qx_if_eqB (t := 80) d_QM_calculate_73 rfl (fun c73 => ?_) (fun c73 => ?_)
      · refine qx_iload_n d_QM_calculate_80 rfl rfl ?_
        refine qx_if_neN (t := 91) d_QM_calculate_81 rfl (by omega) (fun c81 => ?_) (fun c81 => absurd c81 (by decide))
        refine qx_iload_n d_QM_calculate_91 rfl rfl ?_
        refine qx_iconstN (v := 1) d_QM_calculate_92 rfl ?_
        refine qx_icmp_neN (t := 103) d_QM_calculate_93 rfl (by omega) (by omega) (fun c93 => absurd rfl c93) (fun c93 => ?_)
        refine qx_lload_n d_QM_calculate_96 rfl rfl ?_
        refine qx_lload d_QM_calculate_97 rfl ?_
        refine qx_lsub d_QM_calculate_99 ?_
        refine qx_goto (t := 119) d_QM_calculate_100 rfl ?_
        refine qx_lstore (lv1 := [_, _, _, _, _, _, _, _, _, _]) d_QM_calculate_119 (by decide) rfl ?_
        refine qx_aload_n d_QM_calculate_121 rfl rfl ?_
        refine qx_iload_n d_QM_calculate_122 rfl rfl ?_
        refine qx_lload d_QM_calculate_123 rfl ?_
        refine qx_iload d_QM_calculate_125 rfl ?_
        refine qx_callV (As := [_, _, _]) (rest := _) d_QM_calculate_127 lk_QM_171 y_QM_set v_QM_set rfl rfl rfl (by decide) rfl rfl rfl rfl (by decide) (by decide) (ct_QM_set hR wk wn i (by omega) _ _) ?_
        rintro _ _ _ ⟨rfl, rfl, rfl⟩
        refine qx_goto (t := 250) d_QM_calculate_130 rfl ?_
        exact qx_ret d_QM_calculate_250 rfl (by omega) (by omega) (by first | exact absurd c51 (by decide) | exact absurd c73 (by decide) | (rw [c23]; exact ⟨rfl, rfl, rfl⟩) | (rw [c23, c34]; exact ⟨rfl, rfl, rfl⟩) | (rw [c23, c34, c61]; exact ⟨rfl, rfl, rfl⟩))
      · refine qx_lconst (v := 0) d_QM_calculate_76 rfl ?_
        refine qx_goto (t := 119) d_QM_calculate_77 rfl ?_
        refine qx_lstore (lv1 := [_, _, _, _, _, _, _, _, _, _]) d_QM_calculate_119 (by decide) rfl ?_
        refine qx_aload_n d_QM_calculate_121 rfl rfl ?_
        refine qx_iload_n d_QM_calculate_122 rfl rfl ?_
        refine qx_lload d_QM_calculate_123 rfl ?_
        refine qx_iload d_QM_calculate_125 rfl ?_
        refine qx_callV (As := [_, _, _]) (rest := _) d_QM_calculate_127 lk_QM_171 y_QM_set v_QM_set rfl rfl rfl (by decide) rfl rfl rfl rfl (by decide) (by decide) (ct_QM_set hR wk wn i (by omega) _ _) ?_
        rintro _ _ _ ⟨rfl, rfl, rfl⟩
        refine qx_goto (t := 250) d_QM_calculate_130 rfl ?_
        exact qx_ret d_QM_calculate_250 rfl (by omega) (by omega) (by first | exact absurd c51 (by decide) | exact absurd c73 (by decide) | (rw [c23]; exact ⟨rfl, rfl, rfl⟩) | (rw [c23, c34]; exact ⟨rfl, rfl, rfl⟩) | (rw [c23, c34, c61]; exact ⟨rfl, rfl, rfl⟩))
    · refine qx_iload_n d_QM_calculate_54 rfl rfl ?_
      refine qx_lload_n d_QM_calculate_55 rfl rfl ?_
      refine qx_lload d_QM_calculate_56 rfl ?_
      refine qx_callS (As := [_, _, _]) (rest := _) d_QM_calculate_58 lk_QM_167 y_QM_overflows s_QM_overflows rfl rfl rfl rfl (by decide) (by decide) (ct_QM_overflows_1 x y) ?_
      rintro _ _ _ ⟨rfl, rfl, rfl⟩
      refine qx_if_eqB (t := 68) d_QM_calculate_61 rfl (fun c61 => ?_) (fun c61 => ?_)
      · refine qx_iconst (v := b2i false) d_QM_calculate_68 rfl ?_
        refine qx_istore (lv1 := [_, _, _, _, _, _, _, _, _, _]) d_QM_calculate_69 (by decide) rfl ?_
        refine qx_iload d_QM_calculate_71 rfl ?_
        refine qx_if_eqB (t := 80) d_QM_calculate_73 rfl (fun c73 => ?_) (fun c73 => ?_)
        · refine qx_iload_n d_QM_calculate_80 rfl rfl ?_
          refine qx_if_neN (t := 91) d_QM_calculate_81 rfl (by omega) (fun c81 => ?_) (fun c81 => absurd c81 (by decide))
          refine qx_iload_n d_QM_calculate_91 rfl rfl ?_
          refine qx_iconstN (v := 1) d_QM_calculate_92 rfl ?_
          refine qx_icmp_neN (t := 103) d_QM_calculate_93 rfl (by omega) (by omega) (fun c93 => absurd rfl c93) (fun c93 => ?_)
          refine qx_lload_n d_QM_calculate_96 rfl rfl ?_
          refine qx_lload d_QM_calculate_97 rfl ?_
          refine qx_lsub d_QM_calculate_99 ?_
          refine qx_goto (t := 119) d_QM_calculate_100 rfl ?_
          refine qx_lstore (lv1 := [_, _, _, _, _, _, _, _, _, _]) d_QM_calculate_119 (by decide) rfl ?_
          refine qx_aload_n d_QM_calculate_121 rfl rfl ?_
          refine qx_iload_n d_QM_calculate_122 rfl rfl ?_
          refine qx_lload d_QM_calculate_123 rfl ?_
          refine qx_iload d_QM_calculate_125 rfl ?_
          refine qx_callV (As := [_, _, _]) (rest := _) d_QM_calculate_127 lk_QM_171 y_QM_set v_QM_set rfl rfl rfl (by decide) rfl rfl rfl rfl (by decide) (by decide) (ct_QM_set hR wk wn i (by omega) _ _) ?_
          rintro _ _ _ ⟨rfl, rfl, rfl⟩
          refine qx_goto (t := 250) d_QM_calculate_130 rfl ?_
          exact qx_ret d_QM_calculate_250 rfl (by omega) (by omega) (by first | exact absurd c51 (by decide) | exact absurd c73 (by decide) | (rw [c23]; exact ⟨rfl, rfl, rfl⟩) | (rw [c23, c34]; exact ⟨rfl, rfl, rfl⟩) | (rw [c23, c34, c61]; exact ⟨rfl, rfl, rfl⟩))
        · refine qx_lconst (v := 0) d_QM_calculate_76 rfl ?_
          refine qx_goto (t := 119) d_QM_calculate_77 rfl ?_
          refine qx_lstore (lv1 := [_, _, _, _, _, _, _, _, _, _]) d_QM_calculate_119 (by decide) rfl ?_
          refine qx_aload_n d_QM_calculate_121 rfl rfl ?_
          refine qx_iload_n d_QM_calculate_122 rfl rfl ?_
          refine qx_lload d_QM_calculate_123 rfl ?_
          refine qx_iload d_QM_calculate_125 rfl ?_
          refine qx_callV (As := [_, _, _]) (rest := _) d_QM_calculate_127 lk_QM_171 y_QM_set v_QM_set rfl rfl rfl (by decide) rfl rfl rfl rfl (by decide) (by decide) (ct_QM_set hR wk wn i (by omega) _ _) ?_
          rintro _ _ _ ⟨rfl, rfl, rfl⟩
          refine qx_goto (t := 250) d_QM_calculate_130 rfl ?_
          exact qx_ret d_QM_calculate_250 rfl (by omega) (by omega) (by first | exact absurd c51 (by decide) | exact absurd c73 (by decide) | (rw [c23]; exact ⟨rfl, rfl, rfl⟩) | (rw [c23, c34]; exact ⟨rfl, rfl, rfl⟩) | (rw [c23, c34, c61]; exact ⟨rfl, rfl, rfl⟩))
      · refine qx_iconst (v := b2i true) d_QM_calculate_64 rfl ?_
        refine qx_goto (t := 69) d_QM_calculate_65 rfl ?_
        refine qx_istore (lv1 := [_, _, _, _, _, _, _, _, _, _]) d_QM_calculate_69 (by decide) rfl ?_
        refine qx_iload d_QM_calculate_71 rfl ?_
        refine qx_if_eqB (t := 80) d_QM_calculate_73 rfl (fun c73 => ?_) (fun c73 => ?_)
        · refine qx_iload_n d_QM_calculate_80 rfl rfl ?_
          refine qx_if_neN (t := 91) d_QM_calculate_81 rfl (by omega) (fun c81 => ?_) (fun c81 => absurd c81 (by decide))
          refine qx_iload_n d_QM_calculate_91 rfl rfl ?_
          refine qx_iconstN (v := 1) d_QM_calculate_92 rfl ?_
          refine qx_icmp_neN (t := 103) d_QM_calculate_93 rfl (by omega) (by omega) (fun c93 => absurd rfl c93) (fun c93 => ?_)
          refine qx_lload_n d_QM_calculate_96 rfl rfl ?_
          refine qx_lload d_QM_calculate_97 rfl ?_
          refine qx_lsub d_QM_calculate_99 ?_
          refine qx_goto (t := 119) d_QM_calculate_100 rfl ?_
          refine qx_lstore (lv1 := [_, _, _, _, _, _, _, _, _, _]) d_QM_calculate_119 (by decide) rfl ?_
          refine qx_aload_n d_QM_calculate_121 rfl rfl ?_
          refine qx_iload_n d_QM_calculate_122 rfl rfl ?_
          refine qx_lload d_QM_calculate_123 rfl ?_
          refine qx_iload d_QM_calculate_125 rfl ?_
          refine qx_callV (As := [_, _, _]) (rest := _) d_QM_calculate_127 lk_QM_171 y_QM_set v_QM_set rfl rfl rfl (by decide) rfl rfl rfl rfl (by decide) (by decide) (ct_QM_set hR wk wn i (by omega) _ _) ?_
          rintro _ _ _ ⟨rfl, rfl, rfl⟩
          refine qx_goto (t := 250) d_QM_calculate_130 rfl ?_
          exact qx_ret d_QM_calculate_250 rfl (by omega) (by omega) (by first | exact absurd c51 (by decide) | exact absurd c73 (by decide) | (rw [c23]; exact ⟨rfl, rfl, rfl⟩) | (rw [c23, c34]; exact ⟨rfl, rfl, rfl⟩) | (rw [c23, c34, c61]; exact ⟨rfl, rfl, rfl⟩))
        · refine qx_lconst (v := 0) d_QM_calculate_76 rfl ?_
          refine qx_goto (t := 119) d_QM_calculate_77 rfl ?_
          refine qx_lstore (lv1 := [_, _, _, _, _, _, _, _, _, _]) d_QM_calculate_119 (by decide) rfl ?_
          refine qx_aload_n d_QM_calculate_121 rfl rfl ?_
          refine qx_iload_n d_QM_calculate_122 rfl rfl ?_
          refine qx_lload d_QM_calculate_123 rfl ?_
          refine qx_iload d_QM_calculate_125 rfl ?_
          refine qx_callV (As := [_, _, _]) (rest := _) d_QM_calculate_127 lk_QM_171 y_QM_set v_QM_set rfl rfl rfl (by decide) rfl rfl rfl rfl (by decide) (by decide) (ct_QM_set hR wk wn i (by omega) _ _) ?_
          rintro _ _ _ ⟨rfl, rfl, rfl⟩
          refine qx_goto (t := 250) d_QM_calculate_130 rfl ?_
          exact qx_ret d_QM_calculate_250 rfl (by omega) (by omega) (by first | exact absurd c51 (by decide) | exact absurd c73 (by decide) | (rw [c23]; exact ⟨rfl, rfl, rfl⟩) | (rw [c23, c34]; exact ⟨rfl, rfl, rfl⟩) | (rw [c23, c34, c61]; exact ⟨rfl, rfl, rfl⟩))
  · refine qx_aload_n d_QM_calculate_26 rfl rfl ?_
    refine qx_getR d_QM_calculate_27 fR_QM_39 rfl rfl (congrFun hR 22) ?_
    refine qx_iload_n d_QM_calculate_30 rfl rfl ?_
    refine qx_iconstN (v := 1) d_QM_calculate_31 rfl ?_
    refine qx_iaddN d_QM_calculate_32 ?_
    refine qx_zald d_QM_calculate_33 rfl rfl rfl rfl (by omega) hm ?_
    refine qx_if_eqB (t := 41) d_QM_calculate_34 rfl (fun c34 => ?_) (fun c34 => ?_)
    · refine qx_iconst (v := b2i false) d_QM_calculate_41 rfl ?_
      refine qx_istore (lv1 := [_, _, _, _, _, _, _, _, _, _]) d_QM_calculate_42 (by decide) rfl ?_
      refine qx_iload_n d_QM_calculate_44 rfl rfl ?_
      refine qx_iconstN (v := 4) d_QM_calculate_45 rfl ?_
      refine qx_icmp_geN (t := 133) d_QM_calculate_46 rfl (by omega) (by omega) (fun c46 => absurd c46 (by decide)) (fun c46 => ?_)
      refine qx_iload d_QM_calculate_49 rfl ?_
      refine qx_if_neB (t := 64) d_QM_calculate_51 rfl (fun c51 => ?_) (fun c51 => ?_)
      · refine qx_iconst (v := b2i true) d_QM_calculate_64 rfl ?_
        refine qx_goto (t := 69) d_QM_calculate_65 rfl ?_
        refine qx_istore (lv1 := [_, _, _, _, _, _, _, _, _, _]) d_QM_calculate_69 (by decide) rfl ?_
        refine qx_iload d_QM_calculate_71 rfl ?_
        refine qx_if_eqB (t := 80) d_QM_calculate_73 rfl (fun c73 => ?_) (fun c73 => ?_)
        · refine qx_iload_n d_QM_calculate_80 rfl rfl ?_
          refine qx_if_neN (t := 91) d_QM_calculate_81 rfl (by omega) (fun c81 => ?_) (fun c81 => absurd c81 (by decide))
          refine qx_iload_n d_QM_calculate_91 rfl rfl ?_
          refine qx_iconstN (v := 1) d_QM_calculate_92 rfl ?_
          refine qx_icmp_neN (t := 103) d_QM_calculate_93 rfl (by omega) (by omega) (fun c93 => absurd rfl c93) (fun c93 => ?_)
          refine qx_lload_n d_QM_calculate_96 rfl rfl ?_
          refine qx_lload d_QM_calculate_97 rfl ?_
          refine qx_lsub d_QM_calculate_99 ?_
          refine qx_goto (t := 119) d_QM_calculate_100 rfl ?_
          refine qx_lstore (lv1 := [_, _, _, _, _, _, _, _, _, _]) d_QM_calculate_119 (by decide) rfl ?_
          refine qx_aload_n d_QM_calculate_121 rfl rfl ?_
          refine qx_iload_n d_QM_calculate_122 rfl rfl ?_
          refine qx_lload d_QM_calculate_123 rfl ?_
          refine qx_iload d_QM_calculate_125 rfl ?_
          refine qx_callV (As := [_, _, _]) (rest := _) d_QM_calculate_127 lk_QM_171 y_QM_set v_QM_set rfl rfl rfl (by decide) rfl rfl rfl rfl (by decide) (by decide) (ct_QM_set hR wk wn i (by omega) _ _) ?_
          rintro _ _ _ ⟨rfl, rfl, rfl⟩
          refine qx_goto (t := 250) d_QM_calculate_130 rfl ?_
          exact qx_ret d_QM_calculate_250 rfl (by omega) (by omega) (by first | exact absurd c51 (by decide) | exact absurd c73 (by decide) | (rw [c23]; exact ⟨rfl, rfl, rfl⟩) | (rw [c23, c34]; exact ⟨rfl, rfl, rfl⟩) | (rw [c23, c34, c61]; exact ⟨rfl, rfl, rfl⟩))
        · refine qx_lconst (v := 0) d_QM_calculate_76 rfl ?_
          refine qx_goto (t := 119) d_QM_calculate_77 rfl ?_
          refine qx_lstore (lv1 := [_, _, _, _, _, _, _, _, _, _]) d_QM_calculate_119 (by decide) rfl ?_
          refine qx_aload_n d_QM_calculate_121 rfl rfl ?_
          refine qx_iload_n d_QM_calculate_122 rfl rfl ?_
          refine qx_lload d_QM_calculate_123 rfl ?_
          refine qx_iload d_QM_calculate_125 rfl ?_
          refine qx_callV (As := [_, _, _]) (rest := _) d_QM_calculate_127 lk_QM_171 y_QM_set v_QM_set rfl rfl rfl (by decide) rfl rfl rfl rfl (by decide) (by decide) (ct_QM_set hR wk wn i (by omega) _ _) ?_
          rintro _ _ _ ⟨rfl, rfl, rfl⟩
          refine qx_goto (t := 250) d_QM_calculate_130 rfl ?_
          exact qx_ret d_QM_calculate_250 rfl (by omega) (by omega) (by first | exact absurd c51 (by decide) | exact absurd c73 (by decide) | (rw [c23]; exact ⟨rfl, rfl, rfl⟩) | (rw [c23, c34]; exact ⟨rfl, rfl, rfl⟩) | (rw [c23, c34, c61]; exact ⟨rfl, rfl, rfl⟩))
      · refine qx_iload_n d_QM_calculate_54 rfl rfl ?_
        refine qx_lload_n d_QM_calculate_55 rfl rfl ?_
        refine qx_lload d_QM_calculate_56 rfl ?_
        refine qx_callS (As := [_, _, _]) (rest := _) d_QM_calculate_58 lk_QM_167 y_QM_overflows s_QM_overflows rfl rfl rfl rfl (by decide) (by decide) (ct_QM_overflows_1 x y) ?_
        rintro _ _ _ ⟨rfl, rfl, rfl⟩
        refine qx_if_eqB (t := 68) d_QM_calculate_61 rfl (fun c61 => ?_) (fun c61 => ?_)
        · refine qx_iconst (v := b2i false) d_QM_calculate_68 rfl ?_
          refine qx_istore (lv1 := [_, _, _, _, _, _, _, _, _, _]) d_QM_calculate_69 (by decide) rfl ?_
          refine qx_iload d_QM_calculate_71 rfl ?_
          refine qx_if_eqB (t := 80) d_QM_calculate_73 rfl (fun c73 => ?_) (fun c73 => ?_)
          · refine qx_iload_n d_QM_calculate_80 rfl rfl ?_
            refine qx_if_neN (t := 91) d_QM_calculate_81 rfl (by omega) (fun c81 => ?_) (fun c81 => absurd c81 (by decide))
            refine qx_iload_n d_QM_calculate_91 rfl rfl ?_
            refine qx_iconstN (v := 1) d_QM_calculate_92 rfl ?_
            refine qx_icmp_neN (t := 103) d_QM_calculate_93 rfl (by omega) (by omega) (fun c93 => absurd rfl c93) (fun c93 => ?_)
            refine qx_lload_n d_QM_calculate_96 rfl rfl ?_
            refine qx_lload d_QM_calculate_97 rfl ?_
            refine qx_lsub d_QM_calculate_99 ?_
            refine qx_goto (t := 119) d_QM_calculate_100 rfl ?_
            refine qx_lstore (lv1 := [_, _, _, _, _, _, _, _, _, _]) d_QM_calculate_119 (by decide) rfl ?_
            refine qx_aload_n d_QM_calculate_121 rfl rfl ?_
            refine qx_iload_n d_QM_calculate_122 rfl rfl ?_
            refine qx_lload d_QM_calculate_123 rfl ?_
            refine qx_iload d_QM_calculate_125 rfl ?_
            refine qx_callV (As := [_, _, _]) (rest := _) d_QM_calculate_127 lk_QM_171 y_QM_set v_QM_set rfl rfl rfl (by decide) rfl rfl rfl rfl (by decide) (by decide) (ct_QM_set hR wk wn i (by omega) _ _) ?_
            rintro _ _ _ ⟨rfl, rfl, rfl⟩
            refine qx_goto (t := 250) d_QM_calculate_130 rfl ?_
            exact qx_ret d_QM_calculate_250 rfl (by omega) (by omega) (by first | exact absurd c51 (by decide) | exact absurd c73 (by decide) | (rw [c23]; exact ⟨rfl, rfl, rfl⟩) | (rw [c23, c34]; exact ⟨rfl, rfl, rfl⟩) | (rw [c23, c34, c61]; exact ⟨rfl, rfl, rfl⟩))
          · refine qx_lconst (v := 0) d_QM_calculate_76 rfl ?_
            refine qx_goto (t := 119) d_QM_calculate_77 rfl ?_
            refine qx_lstore (lv1 := [_, _, _, _, _, _, _, _, _, _]) d_QM_calculate_119 (by decide) rfl ?_
            refine qx_aload_n d_QM_calculate_121 rfl rfl ?_
            refine qx_iload_n d_QM_calculate_122 rfl rfl ?_
            refine qx_lload d_QM_calculate_123 rfl ?_
            refine qx_iload d_QM_calculate_125 rfl ?_
            refine qx_callV (As := [_, _, _]) (rest := _) d_QM_calculate_127 lk_QM_171 y_QM_set v_QM_set rfl rfl rfl (by decide) rfl rfl rfl rfl (by decide) (by decide) (ct_QM_set hR wk wn i (by omega) _ _) ?_
            rintro _ _ _ ⟨rfl, rfl, rfl⟩
            refine qx_goto (t := 250) d_QM_calculate_130 rfl ?_
            exact qx_ret d_QM_calculate_250 rfl (by omega) (by omega) (by first | exact absurd c51 (by decide) | exact absurd c73 (by decide) | (rw [c23]; exact ⟨rfl, rfl, rfl⟩) | (rw [c23, c34]; exact ⟨rfl, rfl, rfl⟩) | (rw [c23, c34, c61]; exact ⟨rfl, rfl, rfl⟩))
        · refine qx_iconst (v := b2i true) d_QM_calculate_64 rfl ?_
          refine qx_goto (t := 69) d_QM_calculate_65 rfl ?_
          refine qx_istore (lv1 := [_, _, _, _, _, _, _, _, _, _]) d_QM_calculate_69 (by decide) rfl ?_
          refine qx_iload d_QM_calculate_71 rfl ?_
          refine qx_if_eqB (t := 80) d_QM_calculate_73 rfl (fun c73 => ?_) (fun c73 => ?_)
          · refine qx_iload_n d_QM_calculate_80 rfl rfl ?_
            refine qx_if_neN (t := 91) d_QM_calculate_81 rfl (by omega) (fun c81 => ?_) (fun c81 => absurd c81 (by decide))
            refine qx_iload_n d_QM_calculate_91 rfl rfl ?_
            refine qx_iconstN (v := 1) d_QM_calculate_92 rfl ?_
            refine qx_icmp_neN (t := 103) d_QM_calculate_93 rfl (by omega) (by omega) (fun c93 => absurd rfl c93) (fun c93 => ?_)
            refine qx_lload_n d_QM_calculate_96 rfl rfl ?_
            refine qx_lload d_QM_calculate_97 rfl ?_
            refine qx_lsub d_QM_calculate_99 ?_
            refine qx_goto (t := 119) d_QM_calculate_100 rfl ?_
            refine qx_lstore (lv1 := [_, _, _, _, _, _, _, _, _, _]) d_QM_calculate_119 (by decide) rfl ?_
            refine qx_aload_n d_QM_calculate_121 rfl rfl ?_
            refine qx_iload_n d_QM_calculate_122 rfl rfl ?_
            refine qx_lload d_QM_calculate_123 rfl ?_
            refine qx_iload d_QM_calculate_125 rfl ?_
            refine qx_callV (As := [_, _, _]) (rest := _) d_QM_calculate_127 lk_QM_171 y_QM_set v_QM_set rfl rfl rfl (by decide) rfl rfl rfl rfl (by decide) (by decide) (ct_QM_set hR wk wn i (by omega) _ _) ?_
            rintro _ _ _ ⟨rfl, rfl, rfl⟩
            refine qx_goto (t := 250) d_QM_calculate_130 rfl ?_
            exact qx_ret d_QM_calculate_250 rfl (by omega) (by omega) (by first | exact absurd c51 (by decide) | exact absurd c73 (by decide) | (rw [c23]; exact ⟨rfl, rfl, rfl⟩) | (rw [c23, c34]; exact ⟨rfl, rfl, rfl⟩) | (rw [c23, c34, c61]; exact ⟨rfl, rfl, rfl⟩))
          · refine qx_lconst (v := 0) d_QM_calculate_76 rfl ?_
            refine qx_goto (t := 119) d_QM_calculate_77 rfl ?_
            refine qx_lstore (lv1 := [_, _, _, _, _, _, _, _, _, _]) d_QM_calculate_119 (by decide) rfl ?_
            refine qx_aload_n d_QM_calculate_121 rfl rfl ?_
            refine qx_iload_n d_QM_calculate_122 rfl rfl ?_
            refine qx_lload d_QM_calculate_123 rfl ?_
            refine qx_iload d_QM_calculate_125 rfl ?_
            refine qx_callV (As := [_, _, _]) (rest := _) d_QM_calculate_127 lk_QM_171 y_QM_set v_QM_set rfl rfl rfl (by decide) rfl rfl rfl rfl (by decide) (by decide) (ct_QM_set hR wk wn i (by omega) _ _) ?_
            rintro _ _ _ ⟨rfl, rfl, rfl⟩
            refine qx_goto (t := 250) d_QM_calculate_130 rfl ?_
            exact qx_ret d_QM_calculate_250 rfl (by omega) (by omega) (by first | exact absurd c51 (by decide) | exact absurd c73 (by decide) | (rw [c23]; exact ⟨rfl, rfl, rfl⟩) | (rw [c23, c34]; exact ⟨rfl, rfl, rfl⟩) | (rw [c23, c34, c61]; exact ⟨rfl, rfl, rfl⟩))
    · refine qx_iconst (v := b2i true) d_QM_calculate_37 rfl ?_
      refine qx_goto (t := 42) d_QM_calculate_38 rfl ?_
      refine qx_istore (lv1 := [_, _, _, _, _, _, _, _, _, _]) d_QM_calculate_42 (by decide) rfl ?_
      refine qx_iload_n d_QM_calculate_44 rfl rfl ?_
      refine qx_iconstN (v := 4) d_QM_calculate_45 rfl ?_
      refine qx_icmp_geN (t := 133) d_QM_calculate_46 rfl (by omega) (by omega) (fun c46 => absurd c46 (by decide)) (fun c46 => ?_)
      refine qx_iload d_QM_calculate_49 rfl ?_
      refine qx_if_neB (t := 64) d_QM_calculate_51 rfl (fun c51 => ?_) (fun c51 => ?_)
      · refine qx_iconst (v := b2i true) d_QM_calculate_64 rfl ?_
        refine qx_goto (t := 69) d_QM_calculate_65 rfl ?_
        refine qx_istore (lv1 := [_, _, _, _, _, _, _, _, _, _]) d_QM_calculate_69 (by decide) rfl ?_
        refine qx_iload d_QM_calculate_71 rfl ?_
        refine qx_if_eqB (t := 80) d_QM_calculate_73 rfl (fun c73 => ?_) (fun c73 => ?_)
        · refine qx_iload_n d_QM_calculate_80 rfl rfl ?_
          refine qx_if_neN (t := 91) d_QM_calculate_81 rfl (by omega) (fun c81 => ?_) (fun c81 => absurd c81 (by decide))
          refine qx_iload_n d_QM_calculate_91 rfl rfl ?_
          refine qx_iconstN (v := 1) d_QM_calculate_92 rfl ?_
          refine qx_icmp_neN (t := 103) d_QM_calculate_93 rfl (by omega) (by omega) (fun c93 => absurd rfl c93) (fun c93 => ?_)
          refine qx_lload_n d_QM_calculate_96 rfl rfl ?_
          refine qx_lload d_QM_calculate_97 rfl ?_
          refine qx_lsub d_QM_calculate_99 ?_
          refine qx_goto (t := 119) d_QM_calculate_100 rfl ?_
          refine qx_lstore (lv1 := [_, _, _, _, _, _, _, _, _, _]) d_QM_calculate_119 (by decide) rfl ?_
          refine qx_aload_n d_QM_calculate_121 rfl rfl ?_
          refine qx_iload_n d_QM_calculate_122 rfl rfl ?_
          refine qx_lload d_QM_calculate_123 rfl ?_
          refine qx_iload d_QM_calculate_125 rfl ?_
          refine qx_callV (As := [_, _, _]) (rest := _) d_QM_calculate_127 lk_QM_171 y_QM_set v_QM_set rfl rfl rfl (by decide) rfl rfl rfl rfl (by decide) (by decide) (ct_QM_set hR wk wn i (by omega) _ _) ?_
          rintro _ _ _ ⟨rfl, rfl, rfl⟩
          refine qx_goto (t := 250) d_QM_calculate_130 rfl ?_
          exact qx_ret d_QM_calculate_250 rfl (by omega) (by omega) (by first | exact absurd c51 (by decide) | exact absurd c73 (by decide) | (rw [c23]; exact ⟨rfl, rfl, rfl⟩) | (rw [c23, c34]; exact ⟨rfl, rfl, rfl⟩) | (rw [c23, c34, c61]; exact ⟨rfl, rfl, rfl⟩))
        · refine qx_lconst (v := 0) d_QM_calculate_76 rfl ?_
          refine qx_goto (t := 119) d_QM_calculate_77 rfl ?_
          refine qx_lstore (lv1 := [_, _, _, _, _, _, _, _, _, _]) d_QM_calculate_119 (by decide) rfl ?_
          refine qx_aload_n d_QM_calculate_121 rfl rfl ?_
          refine qx_iload_n d_QM_calculate_122 rfl rfl ?_
          refine qx_lload d_QM_calculate_123 rfl ?_
          refine qx_iload d_QM_calculate_125 rfl ?_
          refine qx_callV (As := [_, _, _]) (rest := _) d_QM_calculate_127 lk_QM_171 y_QM_set v_QM_set rfl rfl rfl (by decide) rfl rfl rfl rfl (by decide) (by decide) (ct_QM_set hR wk wn i (by omega) _ _) ?_
          rintro _ _ _ ⟨rfl, rfl, rfl⟩
          refine qx_goto (t := 250) d_QM_calculate_130 rfl ?_
          exact qx_ret d_QM_calculate_250 rfl (by omega) (by omega) (by first | exact absurd c51 (by decide) | exact absurd c73 (by decide) | (rw [c23]; exact ⟨rfl, rfl, rfl⟩) | (rw [c23, c34]; exact ⟨rfl, rfl, rfl⟩) | (rw [c23, c34, c61]; exact ⟨rfl, rfl, rfl⟩))
      · refine qx_iload_n d_QM_calculate_54 rfl rfl ?_
        refine qx_lload_n d_QM_calculate_55 rfl rfl ?_
        refine qx_lload d_QM_calculate_56 rfl ?_
        refine qx_callS (As := [_, _, _]) (rest := _) d_QM_calculate_58 lk_QM_167 y_QM_overflows s_QM_overflows rfl rfl rfl rfl (by decide) (by decide) (ct_QM_overflows_1 x y) ?_
        rintro _ _ _ ⟨rfl, rfl, rfl⟩
        refine qx_if_eqB (t := 68) d_QM_calculate_61 rfl (fun c61 => ?_) (fun c61 => ?_)
        · refine qx_iconst (v := b2i false) d_QM_calculate_68 rfl ?_
          refine qx_istore (lv1 := [_, _, _, _, _, _, _, _, _, _]) d_QM_calculate_69 (by decide) rfl ?_
          refine qx_iload d_QM_calculate_71 rfl ?_
          refine qx_if_eqB (t := 80) d_QM_calculate_73 rfl (fun c73 => ?_) (fun c73 => ?_)
          · refine qx_iload_n d_QM_calculate_80 rfl rfl ?_
            refine qx_if_neN (t := 91) d_QM_calculate_81 rfl (by omega) (fun c81 => ?_) (fun c81 => absurd c81 (by decide))
            refine qx_iload_n d_QM_calculate_91 rfl rfl ?_
            refine qx_iconstN (v := 1) d_QM_calculate_92 rfl ?_
            refine qx_icmp_neN (t := 103) d_QM_calculate_93 rfl (by omega) (by omega) (fun c93 => absurd rfl c93) (fun c93 => ?_)
            refine qx_lload_n d_QM_calculate_96 rfl rfl ?_
            refine qx_lload d_QM_calculate_97 rfl ?_
            refine qx_lsub d_QM_calculate_99 ?_
            refine qx_goto (t := 119) d_QM_calculate_100 rfl ?_
            refine qx_lstore (lv1 := [_, _, _, _, _, _, _, _, _, _]) d_QM_calculate_119 (by decide) rfl ?_
            refine qx_aload_n d_QM_calculate_121 rfl rfl ?_
            refine qx_iload_n d_QM_calculate_122 rfl rfl ?_
            refine qx_lload d_QM_calculate_123 rfl ?_
            refine qx_iload d_QM_calculate_125 rfl ?_
            refine qx_callV (As := [_, _, _]) (rest := _) d_QM_calculate_127 lk_QM_171 y_QM_set v_QM_set rfl rfl rfl (by decide) rfl rfl rfl rfl (by decide) (by decide) (ct_QM_set hR wk wn i (by omega) _ _) ?_
            rintro _ _ _ ⟨rfl, rfl, rfl⟩
            refine qx_goto (t := 250) d_QM_calculate_130 rfl ?_
            exact qx_ret d_QM_calculate_250 rfl (by omega) (by omega) (by first | exact absurd c51 (by decide) | exact absurd c73 (by decide) | (rw [c23]; exact ⟨rfl, rfl, rfl⟩) | (rw [c23, c34]; exact ⟨rfl, rfl, rfl⟩) | (rw [c23, c34, c61]; exact ⟨rfl, rfl, rfl⟩))
          · refine qx_lconst (v := 0) d_QM_calculate_76 rfl ?_
            refine qx_goto (t := 119) d_QM_calculate_77 rfl ?_
            refine qx_lstore (lv1 := [_, _, _, _, _, _, _, _, _, _]) d_QM_calculate_119 (by decide) rfl ?_
            refine qx_aload_n d_QM_calculate_121 rfl rfl ?_
            refine qx_iload_n d_QM_calculate_122 rfl rfl ?_
            refine qx_lload d_QM_calculate_123 rfl ?_
            refine qx_iload d_QM_calculate_125 rfl ?_
            refine qx_callV (As := [_, _, _]) (rest := _) d_QM_calculate_127 lk_QM_171 y_QM_set v_QM_set rfl rfl rfl (by decide) rfl rfl rfl rfl (by decide) (by decide) (ct_QM_set hR wk wn i (by omega) _ _) ?_
            rintro _ _ _ ⟨rfl, rfl, rfl⟩
            refine qx_goto (t := 250) d_QM_calculate_130 rfl ?_
            exact qx_ret d_QM_calculate_250 rfl (by omega) (by omega) (by first | exact absurd c51 (by decide) | exact absurd c73 (by decide) | (rw [c23]; exact ⟨rfl, rfl, rfl⟩) | (rw [c23, c34]; exact ⟨rfl, rfl, rfl⟩) | (rw [c23, c34, c61]; exact ⟨rfl, rfl, rfl⟩))
        · refine qx_iconst (v := b2i true) d_QM_calculate_64 rfl ?_
          refine qx_goto (t := 69) d_QM_calculate_65 rfl ?_
          refine qx_istore (lv1 := [_, _, _, _, _, _, _, _, _, _]) d_QM_calculate_69 (by decide) rfl ?_
          refine qx_iload d_QM_calculate_71 rfl ?_
          refine qx_if_eqB (t := 80) d_QM_calculate_73 rfl (fun c73 => ?_) (fun c73 => ?_)
          · refine qx_iload_n d_QM_calculate_80 rfl rfl ?_
            refine qx_if_neN (t := 91) d_QM_calculate_81 rfl (by omega) (fun c81 => ?_) (fun c81 => absurd c81 (by decide))
            refine qx_iload_n d_QM_calculate_91 rfl rfl ?_
            refine qx_iconstN (v := 1) d_QM_calculate_92 rfl ?_
            refine qx_icmp_neN (t := 103) d_QM_calculate_93 rfl (by omega) (by omega) (fun c93 => absurd rfl c93) (fun c93 => ?_)
            refine qx_lload_n d_QM_calculate_96 rfl rfl ?_
            refine qx_lload d_QM_calculate_97 rfl ?_
            refine qx_lsub d_QM_calculate_99 ?_
            refine qx_goto (t := 119) d_QM_calculate_100 rfl ?_
            refine qx_lstore (lv1 := [_, _, _, _, _, _, _, _, _, _]) d_QM_calculate_119 (by decide) rfl ?_
            refine qx_aload_n d_QM_calculate_121 rfl rfl ?_
            refine qx_iload_n d_QM_calculate_122 rfl rfl ?_
            refine qx_lload d_QM_calculate_123 rfl ?_
            refine qx_iload d_QM_calculate_125 rfl ?_
            refine qx_callV (As := [_, _, _]) (rest := _) d_QM_calculate_127 lk_QM_171 y_QM_set v_QM_set rfl rfl rfl (by decide) rfl rfl rfl rfl (by decide) (by decide) (ct_QM_set hR wk wn i (by omega) _ _) ?_
            rintro _ _ _ ⟨rfl, rfl, rfl⟩
            refine qx_goto (t := 250) d_QM_calculate_130 rfl ?_
            exact qx_ret d_QM_calculate_250 rfl (by omega) (by omega) (by first | exact absurd c51 (by decide) | exact absurd c73 (by decide) | (rw [c23]; exact ⟨rfl, rfl, rfl⟩) | (rw [c23, c34]; exact ⟨rfl, rfl, rfl⟩) | (rw [c23, c34, c61]; exact ⟨rfl, rfl, rfl⟩))
          · refine qx_lconst (v := 0) d_QM_calculate_76 rfl ?_
            refine qx_goto (t := 119) d_QM_calculate_77 rfl ?_
            refine qx_lstore (lv1 := [_, _, _, _, _, _, _, _, _, _]) d_QM_calculate_119 (by decide) rfl ?_
            refine qx_aload_n d_QM_calculate_121 rfl rfl ?_
            refine qx_iload_n d_QM_calculate_122 rfl rfl ?_
            refine qx_lload d_QM_calculate_123 rfl ?_
            refine qx_iload d_QM_calculate_125 rfl ?_
            refine qx_callV (As := [_, _, _]) (rest := _) d_QM_calculate_127 lk_QM_171 y_QM_set v_QM_set rfl rfl rfl (by decide) rfl rfl rfl rfl (by decide) (by decide) (ct_QM_set hR wk wn i (by omega) _ _) ?_
            rintro _ _ _ ⟨rfl, rfl, rfl⟩
            refine qx_goto (t := 250) d_QM_calculate_130 rfl ?_
            exact qx_ret d_QM_calculate_250 rfl (by omega) (by omega) (by first | exact absurd c51 (by decide) | exact absurd c73 (by decide) | (rw [c23]; exact ⟨rfl, rfl, rfl⟩) | (rw [c23, c34]; exact ⟨rfl, rfl, rfl⟩) | (rw [c23, c34, c61]; exact ⟨rfl, rfl, rfl⟩))
set_option maxRecDepth 100000 in
set_option maxHeartbeats 4000000 in
theorem ct_QM_calculate_2 {h : qH} (hR : h.2.2 122 = qRQM) (wk : Nat → Int64) (wn : Nat → Int32) (i : Nat) (hi : i + 1 < 24) (x y : Int64) (n m : Bool) (hx : wk i = x) (hy : wk (i + 1) = y) (hn : wn i = b2i n) (hm : wn (i + 1) = b2i m) : qT mi_QM_calculate 1 0 0 [.ref 122, .int (nI 2), .int (nI i)] (eR h wk wn) NN (fun v1 h1 n1 => v1 = none ∧ h1 = eR h (va_up wk i (if ((n || m) || !xLong 2 x y) = true then 0 else xCalc 2 x y)) (va_up wn i (b2i ((n || m) || !xLong 2 x y))) ∧ n1 = NN) := by
  refine qT.of (lv0 := [_, _, _, _, _, _, _, _, _, _]) (by decide +kernel) (fun _ _ => Nat.le_of_ble_eq_true rfl) rfl ?_
  refine qx_aload_n d_QM_calculate_0 rfl rfl ?_
  refine qx_getR d_QM_calculate_1 fR_QM_36 rfl rfl (congrFun hR 21) ?_
  refine qx_iload_n d_QM_calculate_4 rfl rfl ?_
  refine qx_lald d_QM_calculate_5 rfl rfl rfl rfl (by omega) hx ?_
  refine qx_lstore_n (lv1 := [_, _, _, _, _, _, _, _, _, _]) d_QM_calculate_6 rfl (by decide) rfl ?_
  refine qx_aload_n d_QM_calculate_7 rfl rfl ?_
  refine qx_getR d_QM_calculate_8 fR_QM_36 rfl rfl (congrFun hR 21) ?_
  refine qx_iload_n d_QM_calculate_11 rfl rfl ?_
  refine qx_iconstN (v := 1) d_QM_calculate_12 rfl ?_
  refine qx_iaddN d_QM_calculate_13 ?_
  refine qx_lald d_QM_calculate_14 rfl rfl rfl rfl (by omega) hy ?_
  refine qx_lstore (lv1 := [_, _, _, _, _, _, _, _, _, _]) d_QM_calculate_15 (by decide) rfl ?_
  refine qx_aload_n d_QM_calculate_17 rfl rfl ?_
  refine qx_getR d_QM_calculate_18 fR_QM_39 rfl rfl (congrFun hR 22) ?_
  refine qx_iload_n d_QM_calculate_21 rfl rfl ?_
  refine qx_zald d_QM_calculate_22 rfl rfl rfl rfl (by omega) hn ?_
  refine qx_if_neB (t := 37) d_QM_calculate_23 rfl (fun c23 => ?_) (fun c23 => ?_)
  · refine qx_iconst (v := b2i true) d_QM_calculate_37 rfl ?_
    refine qx_goto (t := 42) d_QM_calculate_38 rfl ?_
    refine qx_istore (lv1 := [_, _, _, _, _, _, _, _, _, _]) d_QM_calculate_42 (by decide) rfl ?_
    refine qx_iload_n d_QM_calculate_44 rfl rfl ?_
    refine qx_iconstN (v := 4) d_QM_calculate_45 rfl ?_
    refine qx_icmp_geN (t := 133) d_QM_calculate_46 rfl (by omega) (by omega) (fun c46 => absurd c46 (by decide)) (fun c46 => ?_)
    refine qx_iload d_QM_calculate_49 rfl ?_
    refine qx_if_neB (t := 64) d_QM_calculate_51 rfl (fun c51 => ?_) (fun c51 => ?_)
    · refine qx_iconst (v := b2i true) d_QM_calculate_64 rfl ?_
      refine qx_goto (t := 69) d_QM_calculate_65 rfl ?_
      refine qx_istore (lv1 := [_, _, _, _, _, _, _, _, _, _]) d_QM_calculate_69 (by decide) rfl ?_
      refine qx_iload d_QM_calculate_71 rfl ?_
      refine qx_if_eqB (t := 80) d_QM_calculate_73 rfl (fun c73 => ?_) (fun c73 => ?_)
      · refine qx_iload_n d_QM_calculate_80 rfl rfl ?_
        refine qx_if_neN (t := 91) d_QM_calculate_81 rfl (by omega) (fun c81 => ?_) (fun c81 => absurd c81 (by decide))
        refine qx_iload_n d_QM_calculate_91 rfl rfl ?_
        refine qx_iconstN (v := 1) d_QM_calculate_92 rfl ?_
        refine qx_icmp_neN (t := 103) d_QM_calculate_93 rfl (by omega) (by omega) (fun c93 => ?_) (fun c93 => absurd c93 (by decide))
        refine qx_iload_n d_QM_calculate_103 rfl rfl ?_
        refine qx_iconstN (v := 2) d_QM_calculate_104 rfl ?_
        refine qx_icmp_neN (t := 115) d_QM_calculate_105 rfl (by omega) (by omega) (fun c105 => absurd rfl c105) (fun c105 => ?_)
        refine qx_lload_n d_QM_calculate_108 rfl rfl ?_
        refine qx_lload d_QM_calculate_109 rfl ?_
        refine qx_lmul d_QM_calculate_111 ?_
        refine qx_goto (t := 119) d_QM_calculate_112 rfl ?_
        refine qx_lstore (lv1 := [_, _, _, _, _, _, _, _, _, _]) d_QM_calculate_119 (by decide) rfl ?_
        refine qx_aload_n d_QM_calculate_121 rfl rfl ?_
        refine qx_iload_n d_QM_calculate_122 rfl rfl ?_
        refine qx_lload d_QM_calculate_123 rfl ?_
        refine qx_iload d_QM_calculate_125 rfl ?_
        refine qx_callV (As := [_, _, _]) (rest := _) d_QM_calculate_127 lk_QM_171 y_QM_set v_QM_set rfl rfl rfl (by decide) rfl rfl rfl rfl (by decide) (by decide) (ct_QM_set hR wk wn i (by omega) _ _) ?_
        rintro _ _ _ ⟨rfl, rfl, rfl⟩
        refine qx_goto (t := 250) d_QM_calculate_130 rfl ?_
        exact qx_ret d_QM_calculate_250 rfl (by omega) (by omega) (by first | exact absurd c51 (by decide) | exact absurd c73 (by decide) | (rw [c23]; exact ⟨rfl, rfl, rfl⟩) | (rw [c23, c34]; exact ⟨rfl, rfl, rfl⟩) | (rw [c23, c34, c61]; exact ⟨rfl, rfl, rfl⟩))
      · refine qx_lconst (v := 0) d_QM_calculate_76 rfl ?_
        refine qx_goto (t := 119) d_QM_calculate_77 rfl ?_
        refine qx_lstore (lv1 := [_, _, _, _, _, _, _, _, _, _]) d_QM_calculate_119 (by decide) rfl ?_
        refine qx_aload_n d_QM_calculate_121 rfl rfl ?_
        refine qx_iload_n d_QM_calculate_122 rfl rfl ?_
        refine qx_lload d_QM_calculate_123 rfl ?_
        refine qx_iload d_QM_calculate_125 rfl ?_
        refine qx_callV (As := [_, _, _]) (rest := _) d_QM_calculate_127 lk_QM_171 y_QM_set v_QM_set rfl rfl rfl (by decide) rfl rfl rfl rfl (by decide) (by decide) (ct_QM_set hR wk wn i (by omega) _ _) ?_
        rintro _ _ _ ⟨rfl, rfl, rfl⟩
        refine qx_goto (t := 250) d_QM_calculate_130 rfl ?_
        exact qx_ret d_QM_calculate_250 rfl (by omega) (by omega) (by first | exact absurd c51 (by decide) | exact absurd c73 (by decide) | (rw [c23]; exact ⟨rfl, rfl, rfl⟩) | (rw [c23, c34]; exact ⟨rfl, rfl, rfl⟩) | (rw [c23, c34, c61]; exact ⟨rfl, rfl, rfl⟩))
    · refine qx_iload_n d_QM_calculate_54 rfl rfl ?_
      refine qx_lload_n d_QM_calculate_55 rfl rfl ?_
      refine qx_lload d_QM_calculate_56 rfl ?_
      refine qx_callS (As := [_, _, _]) (rest := _) d_QM_calculate_58 lk_QM_167 y_QM_overflows s_QM_overflows rfl rfl rfl rfl (by decide) (by decide) (ct_QM_overflows_2 x y) ?_
      rintro _ _ _ ⟨rfl, rfl, rfl⟩
      refine qx_if_eqB (t := 68) d_QM_calculate_61 rfl (fun c61 => ?_) (fun c61 => ?_)
      · refine qx_iconst (v := b2i false) d_QM_calculate_68 rfl ?_
        refine qx_istore (lv1 := [_, _, _, _, _, _, _, _, _, _]) d_QM_calculate_69 (by decide) rfl ?_
        refine qx_iload d_QM_calculate_71 rfl ?_
        refine qx_if_eqB (t := 80) d_QM_calculate_73 rfl (fun c73 => ?_) (fun c73 => ?_)
        · refine qx_iload_n d_QM_calculate_80 rfl rfl ?_
          refine qx_if_neN (t := 91) d_QM_calculate_81 rfl (by omega) (fun c81 => ?_) (fun c81 => absurd c81 (by decide))
          refine qx_iload_n d_QM_calculate_91 rfl rfl ?_
          refine qx_iconstN (v := 1) d_QM_calculate_92 rfl ?_
          refine qx_icmp_neN (t := 103) d_QM_calculate_93 rfl (by omega) (by omega) (fun c93 => ?_) (fun c93 => absurd c93 (by decide))
          refine qx_iload_n d_QM_calculate_103 rfl rfl ?_
          refine qx_iconstN (v := 2) d_QM_calculate_104 rfl ?_
          refine qx_icmp_neN (t := 115) d_QM_calculate_105 rfl (by omega) (by omega) (fun c105 => absurd rfl c105) (fun c105 => ?_)
          refine qx_lload_n d_QM_calculate_108 rfl rfl ?_
          refine qx_lload d_QM_calculate_109 rfl ?_
          refine qx_lmul d_QM_calculate_111 ?_
          refine qx_goto (t := 119) d_QM_calculate_112 rfl ?_
          refine qx_lstore (lv1 := [_, _, _, _, _, _, _, _, _, _]) d_QM_calculate_119 (by decide) rfl ?_
          refine qx_aload_n d_QM_calculate_121 rfl rfl ?_
          refine qx_iload_n d_QM_calculate_122 rfl rfl ?_
          refine qx_lload d_QM_calculate_123 rfl ?_
          refine qx_iload d_QM_calculate_125 rfl ?_
          refine qx_callV (As := [_, _, _]) (rest := _) d_QM_calculate_127 lk_QM_171 y_QM_set v_QM_set rfl rfl rfl (by decide) rfl rfl rfl rfl (by decide) (by decide) (ct_QM_set hR wk wn i (by omega) _ _) ?_
          rintro _ _ _ ⟨rfl, rfl, rfl⟩
          refine qx_goto (t := 250) d_QM_calculate_130 rfl ?_
          exact qx_ret d_QM_calculate_250 rfl (by omega) (by omega) (by first | exact absurd c51 (by decide) | exact absurd c73 (by decide) | (rw [c23]; exact ⟨rfl, rfl, rfl⟩) | (rw [c23, c34]; exact ⟨rfl, rfl, rfl⟩) | (rw [c23, c34, c61]; exact ⟨rfl, rfl, rfl⟩))
        · refine qx_lconst (v := 0) d_QM_calculate_76 rfl ?_
          refine qx_goto (t := 119) d_QM_calculate_77 rfl ?_
          refine qx_lstore (lv1 := [_, _, _, _, _, _, _, _, _, _]) d_QM_calculate_119 (by decide) rfl ?_
          refine qx_aload_n d_QM_calculate_121 rfl rfl ?_
          refine qx_iload_n d_QM_calculate_122 rfl rfl ?_
          refine qx_lload d_QM_calculate_123 rfl ?_
          refine qx_iload d_QM_calculate_125 rfl ?_
          refine qx_callV (As := [_, _, _]) (rest := _) d_QM_calculate_127 lk_QM_171 y_QM_set v_QM_set rfl rfl rfl (by decide) rfl rfl rfl rfl (by decide) (by decide) (ct_QM_set hR wk wn i (by omega) _ _) ?_
          rintro _ _ _ ⟨rfl, rfl, rfl⟩
          refine qx_goto (t := 250) d_QM_calculate_130 rfl ?_
          exact qx_ret d_QM_calculate_250 rfl (by omega) (by omega) (by first | exact absurd c51 (by decide) | exact absurd c73 (by decide) | (rw [c23]; exact ⟨rfl, rfl, rfl⟩) | (rw [c23, c34]; exact ⟨rfl, rfl, rfl⟩) | (rw [c23, c34, c61]; exact ⟨rfl, rfl, rfl⟩))
      · refine qx_iconst (v := b2i true) d_QM_calculate_64 rfl ?_
        refine qx_goto (t := 69) d_QM_calculate_65 rfl ?_
        refine qx_istore (lv1 := [_, _, _, _, _, _, _, _, _, _]) d_QM_calculate_69 (by decide) rfl ?_
        refine qx_iload d_QM_calculate_71 rfl ?_
        refine qx_if_eqB (t := 80) d_QM_calculate_73 rfl (fun c73 => ?_) (fun c73 => ?_)
        · refine qx_iload_n d_QM_calculate_80 rfl rfl ?_
          refine qx_if_neN (t := 91) d_QM_calculate_81 rfl (by omega) (fun c81 => ?_) (fun c81 => absurd c81 (by decide))
          refine qx_iload_n d_QM_calculate_91 rfl rfl ?_
          refine qx_iconstN (v := 1) d_QM_calculate_92 rfl ?_
          refine qx_icmp_neN (t := 103) d_QM_calculate_93 rfl (by omega) (by omega) (fun c93 => ?_) (fun c93 => absurd c93 (by decide))
          refine qx_iload_n d_QM_calculate_103 rfl rfl ?_
          refine qx_iconstN (v := 2) d_QM_calculate_104 rfl ?_
          refine qx_icmp_neN (t := 115) d_QM_calculate_105 rfl (by omega) (by omega) (fun c105 => absurd rfl c105) (fun c105 => ?_)
          refine qx_lload_n d_QM_calculate_108 rfl rfl ?_
          refine qx_lload d_QM_calculate_109 rfl ?_
          refine qx_lmul d_QM_calculate_111 ?_
          refine qx_goto (t := 119) d_QM_calculate_112 rfl ?_
          refine qx_lstore (lv1 := [_, _, _, _, _, _, _, _, _, _]) d_QM_calculate_119 (by decide) rfl ?_
          refine qx_aload_n d_QM_calculate_121 rfl rfl ?_
          refine qx_iload_n d_QM_calculate_122 rfl rfl ?_
          refine qx_lload d_QM_calculate_123 rfl ?_
          refine qx_iload d_QM_calculate_125 rfl ?_
          refine qx_callV (As := [_, _, _]) (rest := _) d_QM_calculate_127 lk_QM_171 y_QM_set v_QM_set rfl rfl rfl (by decide) rfl rfl rfl rfl (by decide) (by decide) (ct_QM_set hR wk wn i (by omega) _ _) ?_
          rintro _ _ _ ⟨rfl, rfl, rfl⟩
          refine qx_goto (t := 250) d_QM_calculate_130 rfl ?_
          exact qx_ret d_QM_calculate_250 rfl (by omega) (by omega) (by first | exact absurd c51 (by decide) | exact absurd c73 (by decide) | (rw [c23]; exact ⟨rfl, rfl, rfl⟩) | (rw [c23, c34]; exact ⟨rfl, rfl, rfl⟩) | (rw [c23, c34, c61]; exact ⟨rfl, rfl, rfl⟩))
        · refine qx_lconst (v := 0) d_QM_calculate_76 rfl ?_
          refine qx_goto (t := 119) d_QM_calculate_77 rfl ?_
          refine qx_lstore (lv1 := [_, _, _, _, _, _, _, _, _, _]) d_QM_calculate_119 (by decide) rfl ?_
          refine qx_aload_n d_QM_calculate_121 rfl rfl ?_
          refine qx_iload_n d_QM_calculate_122 rfl rfl ?_
          refine qx_lload d_QM_calculate_123 rfl ?_
          refine qx_iload d_QM_calculate_125 rfl ?_
          refine qx_callV (As := [_, _, _]) (rest := _) d_QM_calculate_127 lk_QM_171 y_QM_set v_QM_set rfl rfl rfl (by decide) rfl rfl rfl rfl (by decide) (by decide) (ct_QM_set hR wk wn i (by omega) _ _) ?_
          rintro _ _ _ ⟨rfl, rfl, rfl⟩
          refine qx_goto (t := 250) d_QM_calculate_130 rfl ?_
          exact qx_ret d_QM_calculate_250 rfl (by omega) (by omega) (by first | exact absurd c51 (by decide) | exact absurd c73 (by decide) | (rw [c23]; exact ⟨rfl, rfl, rfl⟩) | (rw [c23, c34]; exact ⟨rfl, rfl, rfl⟩) | (rw [c23, c34, c61]; exact ⟨rfl, rfl, rfl⟩))
  · refine qx_aload_n d_QM_calculate_26 rfl rfl ?_
    refine qx_getR d_QM_calculate_27 fR_QM_39 rfl rfl (congrFun hR 22) ?_
    refine qx_iload_n d_QM_calculate_30 rfl rfl ?_
    refine qx_iconstN (v := 1) d_QM_calculate_31 rfl ?_
    refine qx_iaddN d_QM_calculate_32 ?_
    refine qx_zald d_QM_calculate_33 rfl rfl rfl rfl (by omega) hm ?_
    refine qx_if_eqB (t := 41) d_QM_calculate_34 rfl (fun c34 => ?_) (fun c34 => ?_)
    · refine qx_iconst (v := b2i false) d_QM_calculate_41 rfl ?_
      refine qx_istore (lv1 := [_, _, _, _, _, _, _, _, _, _]) d_QM_calculate_42 (by decide) rfl ?_
      refine qx_iload_n d_QM_calculate_44 rfl rfl ?_
      refine qx_iconstN (v := 4) d_QM_calculate_45 rfl ?_
      refine qx_icmp_geN (t := 133) d_QM_calculate_46 rfl (by omega) (by omega) (fun c46 => absurd c46 (by decide)) (fun c46 => ?_)
      refine qx_iload d_QM_calculate_49 rfl ?_
      refine qx_if_neB (t := 64) d_QM_calculate_51 rfl (fun c51 => ?_) (fun c51 => ?_)
      · refine qx_iconst (v := b2i true) d_QM_calculate_64 rfl ?_
        refine qx_goto (t := 69) d_QM_calculate_65 rfl ?_
        refine qx_istore (lv1 := [_, _, _, _, _, _, _, _, _, _]) d_QM_calculate_69 (by decide) rfl ?_
        refine qx_iload d_QM_calculate_71 rfl ?_
        refine qx_if_eqB (t := 80) d_QM_calculate_73 rfl (fun c73 => ?_) (fun c73 => ?_)
        · refine qx_iload_n d_QM_calculate_80 rfl rfl ?_
          refine qx_if_neN (t := 91) d_QM_calculate_81 rfl (by omega) (fun c81 => ?_) (fun c81 => absurd c81 (by decide))
          refine qx_iload_n d_QM_calculate_91 rfl rfl ?_
          refine qx_iconstN (v := 1) d_QM_calculate_92 rfl ?_
          refine qx_icmp_neN (t := 103) d_QM_calculate_93 rfl (by omega) (by omega) (fun c93 => ?_) (fun c93 => absurd c93 (by decide))
          refine qx_iload_n d_QM_calculate_103 rfl rfl ?_
          refine qx_iconstN (v := 2) d_QM_calculate_104 rfl ?_
          refine qx_icmp_neN (t := 115) d_QM_calculate_105 rfl (by omega) (by omega) (fun c105 => absurd rfl c105) (fun c105 => ?_)
          refine qx_lload_n d_QM_calculate_108 rfl rfl ?_
          refine qx_lload d_QM_calculate_109 rfl ?_
          refine qx_lmul d_QM_calculate_111 ?_
          refine qx_goto (t := 119) d_QM_calculate_112 rfl ?_
          refine qx_lstore (lv1 := [_, _, _, _, _, _, _, _, _, _]) d_QM_calculate_119 (by decide) rfl ?_
          refine qx_aload_n d_QM_calculate_121 rfl rfl ?_
          refine qx_iload_n d_QM_calculate_122 rfl rfl ?_
          refine qx_lload d_QM_calculate_123 rfl ?_
          refine qx_iload d_QM_calculate_125 rfl ?_
          refine qx_callV (As := [_, _, _]) (rest := _) d_QM_calculate_127 lk_QM_171 y_QM_set v_QM_set rfl rfl rfl (by decide) rfl rfl rfl rfl (by decide) (by decide) (ct_QM_set hR wk wn i (by omega) _ _) ?_
          rintro _ _ _ ⟨rfl, rfl, rfl⟩
          refine qx_goto (t := 250) d_QM_calculate_130 rfl ?_
          exact qx_ret d_QM_calculate_250 rfl (by omega) (by omega) (by first | exact absurd c51 (by decide) | exact absurd c73 (by decide) | (rw [c23]; exact ⟨rfl, rfl, rfl⟩) | (rw [c23, c34]; exact ⟨rfl, rfl, rfl⟩) | (rw [c23, c34, c61]; exact ⟨rfl, rfl, rfl⟩))
        · refine qx_lconst (v := 0) d_QM_calculate_76 rfl ?_
          refine qx_goto (t := 119) d_QM_calculate_77 rfl ?_
          refine qx_lstore (lv1 := [_, _, _, _, _, _, _, _, _, _]) d_QM_calculate_119 (by decide) rfl ?_
          refine qx_aload_n d_QM_calculate_121 rfl rfl ?_
          refine qx_iload_n d_QM_calculate_122 rfl rfl ?_
          refine qx_lload d_QM_calculate_123 rfl ?_
          refine qx_iload d_QM_calculate_125 rfl ?_
          refine qx_callV (As := [_, _, _]) (rest := _) d_QM_calculate_127 lk_QM_171 y_QM_set v_QM_set rfl rfl rfl (by decide) rfl rfl rfl rfl (by decide) (by decide) (ct_QM_set hR wk wn i (by omega) _ _) ?_
          rintro _ _ _ ⟨rfl, rfl, rfl⟩
          refine qx_goto (t := 250) d_QM_calculate_130 rfl ?_
          exact qx_ret d_QM_calculate_250 rfl (by omega) (by omega) (by first | exact absurd c51 (by decide) | exact absurd c73 (by decide) | (rw [c23]; exact ⟨rfl, rfl, rfl⟩) | (rw [c23, c34]; exact ⟨rfl, rfl, rfl⟩) | (rw [c23, c34, c61]; exact ⟨rfl, rfl, rfl⟩))
      · refine qx_iload_n d_QM_calculate_54 rfl rfl ?_
        refine qx_lload_n d_QM_calculate_55 rfl rfl ?_
        refine qx_lload d_QM_calculate_56 rfl ?_
        refine qx_callS (As := [_, _, _]) (rest := _) d_QM_calculate_58 lk_QM_167 y_QM_overflows s_QM_overflows rfl rfl rfl rfl (by decide) (by decide) (ct_QM_overflows_2 x y) ?_
        rintro _ _ _ ⟨rfl, rfl, rfl⟩
        refine qx_if_eqB (t := 68) d_QM_calculate_61 rfl (fun c61 => ?_) (fun c61 => ?_)
        · refine qx_iconst (v := b2i false) d_QM_calculate_68 rfl ?_
          refine qx_istore (lv1 := [_, _, _, _, _, _, _, _, _, _]) d_QM_calculate_69 (by decide) rfl ?_
          refine qx_iload d_QM_calculate_71 rfl ?_
          refine qx_if_eqB (t := 80) d_QM_calculate_73 rfl (fun c73 => ?_) (fun c73 => ?_)
          · refine qx_iload_n d_QM_calculate_80 rfl rfl ?_
            refine qx_if_neN (t := 91) d_QM_calculate_81 rfl (by omega) (fun c81 => ?_) (fun c81 => absurd c81 (by decide))
            refine qx_iload_n d_QM_calculate_91 rfl rfl ?_
            refine qx_iconstN (v := 1) d_QM_calculate_92 rfl ?_
            refine qx_icmp_neN (t := 103) d_QM_calculate_93 rfl (by omega) (by omega) (fun c93 => ?_) (fun c93 => absurd c93 (by decide))
            refine qx_iload_n d_QM_calculate_103 rfl rfl ?_
            refine qx_iconstN (v := 2) d_QM_calculate_104 rfl ?_
            refine qx_icmp_neN (t := 115) d_QM_calculate_105 rfl (by omega) (by omega) (fun c105 => absurd rfl c105) (fun c105 => ?_)
            refine qx_lload_n d_QM_calculate_108 rfl rfl ?_
            refine qx_lload d_QM_calculate_109 rfl ?_
            refine qx_lmul d_QM_calculate_111 ?_
            refine qx_goto (t := 119) d_QM_calculate_112 rfl ?_
            refine qx_lstore (lv1 := [_, _, _, _, _, _, _, _, _, _]) d_QM_calculate_119 (by decide) rfl ?_
            refine qx_aload_n d_QM_calculate_121 rfl rfl ?_
            refine qx_iload_n d_QM_calculate_122 rfl rfl ?_
            refine qx_lload d_QM_calculate_123 rfl ?_
            refine qx_iload d_QM_calculate_125 rfl ?_
            refine qx_callV (As := [_, _, _]) (rest := _) d_QM_calculate_127 lk_QM_171 y_QM_set v_QM_set rfl rfl rfl (by decide) rfl rfl rfl rfl (by decide) (by decide) (ct_QM_set hR wk wn i (by omega) _ _) ?_
            rintro _ _ _ ⟨rfl, rfl, rfl⟩
            refine qx_goto (t := 250) d_QM_calculate_130 rfl ?_
            exact qx_ret d_QM_calculate_250 rfl (by omega) (by omega) (by first | exact absurd c51 (by decide) | exact absurd c73 (by decide) | (rw [c23]; exact ⟨rfl, rfl, rfl⟩) | (rw [c23, c34]; exact ⟨rfl, rfl, rfl⟩) | (rw [c23, c34, c61]; exact ⟨rfl, rfl, rfl⟩))
          · refine qx_lconst (v := 0) d_QM_calculate_76 rfl ?_
            refine qx_goto (t := 119) d_QM_calculate_77 rfl ?_
            refine qx_lstore (lv1 := [_, _, _, _, _, _, _, _, _, _]) d_QM_calculate_119 (by decide) rfl ?_
            refine qx_aload_n d_QM_calculate_121 rfl rfl ?_
            refine qx_iload_n d_QM_calculate_122 rfl rfl ?_
            refine qx_lload d_QM_calculate_123 rfl ?_
            refine qx_iload d_QM_calculate_125 rfl ?_
            refine qx_callV (As := [_, _, _]) (rest := _) d_QM_calculate_127 lk_QM_171 y_QM_set v_QM_set rfl rfl rfl (by decide) rfl rfl rfl rfl (by decide) (by decide) (ct_QM_set hR wk wn i (by omega) _ _) ?_
            rintro _ _ _ ⟨rfl, rfl, rfl⟩
            refine qx_goto (t := 250) d_QM_calculate_130 rfl ?_
            exact qx_ret d_QM_calculate_250 rfl (by omega) (by omega) (by first | exact absurd c51 (by decide) | exact absurd c73 (by decide) | (rw [c23]; exact ⟨rfl, rfl, rfl⟩) | (rw [c23, c34]; exact ⟨rfl, rfl, rfl⟩) | (rw [c23, c34, c61]; exact ⟨rfl, rfl, rfl⟩))
        · refine qx_iconst (v := b2i true) d_QM_calculate_64 rfl ?_
          refine qx_goto (t := 69) d_QM_calculate_65 rfl ?_
          refine qx_istore (lv1 := [_, _, _, _, _, _, _, _, _, _]) d_QM_calculate_69 (by decide) rfl ?_
          refine qx_iload d_QM_calculate_71 rfl ?_
          refine qx_if_eqB (t := 80) d_QM_calculate_73 rfl (fun c73 => ?_) (fun c73 => ?_)
          · refine qx_iload_n d_QM_calculate_80 rfl rfl ?_
            refine qx_if_neN (t := 91) d_QM_calculate_81 rfl (by omega) (fun c81 => ?_) (fun c81 => absurd c81 (by decide))
            refine qx_iload_n d_QM_calculate_91 rfl rfl ?_
            refine qx_iconstN (v := 1) d_QM_calculate_92 rfl ?_
            refine qx_icmp_neN (t := 103) d_QM_calculate_93 rfl (by omega) (by omega) (fun c93 => ?_) (fun c93 => absurd c93 (by decide))
            refine qx_iload_n d_QM_calculate_103 rfl rfl ?_
            refine qx_iconstN (v := 2) d_QM_calculate_104 rfl ?_
            refine qx_icmp_neN (t := 115) d_QM_calculate_105 rfl (by omega) (by omega) (fun c105 => absurd rfl c105) (fun c105 => ?_)
            refine qx_lload_n d_QM_calculate_108 rfl rfl ?_
            refine qx_lload d_QM_calculate_109 rfl ?_
            refine qx_lmul d_QM_calculate_111 ?_
            refine qx_goto (t := 119) d_QM_calculate_112 rfl ?_
            refine qx_lstore (lv1 := [_, _, _, _, _, _, _, _, _, _]) d_QM_calculate_119 (by decide) rfl ?_
            refine qx_aload_n d_QM_calculate_121 rfl rfl ?_
            refine qx_iload_n d_QM_calculate_122 rfl rfl ?_
            refine qx_lload d_QM_calculate_123 rfl ?_
            refine qx_iload d_QM_calculate_125 rfl ?_
            refine qx_callV (As := [_, _, _]) (rest := _) d_QM_calculate_127 lk_QM_171 y_QM_set v_QM_set rfl rfl rfl (by decide) rfl rfl rfl rfl (by decide) (by decide) (ct_QM_set hR wk wn i (by omega) _ _) ?_
            rintro _ _ _ ⟨rfl, rfl, rfl⟩
            refine qx_goto (t := 250) d_QM_calculate_130 rfl ?_
            exact qx_ret d_QM_calculate_250 rfl (by omega) (by omega) (by first | exact absurd c51 (by decide) | exact absurd c73 (by decide) | (rw [c23]; exact ⟨rfl, rfl, rfl⟩) | (rw [c23, c34]; exact ⟨rfl, rfl, rfl⟩) | (rw [c23, c34, c61]; exact ⟨rfl, rfl, rfl⟩))
          · refine qx_lconst (v := 0) d_QM_calculate_76 rfl ?_
            refine qx_goto (t := 119) d_QM_calculate_77 rfl ?_
            refine qx_lstore (lv1 := [_, _, _, _, _, _, _, _, _, _]) d_QM_calculate_119 (by decide) rfl ?_
            refine qx_aload_n d_QM_calculate_121 rfl rfl ?_
            refine qx_iload_n d_QM_calculate_122 rfl rfl ?_
            refine qx_lload d_QM_calculate_123 rfl ?_
            refine qx_iload d_QM_calculate_125 rfl ?_
            refine qx_callV (As := [_, _, _]) (rest := _) d_QM_calculate_127 lk_QM_171 y_QM_set v_QM_set rfl rfl rfl (by decide) rfl rfl rfl rfl (by decide) (by decide) (ct_QM_set hR wk wn i (by omega) _ _) ?_
            rintro _ _ _ ⟨rfl, rfl, rfl⟩
            refine qx_goto (t := 250) d_QM_calculate_130 rfl ?_
            exact qx_ret d_QM_calculate_250 rfl (by omega) (by omega) (by first | exact absurd c51 (by decide) | exact absurd c73 (by decide) | (rw [c23]; exact ⟨rfl, rfl, rfl⟩) | (rw [c23, c34]; exact ⟨rfl, rfl, rfl⟩) | (rw [c23, c34, c61]; exact ⟨rfl, rfl, rfl⟩))
    · refine qx_iconst (v := b2i true) d_QM_calculate_37 rfl ?_
      refine qx_goto (t := 42) d_QM_calculate_38 rfl ?_
      refine qx_istore (lv1 := [_, _, _, _, _, _, _, _, _, _]) d_QM_calculate_42 (by decide) rfl ?_
      refine qx_iload_n d_QM_calculate_44 rfl rfl ?_
      refine qx_iconstN (v := 4) d_QM_calculate_45 rfl ?_
      refine qx_icmp_geN (t := 133) d_QM_calculate_46 rfl (by omega) (by omega) (fun c46 => absurd c46 (by decide)) (fun c46 => ?_)
      refine qx_iload d_QM_calculate_49 rfl ?_
      refine qx_if_neB (t := 64) d_QM_calculate_51 rfl (fun c51 => ?_) (fun c51 => ?_)
      · refine qx_iconst (v := b2i true) d_QM_calculate_64 rfl ?_
        refine qx_goto (t := 69) d_QM_calculate_65 rfl ?_
        refine qx_istore (lv1 := [_, _, _, _, _, _, _, _, _, _]) d_QM_calculate_69 (by decide) rfl ?_
        refine qx_iload d_QM_calculate_71 rfl ?_
        refine qx_if_eqB (t := 80) d_QM_calculate_73 rfl (fun c73 => ?_) (fun c73 => ?_)
        · refine qx_iload_n d_QM_calculate_80 rfl rfl ?_
          refine qx_if_neN (t := 91) d_QM_calculate_81 rfl (by omega) (fun c81 => ?_) (fun c81 => absurd c81 (by decide))
          refine qx_iload_n d_QM_calculate_91 rfl rfl ?_
          refine qx_iconstN (v := 1) d_QM_calculate_92 rfl ?_
          refine qx_icmp_neN (t := 103) d_QM_calculate_93 rfl (by omega) (by omega) (fun c93 => ?_) (fun c93 => absurd c93 (by decide))
          refine qx_iload_n d_QM_calculate_103 rfl rfl ?_
          refine qx_iconstN (v := 2) d_QM_calculate_104 rfl ?_
          refine qx_icmp_neN (t := 115) d_QM_calculate_105 rfl (by omega) (by omega) (fun c105 => absurd rfl c105) (fun c105 => ?_)
          refine qx_lload_n d_QM_calculate_108 rfl rfl ?_
          refine qx_lload d_QM_calculate_109 rfl ?_
          refine qx_lmul d_QM_calculate_111 ?_
          refine qx_goto (t := 119) d_QM_calculate_112 rfl ?_
          refine qx_lstore (lv1 := [_, _, _, _, _, _, _, _, _, _]) d_QM_calculate_119 (by decide) rfl ?_
          refine qx_aload_n d_QM_calculate_121 rfl rfl ?_
          refine qx_iload_n d_QM_calculate_122 rfl rfl ?_
          refine qx_lload d_QM_calculate_123 rfl ?_
          refine qx_iload d_QM_calculate_125 rfl ?_
          refine qx_callV (As := [_, _, _]) (rest := _) d_QM_calculate_127 lk_QM_171 y_QM_set v_QM_set rfl rfl rfl (by decide) rfl rfl rfl rfl (by decide) (by decide) (ct_QM_set hR wk wn i (by omega) _ _) ?_
          rintro _ _ _ ⟨rfl, rfl, rfl⟩
          refine qx_goto (t := 250) d_QM_calculate_130 rfl ?_
          exact qx_ret d_QM_calculate_250 rfl (by omega) (by omega) (by first | exact absurd c51 (by decide) | exact absurd c73 (by decide) | (rw [c23]; exact ⟨rfl, rfl, rfl⟩) | (rw [c23, c34]; exact ⟨rfl, rfl, rfl⟩) | (rw [c23, c34, c61]; exact ⟨rfl, rfl, rfl⟩))
        · refine qx_lconst (v := 0) d_QM_calculate_76 rfl ?_
          refine qx_goto (t := 119) d_QM_calculate_77 rfl ?_
          refine qx_lstore (lv1 := [_, _, _, _, _, _, _, _, _, _]) d_QM_calculate_119 (by decide) rfl ?_
          refine qx_aload_n d_QM_calculate_121 rfl rfl ?_
          refine qx_iload_n d_QM_calculate_122 rfl rfl ?_
          refine qx_lload d_QM_calculate_123 rfl ?_
          refine qx_iload d_QM_calculate_125 rfl ?_
          refine qx_callV (As := [_, _, _]) (rest := _) d_QM_calculate_127 lk_QM_171 y_QM_set v_QM_set rfl rfl rfl (by decide) rfl rfl rfl rfl (by decide) (by decide) (ct_QM_set hR wk wn i (by omega) _ _) ?_
          rintro _ _ _ ⟨rfl, rfl, rfl⟩
          refine qx_goto (t := 250) d_QM_calculate_130 rfl ?_
          exact qx_ret d_QM_calculate_250 rfl (by omega) (by omega) (by first | exact absurd c51 (by decide) | exact absurd c73 (by decide) | (rw [c23]; exact ⟨rfl, rfl, rfl⟩) | (rw [c23, c34]; exact ⟨rfl, rfl, rfl⟩) | (rw [c23, c34, c61]; exact ⟨rfl, rfl, rfl⟩))
      · refine qx_iload_n d_QM_calculate_54 rfl rfl ?_
        refine qx_lload_n d_QM_calculate_55 rfl rfl ?_
        refine qx_lload d_QM_calculate_56 rfl ?_
        refine qx_callS (As := [_, _, _]) (rest := _) d_QM_calculate_58 lk_QM_167 y_QM_overflows s_QM_overflows rfl rfl rfl rfl (by decide) (by decide) (ct_QM_overflows_2 x y) ?_
        rintro _ _ _ ⟨rfl, rfl, rfl⟩
        refine qx_if_eqB (t := 68) d_QM_calculate_61 rfl (fun c61 => ?_) (fun c61 => ?_)
        · refine qx_iconst (v := b2i false) d_QM_calculate_68 rfl ?_
          refine qx_istore (lv1 := [_, _, _, _, _, _, _, _, _, _]) d_QM_calculate_69 (by decide) rfl ?_
          refine qx_iload d_QM_calculate_71 rfl ?_
          refine qx_if_eqB (t := 80) d_QM_calculate_73 rfl (fun c73 => ?_) (fun c73 => ?_)
          · refine qx_iload_n d_QM_calculate_80 rfl rfl ?_
            refine qx_if_neN (t := 91) d_QM_calculate_81 rfl (by omega) (fun c81 => ?_) (fun c81 => absurd c81 (by decide))
            refine qx_iload_n d_QM_calculate_91 rfl rfl ?_
            refine qx_iconstN (v := 1) d_QM_calculate_92 rfl ?_
            refine qx_icmp_neN (t := 103) d_QM_calculate_93 rfl (by omega) (by omega) (fun c93 => ?_) (fun c93 => absurd c93 (by decide))
            refine qx_iload_n d_QM_calculate_103 rfl rfl ?_
            refine qx_iconstN (v := 2) d_QM_calculate_104 rfl ?_
            refine qx_icmp_neN (t := 115) d_QM_calculate_105 rfl (by omega) (by omega) (fun c105 => absurd rfl c105) (fun c105 => ?_)
            refine qx_lload_n d_QM_calculate_108 rfl rfl ?_
            refine qx_lload d_QM_calculate_109 rfl ?_
            refine qx_lmul d_QM_calculate_111 ?_
            refine qx_goto (t := 119) d_QM_calculate_112 rfl ?_
            refine qx_lstore (lv1 := [_, _, _, _, _, _, _, _, _, _]) d_QM_calculate_119 (by decide) rfl ?_
            refine qx_aload_n d_QM_calculate_121 rfl rfl ?_
            refine qx_iload_n d_QM_calculate_122 rfl rfl ?_
            refine qx_lload d_QM_calculate_123 rfl ?_
            refine qx_iload d_QM_calculate_125 rfl ?_
            refine qx_callV (As := [_, _, _]) (rest := _) d_QM_calculate_127 lk_QM_171 y_QM_set v_QM_set rfl rfl rfl (by decide) rfl rfl rfl rfl (by decide) (by decide) (ct_QM_set hR wk wn i (by omega) _ _) ?_
            rintro _ _ _ ⟨rfl, rfl, rfl⟩
            refine qx_goto (t := 250) d_QM_calculate_130 rfl ?_
            exact qx_ret d_QM_calculate_250 rfl (by omega) (by omega) (by first | exact absurd c51 (by decide) | exact absurd c73 (by decide) | (rw [c23]; exact ⟨rfl, rfl, rfl⟩) | (rw [c23, c34]; exact ⟨rfl, rfl, rfl⟩) | (rw [c23, c34, c61]; exact ⟨rfl, rfl, rfl⟩))
          · refine qx_lconst (v := 0) d_QM_calculate_76 rfl ?_
            refine qx_goto (t := 119) d_QM_calculate_77 rfl ?_
            refine qx_lstore (lv1 := [_, _, _, _, _, _, _, _, _, _]) d_QM_calculate_119 (by decide) rfl ?_
            refine qx_aload_n d_QM_calculate_121 rfl rfl ?_
            refine qx_iload_n d_QM_calculate_122 rfl rfl ?_
            refine qx_lload d_QM_calculate_123 rfl ?_
            refine qx_iload d_QM_calculate_125 rfl ?_
            refine qx_callV (As := [_, _, _]) (rest := _) d_QM_calculate_127 lk_QM_171 y_QM_set v_QM_set rfl rfl rfl (by decide) rfl rfl rfl rfl (by decide) (by decide) (ct_QM_set hR wk wn i (by omega) _ _) ?_
            rintro _ _ _ ⟨rfl, rfl, rfl⟩
            refine qx_goto (t := 250) d_QM_calculate_130 rfl ?_
            exact qx_ret d_QM_calculate_250 rfl (by omega) (by omega) (by first | exact absurd c51 (by decide) | exact absurd c73 (by decide) | (rw [c23]; exact ⟨rfl, rfl, rfl⟩) | (rw [c23, c34]; exact ⟨rfl, rfl, rfl⟩) | (rw [c23, c34, c61]; exact ⟨rfl, rfl, rfl⟩))
        · refine qx_iconst (v := b2i true) d_QM_calculate_64 rfl ?_
          refine qx_goto (t := 69) d_QM_calculate_65 rfl ?_
          refine qx_istore (lv1 := [_, _, _, _, _, _, _, _, _, _]) d_QM_calculate_69 (by decide) rfl ?_
          refine qx_iload d_QM_calculate_71 rfl ?_
          refine qx_if_eqB (t := 80) d_QM_calculate_73 rfl (fun c73 => ?_) (fun c73 => ?_)
          · refine qx_iload_n d_QM_calculate_80 rfl rfl ?_
            refine qx_if_neN (t := 91) d_QM_calculate_81 rfl (by omega) (fun c81 => ?_) (fun c81 => absurd c81 (by decide))
            refine qx_iload_n d_QM_calculate_91 rfl rfl ?_
            refine qx_iconstN (v := 1) d_QM_calculate_92 rfl ?_
            refine qx_icmp_neN (t := 103) d_QM_calculate_93 rfl (by omega) (by omega) (fun c93 => ?_) (fun c93 => absurd c93 (by decide))
            refine qx_iload_n d_QM_calculate_103 rfl rfl ?_
            refine qx_iconstN (v := 2) d_QM_calculate_104 rfl ?_
            refine qx_icmp_neN (t := 115) d_QM_calculate_105 rfl (by omega) (by omega) (fun c105 => absurd rfl c105) (fun c105 => ?_)
            refine qx_lload_n d_QM_calculate_108 rfl rfl ?_
            refine qx_lload d_QM_calculate_109 rfl ?_
            refine qx_lmul d_QM_calculate_111 ?_
            refine qx_goto (t := 119) d_QM_calculate_112 rfl ?_
            refine qx_lstore (lv1 := [_, _, _, _, _, _, _, _, _, _]) d_QM_calculate_119 (by decide) rfl ?_
            refine qx_aload_n d_QM_calculate_121 rfl rfl ?_
            refine qx_iload_n d_QM_calculate_122 rfl rfl ?_
            refine qx_lload d_QM_calculate_123 rfl ?_
            refine qx_iload d_QM_calculate_125 rfl ?_
            refine qx_callV (As := [_, _, _]) (rest := _) d_QM_calculate_127 lk_QM_171 y_QM_set v_QM_set rfl rfl rfl (by decide) rfl rfl rfl rfl (by decide) (by decide) (ct_QM_set hR wk wn i (by omega) _ _) ?_
            rintro _ _ _ ⟨rfl, rfl, rfl⟩
            refine qx_goto (t := 250) d_QM_calculate_130 rfl ?_
            exact qx_ret d_QM_calculate_250 rfl (by omega) (by omega) (by first | exact absurd c51 (by decide) | exact absurd c73 (by decide) | (rw [c23]; exact ⟨rfl, rfl, rfl⟩) | (rw [c23, c34]; exact ⟨rfl, rfl, rfl⟩) | (rw [c23, c34, c61]; exact ⟨rfl, rfl, rfl⟩))
          · refine qx_lconst (v := 0) d_QM_calculate_76 rfl ?_
            refine qx_goto (t := 119) d_QM_calculate_77 rfl ?_
            refine qx_lstore (lv1 := [_, _, _, _, _, _, _, _, _, _]) d_QM_calculate_119 (by decide) rfl ?_
            refine qx_aload_n d_QM_calculate_121 rfl rfl ?_
            refine qx_iload_n d_QM_calculate_122 rfl rfl ?_
            refine qx_lload d_QM_calculate_123 rfl ?_
            refine qx_iload d_QM_calculate_125 rfl ?_
            refine qx_callV (As := [_, _, _]) (rest := _) d_QM_calculate_127 lk_QM_171 y_QM_set v_QM_set rfl rfl rfl (by decide) rfl rfl rfl rfl (by decide) (by decide) (ct_QM_set hR wk wn i (by omega) _ _) ?_
            rintro _ _ _ ⟨rfl, rfl, rfl⟩
            refine qx_goto (t := 250) d_QM_calculate_130 rfl ?_
            exact qx_ret d_QM_calculate_250 rfl (by omega) (by omega) (by first | exact absurd c51 (by decide) | exact absurd c73 (by decide) | (rw [c23]; exact ⟨rfl, rfl, rfl⟩) | (rw [c23, c34]; exact ⟨rfl, rfl, rfl⟩) | (rw [c23, c34, c61]; exact ⟨rfl, rfl, rfl⟩))
set_option maxRecDepth 100000 in
set_option maxHeartbeats 4000000 in
theorem ct_QM_calculate_3 {h : qH} (hR : h.2.2 122 = qRQM) (wk : Nat → Int64) (wn : Nat → Int32) (i : Nat) (hi : i + 1 < 24) (x y : Int64) (n m : Bool) (hx : wk i = x) (hy : wk (i + 1) = y) (hn : wn i = b2i n) (hm : wn (i + 1) = b2i m) : qT mi_QM_calculate 1 0 0 [.ref 122, .int (nI 3), .int (nI i)] (eR h wk wn) NN (fun v1 h1 n1 => v1 = none ∧ h1 = eR h (va_up wk i (if ((n || m) || !xLong 3 x y) = true then 0 else xCalc 3 x y)) (va_up wn i (b2i ((n || m) || !xLong 3 x y))) ∧ n1 = NN) := by
  refine qT.of (lv0 := [_, _, _, _, _, _, _, _, _, _]) (by decide +kernel) (fun _ _ => Nat.le_of_ble_eq_true rfl) rfl ?_
  refine qx_aload_n d_QM_calculate_0 rfl rfl ?_
  refine qx_getR d_QM_calculate_1 fR_QM_36 rfl rfl (congrFun hR 21) ?_
  refine qx_iload_n d_QM_calculate_4 rfl rfl ?_
  refine qx_lald d_QM_calculate_5 rfl rfl rfl rfl (by omega) hx ?_
  refine qx_lstore_n (lv1 := [_, _, _, _, _, _, _, _, _, _]) d_QM_calculate_6 rfl (by decide) rfl ?_
  refine qx_aload_n d_QM_calculate_7 rfl rfl ?_
  refine qx_getR d_QM_calculate_8 fR_QM_36 rfl rfl (congrFun hR 21) ?_
  refine qx_iload_n d_QM_calculate_11 rfl rfl ?_
  refine qx_iconstN (v := 1) d_QM_calculate_12 rfl ?_
  refine qx_iaddN d_QM_calculate_13 ?_
  refine qx_lald d_QM_calculate_14 rfl rfl rfl rfl (by omega) hy ?_
  refine qx_lstore (lv1 := [_, _, _, _, _, _, _, _, _, _]) d_QM_calculate_15 (by decide) rfl ?_
  refine qx_aload_n d_QM_calculate_17 rfl rfl ?_
  refine qx_getR d_QM_calculate_18 fR_QM_39 rfl rfl (congrFun hR 22) ?_
  refine qx_iload_n d_QM_calculate_21 rfl rfl ?_
  refine qx_zald d_QM_calculate_22 rfl rfl rfl rfl (by omega) hn ?_
  refine qx_if_neB (t := 37) d_QM_calculate_23 rfl (fun c23 => ?_) (fun c23 => ?_)
  · refine qx_iconst (v := b2i true) d_QM_calculate_37 rfl ?_
    refine qx_goto (t := 42) d_QM_calculate_38 rfl ?_
    refine qx_istore (lv1 := [_, _, _, _, _, _, _, _, _, _]) d_QM_calculate_42 (by decide) rfl ?_
    refine qx_iload_n d_QM_calculate_44 rfl rfl ?_
    refine qx_iconstN (v := 4) d_QM_calculate_45 rfl ?_
    refine qx_icmp_geN (t := 133) d_QM_calculate_46 rfl (by omega) (by omega) (fun c46 => absurd c46 (by decide)) (fun c46 => ?_)
    refine qx_iload d_QM_calculate_49 rfl ?_
    refine qx_if_neB (t := 64) d_QM_calculate_51 rfl (fun c51 => ?_) (fun c51 => ?_)
    · refine qx_iconst (v := b2i true) d_QM_calculate_64 rfl ?_
      refine qx_goto (t := 69) d_QM_calculate_65 rfl ?_
      refine qx_istore (lv1 := [_, _, _, _, _, _, _, _, _, _]) d_QM_calculate_69 (by decide) rfl ?_
      refine qx_iload d_QM_calculate_71 rfl ?_
      refine qx_if_eqB (t := 80) d_QM_calculate_73 rfl (fun c73 => ?_) (fun c73 => ?_)
      · refine qx_iload_n d_QM_calculate_80 rfl rfl ?_
        refine qx_if_neN (t := 91) d_QM_calculate_81 rfl (by omega) (fun c81 => ?_) (fun c81 => absurd c81 (by decide))
        refine qx_iload_n d_QM_calculate_91 rfl rfl ?_
        refine qx_iconstN (v := 1) d_QM_calculate_92 rfl ?_
        refine qx_icmp_neN (t := 103) d_QM_calculate_93 rfl (by omega) (by omega) (fun c93 => ?_) (fun c93 => absurd c93 (by decide))
        refine qx_iload_n d_QM_calculate_103 rfl rfl ?_
        refine qx_iconstN (v := 2) d_QM_calculate_104 rfl ?_
        refine qx_icmp_neN (t := 115) d_QM_calculate_105 rfl (by omega) (by omega) (fun c105 => ?_) (fun c105 => absurd c105 (by decide))
        refine qx_lload_n d_QM_calculate_115 rfl rfl ?_
        refine qx_lload d_QM_calculate_116 rfl ?_
        refine qx_ldiv d_QM_calculate_118 (fun e => by first | exact absurd c73 (by decide) | (subst e; revert c61; simp [xLong])) ?_
        refine qx_lstore (lv1 := [_, _, _, _, _, _, _, _, _, _]) d_QM_calculate_119 (by decide) rfl ?_
        refine qx_aload_n d_QM_calculate_121 rfl rfl ?_
        refine qx_iload_n d_QM_calculate_122 rfl rfl ?_
        refine qx_lload d_QM_calculate_123 rfl ?_
        refine qx_iload d_QM_calculate_125 rfl ?_
        refine qx_callV (As := [_, _, _]) (rest := _) d_QM_calculate_127 lk_QM_171 y_QM_set v_QM_set rfl rfl rfl (by decide) rfl rfl rfl rfl (by decide) (by decide) (ct_QM_set hR wk wn i (by omega) _ _) ?_
        rintro _ _ _ ⟨rfl, rfl, rfl⟩
        refine qx_goto (t := 250) d_QM_calculate_130 rfl ?_
        exact qx_ret d_QM_calculate_250 rfl (by omega) (by omega) (by first | exact absurd c51 (by decide) | exact absurd c73 (by decide) | (rw [c23]; exact ⟨rfl, rfl, rfl⟩) | (rw [c23, c34]; exact ⟨rfl, rfl, rfl⟩) | (rw [c23, c34, c61]; exact ⟨rfl, rfl, rfl⟩))
      · refine qx_lconst (v := 0) d_QM_calculate_76 rfl ?_
        refine qx_goto (t := 119) d_QM_calculate_77 rfl ?_
        refine qx_lstore (lv1 := [_, _, _, _, _, _, _, _, _, _]) d_QM_calculate_119 (by decide) rfl ?_
        refine qx_aload_n d_QM_calculate_121 rfl rfl ?_
        refine qx_iload_n d_QM_calculate_122 rfl rfl ?_
        refine qx_lload d_QM_calculate_123 rfl ?_
        refine qx_iload d_QM_calculate_125 rfl ?_
        refine qx_callV (As := [_, _, _]) (rest := _) d_QM_calculate_127 lk_QM_171 y_QM_set v_QM_set rfl rfl rfl (by decide) rfl rfl rfl rfl (by decide) (by decide) (ct_QM_set hR wk wn i (by omega) _ _) ?_
        rintro _ _ _ ⟨rfl, rfl, rfl⟩
        refine qx_goto (t := 250) d_QM_calculate_130 rfl ?_
        exact qx_ret d_QM_calculate_250 rfl (by omega) (by omega) (by first | exact absurd c51 (by decide) | exact absurd c73 (by decide) | (rw [c23]; exact ⟨rfl, rfl, rfl⟩) | (rw [c23, c34]; exact ⟨rfl, rfl, rfl⟩) | (rw [c23, c34, c61]; exact ⟨rfl, rfl, rfl⟩))
    · refine qx_iload_n d_QM_calculate_54 rfl rfl ?_
      refine qx_lload_n d_QM_calculate_55 rfl rfl ?_
      refine qx_lload d_QM_calculate_56 rfl ?_
      refine qx_callS (As := [_, _, _]) (rest := _) d_QM_calculate_58 lk_QM_167 y_QM_overflows s_QM_overflows rfl rfl rfl rfl (by decide) (by decide) (ct_QM_overflows_3 x y) ?_
      rintro _ _ _ ⟨rfl, rfl, rfl⟩
      refine qx_if_eqB (t := 68) d_QM_calculate_61 rfl (fun c61 => ?_) (fun c61 => ?_)
      · refine qx_iconst (v := b2i false) d_QM_calculate_68 rfl ?_
        refine qx_istore (lv1 := [_, _, _, _, _, _, _, _, _, _]) d_QM_calculate_69 (by decide) rfl ?_
        refine qx_iload d_QM_calculate_71 rfl ?_
        refine qx_if_eqB (t := 80) d_QM_calculate_73 rfl (fun c73 => ?_) (fun c73 => ?_)
        · refine qx_iload_n d_QM_calculate_80 rfl rfl ?_
          refine qx_if_neN (t := 91) d_QM_calculate_81 rfl (by omega) (fun c81 => ?_) (fun c81 => absurd c81 (by decide))
          refine qx_iload_n d_QM_calculate_91 rfl rfl ?_
          refine qx_iconstN (v := 1) d_QM_calculate_92 rfl ?_
          refine qx_icmp_neN (t := 103) d_QM_calculate_93 rfl (by omega) (by omega) (fun c93 => ?_) (fun c93 => absurd c93 (by decide))
          refine qx_iload_n d_QM_calculate_103 rfl rfl ?_
          refine qx_iconstN (v := 2) d_QM_calculate_104 rfl ?_
          refine qx_icmp_neN (t := 115) d_QM_calculate_105 rfl (by omega) (by omega) (fun c105 => ?_) (fun c105 => absurd c105 (by decide))
          refine qx_lload_n d_QM_calculate_115 rfl rfl ?_
          refine qx_lload d_QM_calculate_116 rfl ?_
          refine qx_ldiv d_QM_calculate_118 (fun e => by first | exact absurd c73 (by decide) | (subst e; revert c61; simp [xLong])) ?_
          refine qx_lstore (lv1 := [_, _, _, _, _, _, _, _, _, _]) d_QM_calculate_119 (by decide) rfl ?_
          refine qx_aload_n d_QM_calculate_121 rfl rfl ?_
          refine qx_iload_n d_QM_calculate_122 rfl rfl ?_
          refine qx_lload d_QM_calculate_123 rfl ?_
          refine qx_iload d_QM_calculate_125 rfl ?_
          refine qx_callV (As := [_, _, _]) (rest := _) d_QM_calculate_127 lk_QM_171 y_QM_set v_QM_set rfl rfl rfl (by decide) rfl rfl rfl rfl (by decide) (by decide) (ct_QM_set hR wk wn i (by omega) _ _) ?_
          rintro _ _ _ ⟨rfl, rfl, rfl⟩
          refine qx_goto (t := 250) d_QM_calculate_130 rfl ?_
          exact qx_ret d_QM_calculate_250 rfl (by omega) (by omega) (by first | exact absurd c51 (by decide) | exact absurd c73 (by decide) | (rw [c23]; exact ⟨rfl, rfl, rfl⟩) | (rw [c23, c34]; exact ⟨rfl, rfl, rfl⟩) | (rw [c23, c34, c61]; exact ⟨rfl, rfl, rfl⟩))
        · refine qx_lconst (v := 0) d_QM_calculate_76 rfl ?_
          refine qx_goto (t := 119) d_QM_calculate_77 rfl ?_
          refine qx_lstore (lv1 := [_, _, _, _, _, _, _, _, _, _]) d_QM_calculate_119 (by decide) rfl ?_
          refine qx_aload_n d_QM_calculate_121 rfl rfl ?_
          refine qx_iload_n d_QM_calculate_122 rfl rfl ?_
          refine qx_lload d_QM_calculate_123 rfl ?_
          refine qx_iload d_QM_calculate_125 rfl ?_
          refine qx_callV (As := [_, _, _]) (rest := _) d_QM_calculate_127 lk_QM_171 y_QM_set v_QM_set rfl rfl rfl (by decide) rfl rfl rfl rfl (by decide) (by decide) (ct_QM_set hR wk wn i (by omega) _ _) ?_
          rintro _ _ _ ⟨rfl, rfl, rfl⟩
          refine qx_goto (t := 250) d_QM_calculate_130 rfl ?_
          exact qx_ret d_QM_calculate_250 rfl (by omega) (by omega) (by first | exact absurd c51 (by decide) | exact absurd c73 (by decide) | (rw [c23]; exact ⟨rfl, rfl, rfl⟩) | (rw [c23, c34]; exact ⟨rfl, rfl, rfl⟩) | (rw [c23, c34, c61]; exact ⟨rfl, rfl, rfl⟩))
      · refine qx_iconst (v := b2i true) d_QM_calculate_64 rfl ?_
        refine qx_goto (t := 69) d_QM_calculate_65 rfl ?_
        refine qx_istore (lv1 := [_, _, _, _, _, _, _, _, _, _]) d_QM_calculate_69 (by decide) rfl ?_
        refine qx_iload d_QM_calculate_71 rfl ?_
        refine qx_if_eqB (t := 80) d_QM_calculate_73 rfl (fun c73 => ?_) (fun c73 => ?_)
        · refine qx_iload_n d_QM_calculate_80 rfl rfl ?_
          refine qx_if_neN (t := 91) d_QM_calculate_81 rfl (by omega) (fun c81 => ?_) (fun c81 => absurd c81 (by decide))
          refine qx_iload_n d_QM_calculate_91 rfl rfl ?_
          refine qx_iconstN (v := 1) d_QM_calculate_92 rfl ?_
          refine qx_icmp_neN (t := 103) d_QM_calculate_93 rfl (by omega) (by omega) (fun c93 => ?_) (fun c93 => absurd c93 (by decide))
          refine qx_iload_n d_QM_calculate_103 rfl rfl ?_
          refine qx_iconstN (v := 2) d_QM_calculate_104 rfl ?_
          refine qx_icmp_neN (t := 115) d_QM_calculate_105 rfl (by omega) (by omega) (fun c105 => ?_) (fun c105 => absurd c105 (by decide))
          refine qx_lload_n d_QM_calculate_115 rfl rfl ?_
          refine qx_lload d_QM_calculate_116 rfl ?_
          refine qx_ldiv d_QM_calculate_118 (fun e => by first | exact absurd c73 (by decide) | (subst e; revert c61; simp [xLong])) ?_
          refine qx_lstore (lv1 := [_, _, _, _, _, _, _, _, _, _]) d_QM_calculate_119 (by decide) rfl ?_
          refine qx_aload_n d_QM_calculate_121 rfl rfl ?_
          refine qx_iload_n d_QM_calculate_122 rfl rfl ?_
          refine qx_lload d_QM_calculate_123 rfl ?_
          refine qx_iload d_QM_calculate_125 rfl ?_
          refine qx_callV (As := [_, _, _]) (rest := _) d_QM_calculate_127 lk_QM_171 y_QM_set v_QM_set rfl rfl rfl (by decide) rfl rfl rfl rfl (by decide) (by decide) (ct_QM_set hR wk wn i (by omega) _ _) ?_
          rintro _ _ _ ⟨rfl, rfl, rfl⟩
          refine qx_goto (t := 250) d_QM_calculate_130 rfl ?_
          exact qx_ret d_QM_calculate_250 rfl (by omega) (by omega) (by first | exact absurd c51 (by decide) | exact absurd c73 (by decide) | (rw [c23]; exact ⟨rfl, rfl, rfl⟩) | (rw [c23, c34]; exact ⟨rfl, rfl, rfl⟩) | (rw [c23, c34, c61]; exact ⟨rfl, rfl, rfl⟩))
        · refine qx_lconst (v := 0) d_QM_calculate_76 rfl ?_
          refine qx_goto (t := 119) d_QM_calculate_77 rfl ?_
          refine qx_lstore (lv1 := [_, _, _, _, _, _, _, _, _, _]) d_QM_calculate_119 (by decide) rfl ?_
          refine qx_aload_n d_QM_calculate_121 rfl rfl ?_
          refine qx_iload_n d_QM_calculate_122 rfl rfl ?_
          refine qx_lload d_QM_calculate_123 rfl ?_
          refine qx_iload d_QM_calculate_125 rfl ?_
          refine qx_callV (As := [_, _, _]) (rest := _) d_QM_calculate_127 lk_QM_171 y_QM_set v_QM_set rfl rfl rfl (by decide) rfl rfl rfl rfl (by decide) (by decide) (ct_QM_set hR wk wn i (by omega) _ _) ?_
          rintro _ _ _ ⟨rfl, rfl, rfl⟩
          refine qx_goto (t := 250) d_QM_calculate_130 rfl ?_
          exact qx_ret d_QM_calculate_250 rfl (by omega) (by omega) (by first | exact absurd c51 (by decide) | exact absurd c73 (by decide) | (rw [c23]; exact ⟨rfl, rfl, rfl⟩) | (rw [c23, c34]; exact ⟨rfl, rfl, rfl⟩) | (rw [c23, c34, c61]; exact ⟨rfl, rfl, rfl⟩))
  · refine qx_aload_n d_QM_calculate_26 rfl rfl ?_
    refine qx_getR d_QM_calculate_27 fR_QM_39 rfl rfl (congrFun hR 22) ?_
    refine qx_iload_n d_QM_calculate_30 rfl rfl ?_
    refine qx_iconstN (v := 1) d_QM_calculate_31 rfl ?_
    refine qx_iaddN d_QM_calculate_32 ?_
    refine qx_zald d_QM_calculate_33 rfl rfl rfl rfl (by omega) hm ?_
    refine qx_if_eqB (t := 41) d_QM_calculate_34 rfl (fun c34 => ?_) (fun c34 => ?_)
    · refine qx_iconst (v := b2i false) d_QM_calculate_41 rfl ?_
      refine qx_istore (lv1 := [_, _, _, _, _, _, _, _, _, _]) d_QM_calculate_42 (by decide) rfl ?_
      refine qx_iload_n d_QM_calculate_44 rfl rfl ?_
      refine qx_iconstN (v := 4) d_QM_calculate_45 rfl ?_
      refine qx_icmp_geN (t := 133) d_QM_calculate_46 rfl (by omega) (by omega) (fun c46 => absurd c46 (by decide)) (fun c46 => ?_)
      refine qx_iload d_QM_calculate_49 rfl ?_
      refine qx_if_neB (t := 64) d_QM_calculate_51 rfl (fun c51 => ?_) (fun c51 => ?_)
      · refine qx_iconst (v := b2i true) d_QM_calculate_64 rfl ?_
        refine qx_goto (t := 69) d_QM_calculate_65 rfl ?_
        refine qx_istore (lv1 := [_, _, _, _, _, _, _, _, _, _]) d_QM_calculate_69 (by decide) rfl ?_
        refine qx_iload d_QM_calculate_71 rfl ?_
        refine qx_if_eqB (t := 80) d_QM_calculate_73 rfl (fun c73 => ?_) (fun c73 => ?_)
        · refine qx_iload_n d_QM_calculate_80 rfl rfl ?_
          refine qx_if_neN (t := 91) d_QM_calculate_81 rfl (by omega) (fun c81 => ?_) (fun c81 => absurd c81 (by decide))
          refine qx_iload_n d_QM_calculate_91 rfl rfl ?_
          refine qx_iconstN (v := 1) d_QM_calculate_92 rfl ?_
          refine qx_icmp_neN (t := 103) d_QM_calculate_93 rfl (by omega) (by omega) (fun c93 => ?_) (fun c93 => absurd c93 (by decide))
          refine qx_iload_n d_QM_calculate_103 rfl rfl ?_
          refine qx_iconstN (v := 2) d_QM_calculate_104 rfl ?_
          refine qx_icmp_neN (t := 115) d_QM_calculate_105 rfl (by omega) (by omega) (fun c105 => ?_) (fun c105 => absurd c105 (by decide))
          refine qx_lload_n d_QM_calculate_115 rfl rfl ?_
          refine qx_lload d_QM_calculate_116 rfl ?_
          refine qx_ldiv d_QM_calculate_118 (fun e => by first | exact absurd c73 (by decide) | (subst e; revert c61; simp [xLong])) ?_
          refine qx_lstore (lv1 := [_, _, _, _, _, _, _, _, _, _]) d_QM_calculate_119 (by decide) rfl ?_
          refine qx_aload_n d_QM_calculate_121 rfl rfl ?_
          refine qx_iload_n d_QM_calculate_122 rfl rfl ?_
          refine qx_lload d_QM_calculate_123 rfl ?_
          refine qx_iload d_QM_calculate_125 rfl ?_
          refine qx_callV (As := [_, _, _]) (rest := _) d_QM_calculate_127 lk_QM_171 y_QM_set v_QM_set rfl rfl rfl (by decide) rfl rfl rfl rfl (by decide) (by decide) (ct_QM_set hR wk wn i (by omega) _ _) ?_
          rintro _ _ _ ⟨rfl, rfl, rfl⟩
          refine qx_goto (t := 250) d_QM_calculate_130 rfl ?_
          exact qx_ret d_QM_calculate_250 rfl (by omega) (by omega) (by first | exact absurd c51 (by decide) | exact absurd c73 (by decide) | (rw [c23]; exact ⟨rfl, rfl, rfl⟩) | (rw [c23, c34]; exact ⟨rfl, rfl, rfl⟩) | (rw [c23, c34, c61]; exact ⟨rfl, rfl, rfl⟩))
        · refine qx_lconst (v := 0) d_QM_calculate_76 rfl ?_
          refine qx_goto (t := 119) d_QM_calculate_77 rfl ?_
          refine qx_lstore (lv1 := [_, _, _, _, _, _, _, _, _, _]) d_QM_calculate_119 (by decide) rfl ?_
          refine qx_aload_n d_QM_calculate_121 rfl rfl ?_
          refine qx_iload_n d_QM_calculate_122 rfl rfl ?_
          refine qx_lload d_QM_calculate_123 rfl ?_
          refine qx_iload d_QM_calculate_125 rfl ?_
          refine qx_callV (As := [_, _, _]) (rest := _) d_QM_calculate_127 lk_QM_171 y_QM_set v_QM_set rfl rfl rfl (by decide) rfl rfl rfl rfl (by decide) (by decide) (ct_QM_set hR wk wn i (by omega) _ _) ?_
          rintro _ _ _ ⟨rfl, rfl, rfl⟩
          refine qx_goto (t := 250) d_QM_calculate_130 rfl ?_
          exact qx_ret d_QM_calculate_250 rfl (by omega) (by omega) (by first | exact absurd c51 (by decide) | exact absurd c73 (by decide) | (rw [c23]; exact ⟨rfl, rfl, rfl⟩) | (rw [c23, c34]; exact ⟨rfl, rfl, rfl⟩) | (rw [c23, c34, c61]; exact ⟨rfl, rfl, rfl⟩))
      · refine qx_iload_n d_QM_calculate_54 rfl rfl ?_
        refine qx_lload_n d_QM_calculate_55 rfl rfl ?_
        refine qx_lload d_QM_calculate_56 rfl ?_
        refine qx_callS (As := [_, _, _]) (rest := _) d_QM_calculate_58 lk_QM_167 y_QM_overflows s_QM_overflows rfl rfl rfl rfl (by decide) (by decide) (ct_QM_overflows_3 x y) ?_
        rintro _ _ _ ⟨rfl, rfl, rfl⟩
        refine qx_if_eqB (t := 68) d_QM_calculate_61 rfl (fun c61 => ?_) (fun c61 => ?_)
        · refine qx_iconst (v := b2i false) d_QM_calculate_68 rfl ?_
          refine qx_istore (lv1 := [_, _, _, _, _, _, _, _, _, _]) d_QM_calculate_69 (by decide) rfl ?_
          refine qx_iload d_QM_calculate_71 rfl ?_
          refine qx_if_eqB (t := 80) d_QM_calculate_73 rfl (fun c73 => ?_) (fun c73 => ?_)
          · refine qx_iload_n d_QM_calculate_80 rfl rfl ?_
            refine qx_if_neN (t := 91) d_QM_calculate_81 rfl (by omega) (fun c81 => ?_) (fun c81 => absurd c81 (by decide))
            refine qx_iload_n d_QM_calculate_91 rfl rfl ?_
            refine qx_iconstN (v := 1) d_QM_calculate_92 rfl ?_
            refine qx_icmp_neN (t := 103) d_QM_calculate_93 rfl (by omega) (by omega) (fun c93 => ?_) (fun c93 => absurd c93 (by decide))
            refine qx_iload_n d_QM_calculate_103 rfl rfl ?_
            refine qx_iconstN (v := 2) d_QM_calculate_104 rfl ?_
            refine qx_icmp_neN (t := 115) d_QM_calculate_105 rfl (by omega) (by omega) (fun c105 => ?_) (fun c105 => absurd c105 (by decide))
            refine qx_lload_n d_QM_calculate_115 rfl rfl ?_
            refine qx_lload d_QM_calculate_116 rfl ?_
            refine qx_ldiv d_QM_calculate_118 (fun e => by first | exact absurd c73 (by decide) | (subst e; revert c61; simp [xLong])) ?_
            refine qx_lstore (lv1 := [_, _, _, _, _, _, _, _, _, _]) d_QM_calculate_119 (by decide) rfl ?_
            refine qx_aload_n d_QM_calculate_121 rfl rfl ?_
            refine qx_iload_n d_QM_calculate_122 rfl rfl ?_
            refine qx_lload d_QM_calculate_123 rfl ?_
            refine qx_iload d_QM_calculate_125 rfl ?_
            refine qx_callV (As := [_, _, _]) (rest := _) d_QM_calculate_127 lk_QM_171 y_QM_set v_QM_set rfl rfl rfl (by decide) rfl rfl rfl rfl (by decide) (by decide) (ct_QM_set hR wk wn i (by omega) _ _) ?_
            rintro _ _ _ ⟨rfl, rfl, rfl⟩
            refine qx_goto (t := 250) d_QM_calculate_130 rfl ?_
            exact qx_ret d_QM_calculate_250 rfl (by omega) (by omega) (by first | exact absurd c51 (by decide) | exact absurd c73 (by decide) | (rw [c23]; exact ⟨rfl, rfl, rfl⟩) | (rw [c23, c34]; exact ⟨rfl, rfl, rfl⟩) | (rw [c23, c34, c61]; exact ⟨rfl, rfl, rfl⟩))
          · refine qx_lconst (v := 0) d_QM_calculate_76 rfl ?_
            refine qx_goto (t := 119) d_QM_calculate_77 rfl ?_
            refine qx_lstore (lv1 := [_, _, _, _, _, _, _, _, _, _]) d_QM_calculate_119 (by decide) rfl ?_
            refine qx_aload_n d_QM_calculate_121 rfl rfl ?_
            refine qx_iload_n d_QM_calculate_122 rfl rfl ?_
            refine qx_lload d_QM_calculate_123 rfl ?_
            refine qx_iload d_QM_calculate_125 rfl ?_
            refine qx_callV (As := [_, _, _]) (rest := _) d_QM_calculate_127 lk_QM_171 y_QM_set v_QM_set rfl rfl rfl (by decide) rfl rfl rfl rfl (by decide) (by decide) (ct_QM_set hR wk wn i (by omega) _ _) ?_
            rintro _ _ _ ⟨rfl, rfl, rfl⟩
            refine qx_goto (t := 250) d_QM_calculate_130 rfl ?_
            exact qx_ret d_QM_calculate_250 rfl (by omega) (by omega) (by first | exact absurd c51 (by decide) | exact absurd c73 (by decide) | (rw [c23]; exact ⟨rfl, rfl, rfl⟩) | (rw [c23, c34]; exact ⟨rfl, rfl, rfl⟩) | (rw [c23, c34, c61]; exact ⟨rfl, rfl, rfl⟩))
        · refine qx_iconst (v := b2i true) d_QM_calculate_64 rfl ?_
          refine qx_goto (t := 69) d_QM_calculate_65 rfl ?_
          refine qx_istore (lv1 := [_, _, _, _, _, _, _, _, _, _]) d_QM_calculate_69 (by decide) rfl ?_
          refine qx_iload d_QM_calculate_71 rfl ?_
          refine qx_if_eqB (t := 80) d_QM_calculate_73 rfl (fun c73 => ?_) (fun c73 => ?_)
          · refine qx_iload_n d_QM_calculate_80 rfl rfl ?_
            refine qx_if_neN (t := 91) d_QM_calculate_81 rfl (by omega) (fun c81 => ?_) (fun c81 => absurd c81 (by decide))
            refine qx_iload_n d_QM_calculate_91 rfl rfl ?_
            refine qx_iconstN (v := 1) d_QM_calculate_92 rfl ?_
            refine qx_icmp_neN (t := 103) d_QM_calculate_93 rfl (by omega) (by omega) (fun c93 => ?_) (fun c93 => absurd c93 (by decide))
            refine qx_iload_n d_QM_calculate_103 rfl rfl ?_
            refine qx_iconstN (v := 2) d_QM_calculate_104 rfl ?_
            refine qx_icmp_neN (t := 115) d_QM_calculate_105 rfl (by omega) (by omega) (fun c105 => ?_) (fun c105 => absurd c105 (by decide))
            refine qx_lload_n d_QM_calculate_115 rfl rfl ?_
            refine qx_lload d_QM_calculate_116 rfl ?_
            refine qx_ldiv d_QM_calculate_118 (fun e => by first | exact absurd c73 (by decide) | (subst e; revert c61; simp [xLong])) ?_
            refine qx_lstore (lv1 := [_, _, _, _, _, _, _, _, _, _]) d_QM_calculate_119 (by decide) rfl ?_
            refine qx_aload_n d_QM_calculate_121 rfl rfl ?_
            refine qx_iload_n d_QM_calculate_122 rfl rfl ?_
            refine qx_lload d_QM_calculate_123 rfl ?_
            refine qx_iload d_QM_calculate_125 rfl ?_
            refine qx_callV (As := [_, _, _]) (rest := _) d_QM_calculate_127 lk_QM_171 y_QM_set v_QM_set rfl rfl rfl (by decide) rfl rfl rfl rfl (by decide) (by decide) (ct_QM_set hR wk wn i (by omega) _ _) ?_
            rintro _ _ _ ⟨rfl, rfl, rfl⟩
            refine qx_goto (t := 250) d_QM_calculate_130 rfl ?_
            exact qx_ret d_QM_calculate_250 rfl (by omega) (by omega) (by first | exact absurd c51 (by decide) | exact absurd c73 (by decide) | (rw [c23]; exact ⟨rfl, rfl, rfl⟩) | (rw [c23, c34]; exact ⟨rfl, rfl, rfl⟩) | (rw [c23, c34, c61]; exact ⟨rfl, rfl, rfl⟩))
          · refine qx_lconst (v := 0) d_QM_calculate_76 rfl ?_
            refine qx_goto (t := 119) d_QM_calculate_77 rfl ?_
            refine qx_lstore (lv1 := [_, _, _, _, _, _, _, _, _, _]) d_QM_calculate_119 (by decide) rfl ?_
            refine qx_aload_n d_QM_calculate_121 rfl rfl ?_
            refine qx_iload_n d_QM_calculate_122 rfl rfl ?_
            refine qx_lload d_QM_calculate_123 rfl ?_
            refine qx_iload d_QM_calculate_125 rfl ?_
            refine qx_callV (As := [_, _, _]) (rest := _) d_QM_calculate_127 lk_QM_171 y_QM_set v_QM_set rfl rfl rfl (by decide) rfl rfl rfl rfl (by decide) (by decide) (ct_QM_set hR wk wn i (by omega) _ _) ?_
            rintro _ _ _ ⟨rfl, rfl, rfl⟩
            refine qx_goto (t := 250) d_QM_calculate_130 rfl ?_
            exact qx_ret d_QM_calculate_250 rfl (by omega) (by omega) (by first | exact absurd c51 (by decide) | exact absurd c73 (by decide) | (rw [c23]; exact ⟨rfl, rfl, rfl⟩) | (rw [c23, c34]; exact ⟨rfl, rfl, rfl⟩) | (rw [c23, c34, c61]; exact ⟨rfl, rfl, rfl⟩))
    · refine qx_iconst (v := b2i true) d_QM_calculate_37 rfl ?_
      refine qx_goto (t := 42) d_QM_calculate_38 rfl ?_
      refine qx_istore (lv1 := [_, _, _, _, _, _, _, _, _, _]) d_QM_calculate_42 (by decide) rfl ?_
      refine qx_iload_n d_QM_calculate_44 rfl rfl ?_
      refine qx_iconstN (v := 4) d_QM_calculate_45 rfl ?_
      refine qx_icmp_geN (t := 133) d_QM_calculate_46 rfl (by omega) (by omega) (fun c46 => absurd c46 (by decide)) (fun c46 => ?_)
      refine qx_iload d_QM_calculate_49 rfl ?_
      refine qx_if_neB (t := 64) d_QM_calculate_51 rfl (fun c51 => ?_) (fun c51 => ?_)
      · refine qx_iconst (v := b2i true) d_QM_calculate_64 rfl ?_
        refine qx_goto (t := 69) d_QM_calculate_65 rfl ?_
        refine qx_istore (lv1 := [_, _, _, _, _, _, _, _, _, _]) d_QM_calculate_69 (by decide) rfl ?_
        refine qx_iload d_QM_calculate_71 rfl ?_
        refine qx_if_eqB (t := 80) d_QM_calculate_73 rfl (fun c73 => ?_) (fun c73 => ?_)
        · refine qx_iload_n d_QM_calculate_80 rfl rfl ?_
          refine qx_if_neN (t := 91) d_QM_calculate_81 rfl (by omega) (fun c81 => ?_) (fun c81 => absurd c81 (by decide))
          refine qx_iload_n d_QM_calculate_91 rfl rfl ?_
          refine qx_iconstN (v := 1) d_QM_calculate_92 rfl ?_
          refine qx_icmp_neN (t := 103) d_QM_calculate_93 rfl (by omega) (by omega) (fun c93 => ?_) (fun c93 => absurd c93 (by decide))
          refine qx_iload_n d_QM_calculate_103 rfl rfl ?_
          refine qx_iconstN (v := 2) d_QM_calculate_104 rfl ?_
          refine qx_icmp_neN (t := 115) d_QM_calculate_105 rfl (by omega) (by omega) (fun c105 => ?_) (fun c105 => absurd c105 (by decide))
          refine qx_lload_n d_QM_calculate_115 rfl rfl ?_
          refine qx_lload d_QM_calculate_116 rfl ?_
          refine qx_ldiv d_QM_calculate_118 (fun e => by first | exact absurd c73 (by decide) | (subst e; revert c61; simp [xLong])) ?_
          refine qx_lstore (lv1 := [_, _, _, _, _, _, _, _, _, _]) d_QM_calculate_119 (by decide) rfl ?_
          refine qx_aload_n d_QM_calculate_121 rfl rfl ?_
          refine qx_iload_n d_QM_calculate_122 rfl rfl ?_
          refine qx_lload d_QM_calculate_123 rfl ?_
          refine qx_iload d_QM_calculate_125 rfl ?_
          refine qx_callV (As := [_, _, _]) (rest := _) d_QM_calculate_127 lk_QM_171 y_QM_set v_QM_set rfl rfl rfl (by decide) rfl rfl rfl rfl (by decide) (by decide) (ct_QM_set hR wk wn i (by omega) _ _) ?_
          rintro _ _ _ ⟨rfl, rfl, rfl⟩
          refine qx_goto (t := 250) d_QM_calculate_130 rfl ?_
          exact qx_ret d_QM_calculate_250 rfl (by omega) (by omega) (by first | exact absurd c51 (by decide) | exact absurd c73 (by decide) | (rw [c23]; exact ⟨rfl, rfl, rfl⟩) | (rw [c23, c34]; exact ⟨rfl, rfl, rfl⟩) | (rw [c23, c34, c61]; exact ⟨rfl, rfl, rfl⟩))
        · refine qx_lconst (v := 0) d_QM_calculate_76 rfl ?_
          refine qx_goto (t := 119) d_QM_calculate_77 rfl ?_
          refine qx_lstore (lv1 := [_, _, _, _, _, _, _, _, _, _]) d_QM_calculate_119 (by decide) rfl ?_
          refine qx_aload_n d_QM_calculate_121 rfl rfl ?_
          refine qx_iload_n d_QM_calculate_122 rfl rfl ?_
          refine qx_lload d_QM_calculate_123 rfl ?_
          refine qx_iload d_QM_calculate_125 rfl ?_
          refine qx_callV (As := [_, _, _]) (rest := _) d_QM_calculate_127 lk_QM_171 y_QM_set v_QM_set rfl rfl rfl (by decide) rfl rfl rfl rfl (by decide) (by decide) (ct_QM_set hR wk wn i (by omega) _ _) ?_
          rintro _ _ _ ⟨rfl, rfl, rfl⟩
          refine qx_goto (t := 250) d_QM_calculate_130 rfl ?_
          exact qx_ret d_QM_calculate_250 rfl (by omega) (by omega) (by first | exact absurd c51 (by decide) | exact absurd c73 (by decide) | (rw [c23]; exact ⟨rfl, rfl, rfl⟩) | (rw [c23, c34]; exact ⟨rfl, rfl, rfl⟩) | (rw [c23, c34, c61]; exact ⟨rfl, rfl, rfl⟩))
      · refine qx_iload_n d_QM_calculate_54 rfl rfl ?_
        refine qx_lload_n d_QM_calculate_55 rfl rfl ?_
        refine qx_lload d_QM_calculate_56 rfl ?_
        refine qx_callS (As := [_, _, _]) (rest := _) d_QM_calculate_58 lk_QM_167 y_QM_overflows s_QM_overflows rfl rfl rfl rfl (by decide) (by decide) (ct_QM_overflows_3 x y) ?_
        rintro _ _ _ ⟨rfl, rfl, rfl⟩
        refine qx_if_eqB (t := 68) d_QM_calculate_61 rfl (fun c61 => ?_) (fun c61 => ?_)
        · refine qx_iconst (v := b2i false) d_QM_calculate_68 rfl ?_
          refine qx_istore (lv1 := [_, _, _, _, _, _, _, _, _, _]) d_QM_calculate_69 (by decide) rfl ?_
          refine qx_iload d_QM_calculate_71 rfl ?_
          refine qx_if_eqB (t := 80) d_QM_calculate_73 rfl (fun c73 => ?_) (fun c73 => ?_)
          · refine qx_iload_n d_QM_calculate_80 rfl rfl ?_
            refine qx_if_neN (t := 91) d_QM_calculate_81 rfl (by omega) (fun c81 => ?_) (fun c81 => absurd c81 (by decide))
            refine qx_iload_n d_QM_calculate_91 rfl rfl ?_
            refine qx_iconstN (v := 1) d_QM_calculate_92 rfl ?_
            refine qx_icmp_neN (t := 103) d_QM_calculate_93 rfl (by omega) (by omega) (fun c93 => ?_) (fun c93 => absurd c93 (by decide))
            refine qx_iload_n d_QM_calculate_103 rfl rfl ?_
            refine qx_iconstN (v := 2) d_QM_calculate_104 rfl ?_
            refine qx_icmp_neN (t := 115) d_QM_calculate_105 rfl (by omega) (by omega) (fun c105 => ?_) (fun c105 => absurd c105 (by decide))
            refine qx_lload_n d_QM_calculate_115 rfl rfl ?_
            refine qx_lload d_QM_calculate_116 rfl ?_
            refine qx_ldiv d_QM_calculate_118 (fun e => by first | exact absurd c73 (by decide) | (subst e; revert c61; simp [xLong])) ?_
            refine qx_lstore (lv1 := [_, _, _, _, _, _, _, _, _, _]) d_QM_calculate_119 (by decide) rfl ?_
            refine qx_aload_n d_QM_calculate_121 rfl rfl ?_
            refine qx_iload_n d_QM_calculate_122 rfl rfl ?_
            refine qx_lload d_QM_calculate_123 rfl ?_
            refine qx_iload d_QM_calculate_125 rfl ?_
            refine qx_callV (As := [_, _, _]) (rest := _) d_QM_calculate_127 lk_QM_171 y_QM_set v_QM_set rfl rfl rfl (by decide) rfl rfl rfl rfl (by decide) (by decide) (ct_QM_set hR wk wn i (by omega) _ _) ?_
            rintro _ _ _ ⟨rfl, rfl, rfl⟩
            refine qx_goto (t := 250) d_QM_calculate_130 rfl ?_
            exact qx_ret d_QM_calculate_250 rfl (by omega) (by omega) (by first | exact absurd c51 (by decide) | exact absurd c73 (by decide) | (rw [c23]; exact ⟨rfl, rfl, rfl⟩) | (rw [c23, c34]; exact ⟨rfl, rfl, rfl⟩) | (rw [c23, c34, c61]; exact ⟨rfl, rfl, rfl⟩))
          · refine qx_lconst (v := 0) d_QM_calculate_76 rfl ?_
            refine qx_goto (t := 119) d_QM_calculate_77 rfl ?_
            refine qx_lstore (lv1 := [_, _, _, _, _, _, _, _, _, _]) d_QM_calculate_119 (by decide) rfl ?_
            refine qx_aload_n d_QM_calculate_121 rfl rfl ?_
            refine qx_iload_n d_QM_calculate_122 rfl rfl ?_
            refine qx_lload d_QM_calculate_123 rfl ?_
            refine qx_iload d_QM_calculate_125 rfl ?_
            refine qx_callV (As := [_, _, _]) (rest := _) d_QM_calculate_127 lk_QM_171 y_QM_set v_QM_set rfl rfl rfl (by decide) rfl rfl rfl rfl (by decide) (by decide) (ct_QM_set hR wk wn i (by omega) _ _) ?_
            rintro _ _ _ ⟨rfl, rfl, rfl⟩
            refine qx_goto (t := 250) d_QM_calculate_130 rfl ?_
            exact qx_ret d_QM_calculate_250 rfl (by omega) (by omega) (by first | exact absurd c51 (by decide) | exact absurd c73 (by decide) | (rw [c23]; exact ⟨rfl, rfl, rfl⟩) | (rw [c23, c34]; exact ⟨rfl, rfl, rfl⟩) | (rw [c23, c34, c61]; exact ⟨rfl, rfl, rfl⟩))
        · refine qx_iconst (v := b2i true) d_QM_calculate_64 rfl ?_
          refine qx_goto (t := 69) d_QM_calculate_65 rfl ?_
          refine qx_istore (lv1 := [_, _, _, _, _, _, _, _, _, _]) d_QM_calculate_69 (by decide) rfl ?_
          refine qx_iload d_QM_calculate_71 rfl ?_
          refine qx_if_eqB (t := 80) d_QM_calculate_73 rfl (fun c73 => ?_) (fun c73 => ?_)
          · refine qx_iload_n d_QM_calculate_80 rfl rfl ?_
            refine qx_if_neN (t := 91) d_QM_calculate_81 rfl (by omega) (fun c81 => ?_) (fun c81 => absurd c81 (by decide))
            refine qx_iload_n d_QM_calculate_91 rfl rfl ?_
            refine qx_iconstN (v := 1) d_QM_calculate_92 rfl ?_
            refine qx_icmp_neN (t := 103) d_QM_calculate_93 rfl (by omega) (by omega) (fun c93 => ?_) (fun c93 => absurd c93 (by decide))
            refine qx_iload_n d_QM_calculate_103 rfl rfl ?_
            refine qx_iconstN (v := 2) d_QM_calculate_104 rfl ?_
            refine qx_icmp_neN (t := 115) d_QM_calculate_105 rfl (by omega) (by omega) (fun c105 => ?_) (fun c105 => absurd c105 (by decide))
            refine qx_lload_n d_QM_calculate_115 rfl rfl ?_
            refine qx_lload d_QM_calculate_116 rfl ?_
            refine qx_ldiv d_QM_calculate_118 (fun e => by first | exact absurd c73 (by decide) | (subst e; revert c61; simp [xLong])) ?_
            refine qx_lstore (lv1 := [_, _, _, _, _, _, _, _, _, _]) d_QM_calculate_119 (by decide) rfl ?_
            refine qx_aload_n d_QM_calculate_121 rfl rfl ?_
            refine qx_iload_n d_QM_calculate_122 rfl rfl ?_
            refine qx_lload d_QM_calculate_123 rfl ?_
            refine qx_iload d_QM_calculate_125 rfl ?_
            refine qx_callV (As := [_, _, _]) (rest := _) d_QM_calculate_127 lk_QM_171 y_QM_set v_QM_set rfl rfl rfl (by decide) rfl rfl rfl rfl (by decide) (by decide) (ct_QM_set hR wk wn i (by omega) _ _) ?_
            rintro _ _ _ ⟨rfl, rfl, rfl⟩
            refine qx_goto (t := 250) d_QM_calculate_130 rfl ?_
            exact qx_ret d_QM_calculate_250 rfl (by omega) (by omega) (by first | exact absurd c51 (by decide) | exact absurd c73 (by decide) | (rw [c23]; exact ⟨rfl, rfl, rfl⟩) | (rw [c23, c34]; exact ⟨rfl, rfl, rfl⟩) | (rw [c23, c34, c61]; exact ⟨rfl, rfl, rfl⟩))
          · refine qx_lconst (v := 0) d_QM_calculate_76 rfl ?_
            refine qx_goto (t := 119) d_QM_calculate_77 rfl ?_
            refine qx_lstore (lv1 := [_, _, _, _, _, _, _, _, _, _]) d_QM_calculate_119 (by decide) rfl ?_
            refine qx_aload_n d_QM_calculate_121 rfl rfl ?_
            refine qx_iload_n d_QM_calculate_122 rfl rfl ?_
            refine qx_lload d_QM_calculate_123 rfl ?_
            refine qx_iload d_QM_calculate_125 rfl ?_
            refine qx_callV (As := [_, _, _]) (rest := _) d_QM_calculate_127 lk_QM_171 y_QM_set v_QM_set rfl rfl rfl (by decide) rfl rfl rfl rfl (by decide) (by decide) (ct_QM_set hR wk wn i (by omega) _ _) ?_
            rintro _ _ _ ⟨rfl, rfl, rfl⟩
            refine qx_goto (t := 250) d_QM_calculate_130 rfl ?_
            exact qx_ret d_QM_calculate_250 rfl (by omega) (by omega) (by first | exact absurd c51 (by decide) | exact absurd c73 (by decide) | (rw [c23]; exact ⟨rfl, rfl, rfl⟩) | (rw [c23, c34]; exact ⟨rfl, rfl, rfl⟩) | (rw [c23, c34, c61]; exact ⟨rfl, rfl, rfl⟩))
set_option maxRecDepth 100000 in
set_option maxHeartbeats 4000000 in
theorem ct_QM_calculate_4 {h : qH} (hR : h.2.2 122 = qRQM) (wk : Nat → Int64) (wn : Nat → Int32) (i : Nat) (hi : i + 1 < 24) (x y : Int64) (n m : Bool) (hx : wk i = x) (hy : wk (i + 1) = y) (hn : wn i = b2i n) (hm : wn (i + 1) = b2i m) : qT mi_QM_calculate 1 0 0 [.ref 122, .int (nI 4), .int (nI i)] (eR h wk wn) NN (fun v1 h1 n1 => v1 = none ∧ h1 = eR h (va_up wk i (if (n || m) = true then 1 else if x = y then 2 else 0)) (va_up wn i (b2i false)) ∧ n1 = NN) := by
  refine qT.of (lv0 := [_, _, _, _, _, _, _, _, _, _]) (by decide +kernel) (fun _ _ => Nat.le_of_ble_eq_true rfl) rfl ?_
  refine qx_aload_n d_QM_calculate_0 rfl rfl ?_
  refine qx_getR d_QM_calculate_1 fR_QM_36 rfl rfl (congrFun hR 21) ?_
  refine qx_iload_n d_QM_calculate_4 rfl rfl ?_
  refine qx_lald d_QM_calculate_5 rfl rfl rfl rfl (by omega) hx ?_
  refine qx_lstore_n (lv1 := [_, _, _, _, _, _, _, _, _, _]) d_QM_calculate_6 rfl (by decide) rfl ?_
  refine qx_aload_n d_QM_calculate_7 rfl rfl ?_
  refine qx_getR d_QM_calculate_8 fR_QM_36 rfl rfl (congrFun hR 21) ?_
  refine qx_iload_n d_QM_calculate_11 rfl rfl ?_
  refine qx_iconstN (v := 1) d_QM_calculate_12 rfl ?_
  refine qx_iaddN d_QM_calculate_13 ?_
  refine qx_lald d_QM_calculate_14 rfl rfl rfl rfl (by omega) hy ?_
  refine qx_lstore (lv1 := [_, _, _, _, _, _, _, _, _, _]) d_QM_calculate_15 (by decide) rfl ?_
  refine qx_aload_n d_QM_calculate_17 rfl rfl ?_
  refine qx_getR d_QM_calculate_18 fR_QM_39 rfl rfl (congrFun hR 22) ?_
  refine qx_iload_n d_QM_calculate_21 rfl rfl ?_
  refine qx_zald d_QM_calculate_22 rfl rfl rfl rfl (by omega) hn ?_
  refine qx_if_neB (t := 37) d_QM_calculate_23 rfl (fun c23 => ?_) (fun c23 => ?_)
  · refine qx_iconst (v := b2i true) d_QM_calculate_37 rfl ?_
    refine qx_goto (t := 42) d_QM_calculate_38 rfl ?_
    refine qx_istore (lv1 := [_, _, _, _, _, _, _, _, _, _]) d_QM_calculate_42 (by decide) rfl ?_
    refine qx_iload_n d_QM_calculate_44 rfl rfl ?_
    refine qx_iconstN (v := 4) d_QM_calculate_45 rfl ?_
    refine qx_icmp_geN (t := 133) d_QM_calculate_46 rfl (by omega) (by omega) (fun c46 => ?_) (fun c46 => absurd c46 (by decide))
    refine qx_iload_n d_QM_calculate_133 rfl rfl ?_
    refine qx_bipushN (v := 6) d_QM_calculate_134 rfl ?_
    refine qx_icmp_geN (t := 203) d_QM_calculate_136 rfl (by omega) (by omega) (fun c136 => absurd c136 (by decide)) (fun c136 => ?_)
    refine qx_iload_n d_QM_calculate_139 rfl rfl ?_
    refine qx_iconstN (v := 4) d_QM_calculate_140 rfl ?_
    refine qx_icmp_neN (t := 159) d_QM_calculate_141 rfl (by omega) (by omega) (fun c141 => absurd rfl c141) (fun c141 => ?_)
    refine qx_lload_n d_QM_calculate_144 rfl rfl ?_
    refine qx_lload d_QM_calculate_145 rfl ?_
    refine qx_lcmp d_QM_calculate_147 ?_
    refine qx_if_neC (t := 155) d_QM_calculate_148 rfl (fun c148 => ?_) (fun c148 => ?_)
    · refine qx_iconst (v := b2i false) d_QM_calculate_155 rfl ?_
      refine qx_goto (t := 171) d_QM_calculate_156 rfl ?_
      refine qx_istore (lv1 := [_, _, _, _, _, _, _, _, _, _]) d_QM_calculate_171 (by decide) rfl ?_
      refine qx_aload_n d_QM_calculate_173 rfl rfl ?_
      refine qx_iload_n d_QM_calculate_174 rfl rfl ?_
      refine qx_iload d_QM_calculate_175 rfl ?_
      refine qx_if_eqB (t := 184) d_QM_calculate_177 rfl (fun c177 => ?_) (fun c177 => ?_)
      · refine qx_iload d_QM_calculate_184 rfl ?_
        refine qx_if_eqB (t := 195) d_QM_calculate_186 rfl (fun c186 => ?_) (fun c186 => ?_)
        · refine qx_lconst (v := 0) d_QM_calculate_195 rfl ?_
          refine qx_iconst (v := b2i false) d_QM_calculate_196 rfl ?_
          refine qx_callV (As := [_, _, _]) (rest := _) d_QM_calculate_197 lk_QM_171 y_QM_set v_QM_set rfl rfl rfl (by decide) rfl rfl rfl rfl (by decide) (by decide) (ct_QM_set hR wk wn i (by omega) _ _) ?_
          rintro _ _ _ ⟨rfl, rfl, rfl⟩
          refine qx_goto (t := 250) d_QM_calculate_200 rfl ?_
          exact qx_ret d_QM_calculate_250 rfl (by omega) (by omega) (by first | exact absurd c177 (by decide) | exact absurd c186 (by decide) | (rw [c23]; exact ⟨rfl, rfl, rfl⟩) | (rw [c23, c34]; exact ⟨rfl, rfl, rfl⟩) | (rw [c23, c34, if_pos c148]; exact ⟨rfl, rfl, rfl⟩) | (rw [c23, c34, if_neg c148]; exact ⟨rfl, rfl, rfl⟩))
        · refine qx_ldc2 d_QM_calculate_189 kl_QM_175 ?_
          refine qx_goto (t := 196) d_QM_calculate_192 rfl ?_
          refine qx_iconst (v := b2i false) d_QM_calculate_196 rfl ?_
          refine qx_callV (As := [_, _, _]) (rest := _) d_QM_calculate_197 lk_QM_171 y_QM_set v_QM_set rfl rfl rfl (by decide) rfl rfl rfl rfl (by decide) (by decide) (ct_QM_set hR wk wn i (by omega) _ _) ?_
          rintro _ _ _ ⟨rfl, rfl, rfl⟩
          refine qx_goto (t := 250) d_QM_calculate_200 rfl ?_
          exact qx_ret d_QM_calculate_250 rfl (by omega) (by omega) (by first | exact absurd c177 (by decide) | exact absurd c186 (by decide) | (rw [c23]; exact ⟨rfl, rfl, rfl⟩) | (rw [c23, c34]; exact ⟨rfl, rfl, rfl⟩) | (rw [c23, c34, if_pos c148]; exact ⟨rfl, rfl, rfl⟩) | (rw [c23, c34, if_neg c148]; exact ⟨rfl, rfl, rfl⟩))
      · refine qx_lconst (v := 1) d_QM_calculate_180 rfl ?_
        refine qx_goto (t := 196) d_QM_calculate_181 rfl ?_
        refine qx_iconst (v := b2i false) d_QM_calculate_196 rfl ?_
        refine qx_callV (As := [_, _, _]) (rest := _) d_QM_calculate_197 lk_QM_171 y_QM_set v_QM_set rfl rfl rfl (by decide) rfl rfl rfl rfl (by decide) (by decide) (ct_QM_set hR wk wn i (by omega) _ _) ?_
        rintro _ _ _ ⟨rfl, rfl, rfl⟩
        refine qx_goto (t := 250) d_QM_calculate_200 rfl ?_
        exact qx_ret d_QM_calculate_250 rfl (by omega) (by omega) (by first | exact absurd c177 (by decide) | exact absurd c186 (by decide) | (rw [c23]; exact ⟨rfl, rfl, rfl⟩) | (rw [c23, c34]; exact ⟨rfl, rfl, rfl⟩) | (rw [c23, c34, if_pos c148]; exact ⟨rfl, rfl, rfl⟩) | (rw [c23, c34, if_neg c148]; exact ⟨rfl, rfl, rfl⟩))
    · refine qx_iconst (v := b2i true) d_QM_calculate_151 rfl ?_
      refine qx_goto (t := 171) d_QM_calculate_152 rfl ?_
      refine qx_istore (lv1 := [_, _, _, _, _, _, _, _, _, _]) d_QM_calculate_171 (by decide) rfl ?_
      refine qx_aload_n d_QM_calculate_173 rfl rfl ?_
      refine qx_iload_n d_QM_calculate_174 rfl rfl ?_
      refine qx_iload d_QM_calculate_175 rfl ?_
      refine qx_if_eqB (t := 184) d_QM_calculate_177 rfl (fun c177 => ?_) (fun c177 => ?_)
      · refine qx_iload d_QM_calculate_184 rfl ?_
        refine qx_if_eqB (t := 195) d_QM_calculate_186 rfl (fun c186 => ?_) (fun c186 => ?_)
        · refine qx_lconst (v := 0) d_QM_calculate_195 rfl ?_
          refine qx_iconst (v := b2i false) d_QM_calculate_196 rfl ?_
          refine qx_callV (As := [_, _, _]) (rest := _) d_QM_calculate_197 lk_QM_171 y_QM_set v_QM_set rfl rfl rfl (by decide) rfl rfl rfl rfl (by decide) (by decide) (ct_QM_set hR wk wn i (by omega) _ _) ?_
          rintro _ _ _ ⟨rfl, rfl, rfl⟩
          refine qx_goto (t := 250) d_QM_calculate_200 rfl ?_
          exact qx_ret d_QM_calculate_250 rfl (by omega) (by omega) (by first | exact absurd c177 (by decide) | exact absurd c186 (by decide) | (rw [c23]; exact ⟨rfl, rfl, rfl⟩) | (rw [c23, c34]; exact ⟨rfl, rfl, rfl⟩) | (rw [c23, c34, if_pos c148]; exact ⟨rfl, rfl, rfl⟩) | (rw [c23, c34, if_neg c148]; exact ⟨rfl, rfl, rfl⟩))
        · refine qx_ldc2 d_QM_calculate_189 kl_QM_175 ?_
          refine qx_goto (t := 196) d_QM_calculate_192 rfl ?_
          refine qx_iconst (v := b2i false) d_QM_calculate_196 rfl ?_
          refine qx_callV (As := [_, _, _]) (rest := _) d_QM_calculate_197 lk_QM_171 y_QM_set v_QM_set rfl rfl rfl (by decide) rfl rfl rfl rfl (by decide) (by decide) (ct_QM_set hR wk wn i (by omega) _ _) ?_
          rintro _ _ _ ⟨rfl, rfl, rfl⟩
          refine qx_goto (t := 250) d_QM_calculate_200 rfl ?_
          exact qx_ret d_QM_calculate_250 rfl (by omega) (by omega) (by first | exact absurd c177 (by decide) | exact absurd c186 (by decide) | (rw [c23]; exact ⟨rfl, rfl, rfl⟩) | (rw [c23, c34]; exact ⟨rfl, rfl, rfl⟩) | (rw [c23, c34, if_pos c148]; exact ⟨rfl, rfl, rfl⟩) | (rw [c23, c34, if_neg c148]; exact ⟨rfl, rfl, rfl⟩))
      · refine qx_lconst (v := 1) d_QM_calculate_180 rfl ?_
        refine qx_goto (t := 196) d_QM_calculate_181 rfl ?_
        refine qx_iconst (v := b2i false) d_QM_calculate_196 rfl ?_
        refine qx_callV (As := [_, _, _]) (rest := _) d_QM_calculate_197 lk_QM_171 y_QM_set v_QM_set rfl rfl rfl (by decide) rfl rfl rfl rfl (by decide) (by decide) (ct_QM_set hR wk wn i (by omega) _ _) ?_
        rintro _ _ _ ⟨rfl, rfl, rfl⟩
        refine qx_goto (t := 250) d_QM_calculate_200 rfl ?_
        exact qx_ret d_QM_calculate_250 rfl (by omega) (by omega) (by first | exact absurd c177 (by decide) | exact absurd c186 (by decide) | (rw [c23]; exact ⟨rfl, rfl, rfl⟩) | (rw [c23, c34]; exact ⟨rfl, rfl, rfl⟩) | (rw [c23, c34, if_pos c148]; exact ⟨rfl, rfl, rfl⟩) | (rw [c23, c34, if_neg c148]; exact ⟨rfl, rfl, rfl⟩))
  · refine qx_aload_n d_QM_calculate_26 rfl rfl ?_
    refine qx_getR d_QM_calculate_27 fR_QM_39 rfl rfl (congrFun hR 22) ?_
    refine qx_iload_n d_QM_calculate_30 rfl rfl ?_
    refine qx_iconstN (v := 1) d_QM_calculate_31 rfl ?_
    refine qx_iaddN d_QM_calculate_32 ?_
    refine qx_zald d_QM_calculate_33 rfl rfl rfl rfl (by omega) hm ?_
    refine qx_if_eqB (t := 41) d_QM_calculate_34 rfl (fun c34 => ?_) (fun c34 => ?_)
    · refine qx_iconst (v := b2i false) d_QM_calculate_41 rfl ?_
      refine qx_istore (lv1 := [_, _, _, _, _, _, _, _, _, _]) d_QM_calculate_42 (by decide) rfl ?_
      refine qx_iload_n d_QM_calculate_44 rfl rfl ?_
      refine qx_iconstN (v := 4) d_QM_calculate_45 rfl ?_
      refine qx_icmp_geN (t := 133) d_QM_calculate_46 rfl (by omega) (by omega) (fun c46 => ?_) (fun c46 => absurd c46 (by decide))
      refine qx_iload_n d_QM_calculate_133 rfl rfl ?_
      refine qx_bipushN (v := 6) d_QM_calculate_134 rfl ?_
      refine qx_icmp_geN (t := 203) d_QM_calculate_136 rfl (by omega) (by omega) (fun c136 => absurd c136 (by decide)) (fun c136 => ?_)
      refine qx_iload_n d_QM_calculate_139 rfl rfl ?_
      refine qx_iconstN (v := 4) d_QM_calculate_140 rfl ?_
      refine qx_icmp_neN (t := 159) d_QM_calculate_141 rfl (by omega) (by omega) (fun c141 => absurd rfl c141) (fun c141 => ?_)
      refine qx_lload_n d_QM_calculate_144 rfl rfl ?_
      refine qx_lload d_QM_calculate_145 rfl ?_
      refine qx_lcmp d_QM_calculate_147 ?_
      refine qx_if_neC (t := 155) d_QM_calculate_148 rfl (fun c148 => ?_) (fun c148 => ?_)
      · refine qx_iconst (v := b2i false) d_QM_calculate_155 rfl ?_
        refine qx_goto (t := 171) d_QM_calculate_156 rfl ?_
        refine qx_istore (lv1 := [_, _, _, _, _, _, _, _, _, _]) d_QM_calculate_171 (by decide) rfl ?_
        refine qx_aload_n d_QM_calculate_173 rfl rfl ?_
        refine qx_iload_n d_QM_calculate_174 rfl rfl ?_
        refine qx_iload d_QM_calculate_175 rfl ?_
        refine qx_if_eqB (t := 184) d_QM_calculate_177 rfl (fun c177 => ?_) (fun c177 => ?_)
        · refine qx_iload d_QM_calculate_184 rfl ?_
          refine qx_if_eqB (t := 195) d_QM_calculate_186 rfl (fun c186 => ?_) (fun c186 => ?_)
          · refine qx_lconst (v := 0) d_QM_calculate_195 rfl ?_
            refine qx_iconst (v := b2i false) d_QM_calculate_196 rfl ?_
            refine qx_callV (As := [_, _, _]) (rest := _) d_QM_calculate_197 lk_QM_171 y_QM_set v_QM_set rfl rfl rfl (by decide) rfl rfl rfl rfl (by decide) (by decide) (ct_QM_set hR wk wn i (by omega) _ _) ?_
            rintro _ _ _ ⟨rfl, rfl, rfl⟩
            refine qx_goto (t := 250) d_QM_calculate_200 rfl ?_
            exact qx_ret d_QM_calculate_250 rfl (by omega) (by omega) (by first | exact absurd c177 (by decide) | exact absurd c186 (by decide) | (rw [c23]; exact ⟨rfl, rfl, rfl⟩) | (rw [c23, c34]; exact ⟨rfl, rfl, rfl⟩) | (rw [c23, c34, if_pos c148]; exact ⟨rfl, rfl, rfl⟩) | (rw [c23, c34, if_neg c148]; exact ⟨rfl, rfl, rfl⟩))
          · refine qx_ldc2 d_QM_calculate_189 kl_QM_175 ?_
            refine qx_goto (t := 196) d_QM_calculate_192 rfl ?_
            refine qx_iconst (v := b2i false) d_QM_calculate_196 rfl ?_
            refine qx_callV (As := [_, _, _]) (rest := _) d_QM_calculate_197 lk_QM_171 y_QM_set v_QM_set rfl rfl rfl (by decide) rfl rfl rfl rfl (by decide) (by decide) (ct_QM_set hR wk wn i (by omega) _ _) ?_
            rintro _ _ _ ⟨rfl, rfl, rfl⟩
            refine qx_goto (t := 250) d_QM_calculate_200 rfl ?_
            exact qx_ret d_QM_calculate_250 rfl (by omega) (by omega) (by first | exact absurd c177 (by decide) | exact absurd c186 (by decide) | (rw [c23]; exact ⟨rfl, rfl, rfl⟩) | (rw [c23, c34]; exact ⟨rfl, rfl, rfl⟩) | (rw [c23, c34, if_pos c148]; exact ⟨rfl, rfl, rfl⟩) | (rw [c23, c34, if_neg c148]; exact ⟨rfl, rfl, rfl⟩))
        · refine qx_lconst (v := 1) d_QM_calculate_180 rfl ?_
          refine qx_goto (t := 196) d_QM_calculate_181 rfl ?_
          refine qx_iconst (v := b2i false) d_QM_calculate_196 rfl ?_
          refine qx_callV (As := [_, _, _]) (rest := _) d_QM_calculate_197 lk_QM_171 y_QM_set v_QM_set rfl rfl rfl (by decide) rfl rfl rfl rfl (by decide) (by decide) (ct_QM_set hR wk wn i (by omega) _ _) ?_
          rintro _ _ _ ⟨rfl, rfl, rfl⟩
          refine qx_goto (t := 250) d_QM_calculate_200 rfl ?_
          exact qx_ret d_QM_calculate_250 rfl (by omega) (by omega) (by first | exact absurd c177 (by decide) | exact absurd c186 (by decide) | (rw [c23]; exact ⟨rfl, rfl, rfl⟩) | (rw [c23, c34]; exact ⟨rfl, rfl, rfl⟩) | (rw [c23, c34, if_pos c148]; exact ⟨rfl, rfl, rfl⟩) | (rw [c23, c34, if_neg c148]; exact ⟨rfl, rfl, rfl⟩))
      · refine qx_iconst (v := b2i true) d_QM_calculate_151 rfl ?_
        refine qx_goto (t := 171) d_QM_calculate_152 rfl ?_
        refine qx_istore (lv1 := [_, _, _, _, _, _, _, _, _, _]) d_QM_calculate_171 (by decide) rfl ?_
        refine qx_aload_n d_QM_calculate_173 rfl rfl ?_
        refine qx_iload_n d_QM_calculate_174 rfl rfl ?_
        refine qx_iload d_QM_calculate_175 rfl ?_
        refine qx_if_eqB (t := 184) d_QM_calculate_177 rfl (fun c177 => ?_) (fun c177 => ?_)
        · refine qx_iload d_QM_calculate_184 rfl ?_
          refine qx_if_eqB (t := 195) d_QM_calculate_186 rfl (fun c186 => ?_) (fun c186 => ?_)
          · refine qx_lconst (v := 0) d_QM_calculate_195 rfl ?_
            refine qx_iconst (v := b2i false) d_QM_calculate_196 rfl ?_
            refine qx_callV (As := [_, _, _]) (rest := _) d_QM_calculate_197 lk_QM_171 y_QM_set v_QM_set rfl rfl rfl (by decide) rfl rfl rfl rfl (by decide) (by decide) (ct_QM_set hR wk wn i (by omega) _ _) ?_
            rintro _ _ _ ⟨rfl, rfl, rfl⟩
            refine qx_goto (t := 250) d_QM_calculate_200 rfl ?_
            exact qx_ret d_QM_calculate_250 rfl (by omega) (by omega) (by first | exact absurd c177 (by decide) | exact absurd c186 (by decide) | (rw [c23]; exact ⟨rfl, rfl, rfl⟩) | (rw [c23, c34]; exact ⟨rfl, rfl, rfl⟩) | (rw [c23, c34, if_pos c148]; exact ⟨rfl, rfl, rfl⟩) | (rw [c23, c34, if_neg c148]; exact ⟨rfl, rfl, rfl⟩))
          · refine qx_ldc2 d_QM_calculate_189 kl_QM_175 ?_
            refine qx_goto (t := 196) d_QM_calculate_192 rfl ?_
            refine qx_iconst (v := b2i false) d_QM_calculate_196 rfl ?_
            refine qx_callV (As := [_, _, _]) (rest := _) d_QM_calculate_197 lk_QM_171 y_QM_set v_QM_set rfl rfl rfl (by decide) rfl rfl rfl rfl (by decide) (by decide) (ct_QM_set hR wk wn i (by omega) _ _) ?_
            rintro _ _ _ ⟨rfl, rfl, rfl⟩
            refine qx_goto (t := 250) d_QM_calculate_200 rfl ?_
            exact qx_ret d_QM_calculate_250 rfl (by omega) (by omega) (by first | exact absurd c177 (by decide) | exact absurd c186 (by decide) | (rw [c23]; exact ⟨rfl, rfl, rfl⟩) | (rw [c23, c34]; exact ⟨rfl, rfl, rfl⟩) | (rw [c23, c34, if_pos c148]; exact ⟨rfl, rfl, rfl⟩) | (rw [c23, c34, if_neg c148]; exact ⟨rfl, rfl, rfl⟩))
        · refine qx_lconst (v := 1) d_QM_calculate_180 rfl ?_
          refine qx_goto (t := 196) d_QM_calculate_181 rfl ?_
          refine qx_iconst (v := b2i false) d_QM_calculate_196 rfl ?_
          refine qx_callV (As := [_, _, _]) (rest := _) d_QM_calculate_197 lk_QM_171 y_QM_set v_QM_set rfl rfl rfl (by decide) rfl rfl rfl rfl (by decide) (by decide) (ct_QM_set hR wk wn i (by omega) _ _) ?_
          rintro _ _ _ ⟨rfl, rfl, rfl⟩
          refine qx_goto (t := 250) d_QM_calculate_200 rfl ?_
          exact qx_ret d_QM_calculate_250 rfl (by omega) (by omega) (by first | exact absurd c177 (by decide) | exact absurd c186 (by decide) | (rw [c23]; exact ⟨rfl, rfl, rfl⟩) | (rw [c23, c34]; exact ⟨rfl, rfl, rfl⟩) | (rw [c23, c34, if_pos c148]; exact ⟨rfl, rfl, rfl⟩) | (rw [c23, c34, if_neg c148]; exact ⟨rfl, rfl, rfl⟩))
    · refine qx_iconst (v := b2i true) d_QM_calculate_37 rfl ?_
      refine qx_goto (t := 42) d_QM_calculate_38 rfl ?_
      refine qx_istore (lv1 := [_, _, _, _, _, _, _, _, _, _]) d_QM_calculate_42 (by decide) rfl ?_
      refine qx_iload_n d_QM_calculate_44 rfl rfl ?_
      refine qx_iconstN (v := 4) d_QM_calculate_45 rfl ?_
      refine qx_icmp_geN (t := 133) d_QM_calculate_46 rfl (by omega) (by omega) (fun c46 => ?_) (fun c46 => absurd c46 (by decide))
      refine qx_iload_n d_QM_calculate_133 rfl rfl ?_
      refine qx_bipushN (v := 6) d_QM_calculate_134 rfl ?_
      refine qx_icmp_geN (t := 203) d_QM_calculate_136 rfl (by omega) (by omega) (fun c136 => absurd c136 (by decide)) (fun c136 => ?_)
      refine qx_iload_n d_QM_calculate_139 rfl rfl ?_
      refine qx_iconstN (v := 4) d_QM_calculate_140 rfl ?_
      refine qx_icmp_neN (t := 159) d_QM_calculate_141 rfl (by omega) (by omega) (fun c141 => absurd rfl c141) (fun c141 => ?_)
      refine qx_lload_n d_QM_calculate_144 rfl rfl ?_
      refine qx_lload d_QM_calculate_145 rfl ?_
      refine qx_lcmp d_QM_calculate_147 ?_
      refine qx_if_neC (t := 155) d_QM_calculate_148 rfl (fun c148 => ?_) (fun c148 => ?_)
      · refine qx_iconst (v := b2i false) d_QM_calculate_155 rfl ?_
        refine qx_goto (t := 171) d_QM_calculate_156 rfl ?_
        refine qx_istore (lv1 := [_, _, _, _, _, _, _, _, _, _]) d_QM_calculate_171 (by decide) rfl ?_
        refine qx_aload_n d_QM_calculate_173 rfl rfl ?_
        refine qx_iload_n d_QM_calculate_174 rfl rfl ?_
        refine qx_iload d_QM_calculate_175 rfl ?_
        refine qx_if_eqB (t := 184) d_QM_calculate_177 rfl (fun c177 => ?_) (fun c177 => ?_)
        · refine qx_iload d_QM_calculate_184 rfl ?_
          refine qx_if_eqB (t := 195) d_QM_calculate_186 rfl (fun c186 => ?_) (fun c186 => ?_)
          · refine qx_lconst (v := 0) d_QM_calculate_195 rfl ?_
            refine qx_iconst (v := b2i false) d_QM_calculate_196 rfl ?_
            refine qx_callV (As := [_, _, _]) (rest := _) d_QM_calculate_197 lk_QM_171 y_QM_set v_QM_set rfl rfl rfl (by decide) rfl rfl rfl rfl (by decide) (by decide) (ct_QM_set hR wk wn i (by omega) _ _) ?_
            rintro _ _ _ ⟨rfl, rfl, rfl⟩
            refine qx_goto (t := 250) d_QM_calculate_200 rfl ?_
            exact qx_ret d_QM_calculate_250 rfl (by omega) (by omega) (by first | exact absurd c177 (by decide) | exact absurd c186 (by decide) | (rw [c23]; exact ⟨rfl, rfl, rfl⟩) | (rw [c23, c34]; exact ⟨rfl, rfl, rfl⟩) | (rw [c23, c34, if_pos c148]; exact ⟨rfl, rfl, rfl⟩) | (rw [c23, c34, if_neg c148]; exact ⟨rfl, rfl, rfl⟩))
          · refine qx_ldc2 d_QM_calculate_189 kl_QM_175 ?_
            refine qx_goto (t := 196) d_QM_calculate_192 rfl ?_
            refine qx_iconst (v := b2i false) d_QM_calculate_196 rfl ?_
            refine qx_callV (As := [_, _, _]) (rest := _) d_QM_calculate_197 lk_QM_171 y_QM_set v_QM_set rfl rfl rfl (by decide) rfl rfl rfl rfl (by decide) (by decide) (ct_QM_set hR wk wn i (by omega) _ _) ?_
            rintro _ _ _ ⟨rfl, rfl, rfl⟩
            refine qx_goto (t := 250) d_QM_calculate_200 rfl ?_
            exact qx_ret d_QM_calculate_250 rfl (by omega) (by omega) (by first | exact absurd c177 (by decide) | exact absurd c186 (by decide) | (rw [c23]; exact ⟨rfl, rfl, rfl⟩) | (rw [c23, c34]; exact ⟨rfl, rfl, rfl⟩) | (rw [c23, c34, if_pos c148]; exact ⟨rfl, rfl, rfl⟩) | (rw [c23, c34, if_neg c148]; exact ⟨rfl, rfl, rfl⟩))
        · refine qx_lconst (v := 1) d_QM_calculate_180 rfl ?_
          refine qx_goto (t := 196) d_QM_calculate_181 rfl ?_
          refine qx_iconst (v := b2i false) d_QM_calculate_196 rfl ?_
          refine qx_callV (As := [_, _, _]) (rest := _) d_QM_calculate_197 lk_QM_171 y_QM_set v_QM_set rfl rfl rfl (by decide) rfl rfl rfl rfl (by decide) (by decide) (ct_QM_set hR wk wn i (by omega) _ _) ?_
          rintro _ _ _ ⟨rfl, rfl, rfl⟩
          refine qx_goto (t := 250) d_QM_calculate_200 rfl ?_
          exact qx_ret d_QM_calculate_250 rfl (by omega) (by omega) (by first | exact absurd c177 (by decide) | exact absurd c186 (by decide) | (rw [c23]; exact ⟨rfl, rfl, rfl⟩) | (rw [c23, c34]; exact ⟨rfl, rfl, rfl⟩) | (rw [c23, c34, if_pos c148]; exact ⟨rfl, rfl, rfl⟩) | (rw [c23, c34, if_neg c148]; exact ⟨rfl, rfl, rfl⟩))
      · refine qx_iconst (v := b2i true) d_QM_calculate_151 rfl ?_
        refine qx_goto (t := 171) d_QM_calculate_152 rfl ?_
        refine qx_istore (lv1 := [_, _, _, _, _, _, _, _, _, _]) d_QM_calculate_171 (by decide) rfl ?_
        refine qx_aload_n d_QM_calculate_173 rfl rfl ?_
        refine qx_iload_n d_QM_calculate_174 rfl rfl ?_
        refine qx_iload d_QM_calculate_175 rfl ?_
        refine qx_if_eqB (t := 184) d_QM_calculate_177 rfl (fun c177 => ?_) (fun c177 => ?_)
        · refine qx_iload d_QM_calculate_184 rfl ?_
          refine qx_if_eqB (t := 195) d_QM_calculate_186 rfl (fun c186 => ?_) (fun c186 => ?_)
          · refine qx_lconst (v := 0) d_QM_calculate_195 rfl ?_
            refine qx_iconst (v := b2i false) d_QM_calculate_196 rfl ?_
            refine qx_callV (As := [_, _, _]) (rest := _) d_QM_calculate_197 lk_QM_171 y_QM_set v_QM_set rfl rfl rfl (by decide) rfl rfl rfl rfl (by decide) (by decide) (ct_QM_set hR wk wn i (by omega) _ _) ?_
            rintro _ _ _ ⟨rfl, rfl, rfl⟩
            refine qx_goto (t := 250) d_QM_calculate_200 rfl ?_
            exact qx_ret d_QM_calculate_250 rfl (by omega) (by omega) (by first | exact absurd c177 (by decide) | exact absurd c186 (by decide) | (rw [c23]; exact ⟨rfl, rfl, rfl⟩) | (rw [c23, c34]; exact ⟨rfl, rfl, rfl⟩) | (rw [c23, c34, if_pos c148]; exact ⟨rfl, rfl, rfl⟩) | (rw [c23, c34, if_neg c148]; exact ⟨rfl, rfl, rfl⟩))
          · refine qx_ldc2 d_QM_calculate_189 kl_QM_175 ?_
            refine qx_goto (t := 196) d_QM_calculate_192 rfl ?_
            refine qx_iconst (v := b2i false) d_QM_calculate_196 rfl ?_
            refine qx_callV (As := [_, _, _]) (rest := _) d_QM_calculate_197 lk_QM_171 y_QM_set v_QM_set rfl rfl rfl (by decide) rfl rfl rfl rfl (by decide) (by decide) (ct_QM_set hR wk wn i (by omega) _ _) ?_
            rintro _ _ _ ⟨rfl, rfl, rfl⟩
            refine qx_goto (t := 250) d_QM_calculate_200 rfl ?_
            exact qx_ret d_QM_calculate_250 rfl (by omega) (by omega) (by first | exact absurd c177 (by decide) | exact absurd c186 (by decide) | (rw [c23]; exact ⟨rfl, rfl, rfl⟩) | (rw [c23, c34]; exact ⟨rfl, rfl, rfl⟩) | (rw [c23, c34, if_pos c148]; exact ⟨rfl, rfl, rfl⟩) | (rw [c23, c34, if_neg c148]; exact ⟨rfl, rfl, rfl⟩))
        · refine qx_lconst (v := 1) d_QM_calculate_180 rfl ?_
          refine qx_goto (t := 196) d_QM_calculate_181 rfl ?_
          refine qx_iconst (v := b2i false) d_QM_calculate_196 rfl ?_
          refine qx_callV (As := [_, _, _]) (rest := _) d_QM_calculate_197 lk_QM_171 y_QM_set v_QM_set rfl rfl rfl (by decide) rfl rfl rfl rfl (by decide) (by decide) (ct_QM_set hR wk wn i (by omega) _ _) ?_
          rintro _ _ _ ⟨rfl, rfl, rfl⟩
          refine qx_goto (t := 250) d_QM_calculate_200 rfl ?_
          exact qx_ret d_QM_calculate_250 rfl (by omega) (by omega) (by first | exact absurd c177 (by decide) | exact absurd c186 (by decide) | (rw [c23]; exact ⟨rfl, rfl, rfl⟩) | (rw [c23, c34]; exact ⟨rfl, rfl, rfl⟩) | (rw [c23, c34, if_pos c148]; exact ⟨rfl, rfl, rfl⟩) | (rw [c23, c34, if_neg c148]; exact ⟨rfl, rfl, rfl⟩))
set_option maxRecDepth 100000 in
set_option maxHeartbeats 4000000 in
theorem ct_QM_calculate_5 {h : qH} (hR : h.2.2 122 = qRQM) (wk : Nat → Int64) (wn : Nat → Int32) (i : Nat) (hi : i + 1 < 24) (x y : Int64) (n m : Bool) (hx : wk i = x) (hy : wk (i + 1) = y) (hn : wn i = b2i n) (hm : wn (i + 1) = b2i m) : qT mi_QM_calculate 1 0 0 [.ref 122, .int (nI 5), .int (nI i)] (eR h wk wn) NN (fun v1 h1 n1 => v1 = none ∧ h1 = eR h (va_up wk i (if (n || m) = true then 1 else if x < y then 2 else 0)) (va_up wn i (b2i false)) ∧ n1 = NN) := by
  refine qT.of (lv0 := [_, _, _, _, _, _, _, _, _, _]) (by decide +kernel) (fun _ _ => Nat.le_of_ble_eq_true rfl) rfl ?_
  refine qx_aload_n d_QM_calculate_0 rfl rfl ?_
  refine qx_getR d_QM_calculate_1 fR_QM_36 rfl rfl (congrFun hR 21) ?_
  refine qx_iload_n d_QM_calculate_4 rfl rfl ?_
  refine qx_lald d_QM_calculate_5 rfl rfl rfl rfl (by omega) hx ?_
  refine qx_lstore_n (lv1 := [_, _, _, _, _, _, _, _, _, _]) d_QM_calculate_6 rfl (by decide) rfl ?_
  refine qx_aload_n d_QM_calculate_7 rfl rfl ?_
  refine qx_getR d_QM_calculate_8 fR_QM_36 rfl rfl (congrFun hR 21) ?_
  refine qx_iload_n d_QM_calculate_11 rfl rfl ?_
  refine qx_iconstN (v := 1) d_QM_calculate_12 rfl ?_
  refine qx_iaddN d_QM_calculate_13 ?_
  refine qx_lald d_QM_calculate_14 rfl rfl rfl rfl (by omega) hy ?_
  refine qx_lstore (lv1 := [_, _, _, _, _, _, _, _, _, _]) d_QM_calculate_15 (by decide) rfl ?_
  refine qx_aload_n d_QM_calculate_17 rfl rfl ?_
  refine qx_getR d_QM_calculate_18 fR_QM_39 rfl rfl (congrFun hR 22) ?_
  refine qx_iload_n d_QM_calculate_21 rfl rfl ?_
  refine qx_zald d_QM_calculate_22 rfl rfl rfl rfl (by omega) hn ?_
  refine qx_if_neB (t := 37) d_QM_calculate_23 rfl (fun c23 => ?_) (fun c23 => ?_)
  · refine qx_iconst (v := b2i true) d_QM_calculate_37 rfl ?_
    refine qx_goto (t := 42) d_QM_calculate_38 rfl ?_
    refine qx_istore (lv1 := [_, _, _, _, _, _, _, _, _, _]) d_QM_calculate_42 (by decide) rfl ?_
    refine qx_iload_n d_QM_calculate_44 rfl rfl ?_
    refine qx_iconstN (v := 4) d_QM_calculate_45 rfl ?_
    refine qx_icmp_geN (t := 133) d_QM_calculate_46 rfl (by omega) (by omega) (fun c46 => ?_) (fun c46 => absurd c46 (by decide))
    refine qx_iload_n d_QM_calculate_133 rfl rfl ?_
    refine qx_bipushN (v := 6) d_QM_calculate_134 rfl ?_
    refine qx_icmp_geN (t := 203) d_QM_calculate_136 rfl (by omega) (by omega) (fun c136 => absurd c136 (by decide)) (fun c136 => ?_)
    refine qx_iload_n d_QM_calculate_139 rfl rfl ?_
    refine qx_iconstN (v := 4) d_QM_calculate_140 rfl ?_
    refine qx_icmp_neN (t := 159) d_QM_calculate_141 rfl (by omega) (by omega) (fun c141 => ?_) (fun c141 => absurd c141 (by decide))
    refine qx_lload_n d_QM_calculate_159 rfl rfl ?_
    refine qx_lload d_QM_calculate_160 rfl ?_
    refine qx_lcmp d_QM_calculate_162 ?_
    refine qx_if_geC (t := 170) d_QM_calculate_163 rfl (fun c163 => ?_) (fun c163 => ?_)
    · refine qx_iconst (v := b2i false) d_QM_calculate_170 rfl ?_
      refine qx_istore (lv1 := [_, _, _, _, _, _, _, _, _, _]) d_QM_calculate_171 (by decide) rfl ?_
      refine qx_aload_n d_QM_calculate_173 rfl rfl ?_
      refine qx_iload_n d_QM_calculate_174 rfl rfl ?_
      refine qx_iload d_QM_calculate_175 rfl ?_
      refine qx_if_eqB (t := 184) d_QM_calculate_177 rfl (fun c177 => ?_) (fun c177 => ?_)
      · refine qx_iload d_QM_calculate_184 rfl ?_
        refine qx_if_eqB (t := 195) d_QM_calculate_186 rfl (fun c186 => ?_) (fun c186 => ?_)
        · refine qx_lconst (v := 0) d_QM_calculate_195 rfl ?_
          refine qx_iconst (v := b2i false) d_QM_calculate_196 rfl ?_
          refine qx_callV (As := [_, _, _]) (rest := _) d_QM_calculate_197 lk_QM_171 y_QM_set v_QM_set rfl rfl rfl (by decide) rfl rfl rfl rfl (by decide) (by decide) (ct_QM_set hR wk wn i (by omega) _ _) ?_
          rintro _ _ _ ⟨rfl, rfl, rfl⟩
          refine qx_goto (t := 250) d_QM_calculate_200 rfl ?_
          exact qx_ret d_QM_calculate_250 rfl (by omega) (by omega) (by first | exact absurd c177 (by decide) | exact absurd c186 (by decide) | (rw [c23]; exact ⟨rfl, rfl, rfl⟩) | (rw [c23, c34]; exact ⟨rfl, rfl, rfl⟩) | (rw [c23, c34, if_pos c163]; exact ⟨rfl, rfl, rfl⟩) | (rw [c23, c34, if_neg (Int64.not_lt.mpr c163)]; exact ⟨rfl, rfl, rfl⟩))
        · refine qx_ldc2 d_QM_calculate_189 kl_QM_175 ?_
          refine qx_goto (t := 196) d_QM_calculate_192 rfl ?_
          refine qx_iconst (v := b2i false) d_QM_calculate_196 rfl ?_
          refine qx_callV (As := [_, _, _]) (rest := _) d_QM_calculate_197 lk_QM_171 y_QM_set v_QM_set rfl rfl rfl (by decide) rfl rfl rfl rfl (by decide) (by decide) (ct_QM_set hR wk wn i (by omega) _ _) ?_
          rintro _ _ _ ⟨rfl, rfl, rfl⟩
          refine qx_goto (t := 250) d_QM_calculate_200 rfl ?_
          exact qx_ret d_QM_calculate_250 rfl (by omega) (by omega) (by first | exact absurd c177 (by decide) | exact absurd c186 (by decide) | (rw [c23]; exact ⟨rfl, rfl, rfl⟩) | (rw [c23, c34]; exact ⟨rfl, rfl, rfl⟩) | (rw [c23, c34, if_pos c163]; exact ⟨rfl, rfl, rfl⟩) | (rw [c23, c34, if_neg (Int64.not_lt.mpr c163)]; exact ⟨rfl, rfl, rfl⟩))
      · refine qx_lconst (v := 1) d_QM_calculate_180 rfl ?_
        refine qx_goto (t := 196) d_QM_calculate_181 rfl ?_
        refine qx_iconst (v := b2i false) d_QM_calculate_196 rfl ?_
        refine qx_callV (As := [_, _, _]) (rest := _) d_QM_calculate_197 lk_QM_171 y_QM_set v_QM_set rfl rfl rfl (by decide) rfl rfl rfl rfl (by decide) (by decide) (ct_QM_set hR wk wn i (by omega) _ _) ?_
        rintro _ _ _ ⟨rfl, rfl, rfl⟩
        refine qx_goto (t := 250) d_QM_calculate_200 rfl ?_
        exact qx_ret d_QM_calculate_250 rfl (by omega) (by omega) (by first | exact absurd c177 (by decide) | exact absurd c186 (by decide) | (rw [c23]; exact ⟨rfl, rfl, rfl⟩) | (rw [c23, c34]; exact ⟨rfl, rfl, rfl⟩) | (rw [c23, c34, if_pos c163]; exact ⟨rfl, rfl, rfl⟩) | (rw [c23, c34, if_neg (Int64.not_lt.mpr c163)]; exact ⟨rfl, rfl, rfl⟩))
    · refine qx_iconst (v := b2i true) d_QM_calculate_166 rfl ?_
      refine qx_goto (t := 171) d_QM_calculate_167 rfl ?_
      refine qx_istore (lv1 := [_, _, _, _, _, _, _, _, _, _]) d_QM_calculate_171 (by decide) rfl ?_
      refine qx_aload_n d_QM_calculate_173 rfl rfl ?_
      refine qx_iload_n d_QM_calculate_174 rfl rfl ?_
      refine qx_iload d_QM_calculate_175 rfl ?_
      refine qx_if_eqB (t := 184) d_QM_calculate_177 rfl (fun c177 => ?_) (fun c177 => ?_)
      · refine qx_iload d_QM_calculate_184 rfl ?_
        refine qx_if_eqB (t := 195) d_QM_calculate_186 rfl (fun c186 => ?_) (fun c186 => ?_)
        · refine qx_lconst (v := 0) d_QM_calculate_195 rfl ?_
          refine qx_iconst (v := b2i false) d_QM_calculate_196 rfl ?_
          refine qx_callV (As := [_, _, _]) (rest := _) d_QM_calculate_197 lk_QM_171 y_QM_set v_QM_set rfl rfl rfl (by decide) rfl rfl rfl rfl (by decide) (by decide) (ct_QM_set hR wk wn i (by omega) _ _) ?_
          rintro _ _ _ ⟨rfl, rfl, rfl⟩
          refine qx_goto (t := 250) d_QM_calculate_200 rfl ?_
          exact qx_ret d_QM_calculate_250 rfl (by omega) (by omega) (by first | exact absurd c177 (by decide) | exact absurd c186 (by decide) | (rw [c23]; exact ⟨rfl, rfl, rfl⟩) | (rw [c23, c34]; exact ⟨rfl, rfl, rfl⟩) | (rw [c23, c34, if_pos c163]; exact ⟨rfl, rfl, rfl⟩) | (rw [c23, c34, if_neg (Int64.not_lt.mpr c163)]; exact ⟨rfl, rfl, rfl⟩))
        · refine qx_ldc2 d_QM_calculate_189 kl_QM_175 ?_
          refine qx_goto (t := 196) d_QM_calculate_192 rfl ?_
          refine qx_iconst (v := b2i false) d_QM_calculate_196 rfl ?_
          refine qx_callV (As := [_, _, _]) (rest := _) d_QM_calculate_197 lk_QM_171 y_QM_set v_QM_set rfl rfl rfl (by decide) rfl rfl rfl rfl (by decide) (by decide) (ct_QM_set hR wk wn i (by omega) _ _) ?_
          rintro _ _ _ ⟨rfl, rfl, rfl⟩
          refine qx_goto (t := 250) d_QM_calculate_200 rfl ?_
          exact qx_ret d_QM_calculate_250 rfl (by omega) (by omega) (by first | exact absurd c177 (by decide) | exact absurd c186 (by decide) | (rw [c23]; exact ⟨rfl, rfl, rfl⟩) | (rw [c23, c34]; exact ⟨rfl, rfl, rfl⟩) | (rw [c23, c34, if_pos c163]; exact ⟨rfl, rfl, rfl⟩) | (rw [c23, c34, if_neg (Int64.not_lt.mpr c163)]; exact ⟨rfl, rfl, rfl⟩))
      · refine qx_lconst (v := 1) d_QM_calculate_180 rfl ?_
        refine qx_goto (t := 196) d_QM_calculate_181 rfl ?_
        refine qx_iconst (v := b2i false) d_QM_calculate_196 rfl ?_
        refine qx_callV (As := [_, _, _]) (rest := _) d_QM_calculate_197 lk_QM_171 y_QM_set v_QM_set rfl rfl rfl (by decide) rfl rfl rfl rfl (by decide) (by decide) (ct_QM_set hR wk wn i (by omega) _ _) ?_
        rintro _ _ _ ⟨rfl, rfl, rfl⟩
        refine qx_goto (t := 250) d_QM_calculate_200 rfl ?_
        exact qx_ret d_QM_calculate_250 rfl (by omega) (by omega) (by first | exact absurd c177 (by decide) | exact absurd c186 (by decide) | (rw [c23]; exact ⟨rfl, rfl, rfl⟩) | (rw [c23, c34]; exact ⟨rfl, rfl, rfl⟩) | (rw [c23, c34, if_pos c163]; exact ⟨rfl, rfl, rfl⟩) | (rw [c23, c34, if_neg (Int64.not_lt.mpr c163)]; exact ⟨rfl, rfl, rfl⟩))
  · refine qx_aload_n d_QM_calculate_26 rfl rfl ?_
    refine qx_getR d_QM_calculate_27 fR_QM_39 rfl rfl (congrFun hR 22) ?_
    refine qx_iload_n d_QM_calculate_30 rfl rfl ?_
    refine qx_iconstN (v := 1) d_QM_calculate_31 rfl ?_
    refine qx_iaddN d_QM_calculate_32 ?_
    refine qx_zald d_QM_calculate_33 rfl rfl rfl rfl (by omega) hm ?_
    refine qx_if_eqB (t := 41) d_QM_calculate_34 rfl (fun c34 => ?_) (fun c34 => ?_)
    · refine qx_iconst (v := b2i false) d_QM_calculate_41 rfl ?_
      refine qx_istore (lv1 := [_, _, _, _, _, _, _, _, _, _]) d_QM_calculate_42 (by decide) rfl ?_
      refine qx_iload_n d_QM_calculate_44 rfl rfl ?_
      refine qx_iconstN (v := 4) d_QM_calculate_45 rfl ?_
      refine qx_icmp_geN (t := 133) d_QM_calculate_46 rfl (by omega) (by omega) (fun c46 => ?_) (fun c46 => absurd c46 (by decide))
      refine qx_iload_n d_QM_calculate_133 rfl rfl ?_
      refine qx_bipushN (v := 6) d_QM_calculate_134 rfl ?_
      refine qx_icmp_geN (t := 203) d_QM_calculate_136 rfl (by omega) (by omega) (fun c136 => absurd c136 (by decide)) (fun c136 => ?_)
      refine qx_iload_n d_QM_calculate_139 rfl rfl ?_
      refine qx_iconstN (v := 4) d_QM_calculate_140 rfl ?_
      refine qx_icmp_neN (t := 159) d_QM_calculate_141 rfl (by omega) (by omega) (fun c141 => ?_) (fun c141 => absurd c141 (by decide))
      refine qx_lload_n d_QM_calculate_159 rfl rfl ?_
      refine qx_lload d_QM_calculate_160 rfl ?_
      refine qx_lcmp d_QM_calculate_162 ?_
      refine qx_if_geC (t := 170) d_QM_calculate_163 rfl (fun c163 => ?_) (fun c163 => ?_)
      · refine qx_iconst (v := b2i false) d_QM_calculate_170 rfl ?_
        refine qx_istore (lv1 := [_, _, _, _, _, _, _, _, _, _]) d_QM_calculate_171 (by decide) rfl ?_
        refine qx_aload_n d_QM_calculate_173 rfl rfl ?_
        refine qx_iload_n d_QM_calculate_174 rfl rfl ?_
        refine qx_iload d_QM_calculate_175 rfl ?_
        refine qx_if_eqB (t := 184) d_QM_calculate_177 rfl (fun c177 => ?_) (fun c177 => ?_)
        · refine qx_iload d_QM_calculate_184 rfl ?_
          refine qx_if_eqB (t := 195) d_QM_calculate_186 rfl (fun c186 => ?_) (fun c186 => ?_)
          · refine qx_lconst (v := 0) d_QM_calculate_195 rfl ?_
            refine qx_iconst (v := b2i false) d_QM_calculate_196 rfl ?_
            refine qx_callV (As := [_, _, _]) (rest := _) d_QM_calculate_197 lk_QM_171 y_QM_set v_QM_set rfl rfl rfl (by decide) rfl rfl rfl rfl (by decide) (by decide) (ct_QM_set hR wk wn i (by omega) _ _) ?_
            rintro _ _ _ ⟨rfl, rfl, rfl⟩
            refine qx_goto (t := 250) d_QM_calculate_200 rfl ?_
            exact qx_ret d_QM_calculate_250 rfl (by omega) (by omega) (by first | exact absurd c177 (by decide) | exact absurd c186 (by decide) | (rw [c23]; exact ⟨rfl, rfl, rfl⟩) | (rw [c23, c34]; exact ⟨rfl, rfl, rfl⟩) | (rw [c23, c34, if_pos c163]; exact ⟨rfl, rfl, rfl⟩) | (rw [c23, c34, if_neg (Int64.not_lt.mpr c163)]; exact ⟨rfl, rfl, rfl⟩))
          · refine qx_ldc2 d_QM_calculate_189 kl_QM_175 ?_
            refine qx_goto (t := 196) d_QM_calculate_192 rfl ?_
            refine qx_iconst (v := b2i false) d_QM_calculate_196 rfl ?_
            refine qx_callV (As := [_, _, _]) (rest := _) d_QM_calculate_197 lk_QM_171 y_QM_set v_QM_set rfl rfl rfl (by decide) rfl rfl rfl rfl (by decide) (by decide) (ct_QM_set hR wk wn i (by omega) _ _) ?_
            rintro _ _ _ ⟨rfl, rfl, rfl⟩
            refine qx_goto (t := 250) d_QM_calculate_200 rfl ?_
            exact qx_ret d_QM_calculate_250 rfl (by omega) (by omega) (by first | exact absurd c177 (by decide) | exact absurd c186 (by decide) | (rw [c23]; exact ⟨rfl, rfl, rfl⟩) | (rw [c23, c34]; exact ⟨rfl, rfl, rfl⟩) | (rw [c23, c34, if_pos c163]; exact ⟨rfl, rfl, rfl⟩) | (rw [c23, c34, if_neg (Int64.not_lt.mpr c163)]; exact ⟨rfl, rfl, rfl⟩))
        · refine qx_lconst (v := 1) d_QM_calculate_180 rfl ?_
          refine qx_goto (t := 196) d_QM_calculate_181 rfl ?_
          refine qx_iconst (v := b2i false) d_QM_calculate_196 rfl ?_
          refine qx_callV (As := [_, _, _]) (rest := _) d_QM_calculate_197 lk_QM_171 y_QM_set v_QM_set rfl rfl rfl (by decide) rfl rfl rfl rfl (by decide) (by decide) (ct_QM_set hR wk wn i (by omega) _ _) ?_
          rintro _ _ _ ⟨rfl, rfl, rfl⟩
          refine qx_goto (t := 250) d_QM_calculate_200 rfl ?_
          exact qx_ret d_QM_calculate_250 rfl (by omega) (by omega) (by first | exact absurd c177 (by decide) | exact absurd c186 (by decide) | (rw [c23]; exact ⟨rfl, rfl, rfl⟩) | (rw [c23, c34]; exact ⟨rfl, rfl, rfl⟩) | (rw [c23, c34, if_pos c163]; exact ⟨rfl, rfl, rfl⟩) | (rw [c23, c34, if_neg (Int64.not_lt.mpr c163)]; exact ⟨rfl, rfl, rfl⟩))
      · refine qx_iconst (v := b2i true) d_QM_calculate_166 rfl ?_
        refine qx_goto (t := 171) d_QM_calculate_167 rfl ?_
        refine qx_istore (lv1 := [_, _, _, _, _, _, _, _, _, _]) d_QM_calculate_171 (by decide) rfl ?_
        refine qx_aload_n d_QM_calculate_173 rfl rfl ?_
        refine qx_iload_n d_QM_calculate_174 rfl rfl ?_
        refine qx_iload d_QM_calculate_175 rfl ?_
        refine qx_if_eqB (t := 184) d_QM_calculate_177 rfl (fun c177 => ?_) (fun c177 => ?_)
        · refine qx_iload d_QM_calculate_184 rfl ?_
          refine qx_if_eqB (t := 195) d_QM_calculate_186 rfl (fun c186 => ?_) (fun c186 => ?_)
          · refine qx_lconst (v := 0) d_QM_calculate_195 rfl ?_
            refine qx_iconst (v := b2i false) d_QM_calculate_196 rfl ?_
            refine qx_callV (As := [_, _, _]) (rest := _) d_QM_calculate_197 lk_QM_171 y_QM_set v_QM_set rfl rfl rfl (by decide) rfl rfl rfl rfl (by decide) (by decide) (ct_QM_set hR wk wn i (by omega) _ _) ?_
            rintro _ _ _ ⟨rfl, rfl, rfl⟩
            refine qx_goto (t := 250) d_QM_calculate_200 rfl ?_
            exact qx_ret d_QM_calculate_250 rfl (by omega) (by omega) (by first | exact absurd c177 (by decide) | exact absurd c186 (by decide) | (rw [c23]; exact ⟨rfl, rfl, rfl⟩) | (rw [c23, c34]; exact ⟨rfl, rfl, rfl⟩) | (rw [c23, c34, if_pos c163]; exact ⟨rfl, rfl, rfl⟩) | (rw [c23, c34, if_neg (Int64.not_lt.mpr c163)]; exact ⟨rfl, rfl, rfl⟩))
          · refine qx_ldc2 d_QM_calculate_189 kl_QM_175 ?_
            refine qx_goto (t := 196) d_QM_calculate_192 rfl ?_
            refine qx_iconst (v := b2i false) d_QM_calculate_196 rfl ?_
            refine qx_callV (As := [_, _, _]) (rest := _) d_QM_calculate_197 lk_QM_171 y_QM_set v_QM_set rfl rfl rfl (by decide) rfl rfl rfl rfl (by decide) (by decide) (ct_QM_set hR wk wn i (by omega) _ _) ?_
            rintro _ _ _ ⟨rfl, rfl, rfl⟩
            refine qx_goto (t := 250) d_QM_calculate_200 rfl ?_
            exact qx_ret d_QM_calculate_250 rfl (by omega) (by omega) (by first | exact absurd c177 (by decide) | exact absurd c186 (by decide) | (rw [c23]; exact ⟨rfl, rfl, rfl⟩) | (rw [c23, c34]; exact ⟨rfl, rfl, rfl⟩) | (rw [c23, c34, if_pos c163]; exact ⟨rfl, rfl, rfl⟩) | (rw [c23, c34, if_neg (Int64.not_lt.mpr c163)]; exact ⟨rfl, rfl, rfl⟩))
        · refine qx_lconst (v := 1) d_QM_calculate_180 rfl ?_
          refine qx_goto (t := 196) d_QM_calculate_181 rfl ?_
          refine qx_iconst (v := b2i false) d_QM_calculate_196 rfl ?_
          refine qx_callV (As := [_, _, _]) (rest := _) d_QM_calculate_197 lk_QM_171 y_QM_set v_QM_set rfl rfl rfl (by decide) rfl rfl rfl rfl (by decide) (by decide) (ct_QM_set hR wk wn i (by omega) _ _) ?_
          rintro _ _ _ ⟨rfl, rfl, rfl⟩
          refine qx_goto (t := 250) d_QM_calculate_200 rfl ?_
          exact qx_ret d_QM_calculate_250 rfl (by omega) (by omega) (by first | exact absurd c177 (by decide) | exact absurd c186 (by decide) | (rw [c23]; exact ⟨rfl, rfl, rfl⟩) | (rw [c23, c34]; exact ⟨rfl, rfl, rfl⟩) | (rw [c23, c34, if_pos c163]; exact ⟨rfl, rfl, rfl⟩) | (rw [c23, c34, if_neg (Int64.not_lt.mpr c163)]; exact ⟨rfl, rfl, rfl⟩))
    · refine qx_iconst (v := b2i true) d_QM_calculate_37 rfl ?_
      refine qx_goto (t := 42) d_QM_calculate_38 rfl ?_
      refine qx_istore (lv1 := [_, _, _, _, _, _, _, _, _, _]) d_QM_calculate_42 (by decide) rfl ?_
      refine qx_iload_n d_QM_calculate_44 rfl rfl ?_
      refine qx_iconstN (v := 4) d_QM_calculate_45 rfl ?_
      refine qx_icmp_geN (t := 133) d_QM_calculate_46 rfl (by omega) (by omega) (fun c46 => ?_) (fun c46 => absurd c46 (by decide))
      refine qx_iload_n d_QM_calculate_133 rfl rfl ?_
      refine qx_bipushN (v := 6) d_QM_calculate_134 rfl ?_
      refine qx_icmp_geN (t := 203) d_QM_calculate_136 rfl (by omega) (by omega) (fun c136 => absurd c136 (by decide)) (fun c136 => ?_)
      refine qx_iload_n d_QM_calculate_139 rfl rfl ?_
      refine qx_iconstN (v := 4) d_QM_calculate_140 rfl ?_
      refine qx_icmp_neN (t := 159) d_QM_calculate_141 rfl (by omega) (by omega) (fun c141 => ?_) (fun c141 => absurd c141 (by decide))
      refine qx_lload_n d_QM_calculate_159 rfl rfl ?_
      refine qx_lload d_QM_calculate_160 rfl ?_
      refine qx_lcmp d_QM_calculate_162 ?_
      refine qx_if_geC (t := 170) d_QM_calculate_163 rfl (fun c163 => ?_) (fun c163 => ?_)
      · refine qx_iconst (v := b2i false) d_QM_calculate_170 rfl ?_
        refine qx_istore (lv1 := [_, _, _, _, _, _, _, _, _, _]) d_QM_calculate_171 (by decide) rfl ?_
        refine qx_aload_n d_QM_calculate_173 rfl rfl ?_
        refine qx_iload_n d_QM_calculate_174 rfl rfl ?_
        refine qx_iload d_QM_calculate_175 rfl ?_
        refine qx_if_eqB (t := 184) d_QM_calculate_177 rfl (fun c177 => ?_) (fun c177 => ?_)
        · refine qx_iload d_QM_calculate_184 rfl ?_
          refine qx_if_eqB (t := 195) d_QM_calculate_186 rfl (fun c186 => ?_) (fun c186 => ?_)
          · refine qx_lconst (v := 0) d_QM_calculate_195 rfl ?_
            refine qx_iconst (v := b2i false) d_QM_calculate_196 rfl ?_
            refine qx_callV (As := [_, _, _]) (rest := _) d_QM_calculate_197 lk_QM_171 y_QM_set v_QM_set rfl rfl rfl (by decide) rfl rfl rfl rfl (by decide) (by decide) (ct_QM_set hR wk wn i (by omega) _ _) ?_
            rintro _ _ _ ⟨rfl, rfl, rfl⟩
            refine qx_goto (t := 250) d_QM_calculate_200 rfl ?_
            exact qx_ret d_QM_calculate_250 rfl (by omega) (by omega) (by first | exact absurd c177 (by decide) | exact absurd c186 (by decide) | (rw [c23]; exact ⟨rfl, rfl, rfl⟩) | (rw [c23, c34]; exact ⟨rfl, rfl, rfl⟩) | (rw [c23, c34, if_pos c163]; exact ⟨rfl, rfl, rfl⟩) | (rw [c23, c34, if_neg (Int64.not_lt.mpr c163)]; exact ⟨rfl, rfl, rfl⟩))
          · refine qx_ldc2 d_QM_calculate_189 kl_QM_175 ?_
            refine qx_goto (t := 196) d_QM_calculate_192 rfl ?_
            refine qx_iconst (v := b2i false) d_QM_calculate_196 rfl ?_
            refine qx_callV (As := [_, _, _]) (rest := _) d_QM_calculate_197 lk_QM_171 y_QM_set v_QM_set rfl rfl rfl (by decide) rfl rfl rfl rfl (by decide) (by decide) (ct_QM_set hR wk wn i (by omega) _ _) ?_
            rintro _ _ _ ⟨rfl, rfl, rfl⟩
            refine qx_goto (t := 250) d_QM_calculate_200 rfl ?_
            exact qx_ret d_QM_calculate_250 rfl (by omega) (by omega) (by first | exact absurd c177 (by decide) | exact absurd c186 (by decide) | (rw [c23]; exact ⟨rfl, rfl, rfl⟩) | (rw [c23, c34]; exact ⟨rfl, rfl, rfl⟩) | (rw [c23, c34, if_pos c163]; exact ⟨rfl, rfl, rfl⟩) | (rw [c23, c34, if_neg (Int64.not_lt.mpr c163)]; exact ⟨rfl, rfl, rfl⟩))
        · refine qx_lconst (v := 1) d_QM_calculate_180 rfl ?_
          refine qx_goto (t := 196) d_QM_calculate_181 rfl ?_
          refine qx_iconst (v := b2i false) d_QM_calculate_196 rfl ?_
          refine qx_callV (As := [_, _, _]) (rest := _) d_QM_calculate_197 lk_QM_171 y_QM_set v_QM_set rfl rfl rfl (by decide) rfl rfl rfl rfl (by decide) (by decide) (ct_QM_set hR wk wn i (by omega) _ _) ?_
          rintro _ _ _ ⟨rfl, rfl, rfl⟩
          refine qx_goto (t := 250) d_QM_calculate_200 rfl ?_
          exact qx_ret d_QM_calculate_250 rfl (by omega) (by omega) (by first | exact absurd c177 (by decide) | exact absurd c186 (by decide) | (rw [c23]; exact ⟨rfl, rfl, rfl⟩) | (rw [c23, c34]; exact ⟨rfl, rfl, rfl⟩) | (rw [c23, c34, if_pos c163]; exact ⟨rfl, rfl, rfl⟩) | (rw [c23, c34, if_neg (Int64.not_lt.mpr c163)]; exact ⟨rfl, rfl, rfl⟩))
      · refine qx_iconst (v := b2i true) d_QM_calculate_166 rfl ?_
        refine qx_goto (t := 171) d_QM_calculate_167 rfl ?_
        refine qx_istore (lv1 := [_, _, _, _, _, _, _, _, _, _]) d_QM_calculate_171 (by decide) rfl ?_
        refine qx_aload_n d_QM_calculate_173 rfl rfl ?_
        refine qx_iload_n d_QM_calculate_174 rfl rfl ?_
        refine qx_iload d_QM_calculate_175 rfl ?_
        refine qx_if_eqB (t := 184) d_QM_calculate_177 rfl (fun c177 => ?_) (fun c177 => ?_)
        · refine qx_iload d_QM_calculate_184 rfl ?_
          refine qx_if_eqB (t := 195) d_QM_calculate_186 rfl (fun c186 => ?_) (fun c186 => ?_)
          · refine qx_lconst (v := 0) d_QM_calculate_195 rfl ?_
            refine qx_iconst (v := b2i false) d_QM_calculate_196 rfl ?_
            refine qx_callV (As := [_, _, _]) (rest := _) d_QM_calculate_197 lk_QM_171 y_QM_set v_QM_set rfl rfl rfl (by decide) rfl rfl rfl rfl (by decide) (by decide) (ct_QM_set hR wk wn i (by omega) _ _) ?_
            rintro _ _ _ ⟨rfl, rfl, rfl⟩
            refine qx_goto (t := 250) d_QM_calculate_200 rfl ?_
            exact qx_ret d_QM_calculate_250 rfl (by omega) (by omega) (by first | exact absurd c177 (by decide) | exact absurd c186 (by decide) | (rw [c23]; exact ⟨rfl, rfl, rfl⟩) | (rw [c23, c34]; exact ⟨rfl, rfl, rfl⟩) | (rw [c23, c34, if_pos c163]; exact ⟨rfl, rfl, rfl⟩) | (rw [c23, c34, if_neg (Int64.not_lt.mpr c163)]; exact ⟨rfl, rfl, rfl⟩))
          · refine qx_ldc2 d_QM_calculate_189 kl_QM_175 ?_
            refine qx_goto (t := 196) d_QM_calculate_192 rfl ?_
            refine qx_iconst (v := b2i false) d_QM_calculate_196 rfl ?_
            refine qx_callV (As := [_, _, _]) (rest := _) d_QM_calculate_197 lk_QM_171 y_QM_set v_QM_set rfl rfl rfl (by decide) rfl rfl rfl rfl (by decide) (by decide) (ct_QM_set hR wk wn i (by omega) _ _) ?_
            rintro _ _ _ ⟨rfl, rfl, rfl⟩
            refine qx_goto (t := 250) d_QM_calculate_200 rfl ?_
            exact qx_ret d_QM_calculate_250 rfl (by omega) (by omega) (by first | exact absurd c177 (by decide) | exact absurd c186 (by decide) | (rw [c23]; exact ⟨rfl, rfl, rfl⟩) | (rw [c23, c34]; exact ⟨rfl, rfl, rfl⟩) | (rw [c23, c34, if_pos c163]; exact ⟨rfl, rfl, rfl⟩) | (rw [c23, c34, if_neg (Int64.not_lt.mpr c163)]; exact ⟨rfl, rfl, rfl⟩))
        · refine qx_lconst (v := 1) d_QM_calculate_180 rfl ?_
          refine qx_goto (t := 196) d_QM_calculate_181 rfl ?_
          refine qx_iconst (v := b2i false) d_QM_calculate_196 rfl ?_
          refine qx_callV (As := [_, _, _]) (rest := _) d_QM_calculate_197 lk_QM_171 y_QM_set v_QM_set rfl rfl rfl (by decide) rfl rfl rfl rfl (by decide) (by decide) (ct_QM_set hR wk wn i (by omega) _ _) ?_
          rintro _ _ _ ⟨rfl, rfl, rfl⟩
          refine qx_goto (t := 250) d_QM_calculate_200 rfl ?_
          exact qx_ret d_QM_calculate_250 rfl (by omega) (by omega) (by first | exact absurd c177 (by decide) | exact absurd c186 (by decide) | (rw [c23]; exact ⟨rfl, rfl, rfl⟩) | (rw [c23, c34]; exact ⟨rfl, rfl, rfl⟩) | (rw [c23, c34, if_pos c163]; exact ⟨rfl, rfl, rfl⟩) | (rw [c23, c34, if_neg (Int64.not_lt.mpr c163)]; exact ⟨rfl, rfl, rfl⟩))
set_option maxRecDepth 100000 in
set_option maxHeartbeats 4000000 in
theorem ct_QM_calculate_6 {h : qH} (hR : h.2.2 122 = qRQM) (wk : Nat → Int64) (wn : Nat → Int32) (i : Nat) (hi : i + 1 < 24) (x y : Int64) (n m : Bool) (hx : wk i = x) (hy : wk (i + 1) = y) (hn : wn i = b2i n) (hm : wn (i + 1) = b2i m) : qT mi_QM_calculate 1 0 0 [.ref 122, .int (nI 6), .int (nI i)] (eR h wk wn) NN (fun v1 h1 n1 => v1 = none ∧ h1 = eR h (va_up wk i (if x < y then x else y)) (va_up wn i (b2i false)) ∧ n1 = NN) := by
  refine qT.of (lv0 := [_, _, _, _, _, _, _, _, _, _]) (by decide +kernel) (fun _ _ => Nat.le_of_ble_eq_true rfl) rfl ?_
  refine qx_aload_n d_QM_calculate_0 rfl rfl ?_
  refine qx_getR d_QM_calculate_1 fR_QM_36 rfl rfl (congrFun hR 21) ?_
  refine qx_iload_n d_QM_calculate_4 rfl rfl ?_
  refine qx_lald d_QM_calculate_5 rfl rfl rfl rfl (by omega) hx ?_
  refine qx_lstore_n (lv1 := [_, _, _, _, _, _, _, _, _, _]) d_QM_calculate_6 rfl (by decide) rfl ?_
  refine qx_aload_n d_QM_calculate_7 rfl rfl ?_
  refine qx_getR d_QM_calculate_8 fR_QM_36 rfl rfl (congrFun hR 21) ?_
  refine qx_iload_n d_QM_calculate_11 rfl rfl ?_
  refine qx_iconstN (v := 1) d_QM_calculate_12 rfl ?_
  refine qx_iaddN d_QM_calculate_13 ?_
  refine qx_lald d_QM_calculate_14 rfl rfl rfl rfl (by omega) hy ?_
  refine qx_lstore (lv1 := [_, _, _, _, _, _, _, _, _, _]) d_QM_calculate_15 (by decide) rfl ?_
  refine qx_aload_n d_QM_calculate_17 rfl rfl ?_
  refine qx_getR d_QM_calculate_18 fR_QM_39 rfl rfl (congrFun hR 22) ?_
  refine qx_iload_n d_QM_calculate_21 rfl rfl ?_
  refine qx_zald d_QM_calculate_22 rfl rfl rfl rfl (by omega) hn ?_
  refine qx_if_neB (t := 37) d_QM_calculate_23 rfl (fun c23 => ?_) (fun c23 => ?_)
  · refine qx_iconst (v := b2i true) d_QM_calculate_37 rfl ?_
    refine qx_goto (t := 42) d_QM_calculate_38 rfl ?_
    refine qx_istore (lv1 := [_, _, _, _, _, _, _, _, _, _]) d_QM_calculate_42 (by decide) rfl ?_
    refine qx_iload_n d_QM_calculate_44 rfl rfl ?_
    refine qx_iconstN (v := 4) d_QM_calculate_45 rfl ?_
    refine qx_icmp_geN (t := 133) d_QM_calculate_46 rfl (by omega) (by omega) (fun c46 => ?_) (fun c46 => absurd c46 (by decide))
    refine qx_iload_n d_QM_calculate_133 rfl rfl ?_
    refine qx_bipushN (v := 6) d_QM_calculate_134 rfl ?_
    refine qx_icmp_geN (t := 203) d_QM_calculate_136 rfl (by omega) (by omega) (fun c136 => ?_) (fun c136 => absurd c136 (by decide))
    refine qx_iload_n d_QM_calculate_203 rfl rfl ?_
    refine qx_bipushN (v := 6) d_QM_calculate_204 rfl ?_
    refine qx_icmp_neN (t := 231) d_QM_calculate_206 rfl (by omega) (by omega) (fun c206 => absurd rfl c206) (fun c206 => ?_)
    refine qx_aload_n d_QM_calculate_209 rfl rfl ?_
    refine qx_iload_n d_QM_calculate_210 rfl rfl ?_
    refine qx_lload_n d_QM_calculate_211 rfl rfl ?_
    refine qx_lload d_QM_calculate_212 rfl ?_
    refine qx_lcmp d_QM_calculate_214 ?_
    refine qx_if_geC (t := 222) d_QM_calculate_215 rfl (fun c215 => ?_) (fun c215 => ?_)
    · refine qx_lload d_QM_calculate_222 rfl ?_
      refine qx_iconst (v := b2i false) d_QM_calculate_224 rfl ?_
      refine qx_callV (As := [_, _, _]) (rest := _) d_QM_calculate_225 lk_QM_171 y_QM_set v_QM_set rfl rfl rfl (by decide) rfl rfl rfl rfl (by decide) (by decide) (ct_QM_set hR wk wn i (by omega) _ _) ?_
      rintro _ _ _ ⟨rfl, rfl, rfl⟩
      refine qx_goto (t := 250) d_QM_calculate_228 rfl ?_
      exact qx_ret d_QM_calculate_250 rfl (by omega) (by omega) (by first | (rw [if_pos c215]; exact ⟨rfl, rfl, rfl⟩) | (rw [if_neg (Int64.not_lt.mpr c215)]; exact ⟨rfl, rfl, rfl⟩))
    · refine qx_lload_n d_QM_calculate_218 rfl rfl ?_
      refine qx_goto (t := 224) d_QM_calculate_219 rfl ?_
      refine qx_iconst (v := b2i false) d_QM_calculate_224 rfl ?_
      refine qx_callV (As := [_, _, _]) (rest := _) d_QM_calculate_225 lk_QM_171 y_QM_set v_QM_set rfl rfl rfl (by decide) rfl rfl rfl rfl (by decide) (by decide) (ct_QM_set hR wk wn i (by omega) _ _) ?_
      rintro _ _ _ ⟨rfl, rfl, rfl⟩
      refine qx_goto (t := 250) d_QM_calculate_228 rfl ?_
      exact qx_ret d_QM_calculate_250 rfl (by omega) (by omega) (by first | (rw [if_pos c215]; exact ⟨rfl, rfl, rfl⟩) | (rw [if_neg (Int64.not_lt.mpr c215)]; exact ⟨rfl, rfl, rfl⟩))
  · refine qx_aload_n d_QM_calculate_26 rfl rfl ?_
    refine qx_getR d_QM_calculate_27 fR_QM_39 rfl rfl (congrFun hR 22) ?_
    refine qx_iload_n d_QM_calculate_30 rfl rfl ?_
    refine qx_iconstN (v := 1) d_QM_calculate_31 rfl ?_
    refine qx_iaddN d_QM_calculate_32 ?_
    refine qx_zald d_QM_calculate_33 rfl rfl rfl rfl (by omega) hm ?_
    refine qx_if_eqB (t := 41) d_QM_calculate_34 rfl (fun c34 => ?_) (fun c34 => ?_)
    · refine qx_iconst (v := b2i false) d_QM_calculate_41 rfl ?_
      refine qx_istore (lv1 := [_, _, _, _, _, _, _, _, _, _]) d_QM_calculate_42 (by decide) rfl ?_
      refine qx_iload_n d_QM_calculate_44 rfl rfl ?_
      refine qx_iconstN (v := 4) d_QM_calculate_45 rfl ?_
      refine qx_icmp_geN (t := 133) d_QM_calculate_46 rfl (by omega) (by omega) (fun c46 => ?_) (fun c46 => absurd c46 (by decide))
      refine qx_iload_n d_QM_calculate_133 rfl rfl ?_
      refine qx_bipushN (v := 6) d_QM_calculate_134 rfl ?_
      refine qx_icmp_geN (t := 203) d_QM_calculate_136 rfl (by omega) (by omega) (fun c136 => ?_) (fun c136 => absurd c136 (by decide))
      refine qx_iload_n d_QM_calculate_203 rfl rfl ?_
      refine qx_bipushN (v := 6) d_QM_calculate_204 rfl ?_
      refine qx_icmp_neN (t := 231) d_QM_calculate_206 rfl (by omega) (by omega) (fun c206 => absurd rfl c206) (fun c206 => ?_)
      refine qx_aload_n d_QM_calculate_209 rfl rfl ?_
      refine qx_iload_n d_QM_calculate_210 rfl rfl ?_
      refine qx_lload_n d_QM_calculate_211 rfl rfl ?_
      refine qx_lload d_QM_calculate_212 rfl ?_
      refine qx_lcmp d_QM_calculate_214 ?_
      refine qx_if_geC (t := 222) d_QM_calculate_215 rfl (fun c215 => ?_) (fun c215 => ?_)
      · refine qx_lload d_QM_calculate_222 rfl ?_
        refine qx_iconst (v := b2i false) d_QM_calculate_224 rfl ?_
        refine qx_callV (As := [_, _, _]) (rest := _) d_QM_calculate_225 lk_QM_171 y_QM_set v_QM_set rfl rfl rfl (by decide) rfl rfl rfl rfl (by decide) (by decide) (ct_QM_set hR wk wn i (by omega) _ _) ?_
        rintro _ _ _ ⟨rfl, rfl, rfl⟩
        refine qx_goto (t := 250) d_QM_calculate_228 rfl ?_
        exact qx_ret d_QM_calculate_250 rfl (by omega) (by omega) (by first | (rw [if_pos c215]; exact ⟨rfl, rfl, rfl⟩) | (rw [if_neg (Int64.not_lt.mpr c215)]; exact ⟨rfl, rfl, rfl⟩))
      · refine qx_lload_n d_QM_calculate_218 rfl rfl ?_
        refine qx_goto (t := 224) d_QM_calculate_219 rfl ?_
        refine qx_iconst (v := b2i false) d_QM_calculate_224 rfl ?_
        refine qx_callV (As := [_, _, _]) (rest := _) d_QM_calculate_225 lk_QM_171 y_QM_set v_QM_set rfl rfl rfl (by decide) rfl rfl rfl rfl (by decide) (by decide) (ct_QM_set hR wk wn i (by omega) _ _) ?_
        rintro _ _ _ ⟨rfl, rfl, rfl⟩
        refine qx_goto (t := 250) d_QM_calculate_228 rfl ?_
        exact qx_ret d_QM_calculate_250 rfl (by omega) (by omega) (by first | (rw [if_pos c215]; exact ⟨rfl, rfl, rfl⟩) | (rw [if_neg (Int64.not_lt.mpr c215)]; exact ⟨rfl, rfl, rfl⟩))
    · refine qx_iconst (v := b2i true) d_QM_calculate_37 rfl ?_
      refine qx_goto (t := 42) d_QM_calculate_38 rfl ?_
      refine qx_istore (lv1 := [_, _, _, _, _, _, _, _, _, _]) d_QM_calculate_42 (by decide) rfl ?_
      refine qx_iload_n d_QM_calculate_44 rfl rfl ?_
      refine qx_iconstN (v := 4) d_QM_calculate_45 rfl ?_
      refine qx_icmp_geN (t := 133) d_QM_calculate_46 rfl (by omega) (by omega) (fun c46 => ?_) (fun c46 => absurd c46 (by decide))
      refine qx_iload_n d_QM_calculate_133 rfl rfl ?_
      refine qx_bipushN (v := 6) d_QM_calculate_134 rfl ?_
      refine qx_icmp_geN (t := 203) d_QM_calculate_136 rfl (by omega) (by omega) (fun c136 => ?_) (fun c136 => absurd c136 (by decide))
      refine qx_iload_n d_QM_calculate_203 rfl rfl ?_
      refine qx_bipushN (v := 6) d_QM_calculate_204 rfl ?_
      refine qx_icmp_neN (t := 231) d_QM_calculate_206 rfl (by omega) (by omega) (fun c206 => absurd rfl c206) (fun c206 => ?_)
      refine qx_aload_n d_QM_calculate_209 rfl rfl ?_
      refine qx_iload_n d_QM_calculate_210 rfl rfl ?_
      refine qx_lload_n d_QM_calculate_211 rfl rfl ?_
      refine qx_lload d_QM_calculate_212 rfl ?_
      refine qx_lcmp d_QM_calculate_214 ?_
      refine qx_if_geC (t := 222) d_QM_calculate_215 rfl (fun c215 => ?_) (fun c215 => ?_)
      · refine qx_lload d_QM_calculate_222 rfl ?_
        refine qx_iconst (v := b2i false) d_QM_calculate_224 rfl ?_
        refine qx_callV (As := [_, _, _]) (rest := _) d_QM_calculate_225 lk_QM_171 y_QM_set v_QM_set rfl rfl rfl (by decide) rfl rfl rfl rfl (by decide) (by decide) (ct_QM_set hR wk wn i (by omega) _ _) ?_
        rintro _ _ _ ⟨rfl, rfl, rfl⟩
        refine qx_goto (t := 250) d_QM_calculate_228 rfl ?_
        exact qx_ret d_QM_calculate_250 rfl (by omega) (by omega) (by first | (rw [if_pos c215]; exact ⟨rfl, rfl, rfl⟩) | (rw [if_neg (Int64.not_lt.mpr c215)]; exact ⟨rfl, rfl, rfl⟩))
      · refine qx_lload_n d_QM_calculate_218 rfl rfl ?_
        refine qx_goto (t := 224) d_QM_calculate_219 rfl ?_
        refine qx_iconst (v := b2i false) d_QM_calculate_224 rfl ?_
        refine qx_callV (As := [_, _, _]) (rest := _) d_QM_calculate_225 lk_QM_171 y_QM_set v_QM_set rfl rfl rfl (by decide) rfl rfl rfl rfl (by decide) (by decide) (ct_QM_set hR wk wn i (by omega) _ _) ?_
        rintro _ _ _ ⟨rfl, rfl, rfl⟩
        refine qx_goto (t := 250) d_QM_calculate_228 rfl ?_
        exact qx_ret d_QM_calculate_250 rfl (by omega) (by omega) (by first | (rw [if_pos c215]; exact ⟨rfl, rfl, rfl⟩) | (rw [if_neg (Int64.not_lt.mpr c215)]; exact ⟨rfl, rfl, rfl⟩))
set_option maxRecDepth 100000 in
set_option maxHeartbeats 4000000 in
theorem ct_QM_calculate_7 {h : qH} (hR : h.2.2 122 = qRQM) (wk : Nat → Int64) (wn : Nat → Int32) (i : Nat) (hi : i + 1 < 24) (x y : Int64) (n m : Bool) (hx : wk i = x) (hy : wk (i + 1) = y) (hn : wn i = b2i n) (hm : wn (i + 1) = b2i m) : qT mi_QM_calculate 1 0 0 [.ref 122, .int (nI 7), .int (nI i)] (eR h wk wn) NN (fun v1 h1 n1 => v1 = none ∧ h1 = eR h (va_up wk i (if y < x then x else y)) (va_up wn i (b2i false)) ∧ n1 = NN) := by
  refine qT.of (lv0 := [_, _, _, _, _, _, _, _, _, _]) (by decide +kernel) (fun _ _ => Nat.le_of_ble_eq_true rfl) rfl ?_
  refine qx_aload_n d_QM_calculate_0 rfl rfl ?_
  refine qx_getR d_QM_calculate_1 fR_QM_36 rfl rfl (congrFun hR 21) ?_
  refine qx_iload_n d_QM_calculate_4 rfl rfl ?_
  refine qx_lald d_QM_calculate_5 rfl rfl rfl rfl (by omega) hx ?_
  refine qx_lstore_n (lv1 := [_, _, _, _, _, _, _, _, _, _]) d_QM_calculate_6 rfl (by decide) rfl ?_
  refine qx_aload_n d_QM_calculate_7 rfl rfl ?_
  refine qx_getR d_QM_calculate_8 fR_QM_36 rfl rfl (congrFun hR 21) ?_
  refine qx_iload_n d_QM_calculate_11 rfl rfl ?_
  refine qx_iconstN (v := 1) d_QM_calculate_12 rfl ?_
  refine qx_iaddN d_QM_calculate_13 ?_
  refine qx_lald d_QM_calculate_14 rfl rfl rfl rfl (by omega) hy ?_
  refine qx_lstore (lv1 := [_, _, _, _, _, _, _, _, _, _]) d_QM_calculate_15 (by decide) rfl ?_
  refine qx_aload_n d_QM_calculate_17 rfl rfl ?_
  refine qx_getR d_QM_calculate_18 fR_QM_39 rfl rfl (congrFun hR 22) ?_
  refine qx_iload_n d_QM_calculate_21 rfl rfl ?_
  refine qx_zald d_QM_calculate_22 rfl rfl rfl rfl (by omega) hn ?_
  refine qx_if_neB (t := 37) d_QM_calculate_23 rfl (fun c23 => ?_) (fun c23 => ?_)
  · refine qx_iconst (v := b2i true) d_QM_calculate_37 rfl ?_
    refine qx_goto (t := 42) d_QM_calculate_38 rfl ?_
    refine qx_istore (lv1 := [_, _, _, _, _, _, _, _, _, _]) d_QM_calculate_42 (by decide) rfl ?_
    refine qx_iload_n d_QM_calculate_44 rfl rfl ?_
    refine qx_iconstN (v := 4) d_QM_calculate_45 rfl ?_
    refine qx_icmp_geN (t := 133) d_QM_calculate_46 rfl (by omega) (by omega) (fun c46 => ?_) (fun c46 => absurd c46 (by decide))
    refine qx_iload_n d_QM_calculate_133 rfl rfl ?_
    refine qx_bipushN (v := 6) d_QM_calculate_134 rfl ?_
    refine qx_icmp_geN (t := 203) d_QM_calculate_136 rfl (by omega) (by omega) (fun c136 => ?_) (fun c136 => absurd c136 (by decide))
    refine qx_iload_n d_QM_calculate_203 rfl rfl ?_
    refine qx_bipushN (v := 6) d_QM_calculate_204 rfl ?_
    refine qx_icmp_neN (t := 231) d_QM_calculate_206 rfl (by omega) (by omega) (fun c206 => ?_) (fun c206 => absurd c206 (by decide))
    refine qx_aload_n d_QM_calculate_231 rfl rfl ?_
    refine qx_iload_n d_QM_calculate_232 rfl rfl ?_
    refine qx_lload_n d_QM_calculate_233 rfl rfl ?_
    refine qx_lload d_QM_calculate_234 rfl ?_
    refine qx_lcmp d_QM_calculate_236 ?_
    refine qx_if_leC (t := 244) d_QM_calculate_237 rfl (fun c237 => ?_) (fun c237 => ?_)
    · refine qx_lload d_QM_calculate_244 rfl ?_
      refine qx_iconst (v := b2i false) d_QM_calculate_246 rfl ?_
      refine qx_callV (As := [_, _, _]) (rest := _) d_QM_calculate_247 lk_QM_171 y_QM_set v_QM_set rfl rfl rfl (by decide) rfl rfl rfl rfl (by decide) (by decide) (ct_QM_set hR wk wn i (by omega) _ _) ?_
      rintro _ _ _ ⟨rfl, rfl, rfl⟩
      exact qx_ret d_QM_calculate_250 rfl (by omega) (by omega) (by first | (rw [if_pos c237]; exact ⟨rfl, rfl, rfl⟩) | (rw [if_neg (Int64.not_lt.mpr c237)]; exact ⟨rfl, rfl, rfl⟩))
    · refine qx_lload_n d_QM_calculate_240 rfl rfl ?_
      refine qx_goto (t := 246) d_QM_calculate_241 rfl ?_
      refine qx_iconst (v := b2i false) d_QM_calculate_246 rfl ?_
      refine qx_callV (As := [_, _, _]) (rest := _) d_QM_calculate_247 lk_QM_171 y_QM_set v_QM_set rfl rfl rfl (by decide) rfl rfl rfl rfl (by decide) (by decide) (ct_QM_set hR wk wn i (by omega) _ _) ?_
      rintro _ _ _ ⟨rfl, rfl, rfl⟩
      exact qx_ret d_QM_calculate_250 rfl (by omega) (by omega) (by first | (rw [if_pos c237]; exact ⟨rfl, rfl, rfl⟩) | (rw [if_neg (Int64.not_lt.mpr c237)]; exact ⟨rfl, rfl, rfl⟩))
  · refine qx_aload_n d_QM_calculate_26 rfl rfl ?_
    refine qx_getR d_QM_calculate_27 fR_QM_39 rfl rfl (congrFun hR 22) ?_
    refine qx_iload_n d_QM_calculate_30 rfl rfl ?_
    refine qx_iconstN (v := 1) d_QM_calculate_31 rfl ?_
    refine qx_iaddN d_QM_calculate_32 ?_
    refine qx_zald d_QM_calculate_33 rfl rfl rfl rfl (by omega) hm ?_
    refine qx_if_eqB (t := 41) d_QM_calculate_34 rfl (fun c34 => ?_) (fun c34 => ?_)
    · refine qx_iconst (v := b2i false) d_QM_calculate_41 rfl ?_
      refine qx_istore (lv1 := [_, _, _, _, _, _, _, _, _, _]) d_QM_calculate_42 (by decide) rfl ?_
      refine qx_iload_n d_QM_calculate_44 rfl rfl ?_
      refine qx_iconstN (v := 4) d_QM_calculate_45 rfl ?_
      refine qx_icmp_geN (t := 133) d_QM_calculate_46 rfl (by omega) (by omega) (fun c46 => ?_) (fun c46 => absurd c46 (by decide))
      refine qx_iload_n d_QM_calculate_133 rfl rfl ?_
      refine qx_bipushN (v := 6) d_QM_calculate_134 rfl ?_
      refine qx_icmp_geN (t := 203) d_QM_calculate_136 rfl (by omega) (by omega) (fun c136 => ?_) (fun c136 => absurd c136 (by decide))
      refine qx_iload_n d_QM_calculate_203 rfl rfl ?_
      refine qx_bipushN (v := 6) d_QM_calculate_204 rfl ?_
      refine qx_icmp_neN (t := 231) d_QM_calculate_206 rfl (by omega) (by omega) (fun c206 => ?_) (fun c206 => absurd c206 (by decide))
      refine qx_aload_n d_QM_calculate_231 rfl rfl ?_
      refine qx_iload_n d_QM_calculate_232 rfl rfl ?_
      refine qx_lload_n d_QM_calculate_233 rfl rfl ?_
      refine qx_lload d_QM_calculate_234 rfl ?_
      refine qx_lcmp d_QM_calculate_236 ?_
      refine qx_if_leC (t := 244) d_QM_calculate_237 rfl (fun c237 => ?_) (fun c237 => ?_)
      · refine qx_lload d_QM_calculate_244 rfl ?_
        refine qx_iconst (v := b2i false) d_QM_calculate_246 rfl ?_
        refine qx_callV (As := [_, _, _]) (rest := _) d_QM_calculate_247 lk_QM_171 y_QM_set v_QM_set rfl rfl rfl (by decide) rfl rfl rfl rfl (by decide) (by decide) (ct_QM_set hR wk wn i (by omega) _ _) ?_
        rintro _ _ _ ⟨rfl, rfl, rfl⟩
        exact qx_ret d_QM_calculate_250 rfl (by omega) (by omega) (by first | (rw [if_pos c237]; exact ⟨rfl, rfl, rfl⟩) | (rw [if_neg (Int64.not_lt.mpr c237)]; exact ⟨rfl, rfl, rfl⟩))
      · refine qx_lload_n d_QM_calculate_240 rfl rfl ?_
        refine qx_goto (t := 246) d_QM_calculate_241 rfl ?_
        refine qx_iconst (v := b2i false) d_QM_calculate_246 rfl ?_
        refine qx_callV (As := [_, _, _]) (rest := _) d_QM_calculate_247 lk_QM_171 y_QM_set v_QM_set rfl rfl rfl (by decide) rfl rfl rfl rfl (by decide) (by decide) (ct_QM_set hR wk wn i (by omega) _ _) ?_
        rintro _ _ _ ⟨rfl, rfl, rfl⟩
        exact qx_ret d_QM_calculate_250 rfl (by omega) (by omega) (by first | (rw [if_pos c237]; exact ⟨rfl, rfl, rfl⟩) | (rw [if_neg (Int64.not_lt.mpr c237)]; exact ⟨rfl, rfl, rfl⟩))
    · refine qx_iconst (v := b2i true) d_QM_calculate_37 rfl ?_
      refine qx_goto (t := 42) d_QM_calculate_38 rfl ?_
      refine qx_istore (lv1 := [_, _, _, _, _, _, _, _, _, _]) d_QM_calculate_42 (by decide) rfl ?_
      refine qx_iload_n d_QM_calculate_44 rfl rfl ?_
      refine qx_iconstN (v := 4) d_QM_calculate_45 rfl ?_
      refine qx_icmp_geN (t := 133) d_QM_calculate_46 rfl (by omega) (by omega) (fun c46 => ?_) (fun c46 => absurd c46 (by decide))
      refine qx_iload_n d_QM_calculate_133 rfl rfl ?_
      refine qx_bipushN (v := 6) d_QM_calculate_134 rfl ?_
      refine qx_icmp_geN (t := 203) d_QM_calculate_136 rfl (by omega) (by omega) (fun c136 => ?_) (fun c136 => absurd c136 (by decide))
      refine qx_iload_n d_QM_calculate_203 rfl rfl ?_
      refine qx_bipushN (v := 6) d_QM_calculate_204 rfl ?_
      refine qx_icmp_neN (t := 231) d_QM_calculate_206 rfl (by omega) (by omega) (fun c206 => ?_) (fun c206 => absurd c206 (by decide))
      refine qx_aload_n d_QM_calculate_231 rfl rfl ?_
      refine qx_iload_n d_QM_calculate_232 rfl rfl ?_
      refine qx_lload_n d_QM_calculate_233 rfl rfl ?_
      refine qx_lload d_QM_calculate_234 rfl ?_
      refine qx_lcmp d_QM_calculate_236 ?_
      refine qx_if_leC (t := 244) d_QM_calculate_237 rfl (fun c237 => ?_) (fun c237 => ?_)
      · refine qx_lload d_QM_calculate_244 rfl ?_
        refine qx_iconst (v := b2i false) d_QM_calculate_246 rfl ?_
        refine qx_callV (As := [_, _, _]) (rest := _) d_QM_calculate_247 lk_QM_171 y_QM_set v_QM_set rfl rfl rfl (by decide) rfl rfl rfl rfl (by decide) (by decide) (ct_QM_set hR wk wn i (by omega) _ _) ?_
        rintro _ _ _ ⟨rfl, rfl, rfl⟩
        exact qx_ret d_QM_calculate_250 rfl (by omega) (by omega) (by first | (rw [if_pos c237]; exact ⟨rfl, rfl, rfl⟩) | (rw [if_neg (Int64.not_lt.mpr c237)]; exact ⟨rfl, rfl, rfl⟩))
      · refine qx_lload_n d_QM_calculate_240 rfl rfl ?_
        refine qx_goto (t := 246) d_QM_calculate_241 rfl ?_
        refine qx_iconst (v := b2i false) d_QM_calculate_246 rfl ?_
        refine qx_callV (As := [_, _, _]) (rest := _) d_QM_calculate_247 lk_QM_171 y_QM_set v_QM_set rfl rfl rfl (by decide) rfl rfl rfl rfl (by decide) (by decide) (ct_QM_set hR wk wn i (by omega) _ _) ?_
        rintro _ _ _ ⟨rfl, rfl, rfl⟩
        exact qx_ret d_QM_calculate_250 rfl (by omega) (by omega) (by first | (rw [if_pos c237]; exact ⟨rfl, rfl, rfl⟩) | (rw [if_neg (Int64.not_lt.mpr c237)]; exact ⟨rfl, rfl, rfl⟩))
/-- how the reference holds a value: a NULL as 0 with its mark, a truth as 0, 1, 2 -/
def rvV (v : xV) : Int64 := if v.1 = true then (match v.2 with
  | none => 1
  | some x => 2 * x) else v.2.getD 0
def rvN (v : xV) : Bool := if v.1 = true then false else v.2.isNone
/-- the stack: its top is the list's head -/
def wRep (wk : Nat → Int64) (wn : Nat → Int32) : List xV → Prop
  | [] => True
  | v :: r => wk r.length = rvV v ∧ wn r.length = b2i (rvN v) ∧ wRep wk wn r
theorem wRep_up {wk : Nat → Int64} {wn : Nat → Int32} {i : Nat} {x : Int64} {y : Int32} : ∀ {r : List xV}, r.length ≤ i → wRep wk wn r → wRep (va_up wk i x) (va_up wn i y) r
  | [], _, _ => trivial
  | v :: r, h, hr => by
    have h : r.length + 1 ≤ i := h
    exact ⟨by rw [qun (by omega)]; exact hr.1, by rw [qun (by omega)]; exact hr.2.1, wRep_up (by omega) hr.2.2⟩
theorem wRep_push {wk : Nat → Int64} {wn : Nat → Int32} {r : List xV} {v : xV} {i : Nat} (hi : i = r.length) (hr : wRep wk wn r) : wRep (va_up wk i (rvV v)) (va_up wn i (b2i (rvN v))) (v :: r) := by
  subst hi
  exact ⟨qus, qus, wRep_up (Nat.le_refl _) hr⟩
theorem rv_num (o : Option Int64) : rvV (false, o) = o.getD 0 ∧ rvN (false, o) = o.isNone := ⟨rfl, rfl⟩
set_option maxRecDepth 100000 in
set_option maxHeartbeats 4000000 in
theorem ct_QM_calculate {h : qH} (hR : h.2.2 122 = qRQM) (wk : Nat → Int64) (wn : Nat → Int32) (op : Nat) (ho : op < 8) (p q : xV) (r : List xV) (hr : r.length + 1 < 24) (hp : p.1 = decide (6 ≤ op)) (hq : q.1 = decide (6 ≤ op)) (tp : xTr p) (tq : xTr q) (hw : wRep wk wn (q :: p :: r)) :
    qT mi_QM_calculate 1 0 0 [.ref 122, .int (nI op), .int (nI r.length)] (eR h wk wn) NN (fun v1 h1 n1 => v1 = none ∧ h1 = eR h (va_up wk r.length (rvV (decide (4 ≤ op), xOp op p.2 q.2))) (va_up wn r.length (b2i (rvN (decide (4 ≤ op), xOp op p.2 q.2)))) ∧ n1 = NN) := by
  obtain ⟨h1, h2, h3, h4, h5⟩ := hw
  obtain ⟨tp1, p⟩ := p
  obtain ⟨tq1, q⟩ := q
  dsimp only at hp hq ⊢
  subst hp; subst hq
  have h : op = 0 ∨ op = 1 ∨ op = 2 ∨ op = 3 ∨ op = 4 ∨ op = 5 ∨ op = 6 ∨ op = 7 := by omega
  rcases h with rfl | rfl | rfl | rfl | rfl | rfl | rfl | rfl
  · refine qT.imp ?_ (ct_QM_calculate_0 hR wk wn r.length hr _ _ _ _ h3 h1 h4 h2)
    rintro _ _ _ ⟨rfl, rfl, rfl⟩
    refine ⟨rfl, ?_, rfl⟩
    cases p with
    | none => cases q <;> rfl
    | some a =>
      cases q with
      | none => rfl
      | some b =>
        show eR h (va_up wk r.length (if (!xLong 0 a b) = true then 0 else xCalc 0 a b)) (va_up wn r.length (b2i (!xLong 0 a b))) = eR h (va_up wk r.length ((if xLong 0 a b = true then some (xCalc 0 a b) else none).getD 0)) (va_up wn r.length (b2i ((if xLong 0 a b = true then some (xCalc 0 a b) else none).isNone)))
        cases xLong 0 a b <;> rfl
  · refine qT.imp ?_ (ct_QM_calculate_1 hR wk wn r.length hr _ _ _ _ h3 h1 h4 h2)
    rintro _ _ _ ⟨rfl, rfl, rfl⟩
    refine ⟨rfl, ?_, rfl⟩
    cases p with
    | none => cases q <;> rfl
    | some a =>
      cases q with
      | none => rfl
      | some b =>
        show eR h (va_up wk r.length (if (!xLong 1 a b) = true then 0 else xCalc 1 a b)) (va_up wn r.length (b2i (!xLong 1 a b))) = eR h (va_up wk r.length ((if xLong 1 a b = true then some (xCalc 1 a b) else none).getD 0)) (va_up wn r.length (b2i ((if xLong 1 a b = true then some (xCalc 1 a b) else none).isNone)))
        cases xLong 1 a b <;> rfl
  · refine qT.imp ?_ (ct_QM_calculate_2 hR wk wn r.length hr _ _ _ _ h3 h1 h4 h2)
    rintro _ _ _ ⟨rfl, rfl, rfl⟩
    refine ⟨rfl, ?_, rfl⟩
    cases p with
    | none => cases q <;> rfl
    | some a =>
      cases q with
      | none => rfl
      | some b =>
        show eR h (va_up wk r.length (if (!xLong 2 a b) = true then 0 else xCalc 2 a b)) (va_up wn r.length (b2i (!xLong 2 a b))) = eR h (va_up wk r.length ((if xLong 2 a b = true then some (xCalc 2 a b) else none).getD 0)) (va_up wn r.length (b2i ((if xLong 2 a b = true then some (xCalc 2 a b) else none).isNone)))
        cases xLong 2 a b <;> rfl
  · refine qT.imp ?_ (ct_QM_calculate_3 hR wk wn r.length hr _ _ _ _ h3 h1 h4 h2)
    rintro _ _ _ ⟨rfl, rfl, rfl⟩
    refine ⟨rfl, ?_, rfl⟩
    cases p with
    | none => cases q <;> rfl
    | some a =>
      cases q with
      | none => rfl
      | some b =>
        show eR h (va_up wk r.length (if (!xLong 3 a b) = true then 0 else xCalc 3 a b)) (va_up wn r.length (b2i (!xLong 3 a b))) = eR h (va_up wk r.length ((if xLong 3 a b = true then some (xCalc 3 a b) else none).getD 0)) (va_up wn r.length (b2i ((if xLong 3 a b = true then some (xCalc 3 a b) else none).isNone)))
        cases xLong 3 a b <;> rfl
  · refine qT.imp ?_ (ct_QM_calculate_4 hR wk wn r.length hr _ _ _ _ h3 h1 h4 h2)
    rintro _ _ _ ⟨rfl, rfl, rfl⟩
    refine ⟨rfl, ?_, rfl⟩
    cases p with
    | none => cases q <;> rfl
    | some a =>
      cases q with
      | none => rfl
      | some b =>
        show eR h (va_up wk r.length (if a = b then 2 else 0)) (va_up wn r.length (b2i false)) = eR h (va_up wk r.length (2 * (if a = b then 1 else 0))) (va_up wn r.length (b2i false))
        split <;> rfl
  · refine qT.imp ?_ (ct_QM_calculate_5 hR wk wn r.length hr _ _ _ _ h3 h1 h4 h2)
    rintro _ _ _ ⟨rfl, rfl, rfl⟩
    refine ⟨rfl, ?_, rfl⟩
    cases p with
    | none => cases q <;> rfl
    | some a =>
      cases q with
      | none => rfl
      | some b =>
        show eR h (va_up wk r.length (if a < b then 2 else 0)) (va_up wn r.length (b2i false)) = eR h (va_up wk r.length (2 * (if a < b then 1 else 0))) (va_up wn r.length (b2i false))
        split <;> rfl
  · refine qT.imp ?_ (ct_QM_calculate_6 hR wk wn r.length hr _ _ _ _ h3 h1 h4 h2)
    rintro _ _ _ ⟨rfl, rfl, rfl⟩
    refine ⟨rfl, ?_, rfl⟩
    rcases tp rfl with e | e | e <;> rcases tq rfl with f | f | f <;> (dsimp only at e f; subst e; subst f; rfl)
  · refine qT.imp ?_ (ct_QM_calculate_7 hR wk wn r.length hr _ _ _ _ h3 h1 h4 h2)
    rintro _ _ _ ⟨rfl, rfl, rfl⟩
    refine ⟨rfl, ?_, rfl⟩
    rcases tp rfl with e | e | e <;> rcases tq rfl with f | f | f <;> (dsimp only at e f; subst e; subst f; rfl)
