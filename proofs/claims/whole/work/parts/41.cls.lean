/-- is a truth d among the two? -/
def dcd (n m : Bool) (x y d : Int64) : Bool := (!n && decide (x = d)) || (!m && decide (y = d))
theorem nR_s {h : qH} {vs : Nat → Int64} {ns : Nat → Bool} {i : Nat} {x : Int64} (e : ns i = false) : qpL (nR h vs ns) 62 i x = nR h (va_up vs i x) (va_up ns i false) := by
  rw [nR_v, show va_up ns i false = ns from by rw [← e, qv_self]]
set_option maxRecDepth 100000 in
set_option maxHeartbeats 4000000 in
theorem ct_Ma_decide {h : qH} (hM : h.2.2 59 = qRMa) (vs : Nat → Int64) (ns : Nat → Bool) (i : Nat) (hi : i + 1 < 8) (d : Int64) : qT mi_Ma_decide 1 0 0 [.ref 59, .int (nI i), .int (nI (i + 1)), .long d] (nR h vs ns) NN (fun v1 h1 n1 => v1 = none ∧ h1 = nR h (va_up vs i (if (dcd (ns i) (ns (i + 1)) (vs i) (vs (i + 1)) d) = true then d else if (ns i || ns (i + 1)) = true then 0 else 1 - d)) (va_up ns i (!(dcd (ns i) (ns (i + 1)) (vs i) (vs (i + 1)) d) && (ns i || ns (i + 1)))) ∧ n1 = NN) := by
  refine qT.of (lv0 := [_, _, _, _, _, _]) (by decide +kernel) (fun _ _ => Nat.le_of_ble_eq_true rfl) rfl ?_
  refine qx_aload_n d_Ma_decide_0 rfl rfl ?_
  refine qx_getR d_Ma_decide_1 fR_Ma_22 rfl rfl (congrFun hM 3) ?_
  refine qx_iload_n d_Ma_decide_4 rfl rfl ?_
  refine qx_zald d_Ma_decide_5 rfl rfl rfl rfl (by omega) (show _ = b2i (ns i) from rfl) ?_
  refine qx_if_neB (t := 20) d_Ma_decide_6 rfl (fun c6 => ?_) (fun c6 => ?_)
  · refine qx_aload_n d_Ma_decide_20 rfl rfl ?_
    refine qx_getR d_Ma_decide_21 fR_Ma_22 rfl rfl (congrFun hM 3) ?_
    refine qx_iload_n d_Ma_decide_24 rfl rfl ?_
    refine qx_zald d_Ma_decide_25 rfl rfl rfl rfl (by omega) (show _ = b2i (ns (i + 1)) from rfl) ?_
    refine qx_if_neB (t := 44) d_Ma_decide_26 rfl (fun c26 => ?_) (fun c26 => ?_)
    · refine qx_iconst (v := b2i false) d_Ma_decide_44 rfl ?_
      refine qx_istore (lv1 := [_, _, _, _, _, _]) d_Ma_decide_45 (by decide) rfl ?_
      refine qx_iload d_Ma_decide_47 rfl ?_
      refine qx_if_eqB (t := 62) d_Ma_decide_49 rfl (fun c49 => ?_) (fun c49 => ?_)
      · refine qx_aload_n d_Ma_decide_62 rfl rfl ?_
        refine qx_getR d_Ma_decide_63 fR_Ma_22 rfl rfl (congrFun hM 3) ?_
        refine qx_iload_n d_Ma_decide_66 rfl rfl ?_
        refine qx_zald d_Ma_decide_67 rfl rfl rfl rfl (by omega) (show _ = b2i (ns i) from rfl) ?_
        refine qx_if_neB (t := 80) d_Ma_decide_68 rfl (fun c68 => ?_) (fun c68 => ?_)
        · refine qx_aload_n d_Ma_decide_80 rfl rfl ?_
          refine qx_iload_n d_Ma_decide_81 rfl rfl ?_
          refine qx_lconst (v := 0) d_Ma_decide_82 rfl ?_
          refine qx_iconst (v := b2i true) d_Ma_decide_83 rfl ?_
          refine qx_callV (As := [_, _, _]) (rest := _) d_Ma_decide_84 lk_Ma_35 y_Ma_set v_Ma_set rfl rfl rfl (by decide) rfl rfl rfl rfl (by decide) (by decide) (ct_Ma_set hM vs ns i (by omega) _ _) ?_
          rintro _ _ _ ⟨rfl, rfl, rfl⟩
          refine qx_goto (t := 99) d_Ma_decide_87 rfl ?_
          exact qx_ret d_Ma_decide_99 rfl (by omega) (by omega) (by refine ⟨rfl, ?_, rfl⟩; first | exact absurd c49 (by decide) | exact absurd (c6.symm.trans c68) (by decide) | exact absurd (c26.symm.trans c77) (by decide) | simp [dcd, *])
        · refine qx_aload_n d_Ma_decide_71 rfl rfl ?_
          refine qx_getR d_Ma_decide_72 fR_Ma_22 rfl rfl (congrFun hM 3) ?_
          refine qx_iload_n d_Ma_decide_75 rfl rfl ?_
          refine qx_zald d_Ma_decide_76 rfl rfl rfl rfl (by omega) (show _ = b2i (ns (i + 1)) from rfl) ?_
          refine qx_if_eqB (t := 90) d_Ma_decide_77 rfl (fun c77 => ?_) (fun c77 => ?_)
          · refine qx_aload_n d_Ma_decide_90 rfl rfl ?_
            refine qx_iload_n d_Ma_decide_91 rfl rfl ?_
            refine qx_lconst (v := 1) d_Ma_decide_92 rfl ?_
            refine qx_lload_n d_Ma_decide_93 rfl rfl ?_
            refine qx_lsub d_Ma_decide_94 ?_
            refine qx_iconst (v := b2i false) d_Ma_decide_95 rfl ?_
            refine qx_callV (As := [_, _, _]) (rest := _) d_Ma_decide_96 lk_Ma_35 y_Ma_set v_Ma_set rfl rfl rfl (by decide) rfl rfl rfl rfl (by decide) (by decide) (ct_Ma_set hM vs ns i (by omega) _ _) ?_
            rintro _ _ _ ⟨rfl, rfl, rfl⟩
            exact qx_ret d_Ma_decide_99 rfl (by omega) (by omega) (by refine ⟨rfl, ?_, rfl⟩; first | exact absurd c49 (by decide) | exact absurd (c6.symm.trans c68) (by decide) | exact absurd (c26.symm.trans c77) (by decide) | simp [dcd, *])
          · refine qx_aload_n d_Ma_decide_80 rfl rfl ?_
            refine qx_iload_n d_Ma_decide_81 rfl rfl ?_
            refine qx_lconst (v := 0) d_Ma_decide_82 rfl ?_
            refine qx_iconst (v := b2i true) d_Ma_decide_83 rfl ?_
            refine qx_callV (As := [_, _, _]) (rest := _) d_Ma_decide_84 lk_Ma_35 y_Ma_set v_Ma_set rfl rfl rfl (by decide) rfl rfl rfl rfl (by decide) (by decide) (ct_Ma_set hM vs ns i (by omega) _ _) ?_
            rintro _ _ _ ⟨rfl, rfl, rfl⟩
            refine qx_goto (t := 99) d_Ma_decide_87 rfl ?_
            exact qx_ret d_Ma_decide_99 rfl (by omega) (by omega) (by refine ⟨rfl, ?_, rfl⟩; first | exact absurd c49 (by decide) | exact absurd (c6.symm.trans c68) (by decide) | exact absurd (c26.symm.trans c77) (by decide) | simp [dcd, *])
      · refine qx_aload_n d_Ma_decide_52 rfl rfl ?_
        refine qx_iload_n d_Ma_decide_53 rfl rfl ?_
        refine qx_lload_n d_Ma_decide_54 rfl rfl ?_
        refine qx_iconst (v := b2i false) d_Ma_decide_55 rfl ?_
        refine qx_callV (As := [_, _, _]) (rest := _) d_Ma_decide_56 lk_Ma_35 y_Ma_set v_Ma_set rfl rfl rfl (by decide) rfl rfl rfl rfl (by decide) (by decide) (ct_Ma_set hM vs ns i (by omega) _ _) ?_
        rintro _ _ _ ⟨rfl, rfl, rfl⟩
        refine qx_goto (t := 99) d_Ma_decide_59 rfl ?_
        exact qx_ret d_Ma_decide_99 rfl (by omega) (by omega) (by refine ⟨rfl, ?_, rfl⟩; first | exact absurd c49 (by decide) | exact absurd (c6.symm.trans c68) (by decide) | exact absurd (c26.symm.trans c77) (by decide) | simp [dcd, *])
    · refine qx_aload_n d_Ma_decide_29 rfl rfl ?_
      refine qx_getR d_Ma_decide_30 fR_Ma_19 rfl rfl (congrFun hM 2) ?_
      refine qx_iload_n d_Ma_decide_33 rfl rfl ?_
      refine qx_lald d_Ma_decide_34 rfl rfl rfl rfl (by omega) (show _ = vs (i + 1) from rfl) ?_
      refine qx_lload_n d_Ma_decide_35 rfl rfl ?_
      refine qx_lcmp d_Ma_decide_36 ?_
      refine qx_if_neC (t := 44) d_Ma_decide_37 rfl (fun c37 => ?_) (fun c37 => ?_)
      · refine qx_iconst (v := b2i false) d_Ma_decide_44 rfl ?_
        refine qx_istore (lv1 := [_, _, _, _, _, _]) d_Ma_decide_45 (by decide) rfl ?_
        refine qx_iload d_Ma_decide_47 rfl ?_
        refine qx_if_eqB (t := 62) d_Ma_decide_49 rfl (fun c49 => ?_) (fun c49 => ?_)
        · refine qx_aload_n d_Ma_decide_62 rfl rfl ?_
          refine qx_getR d_Ma_decide_63 fR_Ma_22 rfl rfl (congrFun hM 3) ?_
          refine qx_iload_n d_Ma_decide_66 rfl rfl ?_
          refine qx_zald d_Ma_decide_67 rfl rfl rfl rfl (by omega) (show _ = b2i (ns i) from rfl) ?_
          refine qx_if_neB (t := 80) d_Ma_decide_68 rfl (fun c68 => ?_) (fun c68 => ?_)
          · refine qx_aload_n d_Ma_decide_80 rfl rfl ?_
            refine qx_iload_n d_Ma_decide_81 rfl rfl ?_
            refine qx_lconst (v := 0) d_Ma_decide_82 rfl ?_
            refine qx_iconst (v := b2i true) d_Ma_decide_83 rfl ?_
            refine qx_callV (As := [_, _, _]) (rest := _) d_Ma_decide_84 lk_Ma_35 y_Ma_set v_Ma_set rfl rfl rfl (by decide) rfl rfl rfl rfl (by decide) (by decide) (ct_Ma_set hM vs ns i (by omega) _ _) ?_
            rintro _ _ _ ⟨rfl, rfl, rfl⟩
            refine qx_goto (t := 99) d_Ma_decide_87 rfl ?_
            exact qx_ret d_Ma_decide_99 rfl (by omega) (by omega) (by refine ⟨rfl, ?_, rfl⟩; first | exact absurd c49 (by decide) | exact absurd (c6.symm.trans c68) (by decide) | exact absurd (c26.symm.trans c77) (by decide) | simp [dcd, *])
          · refine qx_aload_n d_Ma_decide_71 rfl rfl ?_
            refine qx_getR d_Ma_decide_72 fR_Ma_22 rfl rfl (congrFun hM 3) ?_
            refine qx_iload_n d_Ma_decide_75 rfl rfl ?_
            refine qx_zald d_Ma_decide_76 rfl rfl rfl rfl (by omega) (show _ = b2i (ns (i + 1)) from rfl) ?_
            refine qx_if_eqB (t := 90) d_Ma_decide_77 rfl (fun c77 => ?_) (fun c77 => ?_)
            · refine qx_aload_n d_Ma_decide_90 rfl rfl ?_
              refine qx_iload_n d_Ma_decide_91 rfl rfl ?_
              refine qx_lconst (v := 1) d_Ma_decide_92 rfl ?_
              refine qx_lload_n d_Ma_decide_93 rfl rfl ?_
              refine qx_lsub d_Ma_decide_94 ?_
              refine qx_iconst (v := b2i false) d_Ma_decide_95 rfl ?_
              refine qx_callV (As := [_, _, _]) (rest := _) d_Ma_decide_96 lk_Ma_35 y_Ma_set v_Ma_set rfl rfl rfl (by decide) rfl rfl rfl rfl (by decide) (by decide) (ct_Ma_set hM vs ns i (by omega) _ _) ?_
              rintro _ _ _ ⟨rfl, rfl, rfl⟩
              exact qx_ret d_Ma_decide_99 rfl (by omega) (by omega) (by refine ⟨rfl, ?_, rfl⟩; first | exact absurd c49 (by decide) | exact absurd (c6.symm.trans c68) (by decide) | exact absurd (c26.symm.trans c77) (by decide) | simp [dcd, *])
            · refine qx_aload_n d_Ma_decide_80 rfl rfl ?_
              refine qx_iload_n d_Ma_decide_81 rfl rfl ?_
              refine qx_lconst (v := 0) d_Ma_decide_82 rfl ?_
              refine qx_iconst (v := b2i true) d_Ma_decide_83 rfl ?_
              refine qx_callV (As := [_, _, _]) (rest := _) d_Ma_decide_84 lk_Ma_35 y_Ma_set v_Ma_set rfl rfl rfl (by decide) rfl rfl rfl rfl (by decide) (by decide) (ct_Ma_set hM vs ns i (by omega) _ _) ?_
              rintro _ _ _ ⟨rfl, rfl, rfl⟩
              refine qx_goto (t := 99) d_Ma_decide_87 rfl ?_
              exact qx_ret d_Ma_decide_99 rfl (by omega) (by omega) (by refine ⟨rfl, ?_, rfl⟩; first | exact absurd c49 (by decide) | exact absurd (c6.symm.trans c68) (by decide) | exact absurd (c26.symm.trans c77) (by decide) | simp [dcd, *])
        · refine qx_aload_n d_Ma_decide_52 rfl rfl ?_
          refine qx_iload_n d_Ma_decide_53 rfl rfl ?_
          refine qx_lload_n d_Ma_decide_54 rfl rfl ?_
          refine qx_iconst (v := b2i false) d_Ma_decide_55 rfl ?_
          refine qx_callV (As := [_, _, _]) (rest := _) d_Ma_decide_56 lk_Ma_35 y_Ma_set v_Ma_set rfl rfl rfl (by decide) rfl rfl rfl rfl (by decide) (by decide) (ct_Ma_set hM vs ns i (by omega) _ _) ?_
          rintro _ _ _ ⟨rfl, rfl, rfl⟩
          refine qx_goto (t := 99) d_Ma_decide_59 rfl ?_
          exact qx_ret d_Ma_decide_99 rfl (by omega) (by omega) (by refine ⟨rfl, ?_, rfl⟩; first | exact absurd c49 (by decide) | exact absurd (c6.symm.trans c68) (by decide) | exact absurd (c26.symm.trans c77) (by decide) | simp [dcd, *])
      · refine qx_iconst (v := b2i true) d_Ma_decide_40 rfl ?_
        refine qx_goto (t := 45) d_Ma_decide_41 rfl ?_
        refine qx_istore (lv1 := [_, _, _, _, _, _]) d_Ma_decide_45 (by decide) rfl ?_
        refine qx_iload d_Ma_decide_47 rfl ?_
        refine qx_if_eqB (t := 62) d_Ma_decide_49 rfl (fun c49 => ?_) (fun c49 => ?_)
        · refine qx_aload_n d_Ma_decide_62 rfl rfl ?_
          refine qx_getR d_Ma_decide_63 fR_Ma_22 rfl rfl (congrFun hM 3) ?_
          refine qx_iload_n d_Ma_decide_66 rfl rfl ?_
          refine qx_zald d_Ma_decide_67 rfl rfl rfl rfl (by omega) (show _ = b2i (ns i) from rfl) ?_
          refine qx_if_neB (t := 80) d_Ma_decide_68 rfl (fun c68 => ?_) (fun c68 => ?_)
          · refine qx_aload_n d_Ma_decide_80 rfl rfl ?_
            refine qx_iload_n d_Ma_decide_81 rfl rfl ?_
            refine qx_lconst (v := 0) d_Ma_decide_82 rfl ?_
            refine qx_iconst (v := b2i true) d_Ma_decide_83 rfl ?_
            refine qx_callV (As := [_, _, _]) (rest := _) d_Ma_decide_84 lk_Ma_35 y_Ma_set v_Ma_set rfl rfl rfl (by decide) rfl rfl rfl rfl (by decide) (by decide) (ct_Ma_set hM vs ns i (by omega) _ _) ?_
            rintro _ _ _ ⟨rfl, rfl, rfl⟩
            refine qx_goto (t := 99) d_Ma_decide_87 rfl ?_
            exact qx_ret d_Ma_decide_99 rfl (by omega) (by omega) (by refine ⟨rfl, ?_, rfl⟩; first | exact absurd c49 (by decide) | exact absurd (c6.symm.trans c68) (by decide) | exact absurd (c26.symm.trans c77) (by decide) | simp [dcd, *])
          · refine qx_aload_n d_Ma_decide_71 rfl rfl ?_
            refine qx_getR d_Ma_decide_72 fR_Ma_22 rfl rfl (congrFun hM 3) ?_
            refine qx_iload_n d_Ma_decide_75 rfl rfl ?_
            refine qx_zald d_Ma_decide_76 rfl rfl rfl rfl (by omega) (show _ = b2i (ns (i + 1)) from rfl) ?_
            refine qx_if_eqB (t := 90) d_Ma_decide_77 rfl (fun c77 => ?_) (fun c77 => ?_)
            · refine qx_aload_n d_Ma_decide_90 rfl rfl ?_
              refine qx_iload_n d_Ma_decide_91 rfl rfl ?_
              refine qx_lconst (v := 1) d_Ma_decide_92 rfl ?_
              refine qx_lload_n d_Ma_decide_93 rfl rfl ?_
              refine qx_lsub d_Ma_decide_94 ?_
              refine qx_iconst (v := b2i false) d_Ma_decide_95 rfl ?_
              refine qx_callV (As := [_, _, _]) (rest := _) d_Ma_decide_96 lk_Ma_35 y_Ma_set v_Ma_set rfl rfl rfl (by decide) rfl rfl rfl rfl (by decide) (by decide) (ct_Ma_set hM vs ns i (by omega) _ _) ?_
              rintro _ _ _ ⟨rfl, rfl, rfl⟩
              exact qx_ret d_Ma_decide_99 rfl (by omega) (by omega) (by refine ⟨rfl, ?_, rfl⟩; first | exact absurd c49 (by decide) | exact absurd (c6.symm.trans c68) (by decide) | exact absurd (c26.symm.trans c77) (by decide) | simp [dcd, *])
            · refine qx_aload_n d_Ma_decide_80 rfl rfl ?_
              refine qx_iload_n d_Ma_decide_81 rfl rfl ?_
              refine qx_lconst (v := 0) d_Ma_decide_82 rfl ?_
              refine qx_iconst (v := b2i true) d_Ma_decide_83 rfl ?_
              refine qx_callV (As := [_, _, _]) (rest := _) d_Ma_decide_84 lk_Ma_35 y_Ma_set v_Ma_set rfl rfl rfl (by decide) rfl rfl rfl rfl (by decide) (by decide) (ct_Ma_set hM vs ns i (by omega) _ _) ?_
              rintro _ _ _ ⟨rfl, rfl, rfl⟩
              refine qx_goto (t := 99) d_Ma_decide_87 rfl ?_
              exact qx_ret d_Ma_decide_99 rfl (by omega) (by omega) (by refine ⟨rfl, ?_, rfl⟩; first | exact absurd c49 (by decide) | exact absurd (c6.symm.trans c68) (by decide) | exact absurd (c26.symm.trans c77) (by decide) | simp [dcd, *])
        · refine qx_aload_n d_Ma_decide_52 rfl rfl ?_
          refine qx_iload_n d_Ma_decide_53 rfl rfl ?_
          refine qx_lload_n d_Ma_decide_54 rfl rfl ?_
          refine qx_iconst (v := b2i false) d_Ma_decide_55 rfl ?_
          refine qx_callV (As := [_, _, _]) (rest := _) d_Ma_decide_56 lk_Ma_35 y_Ma_set v_Ma_set rfl rfl rfl (by decide) rfl rfl rfl rfl (by decide) (by decide) (ct_Ma_set hM vs ns i (by omega) _ _) ?_
          rintro _ _ _ ⟨rfl, rfl, rfl⟩
          refine qx_goto (t := 99) d_Ma_decide_59 rfl ?_
          exact qx_ret d_Ma_decide_99 rfl (by omega) (by omega) (by refine ⟨rfl, ?_, rfl⟩; first | exact absurd c49 (by decide) | exact absurd (c6.symm.trans c68) (by decide) | exact absurd (c26.symm.trans c77) (by decide) | simp [dcd, *])
  · refine qx_aload_n d_Ma_decide_9 rfl rfl ?_
    refine qx_getR d_Ma_decide_10 fR_Ma_19 rfl rfl (congrFun hM 2) ?_
    refine qx_iload_n d_Ma_decide_13 rfl rfl ?_
    refine qx_lald d_Ma_decide_14 rfl rfl rfl rfl (by omega) (show _ = vs i from rfl) ?_
    refine qx_lload_n d_Ma_decide_15 rfl rfl ?_
    refine qx_lcmp d_Ma_decide_16 ?_
    refine qx_if_eqC (t := 40) d_Ma_decide_17 rfl (fun c17 => ?_) (fun c17 => ?_)
    · refine qx_iconst (v := b2i true) d_Ma_decide_40 rfl ?_
      refine qx_goto (t := 45) d_Ma_decide_41 rfl ?_
      refine qx_istore (lv1 := [_, _, _, _, _, _]) d_Ma_decide_45 (by decide) rfl ?_
      refine qx_iload d_Ma_decide_47 rfl ?_
      refine qx_if_eqB (t := 62) d_Ma_decide_49 rfl (fun c49 => ?_) (fun c49 => ?_)
      · refine qx_aload_n d_Ma_decide_62 rfl rfl ?_
        refine qx_getR d_Ma_decide_63 fR_Ma_22 rfl rfl (congrFun hM 3) ?_
        refine qx_iload_n d_Ma_decide_66 rfl rfl ?_
        refine qx_zald d_Ma_decide_67 rfl rfl rfl rfl (by omega) (show _ = b2i (ns i) from rfl) ?_
        refine qx_if_neB (t := 80) d_Ma_decide_68 rfl (fun c68 => ?_) (fun c68 => ?_)
        · refine qx_aload_n d_Ma_decide_80 rfl rfl ?_
          refine qx_iload_n d_Ma_decide_81 rfl rfl ?_
          refine qx_lconst (v := 0) d_Ma_decide_82 rfl ?_
          refine qx_iconst (v := b2i true) d_Ma_decide_83 rfl ?_
          refine qx_callV (As := [_, _, _]) (rest := _) d_Ma_decide_84 lk_Ma_35 y_Ma_set v_Ma_set rfl rfl rfl (by decide) rfl rfl rfl rfl (by decide) (by decide) (ct_Ma_set hM vs ns i (by omega) _ _) ?_
          rintro _ _ _ ⟨rfl, rfl, rfl⟩
          refine qx_goto (t := 99) d_Ma_decide_87 rfl ?_
          exact qx_ret d_Ma_decide_99 rfl (by omega) (by omega) (by refine ⟨rfl, ?_, rfl⟩; first | exact absurd c49 (by decide) | exact absurd (c6.symm.trans c68) (by decide) | exact absurd (c26.symm.trans c77) (by decide) | simp [dcd, *])
        · refine qx_aload_n d_Ma_decide_71 rfl rfl ?_
          refine qx_getR d_Ma_decide_72 fR_Ma_22 rfl rfl (congrFun hM 3) ?_
          refine qx_iload_n d_Ma_decide_75 rfl rfl ?_
          refine qx_zald d_Ma_decide_76 rfl rfl rfl rfl (by omega) (show _ = b2i (ns (i + 1)) from rfl) ?_
          refine qx_if_eqB (t := 90) d_Ma_decide_77 rfl (fun c77 => ?_) (fun c77 => ?_)
          · refine qx_aload_n d_Ma_decide_90 rfl rfl ?_
            refine qx_iload_n d_Ma_decide_91 rfl rfl ?_
            refine qx_lconst (v := 1) d_Ma_decide_92 rfl ?_
            refine qx_lload_n d_Ma_decide_93 rfl rfl ?_
            refine qx_lsub d_Ma_decide_94 ?_
            refine qx_iconst (v := b2i false) d_Ma_decide_95 rfl ?_
            refine qx_callV (As := [_, _, _]) (rest := _) d_Ma_decide_96 lk_Ma_35 y_Ma_set v_Ma_set rfl rfl rfl (by decide) rfl rfl rfl rfl (by decide) (by decide) (ct_Ma_set hM vs ns i (by omega) _ _) ?_
            rintro _ _ _ ⟨rfl, rfl, rfl⟩
            exact qx_ret d_Ma_decide_99 rfl (by omega) (by omega) (by refine ⟨rfl, ?_, rfl⟩; first | exact absurd c49 (by decide) | exact absurd (c6.symm.trans c68) (by decide) | exact absurd (c26.symm.trans c77) (by decide) | simp [dcd, *])
          · refine qx_aload_n d_Ma_decide_80 rfl rfl ?_
            refine qx_iload_n d_Ma_decide_81 rfl rfl ?_
            refine qx_lconst (v := 0) d_Ma_decide_82 rfl ?_
            refine qx_iconst (v := b2i true) d_Ma_decide_83 rfl ?_
            refine qx_callV (As := [_, _, _]) (rest := _) d_Ma_decide_84 lk_Ma_35 y_Ma_set v_Ma_set rfl rfl rfl (by decide) rfl rfl rfl rfl (by decide) (by decide) (ct_Ma_set hM vs ns i (by omega) _ _) ?_
            rintro _ _ _ ⟨rfl, rfl, rfl⟩
            refine qx_goto (t := 99) d_Ma_decide_87 rfl ?_
            exact qx_ret d_Ma_decide_99 rfl (by omega) (by omega) (by refine ⟨rfl, ?_, rfl⟩; first | exact absurd c49 (by decide) | exact absurd (c6.symm.trans c68) (by decide) | exact absurd (c26.symm.trans c77) (by decide) | simp [dcd, *])
      · refine qx_aload_n d_Ma_decide_52 rfl rfl ?_
        refine qx_iload_n d_Ma_decide_53 rfl rfl ?_
        refine qx_lload_n d_Ma_decide_54 rfl rfl ?_
        refine qx_iconst (v := b2i false) d_Ma_decide_55 rfl ?_
        refine qx_callV (As := [_, _, _]) (rest := _) d_Ma_decide_56 lk_Ma_35 y_Ma_set v_Ma_set rfl rfl rfl (by decide) rfl rfl rfl rfl (by decide) (by decide) (ct_Ma_set hM vs ns i (by omega) _ _) ?_
        rintro _ _ _ ⟨rfl, rfl, rfl⟩
        refine qx_goto (t := 99) d_Ma_decide_59 rfl ?_
        exact qx_ret d_Ma_decide_99 rfl (by omega) (by omega) (by refine ⟨rfl, ?_, rfl⟩; first | exact absurd c49 (by decide) | exact absurd (c6.symm.trans c68) (by decide) | exact absurd (c26.symm.trans c77) (by decide) | simp [dcd, *])
    · refine qx_aload_n d_Ma_decide_20 rfl rfl ?_
      refine qx_getR d_Ma_decide_21 fR_Ma_22 rfl rfl (congrFun hM 3) ?_
      refine qx_iload_n d_Ma_decide_24 rfl rfl ?_
      refine qx_zald d_Ma_decide_25 rfl rfl rfl rfl (by omega) (show _ = b2i (ns (i + 1)) from rfl) ?_
      refine qx_if_neB (t := 44) d_Ma_decide_26 rfl (fun c26 => ?_) (fun c26 => ?_)
      · refine qx_iconst (v := b2i false) d_Ma_decide_44 rfl ?_
        refine qx_istore (lv1 := [_, _, _, _, _, _]) d_Ma_decide_45 (by decide) rfl ?_
        refine qx_iload d_Ma_decide_47 rfl ?_
        refine qx_if_eqB (t := 62) d_Ma_decide_49 rfl (fun c49 => ?_) (fun c49 => ?_)
        · refine qx_aload_n d_Ma_decide_62 rfl rfl ?_
          refine qx_getR d_Ma_decide_63 fR_Ma_22 rfl rfl (congrFun hM 3) ?_
          refine qx_iload_n d_Ma_decide_66 rfl rfl ?_
          refine qx_zald d_Ma_decide_67 rfl rfl rfl rfl (by omega) (show _ = b2i (ns i) from rfl) ?_
          refine qx_if_neB (t := 80) d_Ma_decide_68 rfl (fun c68 => ?_) (fun c68 => ?_)
          · refine qx_aload_n d_Ma_decide_80 rfl rfl ?_
            refine qx_iload_n d_Ma_decide_81 rfl rfl ?_
            refine qx_lconst (v := 0) d_Ma_decide_82 rfl ?_
            refine qx_iconst (v := b2i true) d_Ma_decide_83 rfl ?_
            refine qx_callV (As := [_, _, _]) (rest := _) d_Ma_decide_84 lk_Ma_35 y_Ma_set v_Ma_set rfl rfl rfl (by decide) rfl rfl rfl rfl (by decide) (by decide) (ct_Ma_set hM vs ns i (by omega) _ _) ?_
            rintro _ _ _ ⟨rfl, rfl, rfl⟩
            refine qx_goto (t := 99) d_Ma_decide_87 rfl ?_
            exact qx_ret d_Ma_decide_99 rfl (by omega) (by omega) (by refine ⟨rfl, ?_, rfl⟩; first | exact absurd c49 (by decide) | exact absurd (c6.symm.trans c68) (by decide) | exact absurd (c26.symm.trans c77) (by decide) | simp [dcd, *])
          · refine qx_aload_n d_Ma_decide_71 rfl rfl ?_
            refine qx_getR d_Ma_decide_72 fR_Ma_22 rfl rfl (congrFun hM 3) ?_
            refine qx_iload_n d_Ma_decide_75 rfl rfl ?_
            refine qx_zald d_Ma_decide_76 rfl rfl rfl rfl (by omega) (show _ = b2i (ns (i + 1)) from rfl) ?_
            refine qx_if_eqB (t := 90) d_Ma_decide_77 rfl (fun c77 => ?_) (fun c77 => ?_)
            · refine qx_aload_n d_Ma_decide_90 rfl rfl ?_
              refine qx_iload_n d_Ma_decide_91 rfl rfl ?_
              refine qx_lconst (v := 1) d_Ma_decide_92 rfl ?_
              refine qx_lload_n d_Ma_decide_93 rfl rfl ?_
              refine qx_lsub d_Ma_decide_94 ?_
              refine qx_iconst (v := b2i false) d_Ma_decide_95 rfl ?_
              refine qx_callV (As := [_, _, _]) (rest := _) d_Ma_decide_96 lk_Ma_35 y_Ma_set v_Ma_set rfl rfl rfl (by decide) rfl rfl rfl rfl (by decide) (by decide) (ct_Ma_set hM vs ns i (by omega) _ _) ?_
              rintro _ _ _ ⟨rfl, rfl, rfl⟩
              exact qx_ret d_Ma_decide_99 rfl (by omega) (by omega) (by refine ⟨rfl, ?_, rfl⟩; first | exact absurd c49 (by decide) | exact absurd (c6.symm.trans c68) (by decide) | exact absurd (c26.symm.trans c77) (by decide) | simp [dcd, *])
            · refine qx_aload_n d_Ma_decide_80 rfl rfl ?_
              refine qx_iload_n d_Ma_decide_81 rfl rfl ?_
              refine qx_lconst (v := 0) d_Ma_decide_82 rfl ?_
              refine qx_iconst (v := b2i true) d_Ma_decide_83 rfl ?_
              refine qx_callV (As := [_, _, _]) (rest := _) d_Ma_decide_84 lk_Ma_35 y_Ma_set v_Ma_set rfl rfl rfl (by decide) rfl rfl rfl rfl (by decide) (by decide) (ct_Ma_set hM vs ns i (by omega) _ _) ?_
              rintro _ _ _ ⟨rfl, rfl, rfl⟩
              refine qx_goto (t := 99) d_Ma_decide_87 rfl ?_
              exact qx_ret d_Ma_decide_99 rfl (by omega) (by omega) (by refine ⟨rfl, ?_, rfl⟩; first | exact absurd c49 (by decide) | exact absurd (c6.symm.trans c68) (by decide) | exact absurd (c26.symm.trans c77) (by decide) | simp [dcd, *])
        · refine qx_aload_n d_Ma_decide_52 rfl rfl ?_
          refine qx_iload_n d_Ma_decide_53 rfl rfl ?_
          refine qx_lload_n d_Ma_decide_54 rfl rfl ?_
          refine qx_iconst (v := b2i false) d_Ma_decide_55 rfl ?_
          refine qx_callV (As := [_, _, _]) (rest := _) d_Ma_decide_56 lk_Ma_35 y_Ma_set v_Ma_set rfl rfl rfl (by decide) rfl rfl rfl rfl (by decide) (by decide) (ct_Ma_set hM vs ns i (by omega) _ _) ?_
          rintro _ _ _ ⟨rfl, rfl, rfl⟩
          refine qx_goto (t := 99) d_Ma_decide_59 rfl ?_
          exact qx_ret d_Ma_decide_99 rfl (by omega) (by omega) (by refine ⟨rfl, ?_, rfl⟩; first | exact absurd c49 (by decide) | exact absurd (c6.symm.trans c68) (by decide) | exact absurd (c26.symm.trans c77) (by decide) | simp [dcd, *])
      · refine qx_aload_n d_Ma_decide_29 rfl rfl ?_
        refine qx_getR d_Ma_decide_30 fR_Ma_19 rfl rfl (congrFun hM 2) ?_
        refine qx_iload_n d_Ma_decide_33 rfl rfl ?_
        refine qx_lald d_Ma_decide_34 rfl rfl rfl rfl (by omega) (show _ = vs (i + 1) from rfl) ?_
        refine qx_lload_n d_Ma_decide_35 rfl rfl ?_
        refine qx_lcmp d_Ma_decide_36 ?_
        refine qx_if_neC (t := 44) d_Ma_decide_37 rfl (fun c37 => ?_) (fun c37 => ?_)
        · refine qx_iconst (v := b2i false) d_Ma_decide_44 rfl ?_
          refine qx_istore (lv1 := [_, _, _, _, _, _]) d_Ma_decide_45 (by decide) rfl ?_
          refine qx_iload d_Ma_decide_47 rfl ?_
          refine qx_if_eqB (t := 62) d_Ma_decide_49 rfl (fun c49 => ?_) (fun c49 => ?_)
          · refine qx_aload_n d_Ma_decide_62 rfl rfl ?_
            refine qx_getR d_Ma_decide_63 fR_Ma_22 rfl rfl (congrFun hM 3) ?_
            refine qx_iload_n d_Ma_decide_66 rfl rfl ?_
            refine qx_zald d_Ma_decide_67 rfl rfl rfl rfl (by omega) (show _ = b2i (ns i) from rfl) ?_
            refine qx_if_neB (t := 80) d_Ma_decide_68 rfl (fun c68 => ?_) (fun c68 => ?_)
            · refine qx_aload_n d_Ma_decide_80 rfl rfl ?_
              refine qx_iload_n d_Ma_decide_81 rfl rfl ?_
              refine qx_lconst (v := 0) d_Ma_decide_82 rfl ?_
              refine qx_iconst (v := b2i true) d_Ma_decide_83 rfl ?_
              refine qx_callV (As := [_, _, _]) (rest := _) d_Ma_decide_84 lk_Ma_35 y_Ma_set v_Ma_set rfl rfl rfl (by decide) rfl rfl rfl rfl (by decide) (by decide) (ct_Ma_set hM vs ns i (by omega) _ _) ?_
              rintro _ _ _ ⟨rfl, rfl, rfl⟩
              refine qx_goto (t := 99) d_Ma_decide_87 rfl ?_
              exact qx_ret d_Ma_decide_99 rfl (by omega) (by omega) (by refine ⟨rfl, ?_, rfl⟩; first | exact absurd c49 (by decide) | exact absurd (c6.symm.trans c68) (by decide) | exact absurd (c26.symm.trans c77) (by decide) | simp [dcd, *])
            · refine qx_aload_n d_Ma_decide_71 rfl rfl ?_
              refine qx_getR d_Ma_decide_72 fR_Ma_22 rfl rfl (congrFun hM 3) ?_
              refine qx_iload_n d_Ma_decide_75 rfl rfl ?_
              refine qx_zald d_Ma_decide_76 rfl rfl rfl rfl (by omega) (show _ = b2i (ns (i + 1)) from rfl) ?_
              refine qx_if_eqB (t := 90) d_Ma_decide_77 rfl (fun c77 => ?_) (fun c77 => ?_)
              · refine qx_aload_n d_Ma_decide_90 rfl rfl ?_
                refine qx_iload_n d_Ma_decide_91 rfl rfl ?_
                refine qx_lconst (v := 1) d_Ma_decide_92 rfl ?_
                refine qx_lload_n d_Ma_decide_93 rfl rfl ?_
                refine qx_lsub d_Ma_decide_94 ?_
                refine qx_iconst (v := b2i false) d_Ma_decide_95 rfl ?_
                refine qx_callV (As := [_, _, _]) (rest := _) d_Ma_decide_96 lk_Ma_35 y_Ma_set v_Ma_set rfl rfl rfl (by decide) rfl rfl rfl rfl (by decide) (by decide) (ct_Ma_set hM vs ns i (by omega) _ _) ?_
                rintro _ _ _ ⟨rfl, rfl, rfl⟩
                exact qx_ret d_Ma_decide_99 rfl (by omega) (by omega) (by refine ⟨rfl, ?_, rfl⟩; first | exact absurd c49 (by decide) | exact absurd (c6.symm.trans c68) (by decide) | exact absurd (c26.symm.trans c77) (by decide) | simp [dcd, *])
              · refine qx_aload_n d_Ma_decide_80 rfl rfl ?_
                refine qx_iload_n d_Ma_decide_81 rfl rfl ?_
                refine qx_lconst (v := 0) d_Ma_decide_82 rfl ?_
                refine qx_iconst (v := b2i true) d_Ma_decide_83 rfl ?_
                refine qx_callV (As := [_, _, _]) (rest := _) d_Ma_decide_84 lk_Ma_35 y_Ma_set v_Ma_set rfl rfl rfl (by decide) rfl rfl rfl rfl (by decide) (by decide) (ct_Ma_set hM vs ns i (by omega) _ _) ?_
                rintro _ _ _ ⟨rfl, rfl, rfl⟩
                refine qx_goto (t := 99) d_Ma_decide_87 rfl ?_
                exact qx_ret d_Ma_decide_99 rfl (by omega) (by omega) (by refine ⟨rfl, ?_, rfl⟩; first | exact absurd c49 (by decide) | exact absurd (c6.symm.trans c68) (by decide) | exact absurd (c26.symm.trans c77) (by decide) | simp [dcd, *])
          · refine qx_aload_n d_Ma_decide_52 rfl rfl ?_
            refine qx_iload_n d_Ma_decide_53 rfl rfl ?_
            refine qx_lload_n d_Ma_decide_54 rfl rfl ?_
            refine qx_iconst (v := b2i false) d_Ma_decide_55 rfl ?_
            refine qx_callV (As := [_, _, _]) (rest := _) d_Ma_decide_56 lk_Ma_35 y_Ma_set v_Ma_set rfl rfl rfl (by decide) rfl rfl rfl rfl (by decide) (by decide) (ct_Ma_set hM vs ns i (by omega) _ _) ?_
            rintro _ _ _ ⟨rfl, rfl, rfl⟩
            refine qx_goto (t := 99) d_Ma_decide_59 rfl ?_
            exact qx_ret d_Ma_decide_99 rfl (by omega) (by omega) (by refine ⟨rfl, ?_, rfl⟩; first | exact absurd c49 (by decide) | exact absurd (c6.symm.trans c68) (by decide) | exact absurd (c26.symm.trans c77) (by decide) | simp [dcd, *])
        · refine qx_iconst (v := b2i true) d_Ma_decide_40 rfl ?_
          refine qx_goto (t := 45) d_Ma_decide_41 rfl ?_
          refine qx_istore (lv1 := [_, _, _, _, _, _]) d_Ma_decide_45 (by decide) rfl ?_
          refine qx_iload d_Ma_decide_47 rfl ?_
          refine qx_if_eqB (t := 62) d_Ma_decide_49 rfl (fun c49 => ?_) (fun c49 => ?_)
          · refine qx_aload_n d_Ma_decide_62 rfl rfl ?_
            refine qx_getR d_Ma_decide_63 fR_Ma_22 rfl rfl (congrFun hM 3) ?_
            refine qx_iload_n d_Ma_decide_66 rfl rfl ?_
            refine qx_zald d_Ma_decide_67 rfl rfl rfl rfl (by omega) (show _ = b2i (ns i) from rfl) ?_
            refine qx_if_neB (t := 80) d_Ma_decide_68 rfl (fun c68 => ?_) (fun c68 => ?_)
            · refine qx_aload_n d_Ma_decide_80 rfl rfl ?_
              refine qx_iload_n d_Ma_decide_81 rfl rfl ?_
              refine qx_lconst (v := 0) d_Ma_decide_82 rfl ?_
              refine qx_iconst (v := b2i true) d_Ma_decide_83 rfl ?_
              refine qx_callV (As := [_, _, _]) (rest := _) d_Ma_decide_84 lk_Ma_35 y_Ma_set v_Ma_set rfl rfl rfl (by decide) rfl rfl rfl rfl (by decide) (by decide) (ct_Ma_set hM vs ns i (by omega) _ _) ?_
              rintro _ _ _ ⟨rfl, rfl, rfl⟩
              refine qx_goto (t := 99) d_Ma_decide_87 rfl ?_
              exact qx_ret d_Ma_decide_99 rfl (by omega) (by omega) (by refine ⟨rfl, ?_, rfl⟩; first | exact absurd c49 (by decide) | exact absurd (c6.symm.trans c68) (by decide) | exact absurd (c26.symm.trans c77) (by decide) | simp [dcd, *])
            · refine qx_aload_n d_Ma_decide_71 rfl rfl ?_
              refine qx_getR d_Ma_decide_72 fR_Ma_22 rfl rfl (congrFun hM 3) ?_
              refine qx_iload_n d_Ma_decide_75 rfl rfl ?_
              refine qx_zald d_Ma_decide_76 rfl rfl rfl rfl (by omega) (show _ = b2i (ns (i + 1)) from rfl) ?_
              refine qx_if_eqB (t := 90) d_Ma_decide_77 rfl (fun c77 => ?_) (fun c77 => ?_)
              · refine qx_aload_n d_Ma_decide_90 rfl rfl ?_
                refine qx_iload_n d_Ma_decide_91 rfl rfl ?_
                refine qx_lconst (v := 1) d_Ma_decide_92 rfl ?_
                refine qx_lload_n d_Ma_decide_93 rfl rfl ?_
                refine qx_lsub d_Ma_decide_94 ?_
                refine qx_iconst (v := b2i false) d_Ma_decide_95 rfl ?_
                refine qx_callV (As := [_, _, _]) (rest := _) d_Ma_decide_96 lk_Ma_35 y_Ma_set v_Ma_set rfl rfl rfl (by decide) rfl rfl rfl rfl (by decide) (by decide) (ct_Ma_set hM vs ns i (by omega) _ _) ?_
                rintro _ _ _ ⟨rfl, rfl, rfl⟩
                exact qx_ret d_Ma_decide_99 rfl (by omega) (by omega) (by refine ⟨rfl, ?_, rfl⟩; first | exact absurd c49 (by decide) | exact absurd (c6.symm.trans c68) (by decide) | exact absurd (c26.symm.trans c77) (by decide) | simp [dcd, *])
              · refine qx_aload_n d_Ma_decide_80 rfl rfl ?_
                refine qx_iload_n d_Ma_decide_81 rfl rfl ?_
                refine qx_lconst (v := 0) d_Ma_decide_82 rfl ?_
                refine qx_iconst (v := b2i true) d_Ma_decide_83 rfl ?_
                refine qx_callV (As := [_, _, _]) (rest := _) d_Ma_decide_84 lk_Ma_35 y_Ma_set v_Ma_set rfl rfl rfl (by decide) rfl rfl rfl rfl (by decide) (by decide) (ct_Ma_set hM vs ns i (by omega) _ _) ?_
                rintro _ _ _ ⟨rfl, rfl, rfl⟩
                refine qx_goto (t := 99) d_Ma_decide_87 rfl ?_
                exact qx_ret d_Ma_decide_99 rfl (by omega) (by omega) (by refine ⟨rfl, ?_, rfl⟩; first | exact absurd c49 (by decide) | exact absurd (c6.symm.trans c68) (by decide) | exact absurd (c26.symm.trans c77) (by decide) | simp [dcd, *])
          · refine qx_aload_n d_Ma_decide_52 rfl rfl ?_
            refine qx_iload_n d_Ma_decide_53 rfl rfl ?_
            refine qx_lload_n d_Ma_decide_54 rfl rfl ?_
            refine qx_iconst (v := b2i false) d_Ma_decide_55 rfl ?_
            refine qx_callV (As := [_, _, _]) (rest := _) d_Ma_decide_56 lk_Ma_35 y_Ma_set v_Ma_set rfl rfl rfl (by decide) rfl rfl rfl rfl (by decide) (by decide) (ct_Ma_set hM vs ns i (by omega) _ _) ?_
            rintro _ _ _ ⟨rfl, rfl, rfl⟩
            refine qx_goto (t := 99) d_Ma_decide_59 rfl ?_
            exact qx_ret d_Ma_decide_99 rfl (by omega) (by omega) (by refine ⟨rfl, ?_, rfl⟩; first | exact absurd c49 (by decide) | exact absurd (c6.symm.trans c68) (by decide) | exact absurd (c26.symm.trans c77) (by decide) | simp [dcd, *])
set_option maxRecDepth 100000 in
set_option maxHeartbeats 4000000 in
theorem ct_Ma_combine_0 {h : qH} (hM : h.2.2 59 = qRMa) (vs : Nat → Int64) (ns : Nat → Bool) (i : Nat) (hi : i + 1 < 8) : qT mi_Ma_combine 2 0 0 [.ref 59, .int (nI 0), .int (nI i), .int (nI (i + 1))] (nR h vs ns) NN (fun v1 h1 n1 => v1 = none ∧ (∃ x1 y1, h1 = nR h (va_up vs i x1) (va_up ns i y1) ∧ y1 = ((ns i || ns (i + 1)) || !xLong 0 (vs i) (vs (i + 1))) ∧ (y1 = false → x1 = xCalc 0 (vs i) (vs (i + 1)))) ∧ n1 = NN) := by
  refine qT.of (lv0 := [_, _, _, _, _]) (by decide +kernel) (fun _ _ => Nat.le_of_ble_eq_true rfl) rfl ?_
  refine qx_iload_n d_Ma_combine_0 rfl rfl ?_
  refine qx_bipushN (v := 6) d_Ma_combine_1 rfl ?_
  refine qx_icmp_eqN (t := 12) d_Ma_combine_3 rfl (by omega) (by omega) (fun c3 => absurd c3 (by decide)) (fun c3 => ?_)
  refine qx_iload_n d_Ma_combine_6 rfl rfl ?_
  refine qx_bipushN (v := 7) d_Ma_combine_7 rfl ?_
  refine qx_icmp_neN (t := 32) d_Ma_combine_9 rfl (by omega) (by omega) (fun c9 => ?_) (fun c9 => absurd c9 (by decide))
  refine qx_aload_n d_Ma_combine_32 rfl rfl ?_
  refine qx_getR d_Ma_combine_33 fR_Ma_22 rfl rfl (congrFun hM 3) ?_
  refine qx_iload_n d_Ma_combine_36 rfl rfl ?_
  refine qx_zald d_Ma_combine_37 rfl rfl rfl rfl (by omega) (show _ = b2i (ns i) from rfl) ?_
  refine qx_if_neB (t := 50) d_Ma_combine_38 rfl (fun c38 => ?_) (fun c38 => ?_)
  · refine qx_aload_n d_Ma_combine_50 rfl rfl ?_
    refine qx_getR d_Ma_combine_51 fR_Ma_22 rfl rfl (congrFun hM 3) ?_
    refine qx_iload_n d_Ma_combine_54 rfl rfl ?_
    refine qx_iconst (v := b2i true) d_Ma_combine_55 rfl ?_
    refine qx_zast d_Ma_combine_56 rfl rfl rfl rfl (by omega) rfl ?_
    refine qx_goto (t := 206) d_Ma_combine_57 rfl ?_
    exact qx_ret d_Ma_combine_206 rfl (by omega) (by omega) (by first | exact absurd c182 (by decide) | (rw [nR_n]; exact ⟨rfl, ⟨vs i, true, by rw [qv_self], by rw [c38]; rfl, fun e => absurd e (by decide)⟩, rfl⟩) | (rw [nR_n]; exact ⟨rfl, ⟨vs i, true, by rw [qv_self], by rw [c38, c47]; rfl, fun e => absurd e (by decide)⟩, rfl⟩) | exact ⟨rfl, ⟨_, true, nR_v, by rw [c38, c47, c162]; rfl, fun e => absurd e (by decide)⟩, rfl⟩ | exact ⟨rfl, ⟨_, false, nR_v, by rw [c38, c47, c162]; rfl, fun _ => rfl⟩, rfl⟩)
  · refine qx_aload_n d_Ma_combine_41 rfl rfl ?_
    refine qx_getR d_Ma_combine_42 fR_Ma_22 rfl rfl (congrFun hM 3) ?_
    refine qx_iload_n d_Ma_combine_45 rfl rfl ?_
    refine qx_zald d_Ma_combine_46 rfl rfl rfl rfl (by omega) (show _ = b2i (ns (i + 1)) from rfl) ?_
    refine qx_if_eqB (t := 60) d_Ma_combine_47 rfl (fun c47 => ?_) (fun c47 => ?_)
    · refine qx_iload_n d_Ma_combine_60 rfl rfl ?_
      refine qx_iconstN (v := 4) d_Ma_combine_61 rfl ?_
      refine qx_icmp_eqN (t := 70) d_Ma_combine_62 rfl (by omega) (by omega) (fun c62 => absurd c62 (by decide)) (fun c62 => ?_)
      refine qx_iload_n d_Ma_combine_65 rfl rfl ?_
      refine qx_iconstN (v := 5) d_Ma_combine_66 rfl ?_
      refine qx_icmp_neN (t := 141) d_Ma_combine_67 rfl (by omega) (by omega) (fun c67 => ?_) (fun c67 => absurd c67 (by decide))
      refine qx_aload_n d_Ma_combine_141 rfl rfl ?_
      refine qx_getR d_Ma_combine_142 fR_Ma_22 rfl rfl (congrFun hM 3) ?_
      refine qx_iload_n d_Ma_combine_145 rfl rfl ?_
      refine qx_iload_n d_Ma_combine_146 rfl rfl ?_
      refine qx_aload_n d_Ma_combine_147 rfl rfl ?_
      refine qx_getR d_Ma_combine_148 fR_Ma_19 rfl rfl (congrFun hM 2) ?_
      refine qx_iload_n d_Ma_combine_151 rfl rfl ?_
      refine qx_lald d_Ma_combine_152 rfl rfl rfl rfl (by omega) (show _ = vs i from rfl) ?_
      refine qx_aload_n d_Ma_combine_153 rfl rfl ?_
      refine qx_getR d_Ma_combine_154 fR_Ma_19 rfl rfl (congrFun hM 2) ?_
      refine qx_iload_n d_Ma_combine_157 rfl rfl ?_
      refine qx_lald d_Ma_combine_158 rfl rfl rfl rfl (by omega) (show _ = vs (i + 1) from rfl) ?_
      refine qx_callS (As := [_, _, _]) (rest := _) d_Ma_combine_159 lk_Ma_60 y_Ma_isLong s_Ma_isLong rfl rfl rfl rfl (by decide) (by decide) (ct_Ma_isLong_0 _ _) ?_
      rintro _ _ _ ⟨rfl, rfl, rfl⟩
      refine qx_if_neB (t := 169) d_Ma_combine_162 rfl (fun c162 => ?_) (fun c162 => ?_)
      · refine qx_iconst (v := b2i false) d_Ma_combine_169 rfl ?_
        refine qx_zast d_Ma_combine_170 rfl rfl rfl rfl (by omega) rfl ?_
        first
          | refine qx_eq (h1 := nR h vs (va_up ns i true)) rfl rfl rfl nR_n.symm ?_
          | refine qx_eq (h1 := nR h vs (va_up ns i false)) rfl rfl rfl nR_n.symm ?_
        refine qx_aload_n d_Ma_combine_171 rfl rfl ?_
        refine qx_getR d_Ma_combine_172 fR_Ma_19 rfl rfl (congrFun hM 2) ?_
        refine qx_iload_n d_Ma_combine_175 rfl rfl ?_
        refine qx_aload_n d_Ma_combine_176 rfl rfl ?_
        refine qx_getR d_Ma_combine_177 fR_Ma_22 rfl rfl (congrFun hM 3) ?_
        refine qx_iload_n d_Ma_combine_180 rfl rfl ?_
        refine qx_zald d_Ma_combine_181 rfl rfl rfl rfl (by omega) (congrArg b2i qus) ?_
        refine qx_if_eqB (t := 189) d_Ma_combine_182 rfl (fun c182 => ?_) (fun c182 => ?_)
        · refine qx_iload_n d_Ma_combine_189 rfl rfl ?_
          refine qx_aload_n d_Ma_combine_190 rfl rfl ?_
          refine qx_getR d_Ma_combine_191 fR_Ma_19 rfl rfl (congrFun hM 2) ?_
          refine qx_iload_n d_Ma_combine_194 rfl rfl ?_
          refine qx_lald d_Ma_combine_195 rfl rfl rfl rfl (by omega) (show _ = vs i from rfl) ?_
          refine qx_aload_n d_Ma_combine_196 rfl rfl ?_
          refine qx_getR d_Ma_combine_197 fR_Ma_19 rfl rfl (congrFun hM 2) ?_
          refine qx_iload_n d_Ma_combine_200 rfl rfl ?_
          refine qx_lald d_Ma_combine_201 rfl rfl rfl rfl (by omega) (show _ = vs (i + 1) from rfl) ?_
          refine qx_callS (As := [_, _, _]) (rest := _) d_Ma_combine_202 lk_Ma_64 y_Ma_calculate s_Ma_calculate rfl rfl rfl rfl (by decide) (by decide) (ct_Ma_calculate_0 _ _) ?_
          rintro _ _ _ ⟨rfl, rfl, rfl⟩
          refine qx_last d_Ma_combine_205 rfl rfl rfl rfl (by omega) ?_
          exact qx_ret d_Ma_combine_206 rfl (by omega) (by omega) (by first | exact absurd c182 (by decide) | (rw [nR_n]; exact ⟨rfl, ⟨vs i, true, by rw [qv_self], by rw [c38]; rfl, fun e => absurd e (by decide)⟩, rfl⟩) | (rw [nR_n]; exact ⟨rfl, ⟨vs i, true, by rw [qv_self], by rw [c38, c47]; rfl, fun e => absurd e (by decide)⟩, rfl⟩) | exact ⟨rfl, ⟨_, true, nR_v, by rw [c38, c47, c162]; rfl, fun e => absurd e (by decide)⟩, rfl⟩ | exact ⟨rfl, ⟨_, false, nR_v, by rw [c38, c47, c162]; rfl, fun _ => rfl⟩, rfl⟩)
        · refine qx_lconst (v := 0) d_Ma_combine_185 rfl ?_
          refine qx_goto (t := 205) d_Ma_combine_186 rfl ?_
          refine qx_last d_Ma_combine_205 rfl rfl rfl rfl (by omega) ?_
          exact qx_ret d_Ma_combine_206 rfl (by omega) (by omega) (by first | exact absurd c182 (by decide) | (rw [nR_n]; exact ⟨rfl, ⟨vs i, true, by rw [qv_self], by rw [c38]; rfl, fun e => absurd e (by decide)⟩, rfl⟩) | (rw [nR_n]; exact ⟨rfl, ⟨vs i, true, by rw [qv_self], by rw [c38, c47]; rfl, fun e => absurd e (by decide)⟩, rfl⟩) | exact ⟨rfl, ⟨_, true, nR_v, by rw [c38, c47, c162]; rfl, fun e => absurd e (by decide)⟩, rfl⟩ | exact ⟨rfl, ⟨_, false, nR_v, by rw [c38, c47, c162]; rfl, fun _ => rfl⟩, rfl⟩)
      · refine qx_iconst (v := b2i true) d_Ma_combine_165 rfl ?_
        refine qx_goto (t := 170) d_Ma_combine_166 rfl ?_
        refine qx_zast d_Ma_combine_170 rfl rfl rfl rfl (by omega) rfl ?_
        first
          | refine qx_eq (h1 := nR h vs (va_up ns i true)) rfl rfl rfl nR_n.symm ?_
          | refine qx_eq (h1 := nR h vs (va_up ns i false)) rfl rfl rfl nR_n.symm ?_
        refine qx_aload_n d_Ma_combine_171 rfl rfl ?_
        refine qx_getR d_Ma_combine_172 fR_Ma_19 rfl rfl (congrFun hM 2) ?_
        refine qx_iload_n d_Ma_combine_175 rfl rfl ?_
        refine qx_aload_n d_Ma_combine_176 rfl rfl ?_
        refine qx_getR d_Ma_combine_177 fR_Ma_22 rfl rfl (congrFun hM 3) ?_
        refine qx_iload_n d_Ma_combine_180 rfl rfl ?_
        refine qx_zald d_Ma_combine_181 rfl rfl rfl rfl (by omega) (congrArg b2i qus) ?_
        refine qx_if_eqB (t := 189) d_Ma_combine_182 rfl (fun c182 => ?_) (fun c182 => ?_)
        · refine qx_iload_n d_Ma_combine_189 rfl rfl ?_
          refine qx_aload_n d_Ma_combine_190 rfl rfl ?_
          refine qx_getR d_Ma_combine_191 fR_Ma_19 rfl rfl (congrFun hM 2) ?_
          refine qx_iload_n d_Ma_combine_194 rfl rfl ?_
          refine qx_lald d_Ma_combine_195 rfl rfl rfl rfl (by omega) (show _ = vs i from rfl) ?_
          refine qx_aload_n d_Ma_combine_196 rfl rfl ?_
          refine qx_getR d_Ma_combine_197 fR_Ma_19 rfl rfl (congrFun hM 2) ?_
          refine qx_iload_n d_Ma_combine_200 rfl rfl ?_
          refine qx_lald d_Ma_combine_201 rfl rfl rfl rfl (by omega) (show _ = vs (i + 1) from rfl) ?_
          refine qx_callS (As := [_, _, _]) (rest := _) d_Ma_combine_202 lk_Ma_64 y_Ma_calculate s_Ma_calculate rfl rfl rfl rfl (by decide) (by decide) (ct_Ma_calculate_0 _ _) ?_
          rintro _ _ _ ⟨rfl, rfl, rfl⟩
          refine qx_last d_Ma_combine_205 rfl rfl rfl rfl (by omega) ?_
          exact qx_ret d_Ma_combine_206 rfl (by omega) (by omega) (by first | exact absurd c182 (by decide) | (rw [nR_n]; exact ⟨rfl, ⟨vs i, true, by rw [qv_self], by rw [c38]; rfl, fun e => absurd e (by decide)⟩, rfl⟩) | (rw [nR_n]; exact ⟨rfl, ⟨vs i, true, by rw [qv_self], by rw [c38, c47]; rfl, fun e => absurd e (by decide)⟩, rfl⟩) | exact ⟨rfl, ⟨_, true, nR_v, by rw [c38, c47, c162]; rfl, fun e => absurd e (by decide)⟩, rfl⟩ | exact ⟨rfl, ⟨_, false, nR_v, by rw [c38, c47, c162]; rfl, fun _ => rfl⟩, rfl⟩)
        · refine qx_lconst (v := 0) d_Ma_combine_185 rfl ?_
          refine qx_goto (t := 205) d_Ma_combine_186 rfl ?_
          refine qx_last d_Ma_combine_205 rfl rfl rfl rfl (by omega) ?_
          exact qx_ret d_Ma_combine_206 rfl (by omega) (by omega) (by first | exact absurd c182 (by decide) | (rw [nR_n]; exact ⟨rfl, ⟨vs i, true, by rw [qv_self], by rw [c38]; rfl, fun e => absurd e (by decide)⟩, rfl⟩) | (rw [nR_n]; exact ⟨rfl, ⟨vs i, true, by rw [qv_self], by rw [c38, c47]; rfl, fun e => absurd e (by decide)⟩, rfl⟩) | exact ⟨rfl, ⟨_, true, nR_v, by rw [c38, c47, c162]; rfl, fun e => absurd e (by decide)⟩, rfl⟩ | exact ⟨rfl, ⟨_, false, nR_v, by rw [c38, c47, c162]; rfl, fun _ => rfl⟩, rfl⟩)
    · refine qx_aload_n d_Ma_combine_50 rfl rfl ?_
      refine qx_getR d_Ma_combine_51 fR_Ma_22 rfl rfl (congrFun hM 3) ?_
      refine qx_iload_n d_Ma_combine_54 rfl rfl ?_
      refine qx_iconst (v := b2i true) d_Ma_combine_55 rfl ?_
      refine qx_zast d_Ma_combine_56 rfl rfl rfl rfl (by omega) rfl ?_
      refine qx_goto (t := 206) d_Ma_combine_57 rfl ?_
      exact qx_ret d_Ma_combine_206 rfl (by omega) (by omega) (by first | exact absurd c182 (by decide) | (rw [nR_n]; exact ⟨rfl, ⟨vs i, true, by rw [qv_self], by rw [c38]; rfl, fun e => absurd e (by decide)⟩, rfl⟩) | (rw [nR_n]; exact ⟨rfl, ⟨vs i, true, by rw [qv_self], by rw [c38, c47]; rfl, fun e => absurd e (by decide)⟩, rfl⟩) | exact ⟨rfl, ⟨_, true, nR_v, by rw [c38, c47, c162]; rfl, fun e => absurd e (by decide)⟩, rfl⟩ | exact ⟨rfl, ⟨_, false, nR_v, by rw [c38, c47, c162]; rfl, fun _ => rfl⟩, rfl⟩)
set_option maxRecDepth 100000 in
set_option maxHeartbeats 4000000 in
theorem ct_Ma_combine_1 {h : qH} (hM : h.2.2 59 = qRMa) (vs : Nat → Int64) (ns : Nat → Bool) (i : Nat) (hi : i + 1 < 8) : qT mi_Ma_combine 2 0 0 [.ref 59, .int (nI 1), .int (nI i), .int (nI (i + 1))] (nR h vs ns) NN (fun v1 h1 n1 => v1 = none ∧ (∃ x1 y1, h1 = nR h (va_up vs i x1) (va_up ns i y1) ∧ y1 = ((ns i || ns (i + 1)) || !xLong 1 (vs i) (vs (i + 1))) ∧ (y1 = false → x1 = xCalc 1 (vs i) (vs (i + 1)))) ∧ n1 = NN) := by
  refine qT.of (lv0 := [_, _, _, _, _]) (by decide +kernel) (fun _ _ => Nat.le_of_ble_eq_true rfl) rfl ?_
  refine qx_iload_n d_Ma_combine_0 rfl rfl ?_
  refine qx_bipushN (v := 6) d_Ma_combine_1 rfl ?_
  refine qx_icmp_eqN (t := 12) d_Ma_combine_3 rfl (by omega) (by omega) (fun c3 => absurd c3 (by decide)) (fun c3 => ?_)
  refine qx_iload_n d_Ma_combine_6 rfl rfl ?_
  refine qx_bipushN (v := 7) d_Ma_combine_7 rfl ?_
  refine qx_icmp_neN (t := 32) d_Ma_combine_9 rfl (by omega) (by omega) (fun c9 => ?_) (fun c9 => absurd c9 (by decide))
  refine qx_aload_n d_Ma_combine_32 rfl rfl ?_
  refine qx_getR d_Ma_combine_33 fR_Ma_22 rfl rfl (congrFun hM 3) ?_
  refine qx_iload_n d_Ma_combine_36 rfl rfl ?_
  refine qx_zald d_Ma_combine_37 rfl rfl rfl rfl (by omega) (show _ = b2i (ns i) from rfl) ?_
  refine qx_if_neB (t := 50) d_Ma_combine_38 rfl (fun c38 => ?_) (fun c38 => ?_)
  · refine qx_aload_n d_Ma_combine_50 rfl rfl ?_
    refine qx_getR d_Ma_combine_51 fR_Ma_22 rfl rfl (congrFun hM 3) ?_
    refine qx_iload_n d_Ma_combine_54 rfl rfl ?_
    refine qx_iconst (v := b2i true) d_Ma_combine_55 rfl ?_
    refine qx_zast d_Ma_combine_56 rfl rfl rfl rfl (by omega) rfl ?_
    refine qx_goto (t := 206) d_Ma_combine_57 rfl ?_
    exact qx_ret d_Ma_combine_206 rfl (by omega) (by omega) (by first | exact absurd c182 (by decide) | (rw [nR_n]; exact ⟨rfl, ⟨vs i, true, by rw [qv_self], by rw [c38]; rfl, fun e => absurd e (by decide)⟩, rfl⟩) | (rw [nR_n]; exact ⟨rfl, ⟨vs i, true, by rw [qv_self], by rw [c38, c47]; rfl, fun e => absurd e (by decide)⟩, rfl⟩) | exact ⟨rfl, ⟨_, true, nR_v, by rw [c38, c47, c162]; rfl, fun e => absurd e (by decide)⟩, rfl⟩ | exact ⟨rfl, ⟨_, false, nR_v, by rw [c38, c47, c162]; rfl, fun _ => rfl⟩, rfl⟩)
  · refine qx_aload_n d_Ma_combine_41 rfl rfl ?_
    refine qx_getR d_Ma_combine_42 fR_Ma_22 rfl rfl (congrFun hM 3) ?_
    refine qx_iload_n d_Ma_combine_45 rfl rfl ?_
    refine qx_zald d_Ma_combine_46 rfl rfl rfl rfl (by omega) (show _ = b2i (ns (i + 1)) from rfl) ?_
    refine qx_if_eqB (t := 60) d_Ma_combine_47 rfl (fun c47 => ?_) (fun c47 => ?_)
    · refine qx_iload_n d_Ma_combine_60 rfl rfl ?_
      refine qx_iconstN (v := 4) d_Ma_combine_61 rfl ?_
      refine qx_icmp_eqN (t := 70) d_Ma_combine_62 rfl (by omega) (by omega) (fun c62 => absurd c62 (by decide)) (fun c62 => ?_)
      refine qx_iload_n d_Ma_combine_65 rfl rfl ?_
      refine qx_iconstN (v := 5) d_Ma_combine_66 rfl ?_
      refine qx_icmp_neN (t := 141) d_Ma_combine_67 rfl (by omega) (by omega) (fun c67 => ?_) (fun c67 => absurd c67 (by decide))
      refine qx_aload_n d_Ma_combine_141 rfl rfl ?_
      refine qx_getR d_Ma_combine_142 fR_Ma_22 rfl rfl (congrFun hM 3) ?_
      refine qx_iload_n d_Ma_combine_145 rfl rfl ?_
      refine qx_iload_n d_Ma_combine_146 rfl rfl ?_
      refine qx_aload_n d_Ma_combine_147 rfl rfl ?_
      refine qx_getR d_Ma_combine_148 fR_Ma_19 rfl rfl (congrFun hM 2) ?_
      refine qx_iload_n d_Ma_combine_151 rfl rfl ?_
      refine qx_lald d_Ma_combine_152 rfl rfl rfl rfl (by omega) (show _ = vs i from rfl) ?_
      refine qx_aload_n d_Ma_combine_153 rfl rfl ?_
      refine qx_getR d_Ma_combine_154 fR_Ma_19 rfl rfl (congrFun hM 2) ?_
      refine qx_iload_n d_Ma_combine_157 rfl rfl ?_
      refine qx_lald d_Ma_combine_158 rfl rfl rfl rfl (by omega) (show _ = vs (i + 1) from rfl) ?_
      refine qx_callS (As := [_, _, _]) (rest := _) d_Ma_combine_159 lk_Ma_60 y_Ma_isLong s_Ma_isLong rfl rfl rfl rfl (by decide) (by decide) (ct_Ma_isLong_1 _ _) ?_
      rintro _ _ _ ⟨rfl, rfl, rfl⟩
      refine qx_if_neB (t := 169) d_Ma_combine_162 rfl (fun c162 => ?_) (fun c162 => ?_)
      · refine qx_iconst (v := b2i false) d_Ma_combine_169 rfl ?_
        refine qx_zast d_Ma_combine_170 rfl rfl rfl rfl (by omega) rfl ?_
        first
          | refine qx_eq (h1 := nR h vs (va_up ns i true)) rfl rfl rfl nR_n.symm ?_
          | refine qx_eq (h1 := nR h vs (va_up ns i false)) rfl rfl rfl nR_n.symm ?_
        refine qx_aload_n d_Ma_combine_171 rfl rfl ?_
        refine qx_getR d_Ma_combine_172 fR_Ma_19 rfl rfl (congrFun hM 2) ?_
        refine qx_iload_n d_Ma_combine_175 rfl rfl ?_
        refine qx_aload_n d_Ma_combine_176 rfl rfl ?_
        refine qx_getR d_Ma_combine_177 fR_Ma_22 rfl rfl (congrFun hM 3) ?_
        refine qx_iload_n d_Ma_combine_180 rfl rfl ?_
        refine qx_zald d_Ma_combine_181 rfl rfl rfl rfl (by omega) (congrArg b2i qus) ?_
        refine qx_if_eqB (t := 189) d_Ma_combine_182 rfl (fun c182 => ?_) (fun c182 => ?_)
        · refine qx_iload_n d_Ma_combine_189 rfl rfl ?_
          refine qx_aload_n d_Ma_combine_190 rfl rfl ?_
          refine qx_getR d_Ma_combine_191 fR_Ma_19 rfl rfl (congrFun hM 2) ?_
          refine qx_iload_n d_Ma_combine_194 rfl rfl ?_
          refine qx_lald d_Ma_combine_195 rfl rfl rfl rfl (by omega) (show _ = vs i from rfl) ?_
          refine qx_aload_n d_Ma_combine_196 rfl rfl ?_
          refine qx_getR d_Ma_combine_197 fR_Ma_19 rfl rfl (congrFun hM 2) ?_
          refine qx_iload_n d_Ma_combine_200 rfl rfl ?_
          refine qx_lald d_Ma_combine_201 rfl rfl rfl rfl (by omega) (show _ = vs (i + 1) from rfl) ?_
          refine qx_callS (As := [_, _, _]) (rest := _) d_Ma_combine_202 lk_Ma_64 y_Ma_calculate s_Ma_calculate rfl rfl rfl rfl (by decide) (by decide) (ct_Ma_calculate_1 _ _) ?_
          rintro _ _ _ ⟨rfl, rfl, rfl⟩
          refine qx_last d_Ma_combine_205 rfl rfl rfl rfl (by omega) ?_
          exact qx_ret d_Ma_combine_206 rfl (by omega) (by omega) (by first | exact absurd c182 (by decide) | (rw [nR_n]; exact ⟨rfl, ⟨vs i, true, by rw [qv_self], by rw [c38]; rfl, fun e => absurd e (by decide)⟩, rfl⟩) | (rw [nR_n]; exact ⟨rfl, ⟨vs i, true, by rw [qv_self], by rw [c38, c47]; rfl, fun e => absurd e (by decide)⟩, rfl⟩) | exact ⟨rfl, ⟨_, true, nR_v, by rw [c38, c47, c162]; rfl, fun e => absurd e (by decide)⟩, rfl⟩ | exact ⟨rfl, ⟨_, false, nR_v, by rw [c38, c47, c162]; rfl, fun _ => rfl⟩, rfl⟩)
        · refine qx_lconst (v := 0) d_Ma_combine_185 rfl ?_
          refine qx_goto (t := 205) d_Ma_combine_186 rfl ?_
          refine qx_last d_Ma_combine_205 rfl rfl rfl rfl (by omega) ?_
          exact qx_ret d_Ma_combine_206 rfl (by omega) (by omega) (by first | exact absurd c182 (by decide) | (rw [nR_n]; exact ⟨rfl, ⟨vs i, true, by rw [qv_self], by rw [c38]; rfl, fun e => absurd e (by decide)⟩, rfl⟩) | (rw [nR_n]; exact ⟨rfl, ⟨vs i, true, by rw [qv_self], by rw [c38, c47]; rfl, fun e => absurd e (by decide)⟩, rfl⟩) | exact ⟨rfl, ⟨_, true, nR_v, by rw [c38, c47, c162]; rfl, fun e => absurd e (by decide)⟩, rfl⟩ | exact ⟨rfl, ⟨_, false, nR_v, by rw [c38, c47, c162]; rfl, fun _ => rfl⟩, rfl⟩)
      · refine qx_iconst (v := b2i true) d_Ma_combine_165 rfl ?_
        refine qx_goto (t := 170) d_Ma_combine_166 rfl ?_
        refine qx_zast d_Ma_combine_170 rfl rfl rfl rfl (by omega) rfl ?_
        first
          | refine qx_eq (h1 := nR h vs (va_up ns i true)) rfl rfl rfl nR_n.symm ?_
          | refine qx_eq (h1 := nR h vs (va_up ns i false)) rfl rfl rfl nR_n.symm ?_
        refine qx_aload_n d_Ma_combine_171 rfl rfl ?_
        refine qx_getR d_Ma_combine_172 fR_Ma_19 rfl rfl (congrFun hM 2) ?_
        refine qx_iload_n d_Ma_combine_175 rfl rfl ?_
        refine qx_aload_n d_Ma_combine_176 rfl rfl ?_
        refine qx_getR d_Ma_combine_177 fR_Ma_22 rfl rfl (congrFun hM 3) ?_
        refine qx_iload_n d_Ma_combine_180 rfl rfl ?_
        refine qx_zald d_Ma_combine_181 rfl rfl rfl rfl (by omega) (congrArg b2i qus) ?_
        refine qx_if_eqB (t := 189) d_Ma_combine_182 rfl (fun c182 => ?_) (fun c182 => ?_)
        · refine qx_iload_n d_Ma_combine_189 rfl rfl ?_
          refine qx_aload_n d_Ma_combine_190 rfl rfl ?_
          refine qx_getR d_Ma_combine_191 fR_Ma_19 rfl rfl (congrFun hM 2) ?_
          refine qx_iload_n d_Ma_combine_194 rfl rfl ?_
          refine qx_lald d_Ma_combine_195 rfl rfl rfl rfl (by omega) (show _ = vs i from rfl) ?_
          refine qx_aload_n d_Ma_combine_196 rfl rfl ?_
          refine qx_getR d_Ma_combine_197 fR_Ma_19 rfl rfl (congrFun hM 2) ?_
          refine qx_iload_n d_Ma_combine_200 rfl rfl ?_
          refine qx_lald d_Ma_combine_201 rfl rfl rfl rfl (by omega) (show _ = vs (i + 1) from rfl) ?_
          refine qx_callS (As := [_, _, _]) (rest := _) d_Ma_combine_202 lk_Ma_64 y_Ma_calculate s_Ma_calculate rfl rfl rfl rfl (by decide) (by decide) (ct_Ma_calculate_1 _ _) ?_
          rintro _ _ _ ⟨rfl, rfl, rfl⟩
          refine qx_last d_Ma_combine_205 rfl rfl rfl rfl (by omega) ?_
          exact qx_ret d_Ma_combine_206 rfl (by omega) (by omega) (by first | exact absurd c182 (by decide) | (rw [nR_n]; exact ⟨rfl, ⟨vs i, true, by rw [qv_self], by rw [c38]; rfl, fun e => absurd e (by decide)⟩, rfl⟩) | (rw [nR_n]; exact ⟨rfl, ⟨vs i, true, by rw [qv_self], by rw [c38, c47]; rfl, fun e => absurd e (by decide)⟩, rfl⟩) | exact ⟨rfl, ⟨_, true, nR_v, by rw [c38, c47, c162]; rfl, fun e => absurd e (by decide)⟩, rfl⟩ | exact ⟨rfl, ⟨_, false, nR_v, by rw [c38, c47, c162]; rfl, fun _ => rfl⟩, rfl⟩)
        · refine qx_lconst (v := 0) d_Ma_combine_185 rfl ?_
          refine qx_goto (t := 205) d_Ma_combine_186 rfl ?_
          refine qx_last d_Ma_combine_205 rfl rfl rfl rfl (by omega) ?_
          exact qx_ret d_Ma_combine_206 rfl (by omega) (by omega) (by first | exact absurd c182 (by decide) | (rw [nR_n]; exact ⟨rfl, ⟨vs i, true, by rw [qv_self], by rw [c38]; rfl, fun e => absurd e (by decide)⟩, rfl⟩) | (rw [nR_n]; exact ⟨rfl, ⟨vs i, true, by rw [qv_self], by rw [c38, c47]; rfl, fun e => absurd e (by decide)⟩, rfl⟩) | exact ⟨rfl, ⟨_, true, nR_v, by rw [c38, c47, c162]; rfl, fun e => absurd e (by decide)⟩, rfl⟩ | exact ⟨rfl, ⟨_, false, nR_v, by rw [c38, c47, c162]; rfl, fun _ => rfl⟩, rfl⟩)
    · refine qx_aload_n d_Ma_combine_50 rfl rfl ?_
      refine qx_getR d_Ma_combine_51 fR_Ma_22 rfl rfl (congrFun hM 3) ?_
      refine qx_iload_n d_Ma_combine_54 rfl rfl ?_
      refine qx_iconst (v := b2i true) d_Ma_combine_55 rfl ?_
      refine qx_zast d_Ma_combine_56 rfl rfl rfl rfl (by omega) rfl ?_
      refine qx_goto (t := 206) d_Ma_combine_57 rfl ?_
      exact qx_ret d_Ma_combine_206 rfl (by omega) (by omega) (by first | exact absurd c182 (by decide) | (rw [nR_n]; exact ⟨rfl, ⟨vs i, true, by rw [qv_self], by rw [c38]; rfl, fun e => absurd e (by decide)⟩, rfl⟩) | (rw [nR_n]; exact ⟨rfl, ⟨vs i, true, by rw [qv_self], by rw [c38, c47]; rfl, fun e => absurd e (by decide)⟩, rfl⟩) | exact ⟨rfl, ⟨_, true, nR_v, by rw [c38, c47, c162]; rfl, fun e => absurd e (by decide)⟩, rfl⟩ | exact ⟨rfl, ⟨_, false, nR_v, by rw [c38, c47, c162]; rfl, fun _ => rfl⟩, rfl⟩)
set_option maxRecDepth 100000 in
set_option maxHeartbeats 4000000 in
theorem ct_Ma_combine_2 {h : qH} (hM : h.2.2 59 = qRMa) (vs : Nat → Int64) (ns : Nat → Bool) (i : Nat) (hi : i + 1 < 8) : qT mi_Ma_combine 2 0 0 [.ref 59, .int (nI 2), .int (nI i), .int (nI (i + 1))] (nR h vs ns) NN (fun v1 h1 n1 => v1 = none ∧ (∃ x1 y1, h1 = nR h (va_up vs i x1) (va_up ns i y1) ∧ y1 = ((ns i || ns (i + 1)) || !xLong 2 (vs i) (vs (i + 1))) ∧ (y1 = false → x1 = xCalc 2 (vs i) (vs (i + 1)))) ∧ n1 = NN) := by
  refine qT.of (lv0 := [_, _, _, _, _]) (by decide +kernel) (fun _ _ => Nat.le_of_ble_eq_true rfl) rfl ?_
  refine qx_iload_n d_Ma_combine_0 rfl rfl ?_
  refine qx_bipushN (v := 6) d_Ma_combine_1 rfl ?_
  refine qx_icmp_eqN (t := 12) d_Ma_combine_3 rfl (by omega) (by omega) (fun c3 => absurd c3 (by decide)) (fun c3 => ?_)
  refine qx_iload_n d_Ma_combine_6 rfl rfl ?_
  refine qx_bipushN (v := 7) d_Ma_combine_7 rfl ?_
  refine qx_icmp_neN (t := 32) d_Ma_combine_9 rfl (by omega) (by omega) (fun c9 => ?_) (fun c9 => absurd c9 (by decide))
  refine qx_aload_n d_Ma_combine_32 rfl rfl ?_
  refine qx_getR d_Ma_combine_33 fR_Ma_22 rfl rfl (congrFun hM 3) ?_
  refine qx_iload_n d_Ma_combine_36 rfl rfl ?_
  refine qx_zald d_Ma_combine_37 rfl rfl rfl rfl (by omega) (show _ = b2i (ns i) from rfl) ?_
  refine qx_if_neB (t := 50) d_Ma_combine_38 rfl (fun c38 => ?_) (fun c38 => ?_)
  · refine qx_aload_n d_Ma_combine_50 rfl rfl ?_
    refine qx_getR d_Ma_combine_51 fR_Ma_22 rfl rfl (congrFun hM 3) ?_
    refine qx_iload_n d_Ma_combine_54 rfl rfl ?_
    refine qx_iconst (v := b2i true) d_Ma_combine_55 rfl ?_
    refine qx_zast d_Ma_combine_56 rfl rfl rfl rfl (by omega) rfl ?_
    refine qx_goto (t := 206) d_Ma_combine_57 rfl ?_
    exact qx_ret d_Ma_combine_206 rfl (by omega) (by omega) (by first | exact absurd c182 (by decide) | (rw [nR_n]; exact ⟨rfl, ⟨vs i, true, by rw [qv_self], by rw [c38]; rfl, fun e => absurd e (by decide)⟩, rfl⟩) | (rw [nR_n]; exact ⟨rfl, ⟨vs i, true, by rw [qv_self], by rw [c38, c47]; rfl, fun e => absurd e (by decide)⟩, rfl⟩) | exact ⟨rfl, ⟨_, true, nR_v, by rw [c38, c47, c162]; rfl, fun e => absurd e (by decide)⟩, rfl⟩ | exact ⟨rfl, ⟨_, false, nR_v, by rw [c38, c47, c162]; rfl, fun _ => rfl⟩, rfl⟩)
  · refine qx_aload_n d_Ma_combine_41 rfl rfl ?_
    refine qx_getR d_Ma_combine_42 fR_Ma_22 rfl rfl (congrFun hM 3) ?_
    refine qx_iload_n d_Ma_combine_45 rfl rfl ?_
    refine qx_zald d_Ma_combine_46 rfl rfl rfl rfl (by omega) (show _ = b2i (ns (i + 1)) from rfl) ?_
    refine qx_if_eqB (t := 60) d_Ma_combine_47 rfl (fun c47 => ?_) (fun c47 => ?_)
    · refine qx_iload_n d_Ma_combine_60 rfl rfl ?_
      refine qx_iconstN (v := 4) d_Ma_combine_61 rfl ?_
      refine qx_icmp_eqN (t := 70) d_Ma_combine_62 rfl (by omega) (by omega) (fun c62 => absurd c62 (by decide)) (fun c62 => ?_)
      refine qx_iload_n d_Ma_combine_65 rfl rfl ?_
      refine qx_iconstN (v := 5) d_Ma_combine_66 rfl ?_
      refine qx_icmp_neN (t := 141) d_Ma_combine_67 rfl (by omega) (by omega) (fun c67 => ?_) (fun c67 => absurd c67 (by decide))
      refine qx_aload_n d_Ma_combine_141 rfl rfl ?_
      refine qx_getR d_Ma_combine_142 fR_Ma_22 rfl rfl (congrFun hM 3) ?_
      refine qx_iload_n d_Ma_combine_145 rfl rfl ?_
      refine qx_iload_n d_Ma_combine_146 rfl rfl ?_
      refine qx_aload_n d_Ma_combine_147 rfl rfl ?_
      refine qx_getR d_Ma_combine_148 fR_Ma_19 rfl rfl (congrFun hM 2) ?_
      refine qx_iload_n d_Ma_combine_151 rfl rfl ?_
      refine qx_lald d_Ma_combine_152 rfl rfl rfl rfl (by omega) (show _ = vs i from rfl) ?_
      refine qx_aload_n d_Ma_combine_153 rfl rfl ?_
      refine qx_getR d_Ma_combine_154 fR_Ma_19 rfl rfl (congrFun hM 2) ?_
      refine qx_iload_n d_Ma_combine_157 rfl rfl ?_
      refine qx_lald d_Ma_combine_158 rfl rfl rfl rfl (by omega) (show _ = vs (i + 1) from rfl) ?_
      refine qx_callS (As := [_, _, _]) (rest := _) d_Ma_combine_159 lk_Ma_60 y_Ma_isLong s_Ma_isLong rfl rfl rfl rfl (by decide) (by decide) (ct_Ma_isLong_2 _ _) ?_
      rintro _ _ _ ⟨rfl, rfl, rfl⟩
      refine qx_if_neB (t := 169) d_Ma_combine_162 rfl (fun c162 => ?_) (fun c162 => ?_)
      · refine qx_iconst (v := b2i false) d_Ma_combine_169 rfl ?_
        refine qx_zast d_Ma_combine_170 rfl rfl rfl rfl (by omega) rfl ?_
        first
          | refine qx_eq (h1 := nR h vs (va_up ns i true)) rfl rfl rfl nR_n.symm ?_
          | refine qx_eq (h1 := nR h vs (va_up ns i false)) rfl rfl rfl nR_n.symm ?_
        refine qx_aload_n d_Ma_combine_171 rfl rfl ?_
        refine qx_getR d_Ma_combine_172 fR_Ma_19 rfl rfl (congrFun hM 2) ?_
        refine qx_iload_n d_Ma_combine_175 rfl rfl ?_
        refine qx_aload_n d_Ma_combine_176 rfl rfl ?_
        refine qx_getR d_Ma_combine_177 fR_Ma_22 rfl rfl (congrFun hM 3) ?_
        refine qx_iload_n d_Ma_combine_180 rfl rfl ?_
        refine qx_zald d_Ma_combine_181 rfl rfl rfl rfl (by omega) (congrArg b2i qus) ?_
        refine qx_if_eqB (t := 189) d_Ma_combine_182 rfl (fun c182 => ?_) (fun c182 => ?_)
        · refine qx_iload_n d_Ma_combine_189 rfl rfl ?_
          refine qx_aload_n d_Ma_combine_190 rfl rfl ?_
          refine qx_getR d_Ma_combine_191 fR_Ma_19 rfl rfl (congrFun hM 2) ?_
          refine qx_iload_n d_Ma_combine_194 rfl rfl ?_
          refine qx_lald d_Ma_combine_195 rfl rfl rfl rfl (by omega) (show _ = vs i from rfl) ?_
          refine qx_aload_n d_Ma_combine_196 rfl rfl ?_
          refine qx_getR d_Ma_combine_197 fR_Ma_19 rfl rfl (congrFun hM 2) ?_
          refine qx_iload_n d_Ma_combine_200 rfl rfl ?_
          refine qx_lald d_Ma_combine_201 rfl rfl rfl rfl (by omega) (show _ = vs (i + 1) from rfl) ?_
          refine qx_callS (As := [_, _, _]) (rest := _) d_Ma_combine_202 lk_Ma_64 y_Ma_calculate s_Ma_calculate rfl rfl rfl rfl (by decide) (by decide) (ct_Ma_calculate_2 _ _) ?_
          rintro _ _ _ ⟨rfl, rfl, rfl⟩
          refine qx_last d_Ma_combine_205 rfl rfl rfl rfl (by omega) ?_
          exact qx_ret d_Ma_combine_206 rfl (by omega) (by omega) (by first | exact absurd c182 (by decide) | (rw [nR_n]; exact ⟨rfl, ⟨vs i, true, by rw [qv_self], by rw [c38]; rfl, fun e => absurd e (by decide)⟩, rfl⟩) | (rw [nR_n]; exact ⟨rfl, ⟨vs i, true, by rw [qv_self], by rw [c38, c47]; rfl, fun e => absurd e (by decide)⟩, rfl⟩) | exact ⟨rfl, ⟨_, true, nR_v, by rw [c38, c47, c162]; rfl, fun e => absurd e (by decide)⟩, rfl⟩ | exact ⟨rfl, ⟨_, false, nR_v, by rw [c38, c47, c162]; rfl, fun _ => rfl⟩, rfl⟩)
        · refine qx_lconst (v := 0) d_Ma_combine_185 rfl ?_
          refine qx_goto (t := 205) d_Ma_combine_186 rfl ?_
          refine qx_last d_Ma_combine_205 rfl rfl rfl rfl (by omega) ?_
          exact qx_ret d_Ma_combine_206 rfl (by omega) (by omega) (by first | exact absurd c182 (by decide) | (rw [nR_n]; exact ⟨rfl, ⟨vs i, true, by rw [qv_self], by rw [c38]; rfl, fun e => absurd e (by decide)⟩, rfl⟩) | (rw [nR_n]; exact ⟨rfl, ⟨vs i, true, by rw [qv_self], by rw [c38, c47]; rfl, fun e => absurd e (by decide)⟩, rfl⟩) | exact ⟨rfl, ⟨_, true, nR_v, by rw [c38, c47, c162]; rfl, fun e => absurd e (by decide)⟩, rfl⟩ | exact ⟨rfl, ⟨_, false, nR_v, by rw [c38, c47, c162]; rfl, fun _ => rfl⟩, rfl⟩)
      · refine qx_iconst (v := b2i true) d_Ma_combine_165 rfl ?_
        refine qx_goto (t := 170) d_Ma_combine_166 rfl ?_
        refine qx_zast d_Ma_combine_170 rfl rfl rfl rfl (by omega) rfl ?_
        first
          | refine qx_eq (h1 := nR h vs (va_up ns i true)) rfl rfl rfl nR_n.symm ?_
          | refine qx_eq (h1 := nR h vs (va_up ns i false)) rfl rfl rfl nR_n.symm ?_
        refine qx_aload_n d_Ma_combine_171 rfl rfl ?_
        refine qx_getR d_Ma_combine_172 fR_Ma_19 rfl rfl (congrFun hM 2) ?_
        refine qx_iload_n d_Ma_combine_175 rfl rfl ?_
        refine qx_aload_n d_Ma_combine_176 rfl rfl ?_
        refine qx_getR d_Ma_combine_177 fR_Ma_22 rfl rfl (congrFun hM 3) ?_
        refine qx_iload_n d_Ma_combine_180 rfl rfl ?_
        refine qx_zald d_Ma_combine_181 rfl rfl rfl rfl (by omega) (congrArg b2i qus) ?_
        refine qx_if_eqB (t := 189) d_Ma_combine_182 rfl (fun c182 => ?_) (fun c182 => ?_)
        · refine qx_iload_n d_Ma_combine_189 rfl rfl ?_
          refine qx_aload_n d_Ma_combine_190 rfl rfl ?_
          refine qx_getR d_Ma_combine_191 fR_Ma_19 rfl rfl (congrFun hM 2) ?_
          refine qx_iload_n d_Ma_combine_194 rfl rfl ?_
          refine qx_lald d_Ma_combine_195 rfl rfl rfl rfl (by omega) (show _ = vs i from rfl) ?_
          refine qx_aload_n d_Ma_combine_196 rfl rfl ?_
          refine qx_getR d_Ma_combine_197 fR_Ma_19 rfl rfl (congrFun hM 2) ?_
          refine qx_iload_n d_Ma_combine_200 rfl rfl ?_
          refine qx_lald d_Ma_combine_201 rfl rfl rfl rfl (by omega) (show _ = vs (i + 1) from rfl) ?_
          refine qx_callS (As := [_, _, _]) (rest := _) d_Ma_combine_202 lk_Ma_64 y_Ma_calculate s_Ma_calculate rfl rfl rfl rfl (by decide) (by decide) (ct_Ma_calculate_2 _ _) ?_
          rintro _ _ _ ⟨rfl, rfl, rfl⟩
          refine qx_last d_Ma_combine_205 rfl rfl rfl rfl (by omega) ?_
          exact qx_ret d_Ma_combine_206 rfl (by omega) (by omega) (by first | exact absurd c182 (by decide) | (rw [nR_n]; exact ⟨rfl, ⟨vs i, true, by rw [qv_self], by rw [c38]; rfl, fun e => absurd e (by decide)⟩, rfl⟩) | (rw [nR_n]; exact ⟨rfl, ⟨vs i, true, by rw [qv_self], by rw [c38, c47]; rfl, fun e => absurd e (by decide)⟩, rfl⟩) | exact ⟨rfl, ⟨_, true, nR_v, by rw [c38, c47, c162]; rfl, fun e => absurd e (by decide)⟩, rfl⟩ | exact ⟨rfl, ⟨_, false, nR_v, by rw [c38, c47, c162]; rfl, fun _ => rfl⟩, rfl⟩)
        · refine qx_lconst (v := 0) d_Ma_combine_185 rfl ?_
          refine qx_goto (t := 205) d_Ma_combine_186 rfl ?_
          refine qx_last d_Ma_combine_205 rfl rfl rfl rfl (by omega) ?_
          exact qx_ret d_Ma_combine_206 rfl (by omega) (by omega) (by first | exact absurd c182 (by decide) | (rw [nR_n]; exact ⟨rfl, ⟨vs i, true, by rw [qv_self], by rw [c38]; rfl, fun e => absurd e (by decide)⟩, rfl⟩) | (rw [nR_n]; exact ⟨rfl, ⟨vs i, true, by rw [qv_self], by rw [c38, c47]; rfl, fun e => absurd e (by decide)⟩, rfl⟩) | exact ⟨rfl, ⟨_, true, nR_v, by rw [c38, c47, c162]; rfl, fun e => absurd e (by decide)⟩, rfl⟩ | exact ⟨rfl, ⟨_, false, nR_v, by rw [c38, c47, c162]; rfl, fun _ => rfl⟩, rfl⟩)
    · refine qx_aload_n d_Ma_combine_50 rfl rfl ?_
      refine qx_getR d_Ma_combine_51 fR_Ma_22 rfl rfl (congrFun hM 3) ?_
      refine qx_iload_n d_Ma_combine_54 rfl rfl ?_
      refine qx_iconst (v := b2i true) d_Ma_combine_55 rfl ?_
      refine qx_zast d_Ma_combine_56 rfl rfl rfl rfl (by omega) rfl ?_
      refine qx_goto (t := 206) d_Ma_combine_57 rfl ?_
      exact qx_ret d_Ma_combine_206 rfl (by omega) (by omega) (by first | exact absurd c182 (by decide) | (rw [nR_n]; exact ⟨rfl, ⟨vs i, true, by rw [qv_self], by rw [c38]; rfl, fun e => absurd e (by decide)⟩, rfl⟩) | (rw [nR_n]; exact ⟨rfl, ⟨vs i, true, by rw [qv_self], by rw [c38, c47]; rfl, fun e => absurd e (by decide)⟩, rfl⟩) | exact ⟨rfl, ⟨_, true, nR_v, by rw [c38, c47, c162]; rfl, fun e => absurd e (by decide)⟩, rfl⟩ | exact ⟨rfl, ⟨_, false, nR_v, by rw [c38, c47, c162]; rfl, fun _ => rfl⟩, rfl⟩)
set_option maxRecDepth 100000 in
set_option maxHeartbeats 4000000 in
theorem ct_Ma_combine_3 {h : qH} (hM : h.2.2 59 = qRMa) (vs : Nat → Int64) (ns : Nat → Bool) (i : Nat) (hi : i + 1 < 8) : qT mi_Ma_combine 2 0 0 [.ref 59, .int (nI 3), .int (nI i), .int (nI (i + 1))] (nR h vs ns) NN (fun v1 h1 n1 => v1 = none ∧ (∃ x1 y1, h1 = nR h (va_up vs i x1) (va_up ns i y1) ∧ y1 = ((ns i || ns (i + 1)) || !xLong 3 (vs i) (vs (i + 1))) ∧ (y1 = false → x1 = xCalc 3 (vs i) (vs (i + 1)))) ∧ n1 = NN) := by
  refine qT.of (lv0 := [_, _, _, _, _]) (by decide +kernel) (fun _ _ => Nat.le_of_ble_eq_true rfl) rfl ?_
  refine qx_iload_n d_Ma_combine_0 rfl rfl ?_
  refine qx_bipushN (v := 6) d_Ma_combine_1 rfl ?_
  refine qx_icmp_eqN (t := 12) d_Ma_combine_3 rfl (by omega) (by omega) (fun c3 => absurd c3 (by decide)) (fun c3 => ?_)
  refine qx_iload_n d_Ma_combine_6 rfl rfl ?_
  refine qx_bipushN (v := 7) d_Ma_combine_7 rfl ?_
  refine qx_icmp_neN (t := 32) d_Ma_combine_9 rfl (by omega) (by omega) (fun c9 => ?_) (fun c9 => absurd c9 (by decide))
  refine qx_aload_n d_Ma_combine_32 rfl rfl ?_
  refine qx_getR d_Ma_combine_33 fR_Ma_22 rfl rfl (congrFun hM 3) ?_
  refine qx_iload_n d_Ma_combine_36 rfl rfl ?_
  refine qx_zald d_Ma_combine_37 rfl rfl rfl rfl (by omega) (show _ = b2i (ns i) from rfl) ?_
  refine qx_if_neB (t := 50) d_Ma_combine_38 rfl (fun c38 => ?_) (fun c38 => ?_)
  · refine qx_aload_n d_Ma_combine_50 rfl rfl ?_
    refine qx_getR d_Ma_combine_51 fR_Ma_22 rfl rfl (congrFun hM 3) ?_
    refine qx_iload_n d_Ma_combine_54 rfl rfl ?_
    refine qx_iconst (v := b2i true) d_Ma_combine_55 rfl ?_
    refine qx_zast d_Ma_combine_56 rfl rfl rfl rfl (by omega) rfl ?_
    refine qx_goto (t := 206) d_Ma_combine_57 rfl ?_
    exact qx_ret d_Ma_combine_206 rfl (by omega) (by omega) (by first | exact absurd c182 (by decide) | (rw [nR_n]; exact ⟨rfl, ⟨vs i, true, by rw [qv_self], by rw [c38]; rfl, fun e => absurd e (by decide)⟩, rfl⟩) | (rw [nR_n]; exact ⟨rfl, ⟨vs i, true, by rw [qv_self], by rw [c38, c47]; rfl, fun e => absurd e (by decide)⟩, rfl⟩) | exact ⟨rfl, ⟨_, true, nR_v, by rw [c38, c47, c162]; rfl, fun e => absurd e (by decide)⟩, rfl⟩ | exact ⟨rfl, ⟨_, false, nR_v, by rw [c38, c47, c162]; rfl, fun _ => rfl⟩, rfl⟩)
  · refine qx_aload_n d_Ma_combine_41 rfl rfl ?_
    refine qx_getR d_Ma_combine_42 fR_Ma_22 rfl rfl (congrFun hM 3) ?_
    refine qx_iload_n d_Ma_combine_45 rfl rfl ?_
    refine qx_zald d_Ma_combine_46 rfl rfl rfl rfl (by omega) (show _ = b2i (ns (i + 1)) from rfl) ?_
    refine qx_if_eqB (t := 60) d_Ma_combine_47 rfl (fun c47 => ?_) (fun c47 => ?_)
    · refine qx_iload_n d_Ma_combine_60 rfl rfl ?_
      refine qx_iconstN (v := 4) d_Ma_combine_61 rfl ?_
      refine qx_icmp_eqN (t := 70) d_Ma_combine_62 rfl (by omega) (by omega) (fun c62 => absurd c62 (by decide)) (fun c62 => ?_)
      refine qx_iload_n d_Ma_combine_65 rfl rfl ?_
      refine qx_iconstN (v := 5) d_Ma_combine_66 rfl ?_
      refine qx_icmp_neN (t := 141) d_Ma_combine_67 rfl (by omega) (by omega) (fun c67 => ?_) (fun c67 => absurd c67 (by decide))
      refine qx_aload_n d_Ma_combine_141 rfl rfl ?_
      refine qx_getR d_Ma_combine_142 fR_Ma_22 rfl rfl (congrFun hM 3) ?_
      refine qx_iload_n d_Ma_combine_145 rfl rfl ?_
      refine qx_iload_n d_Ma_combine_146 rfl rfl ?_
      refine qx_aload_n d_Ma_combine_147 rfl rfl ?_
      refine qx_getR d_Ma_combine_148 fR_Ma_19 rfl rfl (congrFun hM 2) ?_
      refine qx_iload_n d_Ma_combine_151 rfl rfl ?_
      refine qx_lald d_Ma_combine_152 rfl rfl rfl rfl (by omega) (show _ = vs i from rfl) ?_
      refine qx_aload_n d_Ma_combine_153 rfl rfl ?_
      refine qx_getR d_Ma_combine_154 fR_Ma_19 rfl rfl (congrFun hM 2) ?_
      refine qx_iload_n d_Ma_combine_157 rfl rfl ?_
      refine qx_lald d_Ma_combine_158 rfl rfl rfl rfl (by omega) (show _ = vs (i + 1) from rfl) ?_
      refine qx_callS (As := [_, _, _]) (rest := _) d_Ma_combine_159 lk_Ma_60 y_Ma_isLong s_Ma_isLong rfl rfl rfl rfl (by decide) (by decide) (ct_Ma_isLong_3 _ _) ?_
      rintro _ _ _ ⟨rfl, rfl, rfl⟩
      refine qx_if_neB (t := 169) d_Ma_combine_162 rfl (fun c162 => ?_) (fun c162 => ?_)
      · refine qx_iconst (v := b2i false) d_Ma_combine_169 rfl ?_
        refine qx_zast d_Ma_combine_170 rfl rfl rfl rfl (by omega) rfl ?_
        first
          | refine qx_eq (h1 := nR h vs (va_up ns i true)) rfl rfl rfl nR_n.symm ?_
          | refine qx_eq (h1 := nR h vs (va_up ns i false)) rfl rfl rfl nR_n.symm ?_
        refine qx_aload_n d_Ma_combine_171 rfl rfl ?_
        refine qx_getR d_Ma_combine_172 fR_Ma_19 rfl rfl (congrFun hM 2) ?_
        refine qx_iload_n d_Ma_combine_175 rfl rfl ?_
        refine qx_aload_n d_Ma_combine_176 rfl rfl ?_
        refine qx_getR d_Ma_combine_177 fR_Ma_22 rfl rfl (congrFun hM 3) ?_
        refine qx_iload_n d_Ma_combine_180 rfl rfl ?_
        refine qx_zald d_Ma_combine_181 rfl rfl rfl rfl (by omega) (congrArg b2i qus) ?_
        refine qx_if_eqB (t := 189) d_Ma_combine_182 rfl (fun c182 => ?_) (fun c182 => ?_)
        · refine qx_iload_n d_Ma_combine_189 rfl rfl ?_
          refine qx_aload_n d_Ma_combine_190 rfl rfl ?_
          refine qx_getR d_Ma_combine_191 fR_Ma_19 rfl rfl (congrFun hM 2) ?_
          refine qx_iload_n d_Ma_combine_194 rfl rfl ?_
          refine qx_lald d_Ma_combine_195 rfl rfl rfl rfl (by omega) (show _ = vs i from rfl) ?_
          refine qx_aload_n d_Ma_combine_196 rfl rfl ?_
          refine qx_getR d_Ma_combine_197 fR_Ma_19 rfl rfl (congrFun hM 2) ?_
          refine qx_iload_n d_Ma_combine_200 rfl rfl ?_
          refine qx_lald d_Ma_combine_201 rfl rfl rfl rfl (by omega) (show _ = vs (i + 1) from rfl) ?_
          refine qx_callS (As := [_, _, _]) (rest := _) d_Ma_combine_202 lk_Ma_64 y_Ma_calculate s_Ma_calculate rfl rfl rfl rfl (by decide) (by decide) (ct_Ma_calculate_3 _ _ (fun e => by first | exact absurd c182 (by decide) | (rw [e] at c162; revert c162; simp [xLong]))) ?_
          rintro _ _ _ ⟨rfl, rfl, rfl⟩
          refine qx_last d_Ma_combine_205 rfl rfl rfl rfl (by omega) ?_
          exact qx_ret d_Ma_combine_206 rfl (by omega) (by omega) (by first | exact absurd c182 (by decide) | (rw [nR_n]; exact ⟨rfl, ⟨vs i, true, by rw [qv_self], by rw [c38]; rfl, fun e => absurd e (by decide)⟩, rfl⟩) | (rw [nR_n]; exact ⟨rfl, ⟨vs i, true, by rw [qv_self], by rw [c38, c47]; rfl, fun e => absurd e (by decide)⟩, rfl⟩) | exact ⟨rfl, ⟨_, true, nR_v, by rw [c38, c47, c162]; rfl, fun e => absurd e (by decide)⟩, rfl⟩ | exact ⟨rfl, ⟨_, false, nR_v, by rw [c38, c47, c162]; rfl, fun _ => rfl⟩, rfl⟩)
        · refine qx_lconst (v := 0) d_Ma_combine_185 rfl ?_
          refine qx_goto (t := 205) d_Ma_combine_186 rfl ?_
          refine qx_last d_Ma_combine_205 rfl rfl rfl rfl (by omega) ?_
          exact qx_ret d_Ma_combine_206 rfl (by omega) (by omega) (by first | exact absurd c182 (by decide) | (rw [nR_n]; exact ⟨rfl, ⟨vs i, true, by rw [qv_self], by rw [c38]; rfl, fun e => absurd e (by decide)⟩, rfl⟩) | (rw [nR_n]; exact ⟨rfl, ⟨vs i, true, by rw [qv_self], by rw [c38, c47]; rfl, fun e => absurd e (by decide)⟩, rfl⟩) | exact ⟨rfl, ⟨_, true, nR_v, by rw [c38, c47, c162]; rfl, fun e => absurd e (by decide)⟩, rfl⟩ | exact ⟨rfl, ⟨_, false, nR_v, by rw [c38, c47, c162]; rfl, fun _ => rfl⟩, rfl⟩)
      · refine qx_iconst (v := b2i true) d_Ma_combine_165 rfl ?_
        refine qx_goto (t := 170) d_Ma_combine_166 rfl ?_
        refine qx_zast d_Ma_combine_170 rfl rfl rfl rfl (by omega) rfl ?_
        first
          | refine qx_eq (h1 := nR h vs (va_up ns i true)) rfl rfl rfl nR_n.symm ?_
          | refine qx_eq (h1 := nR h vs (va_up ns i false)) rfl rfl rfl nR_n.symm ?_
        refine qx_aload_n d_Ma_combine_171 rfl rfl ?_
        refine qx_getR d_Ma_combine_172 fR_Ma_19 rfl rfl (congrFun hM 2) ?_
        refine qx_iload_n d_Ma_combine_175 rfl rfl ?_
        refine qx_aload_n d_Ma_combine_176 rfl rfl ?_
        refine qx_getR d_Ma_combine_177 fR_Ma_22 rfl rfl (congrFun hM 3) ?_
        refine qx_iload_n d_Ma_combine_180 rfl rfl ?_
        refine qx_zald d_Ma_combine_181 rfl rfl rfl rfl (by omega) (congrArg b2i qus) ?_
        refine qx_if_eqB (t := 189) d_Ma_combine_182 rfl (fun c182 => ?_) (fun c182 => ?_)
        · refine qx_iload_n d_Ma_combine_189 rfl rfl ?_
          refine qx_aload_n d_Ma_combine_190 rfl rfl ?_
          refine qx_getR d_Ma_combine_191 fR_Ma_19 rfl rfl (congrFun hM 2) ?_
          refine qx_iload_n d_Ma_combine_194 rfl rfl ?_
          refine qx_lald d_Ma_combine_195 rfl rfl rfl rfl (by omega) (show _ = vs i from rfl) ?_
          refine qx_aload_n d_Ma_combine_196 rfl rfl ?_
          refine qx_getR d_Ma_combine_197 fR_Ma_19 rfl rfl (congrFun hM 2) ?_
          refine qx_iload_n d_Ma_combine_200 rfl rfl ?_
          refine qx_lald d_Ma_combine_201 rfl rfl rfl rfl (by omega) (show _ = vs (i + 1) from rfl) ?_
          refine qx_callS (As := [_, _, _]) (rest := _) d_Ma_combine_202 lk_Ma_64 y_Ma_calculate s_Ma_calculate rfl rfl rfl rfl (by decide) (by decide) (ct_Ma_calculate_3 _ _ (fun e => by first | exact absurd c182 (by decide) | (rw [e] at c162; revert c162; simp [xLong]))) ?_
          rintro _ _ _ ⟨rfl, rfl, rfl⟩
          refine qx_last d_Ma_combine_205 rfl rfl rfl rfl (by omega) ?_
          exact qx_ret d_Ma_combine_206 rfl (by omega) (by omega) (by first | exact absurd c182 (by decide) | (rw [nR_n]; exact ⟨rfl, ⟨vs i, true, by rw [qv_self], by rw [c38]; rfl, fun e => absurd e (by decide)⟩, rfl⟩) | (rw [nR_n]; exact ⟨rfl, ⟨vs i, true, by rw [qv_self], by rw [c38, c47]; rfl, fun e => absurd e (by decide)⟩, rfl⟩) | exact ⟨rfl, ⟨_, true, nR_v, by rw [c38, c47, c162]; rfl, fun e => absurd e (by decide)⟩, rfl⟩ | exact ⟨rfl, ⟨_, false, nR_v, by rw [c38, c47, c162]; rfl, fun _ => rfl⟩, rfl⟩)
        · refine qx_lconst (v := 0) d_Ma_combine_185 rfl ?_
          refine qx_goto (t := 205) d_Ma_combine_186 rfl ?_
          refine qx_last d_Ma_combine_205 rfl rfl rfl rfl (by omega) ?_
          exact qx_ret d_Ma_combine_206 rfl (by omega) (by omega) (by first | exact absurd c182 (by decide) | (rw [nR_n]; exact ⟨rfl, ⟨vs i, true, by rw [qv_self], by rw [c38]; rfl, fun e => absurd e (by decide)⟩, rfl⟩) | (rw [nR_n]; exact ⟨rfl, ⟨vs i, true, by rw [qv_self], by rw [c38, c47]; rfl, fun e => absurd e (by decide)⟩, rfl⟩) | exact ⟨rfl, ⟨_, true, nR_v, by rw [c38, c47, c162]; rfl, fun e => absurd e (by decide)⟩, rfl⟩ | exact ⟨rfl, ⟨_, false, nR_v, by rw [c38, c47, c162]; rfl, fun _ => rfl⟩, rfl⟩)
    · refine qx_aload_n d_Ma_combine_50 rfl rfl ?_
      refine qx_getR d_Ma_combine_51 fR_Ma_22 rfl rfl (congrFun hM 3) ?_
      refine qx_iload_n d_Ma_combine_54 rfl rfl ?_
      refine qx_iconst (v := b2i true) d_Ma_combine_55 rfl ?_
      refine qx_zast d_Ma_combine_56 rfl rfl rfl rfl (by omega) rfl ?_
      refine qx_goto (t := 206) d_Ma_combine_57 rfl ?_
      exact qx_ret d_Ma_combine_206 rfl (by omega) (by omega) (by first | exact absurd c182 (by decide) | (rw [nR_n]; exact ⟨rfl, ⟨vs i, true, by rw [qv_self], by rw [c38]; rfl, fun e => absurd e (by decide)⟩, rfl⟩) | (rw [nR_n]; exact ⟨rfl, ⟨vs i, true, by rw [qv_self], by rw [c38, c47]; rfl, fun e => absurd e (by decide)⟩, rfl⟩) | exact ⟨rfl, ⟨_, true, nR_v, by rw [c38, c47, c162]; rfl, fun e => absurd e (by decide)⟩, rfl⟩ | exact ⟨rfl, ⟨_, false, nR_v, by rw [c38, c47, c162]; rfl, fun _ => rfl⟩, rfl⟩)
set_option maxRecDepth 100000 in
set_option maxHeartbeats 4000000 in
theorem ct_Ma_combine_4 {h : qH} (hM : h.2.2 59 = qRMa) (vs : Nat → Int64) (ns : Nat → Bool) (i : Nat) (hi : i + 1 < 8) : qT mi_Ma_combine 2 0 0 [.ref 59, .int (nI 4), .int (nI i), .int (nI (i + 1))] (nR h vs ns) NN (fun v1 h1 n1 => v1 = none ∧ (∃ x1 y1, h1 = nR h (va_up vs i x1) (va_up ns i y1) ∧ y1 = (ns i || ns (i + 1)) ∧ (y1 = false → x1 = if vs i = vs (i + 1) then 1 else 0)) ∧ n1 = NN) := by
  refine qT.of (lv0 := [_, _, _, _, _]) (by decide +kernel) (fun _ _ => Nat.le_of_ble_eq_true rfl) rfl ?_
  refine qx_iload_n d_Ma_combine_0 rfl rfl ?_
  refine qx_bipushN (v := 6) d_Ma_combine_1 rfl ?_
  refine qx_icmp_eqN (t := 12) d_Ma_combine_3 rfl (by omega) (by omega) (fun c3 => absurd c3 (by decide)) (fun c3 => ?_)
  refine qx_iload_n d_Ma_combine_6 rfl rfl ?_
  refine qx_bipushN (v := 7) d_Ma_combine_7 rfl ?_
  refine qx_icmp_neN (t := 32) d_Ma_combine_9 rfl (by omega) (by omega) (fun c9 => ?_) (fun c9 => absurd c9 (by decide))
  refine qx_aload_n d_Ma_combine_32 rfl rfl ?_
  refine qx_getR d_Ma_combine_33 fR_Ma_22 rfl rfl (congrFun hM 3) ?_
  refine qx_iload_n d_Ma_combine_36 rfl rfl ?_
  refine qx_zald d_Ma_combine_37 rfl rfl rfl rfl (by omega) (show _ = b2i (ns i) from rfl) ?_
  refine qx_if_neB (t := 50) d_Ma_combine_38 rfl (fun c38 => ?_) (fun c38 => ?_)
  · refine qx_aload_n d_Ma_combine_50 rfl rfl ?_
    refine qx_getR d_Ma_combine_51 fR_Ma_22 rfl rfl (congrFun hM 3) ?_
    refine qx_iload_n d_Ma_combine_54 rfl rfl ?_
    refine qx_iconst (v := b2i true) d_Ma_combine_55 rfl ?_
    refine qx_zast d_Ma_combine_56 rfl rfl rfl rfl (by omega) rfl ?_
    refine qx_goto (t := 206) d_Ma_combine_57 rfl ?_
    exact qx_ret d_Ma_combine_206 rfl (by omega) (by omega) (by first | exact absurd c129 (by decide) | (rw [nR_n]; exact ⟨rfl, ⟨vs i, true, by rw [qv_self], by rw [c38]; rfl, fun e => absurd e (by decide)⟩, rfl⟩) | (rw [nR_n]; exact ⟨rfl, ⟨vs i, true, by rw [qv_self], by rw [c38, c47]; rfl, fun e => absurd e (by decide)⟩, rfl⟩) | exact ⟨rfl, ⟨_, false, nR_s c38, by rw [c38, c47]; rfl, fun _ => by rw [if_pos c88]⟩, rfl⟩ | exact ⟨rfl, ⟨_, false, nR_s c38, by rw [c38, c47]; rfl, fun _ => by rw [if_neg c88]⟩, rfl⟩)
  · refine qx_aload_n d_Ma_combine_41 rfl rfl ?_
    refine qx_getR d_Ma_combine_42 fR_Ma_22 rfl rfl (congrFun hM 3) ?_
    refine qx_iload_n d_Ma_combine_45 rfl rfl ?_
    refine qx_zald d_Ma_combine_46 rfl rfl rfl rfl (by omega) (show _ = b2i (ns (i + 1)) from rfl) ?_
    refine qx_if_eqB (t := 60) d_Ma_combine_47 rfl (fun c47 => ?_) (fun c47 => ?_)
    · refine qx_iload_n d_Ma_combine_60 rfl rfl ?_
      refine qx_iconstN (v := 4) d_Ma_combine_61 rfl ?_
      refine qx_icmp_eqN (t := 70) d_Ma_combine_62 rfl (by omega) (by omega) (fun c62 => ?_) (fun c62 => absurd rfl c62)
      refine qx_iload_n d_Ma_combine_70 rfl rfl ?_
      refine qx_iconstN (v := 4) d_Ma_combine_71 rfl ?_
      refine qx_icmp_neN (t := 99) d_Ma_combine_72 rfl (by omega) (by omega) (fun c72 => absurd rfl c72) (fun c72 => ?_)
      refine qx_aload_n d_Ma_combine_75 rfl rfl ?_
      refine qx_getR d_Ma_combine_76 fR_Ma_19 rfl rfl (congrFun hM 2) ?_
      refine qx_iload_n d_Ma_combine_79 rfl rfl ?_
      refine qx_lald d_Ma_combine_80 rfl rfl rfl rfl (by omega) (show _ = vs i from rfl) ?_
      refine qx_aload_n d_Ma_combine_81 rfl rfl ?_
      refine qx_getR d_Ma_combine_82 fR_Ma_19 rfl rfl (congrFun hM 2) ?_
      refine qx_iload_n d_Ma_combine_85 rfl rfl ?_
      refine qx_lald d_Ma_combine_86 rfl rfl rfl rfl (by omega) (show _ = vs (i + 1) from rfl) ?_
      refine qx_lcmp d_Ma_combine_87 ?_
      refine qx_if_neC (t := 95) d_Ma_combine_88 rfl (fun c88 => ?_) (fun c88 => ?_)
      · refine qx_iconst (v := b2i false) d_Ma_combine_95 rfl ?_
        refine qx_goto (t := 120) d_Ma_combine_96 rfl ?_
        refine qx_istore (lv1 := [_, _, _, _, _]) d_Ma_combine_120 (by decide) rfl ?_
        refine qx_aload_n d_Ma_combine_122 rfl rfl ?_
        refine qx_getR d_Ma_combine_123 fR_Ma_19 rfl rfl (congrFun hM 2) ?_
        refine qx_iload_n d_Ma_combine_126 rfl rfl ?_
        refine qx_iload d_Ma_combine_127 rfl ?_
        refine qx_if_eqB (t := 136) d_Ma_combine_129 rfl (fun c129 => ?_) (fun c129 => ?_)
        · refine qx_lconst (v := 0) d_Ma_combine_136 rfl ?_
          refine qx_last d_Ma_combine_137 rfl rfl rfl rfl (by omega) ?_
          refine qx_goto (t := 206) d_Ma_combine_138 rfl ?_
          exact qx_ret d_Ma_combine_206 rfl (by omega) (by omega) (by first | exact absurd c129 (by decide) | (rw [nR_n]; exact ⟨rfl, ⟨vs i, true, by rw [qv_self], by rw [c38]; rfl, fun e => absurd e (by decide)⟩, rfl⟩) | (rw [nR_n]; exact ⟨rfl, ⟨vs i, true, by rw [qv_self], by rw [c38, c47]; rfl, fun e => absurd e (by decide)⟩, rfl⟩) | exact ⟨rfl, ⟨_, false, nR_s c38, by rw [c38, c47]; rfl, fun _ => by rw [if_pos c88]⟩, rfl⟩ | exact ⟨rfl, ⟨_, false, nR_s c38, by rw [c38, c47]; rfl, fun _ => by rw [if_neg c88]⟩, rfl⟩)
        · refine qx_lconst (v := 1) d_Ma_combine_132 rfl ?_
          refine qx_goto (t := 137) d_Ma_combine_133 rfl ?_
          refine qx_last d_Ma_combine_137 rfl rfl rfl rfl (by omega) ?_
          refine qx_goto (t := 206) d_Ma_combine_138 rfl ?_
          exact qx_ret d_Ma_combine_206 rfl (by omega) (by omega) (by first | exact absurd c129 (by decide) | (rw [nR_n]; exact ⟨rfl, ⟨vs i, true, by rw [qv_self], by rw [c38]; rfl, fun e => absurd e (by decide)⟩, rfl⟩) | (rw [nR_n]; exact ⟨rfl, ⟨vs i, true, by rw [qv_self], by rw [c38, c47]; rfl, fun e => absurd e (by decide)⟩, rfl⟩) | exact ⟨rfl, ⟨_, false, nR_s c38, by rw [c38, c47]; rfl, fun _ => by rw [if_pos c88]⟩, rfl⟩ | exact ⟨rfl, ⟨_, false, nR_s c38, by rw [c38, c47]; rfl, fun _ => by rw [if_neg c88]⟩, rfl⟩)
      · refine qx_iconst (v := b2i true) d_Ma_combine_91 rfl ?_
        refine qx_goto (t := 120) d_Ma_combine_92 rfl ?_
        refine qx_istore (lv1 := [_, _, _, _, _]) d_Ma_combine_120 (by decide) rfl ?_
        refine qx_aload_n d_Ma_combine_122 rfl rfl ?_
        refine qx_getR d_Ma_combine_123 fR_Ma_19 rfl rfl (congrFun hM 2) ?_
        refine qx_iload_n d_Ma_combine_126 rfl rfl ?_
        refine qx_iload d_Ma_combine_127 rfl ?_
        refine qx_if_eqB (t := 136) d_Ma_combine_129 rfl (fun c129 => ?_) (fun c129 => ?_)
        · refine qx_lconst (v := 0) d_Ma_combine_136 rfl ?_
          refine qx_last d_Ma_combine_137 rfl rfl rfl rfl (by omega) ?_
          refine qx_goto (t := 206) d_Ma_combine_138 rfl ?_
          exact qx_ret d_Ma_combine_206 rfl (by omega) (by omega) (by first | exact absurd c129 (by decide) | (rw [nR_n]; exact ⟨rfl, ⟨vs i, true, by rw [qv_self], by rw [c38]; rfl, fun e => absurd e (by decide)⟩, rfl⟩) | (rw [nR_n]; exact ⟨rfl, ⟨vs i, true, by rw [qv_self], by rw [c38, c47]; rfl, fun e => absurd e (by decide)⟩, rfl⟩) | exact ⟨rfl, ⟨_, false, nR_s c38, by rw [c38, c47]; rfl, fun _ => by rw [if_pos c88]⟩, rfl⟩ | exact ⟨rfl, ⟨_, false, nR_s c38, by rw [c38, c47]; rfl, fun _ => by rw [if_neg c88]⟩, rfl⟩)
        · refine qx_lconst (v := 1) d_Ma_combine_132 rfl ?_
          refine qx_goto (t := 137) d_Ma_combine_133 rfl ?_
          refine qx_last d_Ma_combine_137 rfl rfl rfl rfl (by omega) ?_
          refine qx_goto (t := 206) d_Ma_combine_138 rfl ?_
          exact qx_ret d_Ma_combine_206 rfl (by omega) (by omega) (by first | exact absurd c129 (by decide) | (rw [nR_n]; exact ⟨rfl, ⟨vs i, true, by rw [qv_self], by rw [c38]; rfl, fun e => absurd e (by decide)⟩, rfl⟩) | (rw [nR_n]; exact ⟨rfl, ⟨vs i, true, by rw [qv_self], by rw [c38, c47]; rfl, fun e => absurd e (by decide)⟩, rfl⟩) | exact ⟨rfl, ⟨_, false, nR_s c38, by rw [c38, c47]; rfl, fun _ => by rw [if_pos c88]⟩, rfl⟩ | exact ⟨rfl, ⟨_, false, nR_s c38, by rw [c38, c47]; rfl, fun _ => by rw [if_neg c88]⟩, rfl⟩)
    · refine qx_aload_n d_Ma_combine_50 rfl rfl ?_
      refine qx_getR d_Ma_combine_51 fR_Ma_22 rfl rfl (congrFun hM 3) ?_
      refine qx_iload_n d_Ma_combine_54 rfl rfl ?_
      refine qx_iconst (v := b2i true) d_Ma_combine_55 rfl ?_
      refine qx_zast d_Ma_combine_56 rfl rfl rfl rfl (by omega) rfl ?_
      refine qx_goto (t := 206) d_Ma_combine_57 rfl ?_
      exact qx_ret d_Ma_combine_206 rfl (by omega) (by omega) (by first | exact absurd c129 (by decide) | (rw [nR_n]; exact ⟨rfl, ⟨vs i, true, by rw [qv_self], by rw [c38]; rfl, fun e => absurd e (by decide)⟩, rfl⟩) | (rw [nR_n]; exact ⟨rfl, ⟨vs i, true, by rw [qv_self], by rw [c38, c47]; rfl, fun e => absurd e (by decide)⟩, rfl⟩) | exact ⟨rfl, ⟨_, false, nR_s c38, by rw [c38, c47]; rfl, fun _ => by rw [if_pos c88]⟩, rfl⟩ | exact ⟨rfl, ⟨_, false, nR_s c38, by rw [c38, c47]; rfl, fun _ => by rw [if_neg c88]⟩, rfl⟩)
set_option maxRecDepth 100000 in
set_option maxHeartbeats 4000000 in
theorem ct_Ma_combine_5 {h : qH} (hM : h.2.2 59 = qRMa) (vs : Nat → Int64) (ns : Nat → Bool) (i : Nat) (hi : i + 1 < 8) : qT mi_Ma_combine 2 0 0 [.ref 59, .int (nI 5), .int (nI i), .int (nI (i + 1))] (nR h vs ns) NN (fun v1 h1 n1 => v1 = none ∧ (∃ x1 y1, h1 = nR h (va_up vs i x1) (va_up ns i y1) ∧ y1 = (ns i || ns (i + 1)) ∧ (y1 = false → x1 = if vs i < vs (i + 1) then 1 else 0)) ∧ n1 = NN) := by
  refine qT.of (lv0 := [_, _, _, _, _]) (by decide +kernel) (fun _ _ => Nat.le_of_ble_eq_true rfl) rfl ?_
  refine qx_iload_n d_Ma_combine_0 rfl rfl ?_
  refine qx_bipushN (v := 6) d_Ma_combine_1 rfl ?_
  refine qx_icmp_eqN (t := 12) d_Ma_combine_3 rfl (by omega) (by omega) (fun c3 => absurd c3 (by decide)) (fun c3 => ?_)
  refine qx_iload_n d_Ma_combine_6 rfl rfl ?_
  refine qx_bipushN (v := 7) d_Ma_combine_7 rfl ?_
  refine qx_icmp_neN (t := 32) d_Ma_combine_9 rfl (by omega) (by omega) (fun c9 => ?_) (fun c9 => absurd c9 (by decide))
  refine qx_aload_n d_Ma_combine_32 rfl rfl ?_
  refine qx_getR d_Ma_combine_33 fR_Ma_22 rfl rfl (congrFun hM 3) ?_
  refine qx_iload_n d_Ma_combine_36 rfl rfl ?_
  refine qx_zald d_Ma_combine_37 rfl rfl rfl rfl (by omega) (show _ = b2i (ns i) from rfl) ?_
  refine qx_if_neB (t := 50) d_Ma_combine_38 rfl (fun c38 => ?_) (fun c38 => ?_)
  · refine qx_aload_n d_Ma_combine_50 rfl rfl ?_
    refine qx_getR d_Ma_combine_51 fR_Ma_22 rfl rfl (congrFun hM 3) ?_
    refine qx_iload_n d_Ma_combine_54 rfl rfl ?_
    refine qx_iconst (v := b2i true) d_Ma_combine_55 rfl ?_
    refine qx_zast d_Ma_combine_56 rfl rfl rfl rfl (by omega) rfl ?_
    refine qx_goto (t := 206) d_Ma_combine_57 rfl ?_
    exact qx_ret d_Ma_combine_206 rfl (by omega) (by omega) (by first | exact absurd c129 (by decide) | (rw [nR_n]; exact ⟨rfl, ⟨vs i, true, by rw [qv_self], by rw [c38]; rfl, fun e => absurd e (by decide)⟩, rfl⟩) | (rw [nR_n]; exact ⟨rfl, ⟨vs i, true, by rw [qv_self], by rw [c38, c47]; rfl, fun e => absurd e (by decide)⟩, rfl⟩) | exact ⟨rfl, ⟨_, false, nR_s c38, by rw [c38, c47]; rfl, fun _ => by rw [if_pos c112]⟩, rfl⟩ | exact ⟨rfl, ⟨_, false, nR_s c38, by rw [c38, c47]; rfl, fun _ => by rw [if_neg (Int64.not_lt.mpr c112)]⟩, rfl⟩)
  · refine qx_aload_n d_Ma_combine_41 rfl rfl ?_
    refine qx_getR d_Ma_combine_42 fR_Ma_22 rfl rfl (congrFun hM 3) ?_
    refine qx_iload_n d_Ma_combine_45 rfl rfl ?_
    refine qx_zald d_Ma_combine_46 rfl rfl rfl rfl (by omega) (show _ = b2i (ns (i + 1)) from rfl) ?_
    refine qx_if_eqB (t := 60) d_Ma_combine_47 rfl (fun c47 => ?_) (fun c47 => ?_)
    · refine qx_iload_n d_Ma_combine_60 rfl rfl ?_
      refine qx_iconstN (v := 4) d_Ma_combine_61 rfl ?_
      refine qx_icmp_eqN (t := 70) d_Ma_combine_62 rfl (by omega) (by omega) (fun c62 => absurd c62 (by decide)) (fun c62 => ?_)
      refine qx_iload_n d_Ma_combine_65 rfl rfl ?_
      refine qx_iconstN (v := 5) d_Ma_combine_66 rfl ?_
      refine qx_icmp_neN (t := 141) d_Ma_combine_67 rfl (by omega) (by omega) (fun c67 => absurd rfl c67) (fun c67 => ?_)
      refine qx_iload_n d_Ma_combine_70 rfl rfl ?_
      refine qx_iconstN (v := 4) d_Ma_combine_71 rfl ?_
      refine qx_icmp_neN (t := 99) d_Ma_combine_72 rfl (by omega) (by omega) (fun c72 => ?_) (fun c72 => absurd c72 (by decide))
      refine qx_aload_n d_Ma_combine_99 rfl rfl ?_
      refine qx_getR d_Ma_combine_100 fR_Ma_19 rfl rfl (congrFun hM 2) ?_
      refine qx_iload_n d_Ma_combine_103 rfl rfl ?_
      refine qx_lald d_Ma_combine_104 rfl rfl rfl rfl (by omega) (show _ = vs i from rfl) ?_
      refine qx_aload_n d_Ma_combine_105 rfl rfl ?_
      refine qx_getR d_Ma_combine_106 fR_Ma_19 rfl rfl (congrFun hM 2) ?_
      refine qx_iload_n d_Ma_combine_109 rfl rfl ?_
      refine qx_lald d_Ma_combine_110 rfl rfl rfl rfl (by omega) (show _ = vs (i + 1) from rfl) ?_
      refine qx_lcmp d_Ma_combine_111 ?_
      refine qx_if_geC (t := 119) d_Ma_combine_112 rfl (fun c112 => ?_) (fun c112 => ?_)
      · refine qx_iconst (v := b2i false) d_Ma_combine_119 rfl ?_
        refine qx_istore (lv1 := [_, _, _, _, _]) d_Ma_combine_120 (by decide) rfl ?_
        refine qx_aload_n d_Ma_combine_122 rfl rfl ?_
        refine qx_getR d_Ma_combine_123 fR_Ma_19 rfl rfl (congrFun hM 2) ?_
        refine qx_iload_n d_Ma_combine_126 rfl rfl ?_
        refine qx_iload d_Ma_combine_127 rfl ?_
        refine qx_if_eqB (t := 136) d_Ma_combine_129 rfl (fun c129 => ?_) (fun c129 => ?_)
        · refine qx_lconst (v := 0) d_Ma_combine_136 rfl ?_
          refine qx_last d_Ma_combine_137 rfl rfl rfl rfl (by omega) ?_
          refine qx_goto (t := 206) d_Ma_combine_138 rfl ?_
          exact qx_ret d_Ma_combine_206 rfl (by omega) (by omega) (by first | exact absurd c129 (by decide) | (rw [nR_n]; exact ⟨rfl, ⟨vs i, true, by rw [qv_self], by rw [c38]; rfl, fun e => absurd e (by decide)⟩, rfl⟩) | (rw [nR_n]; exact ⟨rfl, ⟨vs i, true, by rw [qv_self], by rw [c38, c47]; rfl, fun e => absurd e (by decide)⟩, rfl⟩) | exact ⟨rfl, ⟨_, false, nR_s c38, by rw [c38, c47]; rfl, fun _ => by rw [if_pos c112]⟩, rfl⟩ | exact ⟨rfl, ⟨_, false, nR_s c38, by rw [c38, c47]; rfl, fun _ => by rw [if_neg (Int64.not_lt.mpr c112)]⟩, rfl⟩)
        · refine qx_lconst (v := 1) d_Ma_combine_132 rfl ?_
          refine qx_goto (t := 137) d_Ma_combine_133 rfl ?_
          refine qx_last d_Ma_combine_137 rfl rfl rfl rfl (by omega) ?_
          refine qx_goto (t := 206) d_Ma_combine_138 rfl ?_
          exact qx_ret d_Ma_combine_206 rfl (by omega) (by omega) (by first | exact absurd c129 (by decide) | (rw [nR_n]; exact ⟨rfl, ⟨vs i, true, by rw [qv_self], by rw [c38]; rfl, fun e => absurd e (by decide)⟩, rfl⟩) | (rw [nR_n]; exact ⟨rfl, ⟨vs i, true, by rw [qv_self], by rw [c38, c47]; rfl, fun e => absurd e (by decide)⟩, rfl⟩) | exact ⟨rfl, ⟨_, false, nR_s c38, by rw [c38, c47]; rfl, fun _ => by rw [if_pos c112]⟩, rfl⟩ | exact ⟨rfl, ⟨_, false, nR_s c38, by rw [c38, c47]; rfl, fun _ => by rw [if_neg (Int64.not_lt.mpr c112)]⟩, rfl⟩)
      · refine qx_iconst (v := b2i true) d_Ma_combine_115 rfl ?_
        refine qx_goto (t := 120) d_Ma_combine_116 rfl ?_
        refine qx_istore (lv1 := [_, _, _, _, _]) d_Ma_combine_120 (by decide) rfl ?_
        refine qx_aload_n d_Ma_combine_122 rfl rfl ?_
        refine qx_getR d_Ma_combine_123 fR_Ma_19 rfl rfl (congrFun hM 2) ?_
        refine qx_iload_n d_Ma_combine_126 rfl rfl ?_
        refine qx_iload d_Ma_combine_127 rfl ?_
        refine qx_if_eqB (t := 136) d_Ma_combine_129 rfl (fun c129 => ?_) (fun c129 => ?_)
        · refine qx_lconst (v := 0) d_Ma_combine_136 rfl ?_
          refine qx_last d_Ma_combine_137 rfl rfl rfl rfl (by omega) ?_
          refine qx_goto (t := 206) d_Ma_combine_138 rfl ?_
          exact qx_ret d_Ma_combine_206 rfl (by omega) (by omega) (by first | exact absurd c129 (by decide) | (rw [nR_n]; exact ⟨rfl, ⟨vs i, true, by rw [qv_self], by rw [c38]; rfl, fun e => absurd e (by decide)⟩, rfl⟩) | (rw [nR_n]; exact ⟨rfl, ⟨vs i, true, by rw [qv_self], by rw [c38, c47]; rfl, fun e => absurd e (by decide)⟩, rfl⟩) | exact ⟨rfl, ⟨_, false, nR_s c38, by rw [c38, c47]; rfl, fun _ => by rw [if_pos c112]⟩, rfl⟩ | exact ⟨rfl, ⟨_, false, nR_s c38, by rw [c38, c47]; rfl, fun _ => by rw [if_neg (Int64.not_lt.mpr c112)]⟩, rfl⟩)
        · refine qx_lconst (v := 1) d_Ma_combine_132 rfl ?_
          refine qx_goto (t := 137) d_Ma_combine_133 rfl ?_
          refine qx_last d_Ma_combine_137 rfl rfl rfl rfl (by omega) ?_
          refine qx_goto (t := 206) d_Ma_combine_138 rfl ?_
          exact qx_ret d_Ma_combine_206 rfl (by omega) (by omega) (by first | exact absurd c129 (by decide) | (rw [nR_n]; exact ⟨rfl, ⟨vs i, true, by rw [qv_self], by rw [c38]; rfl, fun e => absurd e (by decide)⟩, rfl⟩) | (rw [nR_n]; exact ⟨rfl, ⟨vs i, true, by rw [qv_self], by rw [c38, c47]; rfl, fun e => absurd e (by decide)⟩, rfl⟩) | exact ⟨rfl, ⟨_, false, nR_s c38, by rw [c38, c47]; rfl, fun _ => by rw [if_pos c112]⟩, rfl⟩ | exact ⟨rfl, ⟨_, false, nR_s c38, by rw [c38, c47]; rfl, fun _ => by rw [if_neg (Int64.not_lt.mpr c112)]⟩, rfl⟩)
    · refine qx_aload_n d_Ma_combine_50 rfl rfl ?_
      refine qx_getR d_Ma_combine_51 fR_Ma_22 rfl rfl (congrFun hM 3) ?_
      refine qx_iload_n d_Ma_combine_54 rfl rfl ?_
      refine qx_iconst (v := b2i true) d_Ma_combine_55 rfl ?_
      refine qx_zast d_Ma_combine_56 rfl rfl rfl rfl (by omega) rfl ?_
      refine qx_goto (t := 206) d_Ma_combine_57 rfl ?_
      exact qx_ret d_Ma_combine_206 rfl (by omega) (by omega) (by first | exact absurd c129 (by decide) | (rw [nR_n]; exact ⟨rfl, ⟨vs i, true, by rw [qv_self], by rw [c38]; rfl, fun e => absurd e (by decide)⟩, rfl⟩) | (rw [nR_n]; exact ⟨rfl, ⟨vs i, true, by rw [qv_self], by rw [c38, c47]; rfl, fun e => absurd e (by decide)⟩, rfl⟩) | exact ⟨rfl, ⟨_, false, nR_s c38, by rw [c38, c47]; rfl, fun _ => by rw [if_pos c112]⟩, rfl⟩ | exact ⟨rfl, ⟨_, false, nR_s c38, by rw [c38, c47]; rfl, fun _ => by rw [if_neg (Int64.not_lt.mpr c112)]⟩, rfl⟩)
set_option maxRecDepth 100000 in
set_option maxHeartbeats 4000000 in
theorem ct_Ma_combine_6 {h : qH} (hM : h.2.2 59 = qRMa) (vs : Nat → Int64) (ns : Nat → Bool) (i : Nat) (hi : i + 1 < 8) : qT mi_Ma_combine 2 0 0 [.ref 59, .int (nI 6), .int (nI i), .int (nI (i + 1))] (nR h vs ns) NN (fun v1 h1 n1 => v1 = none ∧ (∃ x1 y1, h1 = nR h (va_up vs i x1) (va_up ns i y1) ∧ y1 = (!(dcd (ns i) (ns (i + 1)) (vs i) (vs (i + 1)) 0) && (ns i || ns (i + 1))) ∧ (y1 = false → x1 = (if (dcd (ns i) (ns (i + 1)) (vs i) (vs (i + 1)) 0) = true then 0 else if (ns i || ns (i + 1)) = true then 0 else 1 - 0))) ∧ n1 = NN) := by
  refine qT.of (lv0 := [_, _, _, _, _]) (by decide +kernel) (fun _ _ => Nat.le_of_ble_eq_true rfl) rfl ?_
  refine qx_iload_n d_Ma_combine_0 rfl rfl ?_
  refine qx_bipushN (v := 6) d_Ma_combine_1 rfl ?_
  refine qx_icmp_eqN (t := 12) d_Ma_combine_3 rfl (by omega) (by omega) (fun c3 => ?_) (fun c3 => absurd rfl c3)
  refine qx_aload_n d_Ma_combine_12 rfl rfl ?_
  refine qx_iload_n d_Ma_combine_13 rfl rfl ?_
  refine qx_iload_n d_Ma_combine_14 rfl rfl ?_
  refine qx_iload_n d_Ma_combine_15 rfl rfl ?_
  refine qx_bipushN (v := 7) d_Ma_combine_16 rfl ?_
  refine qx_icmp_neN (t := 25) d_Ma_combine_18 rfl (by omega) (by omega) (fun c18 => ?_) (fun c18 => absurd c18 (by decide))
  refine qx_lconst (v := 0) d_Ma_combine_25 rfl ?_
  refine qx_callV (As := [_, _, _]) (rest := _) d_Ma_combine_26 lk_Ma_56 y_Ma_decide v_Ma_decide rfl rfl rfl (by decide) rfl rfl rfl rfl (by decide) (by decide) (ct_Ma_decide hM vs ns i hi 0) ?_
  rintro _ _ _ ⟨rfl, rfl, rfl⟩
  refine qx_goto (t := 206) d_Ma_combine_29 rfl ?_
  exact qx_ret d_Ma_combine_206 rfl (by omega) (by omega) ⟨rfl, ⟨_, _, rfl, rfl, fun _ => rfl⟩, rfl⟩
set_option maxRecDepth 100000 in
set_option maxHeartbeats 4000000 in
theorem ct_Ma_combine_7 {h : qH} (hM : h.2.2 59 = qRMa) (vs : Nat → Int64) (ns : Nat → Bool) (i : Nat) (hi : i + 1 < 8) : qT mi_Ma_combine 2 0 0 [.ref 59, .int (nI 7), .int (nI i), .int (nI (i + 1))] (nR h vs ns) NN (fun v1 h1 n1 => v1 = none ∧ (∃ x1 y1, h1 = nR h (va_up vs i x1) (va_up ns i y1) ∧ y1 = (!(dcd (ns i) (ns (i + 1)) (vs i) (vs (i + 1)) 1) && (ns i || ns (i + 1))) ∧ (y1 = false → x1 = (if (dcd (ns i) (ns (i + 1)) (vs i) (vs (i + 1)) 1) = true then 1 else if (ns i || ns (i + 1)) = true then 0 else 1 - 1))) ∧ n1 = NN) := by
  refine qT.of (lv0 := [_, _, _, _, _]) (by decide +kernel) (fun _ _ => Nat.le_of_ble_eq_true rfl) rfl ?_
  refine qx_iload_n d_Ma_combine_0 rfl rfl ?_
  refine qx_bipushN (v := 6) d_Ma_combine_1 rfl ?_
  refine qx_icmp_eqN (t := 12) d_Ma_combine_3 rfl (by omega) (by omega) (fun c3 => absurd c3 (by decide)) (fun c3 => ?_)
  refine qx_iload_n d_Ma_combine_6 rfl rfl ?_
  refine qx_bipushN (v := 7) d_Ma_combine_7 rfl ?_
  refine qx_icmp_neN (t := 32) d_Ma_combine_9 rfl (by omega) (by omega) (fun c9 => absurd rfl c9) (fun c9 => ?_)
  refine qx_aload_n d_Ma_combine_12 rfl rfl ?_
  refine qx_iload_n d_Ma_combine_13 rfl rfl ?_
  refine qx_iload_n d_Ma_combine_14 rfl rfl ?_
  refine qx_iload_n d_Ma_combine_15 rfl rfl ?_
  refine qx_bipushN (v := 7) d_Ma_combine_16 rfl ?_
  refine qx_icmp_neN (t := 25) d_Ma_combine_18 rfl (by omega) (by omega) (fun c18 => absurd rfl c18) (fun c18 => ?_)
  refine qx_lconst (v := 1) d_Ma_combine_21 rfl ?_
  refine qx_goto (t := 26) d_Ma_combine_22 rfl ?_
  refine qx_callV (As := [_, _, _]) (rest := _) d_Ma_combine_26 lk_Ma_56 y_Ma_decide v_Ma_decide rfl rfl rfl (by decide) rfl rfl rfl rfl (by decide) (by decide) (ct_Ma_decide hM vs ns i hi 1) ?_
  rintro _ _ _ ⟨rfl, rfl, rfl⟩
  refine qx_goto (t := 206) d_Ma_combine_29 rfl ?_
  exact qx_ret d_Ma_combine_206 rfl (by omega) (by omega) ⟨rfl, ⟨_, _, rfl, rfl, fun _ => rfl⟩, rfl⟩
set_option maxRecDepth 100000 in
set_option maxHeartbeats 4000000 in
theorem ct_Ma_combine {h : qH} (hM : h.2.2 59 = qRMa) (vs : Nat → Int64) (ns : Nat → Bool) (op : Nat) (ho : op < 8) (p q : xV) (i : Nat) (hi : i + 1 < 8) (hp : p.1 = decide (6 ≤ op)) (hq : q.1 = decide (6 ≤ op)) (tp : xTr p) (tq : xTr q) (mp : mOne vs ns i p.2) (mq : mOne vs ns (i + 1) q.2) :
    qT mi_Ma_combine 2 0 0 [.ref 59, .int (nI op), .int (nI i), .int (nI (i + 1))] (nR h vs ns) NN (fun v1 h1 n1 => v1 = none ∧ (∃ x y, h1 = nR h (va_up vs i x) (va_up ns i y) ∧ y = (xOp op p.2 q.2).isNone ∧ ∀ z, xOp op p.2 q.2 = some z → x = z) ∧ n1 = NN) := by
  obtain ⟨tp1, p⟩ := p
  obtain ⟨tq1, q⟩ := q
  dsimp only at hp hq mp mq ⊢
  subst hp; subst hq
  have h : op = 0 ∨ op = 1 ∨ op = 2 ∨ op = 3 ∨ op = 4 ∨ op = 5 ∨ op = 6 ∨ op = 7 := by omega
  rcases h with rfl | rfl | rfl | rfl | rfl | rfl | rfl | rfl
  · refine qT.imp ?_ (ct_Ma_combine_0 hM vs ns i hi)
    rintro _ _ _ ⟨rfl, ⟨x, y, rfl, hy, hx⟩, rfl⟩
    refine ⟨rfl, ⟨x, y, rfl, ?_, ?_⟩, rfl⟩
    · rw [hy]
      cases p with
      | none => rw [show ns i = true from mp]; cases q <;> rfl
      | some a =>
        cases q with
        | none => rw [mp.1, show ns (i + 1) = true from mq]; rfl
        | some b =>
          rw [mp.1, mq.1, mp.2, mq.2]
          show (!xLong 0 a b) = (if xLong 0 a b = true then some (xCalc 0 a b) else none).isNone
          cases xLong 0 a b <;> rfl
    · intro z hz
      cases p with
      | none => cases q <;> cases hz
      | some a =>
        cases q with
        | none => cases hz
        | some b =>
          have hz : (if xLong 0 a b = true then some (xCalc 0 a b) else none) = some z := hz
          rw [mp.1, mq.1, mp.2, mq.2] at hy
          rw [mp.2, mq.2] at hx
          cases hl : xLong 0 a b with
          | false => rw [hl] at hz; cases hz
          | true =>
            rw [hl] at hz hy
            rw [hx hy]
            exact Option.some.inj hz
  · refine qT.imp ?_ (ct_Ma_combine_1 hM vs ns i hi)
    rintro _ _ _ ⟨rfl, ⟨x, y, rfl, hy, hx⟩, rfl⟩
    refine ⟨rfl, ⟨x, y, rfl, ?_, ?_⟩, rfl⟩
    · rw [hy]
      cases p with
      | none => rw [show ns i = true from mp]; cases q <;> rfl
      | some a =>
        cases q with
        | none => rw [mp.1, show ns (i + 1) = true from mq]; rfl
        | some b =>
          rw [mp.1, mq.1, mp.2, mq.2]
          show (!xLong 1 a b) = (if xLong 1 a b = true then some (xCalc 1 a b) else none).isNone
          cases xLong 1 a b <;> rfl
    · intro z hz
      cases p with
      | none => cases q <;> cases hz
      | some a =>
        cases q with
        | none => cases hz
        | some b =>
          have hz : (if xLong 1 a b = true then some (xCalc 1 a b) else none) = some z := hz
          rw [mp.1, mq.1, mp.2, mq.2] at hy
          rw [mp.2, mq.2] at hx
          cases hl : xLong 1 a b with
          | false => rw [hl] at hz; cases hz
          | true =>
            rw [hl] at hz hy
            rw [hx hy]
            exact Option.some.inj hz
  · refine qT.imp ?_ (ct_Ma_combine_2 hM vs ns i hi)
    rintro _ _ _ ⟨rfl, ⟨x, y, rfl, hy, hx⟩, rfl⟩
    refine ⟨rfl, ⟨x, y, rfl, ?_, ?_⟩, rfl⟩
    · rw [hy]
      cases p with
      | none => rw [show ns i = true from mp]; cases q <;> rfl
      | some a =>
        cases q with
        | none => rw [mp.1, show ns (i + 1) = true from mq]; rfl
        | some b =>
          rw [mp.1, mq.1, mp.2, mq.2]
          show (!xLong 2 a b) = (if xLong 2 a b = true then some (xCalc 2 a b) else none).isNone
          cases xLong 2 a b <;> rfl
    · intro z hz
      cases p with
      | none => cases q <;> cases hz
      | some a =>
        cases q with
        | none => cases hz
        | some b =>
          have hz : (if xLong 2 a b = true then some (xCalc 2 a b) else none) = some z := hz
          rw [mp.1, mq.1, mp.2, mq.2] at hy
          rw [mp.2, mq.2] at hx
          cases hl : xLong 2 a b with
          | false => rw [hl] at hz; cases hz
          | true =>
            rw [hl] at hz hy
            rw [hx hy]
            exact Option.some.inj hz
  · refine qT.imp ?_ (ct_Ma_combine_3 hM vs ns i hi)
    rintro _ _ _ ⟨rfl, ⟨x, y, rfl, hy, hx⟩, rfl⟩
    refine ⟨rfl, ⟨x, y, rfl, ?_, ?_⟩, rfl⟩
    · rw [hy]
      cases p with
      | none => rw [show ns i = true from mp]; cases q <;> rfl
      | some a =>
        cases q with
        | none => rw [mp.1, show ns (i + 1) = true from mq]; rfl
        | some b =>
          rw [mp.1, mq.1, mp.2, mq.2]
          show (!xLong 3 a b) = (if xLong 3 a b = true then some (xCalc 3 a b) else none).isNone
          cases xLong 3 a b <;> rfl
    · intro z hz
      cases p with
      | none => cases q <;> cases hz
      | some a =>
        cases q with
        | none => cases hz
        | some b =>
          have hz : (if xLong 3 a b = true then some (xCalc 3 a b) else none) = some z := hz
          rw [mp.1, mq.1, mp.2, mq.2] at hy
          rw [mp.2, mq.2] at hx
          cases hl : xLong 3 a b with
          | false => rw [hl] at hz; cases hz
          | true =>
            rw [hl] at hz hy
            rw [hx hy]
            exact Option.some.inj hz
  · refine qT.imp ?_ (ct_Ma_combine_4 hM vs ns i hi)
    rintro _ _ _ ⟨rfl, ⟨x, y, rfl, hy, hx⟩, rfl⟩
    refine ⟨rfl, ⟨x, y, rfl, ?_, ?_⟩, rfl⟩
    · rw [hy]
      cases p with
      | none => rw [show ns i = true from mp]; cases q <;> rfl
      | some a =>
        cases q with
        | none => rw [mp.1, show ns (i + 1) = true from mq]; rfl
        | some b => rw [mp.1, mq.1]; rfl
    · intro z hz
      cases p with
      | none => cases q <;> cases hz
      | some a =>
        cases q with
        | none => cases hz
        | some b =>
          rw [mp.1, mq.1] at hy
          rw [mp.2, mq.2] at hx
          rw [hx hy]
          exact Option.some.inj hz
  · refine qT.imp ?_ (ct_Ma_combine_5 hM vs ns i hi)
    rintro _ _ _ ⟨rfl, ⟨x, y, rfl, hy, hx⟩, rfl⟩
    refine ⟨rfl, ⟨x, y, rfl, ?_, ?_⟩, rfl⟩
    · rw [hy]
      cases p with
      | none => rw [show ns i = true from mp]; cases q <;> rfl
      | some a =>
        cases q with
        | none => rw [mp.1, show ns (i + 1) = true from mq]; rfl
        | some b => rw [mp.1, mq.1]; rfl
    · intro z hz
      cases p with
      | none => cases q <;> cases hz
      | some a =>
        cases q with
        | none => cases hz
        | some b =>
          rw [mp.1, mq.1] at hy
          rw [mp.2, mq.2] at hx
          rw [hx hy]
          exact Option.some.inj hz
  · refine qT.imp ?_ (ct_Ma_combine_6 hM vs ns i hi)
    rintro _ _ _ ⟨rfl, ⟨x, y, rfl, hy, hx⟩, rfl⟩
    refine ⟨rfl, ⟨x, y, rfl, ?_, ?_⟩, rfl⟩
    · rw [hy]
      rcases tp rfl with e | e | e <;> rcases tq rfl with f | f | f <;> (dsimp only at e f; subst e; subst f; unfold dcd mOne at *; simp_all [xOp])
    · intro z hz
      have hx2 : y = false → x = z := by
        intro hy2
        rw [hx hy2]
        rw [hy] at hy2
        rcases tp rfl with e | e | e <;> rcases tq rfl with f | f | f <;> (dsimp only at e f; subst e; subst f; unfold dcd mOne at *; simp_all [xOp])
      refine hx2 ?_
      rw [hy]
      rcases tp rfl with e | e | e <;> rcases tq rfl with f | f | f <;> (dsimp only at e f; subst e; subst f; unfold dcd mOne at *; simp_all [xOp])
  · refine qT.imp ?_ (ct_Ma_combine_7 hM vs ns i hi)
    rintro _ _ _ ⟨rfl, ⟨x, y, rfl, hy, hx⟩, rfl⟩
    refine ⟨rfl, ⟨x, y, rfl, ?_, ?_⟩, rfl⟩
    · rw [hy]
      rcases tp rfl with e | e | e <;> rcases tq rfl with f | f | f <;> (dsimp only at e f; subst e; subst f; unfold dcd mOne at *; simp_all [xOp])
    · intro z hz
      have hx2 : y = false → x = z := by
        intro hy2
        rw [hx hy2]
        rw [hy] at hy2
        rcases tp rfl with e | e | e <;> rcases tq rfl with f | f | f <;> (dsimp only at e f; subst e; subst f; unfold dcd mOne at *; simp_all [xOp])
      refine hx2 ?_
      rw [hy]
      rcases tp rfl with e | e | e <;> rcases tq rfl with f | f | f <;> (dsimp only at e f; subst e; subst f; unfold dcd mOne at *; simp_all [xOp])
