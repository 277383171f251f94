/-! the reference's stack of values, over a heap -/
def eR (h : qH) (wk : Nat → Int64) (wn : Nat → Int32) : qH := (va_up h.1 132 wn, va_up h.2.1 131 wk, h.2.2)
theorem eR_of (h : qH) : eR h (h.2.1 131) (h.1 132) = h := by
  unfold eR
  rw [qv_self, qv_self]
theorem eR_set {h : qH} {wk : Nat → Int64} {wn : Nat → Int32} {i : Nat} {x : Int64} {y : Int32} : qpI (qpL (eR h wk wn) 131 i x) 132 i y = eR h (va_up wk i x) (va_up wn i y) := by
  unfold eR qpI qpL
  dsimp only
  rw [qv_up, qv_up, qus, qus]
set_option maxRecDepth 100000 in
set_option maxHeartbeats 4000000 in
theorem ct_QM_set {h : qH} (hR : h.2.2 122 = qRQM) (wk : Nat → Int64) (wn : Nat → Int32) (i : Nat) (hi : i < 24) (x : Int64) (b : Bool) : qT mi_QM_set 0 0 0 [.ref 122, .int (nI i), .long x, .int (b2i b)] (eR h wk wn) NN (fun v1 h1 n1 => v1 = none ∧ h1 = eR h (va_up wk i (if b = true then 0 else x)) (va_up wn i (b2i b)) ∧ n1 = NN) := by
  refine qT.of (lv0 := [_, _, _, _, _]) (by decide +kernel) (fun _ _ => Nat.le_of_ble_eq_true rfl) rfl ?_
  refine qx_aload_n d_QM_set_0 rfl rfl ?_
  refine qx_getR d_QM_set_1 fR_QM_36 rfl rfl (congrFun hR 21) ?_
  refine qx_iload_n d_QM_set_4 rfl rfl ?_
  refine qx_iload d_QM_set_5 rfl ?_
  refine qx_if_eqB (t := 14) d_QM_set_7 rfl (fun c7 => ?_) (fun c7 => ?_)
  · refine qx_lload_n d_QM_set_14 rfl rfl ?_
    refine qx_last d_QM_set_15 rfl rfl rfl rfl (by omega) ?_
    refine qx_aload_n d_QM_set_16 rfl rfl ?_
    refine qx_getR d_QM_set_17 fR_QM_39 rfl rfl (congrFun hR 22) ?_
    refine qx_iload_n d_QM_set_20 rfl rfl ?_
    refine qx_iload d_QM_set_21 rfl ?_
    refine qx_zast d_QM_set_23 rfl rfl rfl rfl (by omega) (b2i_nar b) ?_
    exact qx_ret d_QM_set_24 rfl (by omega) (by omega) ⟨rfl, by rw [c7]; exact eR_set, rfl⟩
  · refine qx_lconst (v := 0) d_QM_set_10 rfl ?_
    refine qx_goto (t := 15) d_QM_set_11 rfl ?_
    refine qx_last d_QM_set_15 rfl rfl rfl rfl (by omega) ?_
    refine qx_aload_n d_QM_set_16 rfl rfl ?_
    refine qx_getR d_QM_set_17 fR_QM_39 rfl rfl (congrFun hR 22) ?_
    refine qx_iload_n d_QM_set_20 rfl rfl ?_
    refine qx_iload d_QM_set_21 rfl ?_
    refine qx_zast d_QM_set_23 rfl rfl rfl rfl (by omega) (b2i_nar b) ?_
    exact qx_ret d_QM_set_24 rfl (by omega) (by omega) ⟨rfl, by rw [c7]; exact eR_set, rfl⟩
set_option maxRecDepth 100000 in
set_option maxHeartbeats 4000000 in
theorem ct_QM_overflows_0 {h : qH} {n : Nat} (p q : Int64) : qT mi_QM_overflows 0 0 0 [.int (nI 0), .long p, .long q] h n (fun v1 h1 n1 => v1 = some (.int (b2i (!xLong 0 p q))) ∧ h = h1 ∧ n1 = n) := by
  refine qT.of (lv0 := [_, _, _, _, _, _, _]) (by decide +kernel) (fun _ _ => Nat.le_of_ble_eq_true rfl) rfl ?_
  refine qx_ldc2 d_QM_overflows_0 kl_QM_163 ?_
  refine qx_lstore (lv1 := [_, _, _, _, _, _, _]) d_QM_overflows_3 (by decide) rfl ?_
  refine qx_iload_n d_QM_overflows_5 rfl rfl ?_
  refine qx_if_neN (t := 31) d_QM_overflows_6 rfl (by omega) (fun c6 => absurd c6 (by decide)) (fun c6 => ?_)
  refine qx_lload_n d_QM_overflows_9 rfl rfl ?_
  refine qx_lload_n d_QM_overflows_10 rfl rfl ?_
  refine qx_lload_n d_QM_overflows_11 rfl rfl ?_
  refine qx_ladd d_QM_overflows_12 ?_
  refine qx_lxor d_QM_overflows_13 ?_
  refine qx_lload_n d_QM_overflows_14 rfl rfl ?_
  refine qx_lload_n d_QM_overflows_15 rfl rfl ?_
  refine qx_lload_n d_QM_overflows_16 rfl rfl ?_
  refine qx_ladd d_QM_overflows_17 ?_
  refine qx_lxor d_QM_overflows_18 ?_
  refine qx_land d_QM_overflows_19 ?_
  refine qx_lconst (v := 0) d_QM_overflows_20 rfl ?_
  refine qx_lcmp d_QM_overflows_21 ?_
  refine qx_if_geC (t := 29) d_QM_overflows_22 rfl (fun c22 => ?_) (fun c22 => ?_)
  · refine qx_iconstN (v := 0) d_QM_overflows_29 rfl ?_
    exact qx_iret d_QM_overflows_30 rfl rfl (by omega) (by omega) (by refine ⟨?_, rfl, rfl⟩; first | (rw [show xLong 0 p q = true from decide_eq_true c22]; rfl) | (rw [show xLong 0 p q = false from decide_eq_false (Int64.not_le.mpr c22)]; rfl))
  · refine qx_iconstN (v := 1) d_QM_overflows_25 rfl ?_
    refine qx_goto (t := 30) d_QM_overflows_26 rfl ?_
    exact qx_iret d_QM_overflows_30 rfl rfl (by omega) (by omega) (by refine ⟨?_, rfl, rfl⟩; first | (rw [show xLong 0 p q = true from decide_eq_true c22]; rfl) | (rw [show xLong 0 p q = false from decide_eq_false (Int64.not_le.mpr c22)]; rfl))
set_option maxRecDepth 100000 in
set_option maxHeartbeats 4000000 in
theorem ct_QM_overflows_1 {h : qH} {n : Nat} (p q : Int64) : qT mi_QM_overflows 0 0 0 [.int (nI 1), .long p, .long q] h n (fun v1 h1 n1 => v1 = some (.int (b2i (!xLong 1 p q))) ∧ h = h1 ∧ n1 = n) := by
  refine qT.of (lv0 := [_, _, _, _, _, _, _]) (by decide +kernel) (fun _ _ => Nat.le_of_ble_eq_true rfl) rfl ?_
  refine qx_ldc2 d_QM_overflows_0 kl_QM_163 ?_
  refine qx_lstore (lv1 := [_, _, _, _, _, _, _]) d_QM_overflows_3 (by decide) rfl ?_
  refine qx_iload_n d_QM_overflows_5 rfl rfl ?_
  refine qx_if_neN (t := 31) d_QM_overflows_6 rfl (by omega) (fun c6 => ?_) (fun c6 => absurd c6 (by decide))
  refine qx_iload_n d_QM_overflows_31 rfl rfl ?_
  refine qx_iconstN (v := 1) d_QM_overflows_32 rfl ?_
  refine qx_icmp_neN (t := 56) d_QM_overflows_33 rfl (by omega) (by omega) (fun c33 => absurd rfl c33) (fun c33 => ?_)
  refine qx_lload_n d_QM_overflows_36 rfl rfl ?_
  refine qx_lload_n d_QM_overflows_37 rfl rfl ?_
  refine qx_lxor d_QM_overflows_38 ?_
  refine qx_lload_n d_QM_overflows_39 rfl rfl ?_
  refine qx_lload_n d_QM_overflows_40 rfl rfl ?_
  refine qx_lload_n d_QM_overflows_41 rfl rfl ?_
  refine qx_lsub d_QM_overflows_42 ?_
  refine qx_lxor d_QM_overflows_43 ?_
  refine qx_land d_QM_overflows_44 ?_
  refine qx_lconst (v := 0) d_QM_overflows_45 rfl ?_
  refine qx_lcmp d_QM_overflows_46 ?_
  refine qx_if_geC (t := 54) d_QM_overflows_47 rfl (fun c47 => ?_) (fun c47 => ?_)
  · refine qx_iconstN (v := 0) d_QM_overflows_54 rfl ?_
    exact qx_iret d_QM_overflows_55 rfl rfl (by omega) (by omega) (by refine ⟨?_, rfl, rfl⟩; first | (rw [show xLong 1 p q = true from decide_eq_true c47]; rfl) | (rw [show xLong 1 p q = false from decide_eq_false (Int64.not_le.mpr c47)]; rfl))
  · refine qx_iconstN (v := 1) d_QM_overflows_50 rfl ?_
    refine qx_goto (t := 55) d_QM_overflows_51 rfl ?_
    exact qx_iret d_QM_overflows_55 rfl rfl (by omega) (by omega) (by refine ⟨?_, rfl, rfl⟩; first | (rw [show xLong 1 p q = true from decide_eq_true c47]; rfl) | (rw [show xLong 1 p q = false from decide_eq_false (Int64.not_le.mpr c47)]; rfl))
set_option maxRecDepth 100000 in
set_option maxHeartbeats 4000000 in
theorem ct_QM_overflows_3 {h : qH} {n : Nat} (p q : Int64) : qT mi_QM_overflows 0 0 0 [.int (nI 3), .long p, .long q] h n (fun v1 h1 n1 => v1 = some (.int (b2i (!xLong 3 p q))) ∧ h = h1 ∧ n1 = n) := by
  refine qT.of (lv0 := [_, _, _, _, _, _, _]) (by decide +kernel) (fun _ _ => Nat.le_of_ble_eq_true rfl) rfl ?_
  refine qx_ldc2 d_QM_overflows_0 kl_QM_163 ?_
  refine qx_lstore (lv1 := [_, _, _, _, _, _, _]) d_QM_overflows_3 (by decide) rfl ?_
  refine qx_iload_n d_QM_overflows_5 rfl rfl ?_
  refine qx_if_neN (t := 31) d_QM_overflows_6 rfl (by omega) (fun c6 => ?_) (fun c6 => absurd c6 (by decide))
  refine qx_iload_n d_QM_overflows_31 rfl rfl ?_
  refine qx_iconstN (v := 1) d_QM_overflows_32 rfl ?_
  refine qx_icmp_neN (t := 56) d_QM_overflows_33 rfl (by omega) (by omega) (fun c33 => ?_) (fun c33 => absurd c33 (by decide))
  refine qx_iload_n d_QM_overflows_56 rfl rfl ?_
  refine qx_iconstN (v := 3) d_QM_overflows_57 rfl ?_
  refine qx_icmp_neN (t := 88) d_QM_overflows_58 rfl (by omega) (by omega) (fun c58 => absurd rfl c58) (fun c58 => ?_)
  refine qx_lload_n d_QM_overflows_61 rfl rfl ?_
  refine qx_lconst (v := 0) d_QM_overflows_62 rfl ?_
  refine qx_lcmp d_QM_overflows_63 ?_
  refine qx_if_eqC (t := 82) d_QM_overflows_64 rfl (fun c64 => ?_) (fun c64 => ?_)
  · refine qx_iconstN (v := 1) d_QM_overflows_82 rfl ?_
    refine qx_goto (t := 87) d_QM_overflows_83 rfl ?_
    exact qx_iret d_QM_overflows_87 rfl rfl (by omega) (by omega) (by refine ⟨?_, rfl, rfl⟩; first | (rw [show xLong 3 p q = false from decide_eq_false (fun e => e.1 c64)]; rfl) | (rw [show xLong 3 p q = true from decide_eq_true ⟨c64, Or.inr c71⟩]; rfl) | (rw [show xLong 3 p q = true from decide_eq_true ⟨c64, Or.inl c79⟩]; rfl) | (rw [show xLong 3 p q = false from decide_eq_false (fun e => e.2.elim (fun f => f c79) (fun f => f c71))]; rfl))
  · refine qx_lload_n d_QM_overflows_67 rfl rfl ?_
    refine qx_lload d_QM_overflows_68 rfl ?_
    refine qx_lcmp d_QM_overflows_70 ?_
    refine qx_if_neC (t := 86) d_QM_overflows_71 rfl (fun c71 => ?_) (fun c71 => ?_)
    · refine qx_iconstN (v := 0) d_QM_overflows_86 rfl ?_
      exact qx_iret d_QM_overflows_87 rfl rfl (by omega) (by omega) (by refine ⟨?_, rfl, rfl⟩; first | (rw [show xLong 3 p q = false from decide_eq_false (fun e => e.1 c64)]; rfl) | (rw [show xLong 3 p q = true from decide_eq_true ⟨c64, Or.inr c71⟩]; rfl) | (rw [show xLong 3 p q = true from decide_eq_true ⟨c64, Or.inl c79⟩]; rfl) | (rw [show xLong 3 p q = false from decide_eq_false (fun e => e.2.elim (fun f => f c79) (fun f => f c71))]; rfl))
    · refine qx_lload_n d_QM_overflows_74 rfl rfl ?_
      refine qx_ldc2 d_QM_overflows_75 kl_QM_165 ?_
      refine qx_lcmp d_QM_overflows_78 ?_
      refine qx_if_neC (t := 86) d_QM_overflows_79 rfl (fun c79 => ?_) (fun c79 => ?_)
      · refine qx_iconstN (v := 0) d_QM_overflows_86 rfl ?_
        exact qx_iret d_QM_overflows_87 rfl rfl (by omega) (by omega) (by refine ⟨?_, rfl, rfl⟩; first | (rw [show xLong 3 p q = false from decide_eq_false (fun e => e.1 c64)]; rfl) | (rw [show xLong 3 p q = true from decide_eq_true ⟨c64, Or.inr c71⟩]; rfl) | (rw [show xLong 3 p q = true from decide_eq_true ⟨c64, Or.inl c79⟩]; rfl) | (rw [show xLong 3 p q = false from decide_eq_false (fun e => e.2.elim (fun f => f c79) (fun f => f c71))]; rfl))
      · refine qx_iconstN (v := 1) d_QM_overflows_82 rfl ?_
        refine qx_goto (t := 87) d_QM_overflows_83 rfl ?_
        exact qx_iret d_QM_overflows_87 rfl rfl (by omega) (by omega) (by refine ⟨?_, rfl, rfl⟩; first | (rw [show xLong 3 p q = false from decide_eq_false (fun e => e.1 c64)]; rfl) | (rw [show xLong 3 p q = true from decide_eq_true ⟨c64, Or.inr c71⟩]; rfl) | (rw [show xLong 3 p q = true from decide_eq_true ⟨c64, Or.inl c79⟩]; rfl) | (rw [show xLong 3 p q = false from decide_eq_false (fun e => e.2.elim (fun f => f c79) (fun f => f c71))]; rfl))
set_option maxRecDepth 100000 in
set_option maxHeartbeats 4000000 in
theorem ct_QM_overflows_2 {h : qH} {n : Nat} (p q : Int64) : qT mi_QM_overflows 0 0 0 [.int (nI 2), .long p, .long q] h n (fun v1 h1 n1 => v1 = some (.int (b2i (!xLong 2 p q))) ∧ h = h1 ∧ n1 = n) := by
  refine qT.of (lv0 := [_, _, _, _, _, _, _]) (by decide +kernel) (fun _ _ => Nat.le_of_ble_eq_true rfl) rfl ?_
  refine qx_ldc2 d_QM_overflows_0 kl_QM_163 ?_
  refine qx_lstore (lv1 := [_, _, _, _, _, _, _]) d_QM_overflows_3 (by decide) rfl ?_
  refine qx_iload_n d_QM_overflows_5 rfl rfl ?_
  refine qx_if_neN (t := 31) d_QM_overflows_6 rfl (by omega) (fun c6 => ?_) (fun c6 => absurd c6 (by decide))
  refine qx_iload_n d_QM_overflows_31 rfl rfl ?_
  refine qx_iconstN (v := 1) d_QM_overflows_32 rfl ?_
  refine qx_icmp_neN (t := 56) d_QM_overflows_33 rfl (by omega) (by omega) (fun c33 => ?_) (fun c33 => absurd c33 (by decide))
  refine qx_iload_n d_QM_overflows_56 rfl rfl ?_
  refine qx_iconstN (v := 3) d_QM_overflows_57 rfl ?_
  refine qx_icmp_neN (t := 88) d_QM_overflows_58 rfl (by omega) (by omega) (fun c58 => ?_) (fun c58 => absurd c58 (by decide))
  refine qx_lload_n d_QM_overflows_88 rfl rfl ?_
  refine qx_lconst (v := 0) d_QM_overflows_89 rfl ?_
  refine qx_lcmp d_QM_overflows_90 ?_
  refine qx_if_eqC (t := 100) d_QM_overflows_91 rfl (fun c91 => ?_) (fun c91 => ?_)
  · refine qx_iconstN (v := 0) d_QM_overflows_100 rfl ?_
    exact qx_iret d_QM_overflows_101 rfl rfl (by omega) (by omega) (by refine ⟨?_, rfl, rfl⟩; first | (rw [(pn_mul p q).mpr (Or.inl (Or.inl c91))]; rfl) | (rw [(pn_mul p q).mpr (Or.inl (Or.inr c97))]; rfl) | (rw [(pn_mul p q).mpr (Or.inr (fun e => e.elim (fun f => (by first | exact c106 f.1 | exact c114 f.2)) (fun e => e.elim (fun f => (by first | exact c121 f.1 | exact c129 f.2)) (fun f => f c139))))]; rfl) | (rw [show xLong 2 p q = false from Bool.eq_false_iff.mpr (fun e => ((pn_mul p q).mp e).elim (fun f => f.elim c91 c97) (fun f => f (Or.inl ⟨c106, c114⟩)))]; rfl) | (rw [show xLong 2 p q = false from Bool.eq_false_iff.mpr (fun e => ((pn_mul p q).mp e).elim (fun f => f.elim c91 c97) (fun f => f (Or.inr (Or.inl ⟨c121, c129⟩))))]; rfl) | (rw [show xLong 2 p q = false from Bool.eq_false_iff.mpr (fun e => ((pn_mul p q).mp e).elim (fun f => f.elim c91 c97) (fun f => f (Or.inr (Or.inr c139))))]; rfl))
  · refine qx_lload_n d_QM_overflows_94 rfl rfl ?_
    refine qx_lconst (v := 0) d_QM_overflows_95 rfl ?_
    refine qx_lcmp d_QM_overflows_96 ?_
    refine qx_if_neC (t := 102) d_QM_overflows_97 rfl (fun c97 => ?_) (fun c97 => ?_)
    · refine qx_lload_n d_QM_overflows_102 rfl rfl ?_
      refine qx_lload d_QM_overflows_103 rfl ?_
      refine qx_lcmp d_QM_overflows_105 ?_
      refine qx_if_neC (t := 117) d_QM_overflows_106 rfl (fun c106 => ?_) (fun c106 => ?_)
      · refine qx_lload_n d_QM_overflows_117 rfl rfl ?_
        refine qx_lload d_QM_overflows_118 rfl ?_
        refine qx_lcmp d_QM_overflows_120 ?_
        refine qx_if_neC (t := 132) d_QM_overflows_121 rfl (fun c121 => ?_) (fun c121 => ?_)
        · refine qx_lload_n d_QM_overflows_132 rfl rfl ?_
          refine qx_lload_n d_QM_overflows_133 rfl rfl ?_
          refine qx_lmul d_QM_overflows_134 ?_
          refine qx_lload_n d_QM_overflows_135 rfl rfl ?_
          refine qx_ldiv d_QM_overflows_136 c97 ?_
          refine qx_lload_n d_QM_overflows_137 rfl rfl ?_
          refine qx_lcmp d_QM_overflows_138 ?_
          refine qx_if_eqC (t := 146) d_QM_overflows_139 rfl (fun c139 => ?_) (fun c139 => ?_)
          · refine qx_iconstN (v := 0) d_QM_overflows_146 rfl ?_
            exact qx_iret d_QM_overflows_147 rfl rfl (by omega) (by omega) (by refine ⟨?_, rfl, rfl⟩; first | (rw [(pn_mul p q).mpr (Or.inl (Or.inl c91))]; rfl) | (rw [(pn_mul p q).mpr (Or.inl (Or.inr c97))]; rfl) | (rw [(pn_mul p q).mpr (Or.inr (fun e => e.elim (fun f => (by first | exact c106 f.1 | exact c114 f.2)) (fun e => e.elim (fun f => (by first | exact c121 f.1 | exact c129 f.2)) (fun f => f c139))))]; rfl) | (rw [show xLong 2 p q = false from Bool.eq_false_iff.mpr (fun e => ((pn_mul p q).mp e).elim (fun f => f.elim c91 c97) (fun f => f (Or.inl ⟨c106, c114⟩)))]; rfl) | (rw [show xLong 2 p q = false from Bool.eq_false_iff.mpr (fun e => ((pn_mul p q).mp e).elim (fun f => f.elim c91 c97) (fun f => f (Or.inr (Or.inl ⟨c121, c129⟩))))]; rfl) | (rw [show xLong 2 p q = false from Bool.eq_false_iff.mpr (fun e => ((pn_mul p q).mp e).elim (fun f => f.elim c91 c97) (fun f => f (Or.inr (Or.inr c139))))]; rfl))
          · refine qx_iconstN (v := 1) d_QM_overflows_142 rfl ?_
            refine qx_goto (t := 147) d_QM_overflows_143 rfl ?_
            exact qx_iret d_QM_overflows_147 rfl rfl (by omega) (by omega) (by refine ⟨?_, rfl, rfl⟩; first | (rw [(pn_mul p q).mpr (Or.inl (Or.inl c91))]; rfl) | (rw [(pn_mul p q).mpr (Or.inl (Or.inr c97))]; rfl) | (rw [(pn_mul p q).mpr (Or.inr (fun e => e.elim (fun f => (by first | exact c106 f.1 | exact c114 f.2)) (fun e => e.elim (fun f => (by first | exact c121 f.1 | exact c129 f.2)) (fun f => f c139))))]; rfl) | (rw [show xLong 2 p q = false from Bool.eq_false_iff.mpr (fun e => ((pn_mul p q).mp e).elim (fun f => f.elim c91 c97) (fun f => f (Or.inl ⟨c106, c114⟩)))]; rfl) | (rw [show xLong 2 p q = false from Bool.eq_false_iff.mpr (fun e => ((pn_mul p q).mp e).elim (fun f => f.elim c91 c97) (fun f => f (Or.inr (Or.inl ⟨c121, c129⟩))))]; rfl) | (rw [show xLong 2 p q = false from Bool.eq_false_iff.mpr (fun e => ((pn_mul p q).mp e).elim (fun f => f.elim c91 c97) (fun f => f (Or.inr (Or.inr c139))))]; rfl))
        · refine qx_lload_n d_QM_overflows_124 rfl rfl ?_
          refine qx_ldc2 d_QM_overflows_125 kl_QM_165 ?_
          refine qx_lcmp d_QM_overflows_128 ?_
          refine qx_if_eqC (t := 142) d_QM_overflows_129 rfl (fun c129 => ?_) (fun c129 => ?_)
          · refine qx_iconstN (v := 1) d_QM_overflows_142 rfl ?_
            refine qx_goto (t := 147) d_QM_overflows_143 rfl ?_
            exact qx_iret d_QM_overflows_147 rfl rfl (by omega) (by omega) (by refine ⟨?_, rfl, rfl⟩; first | (rw [(pn_mul p q).mpr (Or.inl (Or.inl c91))]; rfl) | (rw [(pn_mul p q).mpr (Or.inl (Or.inr c97))]; rfl) | (rw [(pn_mul p q).mpr (Or.inr (fun e => e.elim (fun f => (by first | exact c106 f.1 | exact c114 f.2)) (fun e => e.elim (fun f => (by first | exact c121 f.1 | exact c129 f.2)) (fun f => f c139))))]; rfl) | (rw [show xLong 2 p q = false from Bool.eq_false_iff.mpr (fun e => ((pn_mul p q).mp e).elim (fun f => f.elim c91 c97) (fun f => f (Or.inl ⟨c106, c114⟩)))]; rfl) | (rw [show xLong 2 p q = false from Bool.eq_false_iff.mpr (fun e => ((pn_mul p q).mp e).elim (fun f => f.elim c91 c97) (fun f => f (Or.inr (Or.inl ⟨c121, c129⟩))))]; rfl) | (rw [show xLong 2 p q = false from Bool.eq_false_iff.mpr (fun e => ((pn_mul p q).mp e).elim (fun f => f.elim c91 c97) (fun f => f (Or.inr (Or.inr c139))))]; rfl))
          · refine qx_lload_n d_QM_overflows_132 rfl rfl ?_
            refine qx_lload_n d_QM_overflows_133 rfl rfl ?_
            refine qx_lmul d_QM_overflows_134 ?_
            refine qx_lload_n d_QM_overflows_135 rfl rfl ?_
            refine qx_ldiv d_QM_overflows_136 c97 ?_
            refine qx_lload_n d_QM_overflows_137 rfl rfl ?_
            refine qx_lcmp d_QM_overflows_138 ?_
            refine qx_if_eqC (t := 146) d_QM_overflows_139 rfl (fun c139 => ?_) (fun c139 => ?_)
            · refine qx_iconstN (v := 0) d_QM_overflows_146 rfl ?_
              exact qx_iret d_QM_overflows_147 rfl rfl (by omega) (by omega) (by refine ⟨?_, rfl, rfl⟩; first | (rw [(pn_mul p q).mpr (Or.inl (Or.inl c91))]; rfl) | (rw [(pn_mul p q).mpr (Or.inl (Or.inr c97))]; rfl) | (rw [(pn_mul p q).mpr (Or.inr (fun e => e.elim (fun f => (by first | exact c106 f.1 | exact c114 f.2)) (fun e => e.elim (fun f => (by first | exact c121 f.1 | exact c129 f.2)) (fun f => f c139))))]; rfl) | (rw [show xLong 2 p q = false from Bool.eq_false_iff.mpr (fun e => ((pn_mul p q).mp e).elim (fun f => f.elim c91 c97) (fun f => f (Or.inl ⟨c106, c114⟩)))]; rfl) | (rw [show xLong 2 p q = false from Bool.eq_false_iff.mpr (fun e => ((pn_mul p q).mp e).elim (fun f => f.elim c91 c97) (fun f => f (Or.inr (Or.inl ⟨c121, c129⟩))))]; rfl) | (rw [show xLong 2 p q = false from Bool.eq_false_iff.mpr (fun e => ((pn_mul p q).mp e).elim (fun f => f.elim c91 c97) (fun f => f (Or.inr (Or.inr c139))))]; rfl))
            · refine qx_iconstN (v := 1) d_QM_overflows_142 rfl ?_
              refine qx_goto (t := 147) d_QM_overflows_143 rfl ?_
              exact qx_iret d_QM_overflows_147 rfl rfl (by omega) (by omega) (by refine ⟨?_, rfl, rfl⟩; first | (rw [(pn_mul p q).mpr (Or.inl (Or.inl c91))]; rfl) | (rw [(pn_mul p q).mpr (Or.inl (Or.inr c97))]; rfl) | (rw [(pn_mul p q).mpr (Or.inr (fun e => e.elim (fun f => (by first | exact c106 f.1 | exact c114 f.2)) (fun e => e.elim (fun f => (by first | exact c121 f.1 | exact c129 f.2)) (fun f => f c139))))]; rfl) | (rw [show xLong 2 p q = false from Bool.eq_false_iff.mpr (fun e => ((pn_mul p q).mp e).elim (fun f => f.elim c91 c97) (fun f => f (Or.inl ⟨c106, c114⟩)))]; rfl) | (rw [show xLong 2 p q = false from Bool.eq_false_iff.mpr (fun e => ((pn_mul p q).mp e).elim (fun f => f.elim c91 c97) (fun f => f (Or.inr (Or.inl ⟨c121, c129⟩))))]; rfl) | (rw [show xLong 2 p q = false from Bool.eq_false_iff.mpr (fun e => ((pn_mul p q).mp e).elim (fun f => f.elim c91 c97) (fun f => f (Or.inr (Or.inr c139))))]; rfl))
      · refine qx_lload_n d_QM_overflows_109 rfl rfl ?_
        refine qx_ldc2 d_QM_overflows_110 kl_QM_165 ?_
        refine qx_lcmp d_QM_overflows_113 ?_
        refine qx_if_eqC (t := 142) d_QM_overflows_114 rfl (fun c114 => ?_) (fun c114 => ?_)
        · refine qx_iconstN (v := 1) d_QM_overflows_142 rfl ?_
          refine qx_goto (t := 147) d_QM_overflows_143 rfl ?_
          exact qx_iret d_QM_overflows_147 rfl rfl (by omega) (by omega) (by refine ⟨?_, rfl, rfl⟩; first | (rw [(pn_mul p q).mpr (Or.inl (Or.inl c91))]; rfl) | (rw [(pn_mul p q).mpr (Or.inl (Or.inr c97))]; rfl) | (rw [(pn_mul p q).mpr (Or.inr (fun e => e.elim (fun f => (by first | exact c106 f.1 | exact c114 f.2)) (fun e => e.elim (fun f => (by first | exact c121 f.1 | exact c129 f.2)) (fun f => f c139))))]; rfl) | (rw [show xLong 2 p q = false from Bool.eq_false_iff.mpr (fun e => ((pn_mul p q).mp e).elim (fun f => f.elim c91 c97) (fun f => f (Or.inl ⟨c106, c114⟩)))]; rfl) | (rw [show xLong 2 p q = false from Bool.eq_false_iff.mpr (fun e => ((pn_mul p q).mp e).elim (fun f => f.elim c91 c97) (fun f => f (Or.inr (Or.inl ⟨c121, c129⟩))))]; rfl) | (rw [show xLong 2 p q = false from Bool.eq_false_iff.mpr (fun e => ((pn_mul p q).mp e).elim (fun f => f.elim c91 c97) (fun f => f (Or.inr (Or.inr c139))))]; rfl))
        · refine qx_lload_n d_QM_overflows_117 rfl rfl ?_
          refine qx_lload d_QM_overflows_118 rfl ?_
          refine qx_lcmp d_QM_overflows_120 ?_
          refine qx_if_neC (t := 132) d_QM_overflows_121 rfl (fun c121 => ?_) (fun c121 => ?_)
          · refine qx_lload_n d_QM_overflows_132 rfl rfl ?_
            refine qx_lload_n d_QM_overflows_133 rfl rfl ?_
            refine qx_lmul d_QM_overflows_134 ?_
            refine qx_lload_n d_QM_overflows_135 rfl rfl ?_
            refine qx_ldiv d_QM_overflows_136 c97 ?_
            refine qx_lload_n d_QM_overflows_137 rfl rfl ?_
            refine qx_lcmp d_QM_overflows_138 ?_
            refine qx_if_eqC (t := 146) d_QM_overflows_139 rfl (fun c139 => ?_) (fun c139 => ?_)
            · refine qx_iconstN (v := 0) d_QM_overflows_146 rfl ?_
              exact qx_iret d_QM_overflows_147 rfl rfl (by omega) (by omega) (by refine ⟨?_, rfl, rfl⟩; first | (rw [(pn_mul p q).mpr (Or.inl (Or.inl c91))]; rfl) | (rw [(pn_mul p q).mpr (Or.inl (Or.inr c97))]; rfl) | (rw [(pn_mul p q).mpr (Or.inr (fun e => e.elim (fun f => (by first | exact c106 f.1 | exact c114 f.2)) (fun e => e.elim (fun f => (by first | exact c121 f.1 | exact c129 f.2)) (fun f => f c139))))]; rfl) | (rw [show xLong 2 p q = false from Bool.eq_false_iff.mpr (fun e => ((pn_mul p q).mp e).elim (fun f => f.elim c91 c97) (fun f => f (Or.inl ⟨c106, c114⟩)))]; rfl) | (rw [show xLong 2 p q = false from Bool.eq_false_iff.mpr (fun e => ((pn_mul p q).mp e).elim (fun f => f.elim c91 c97) (fun f => f (Or.inr (Or.inl ⟨c121, c129⟩))))]; rfl) | (rw [show xLong 2 p q = false from Bool.eq_false_iff.mpr (fun e => ((pn_mul p q).mp e).elim (fun f => f.elim c91 c97) (fun f => f (Or.inr (Or.inr c139))))]; rfl))
            · refine qx_iconstN (v := 1) d_QM_overflows_142 rfl ?_
              refine qx_goto (t := 147) d_QM_overflows_143 rfl ?_
              exact qx_iret d_QM_overflows_147 rfl rfl (by omega) (by omega) (by refine ⟨?_, rfl, rfl⟩; first | (rw [(pn_mul p q).mpr (Or.inl (Or.inl c91))]; rfl) | (rw [(pn_mul p q).mpr (Or.inl (Or.inr c97))]; rfl) | (rw [(pn_mul p q).mpr (Or.inr (fun e => e.elim (fun f => (by first | exact c106 f.1 | exact c114 f.2)) (fun e => e.elim (fun f => (by first | exact c121 f.1 | exact c129 f.2)) (fun f => f c139))))]; rfl) | (rw [show xLong 2 p q = false from Bool.eq_false_iff.mpr (fun e => ((pn_mul p q).mp e).elim (fun f => f.elim c91 c97) (fun f => f (Or.inl ⟨c106, c114⟩)))]; rfl) | (rw [show xLong 2 p q = false from Bool.eq_false_iff.mpr (fun e => ((pn_mul p q).mp e).elim (fun f => f.elim c91 c97) (fun f => f (Or.inr (Or.inl ⟨c121, c129⟩))))]; rfl) | (rw [show xLong 2 p q = false from Bool.eq_false_iff.mpr (fun e => ((pn_mul p q).mp e).elim (fun f => f.elim c91 c97) (fun f => f (Or.inr (Or.inr c139))))]; rfl))
          · refine qx_lload_n d_QM_overflows_124 rfl rfl ?_
            refine qx_ldc2 d_QM_overflows_125 kl_QM_165 ?_
            refine qx_lcmp d_QM_overflows_128 ?_
            refine qx_if_eqC (t := 142) d_QM_overflows_129 rfl (fun c129 => ?_) (fun c129 => ?_)
            · refine qx_iconstN (v := 1) d_QM_overflows_142 rfl ?_
              refine qx_goto (t := 147) d_QM_overflows_143 rfl ?_
              exact qx_iret d_QM_overflows_147 rfl rfl (by omega) (by omega) (by refine ⟨?_, rfl, rfl⟩; first | (rw [(pn_mul p q).mpr (Or.inl (Or.inl c91))]; rfl) | (rw [(pn_mul p q).mpr (Or.inl (Or.inr c97))]; rfl) | (rw [(pn_mul p q).mpr (Or.inr (fun e => e.elim (fun f => (by first | exact c106 f.1 | exact c114 f.2)) (fun e => e.elim (fun f => (by first | exact c121 f.1 | exact c129 f.2)) (fun f => f c139))))]; rfl) | (rw [show xLong 2 p q = false from Bool.eq_false_iff.mpr (fun e => ((pn_mul p q).mp e).elim (fun f => f.elim c91 c97) (fun f => f (Or.inl ⟨c106, c114⟩)))]; rfl) | (rw [show xLong 2 p q = false from Bool.eq_false_iff.mpr (fun e => ((pn_mul p q).mp e).elim (fun f => f.elim c91 c97) (fun f => f (Or.inr (Or.inl ⟨c121, c129⟩))))]; rfl) | (rw [show xLong 2 p q = false from Bool.eq_false_iff.mpr (fun e => ((pn_mul p q).mp e).elim (fun f => f.elim c91 c97) (fun f => f (Or.inr (Or.inr c139))))]; rfl))
            · refine qx_lload_n d_QM_overflows_132 rfl rfl ?_
              refine qx_lload_n d_QM_overflows_133 rfl rfl ?_
              refine qx_lmul d_QM_overflows_134 ?_
              refine qx_lload_n d_QM_overflows_135 rfl rfl ?_
              refine qx_ldiv d_QM_overflows_136 c97 ?_
              refine qx_lload_n d_QM_overflows_137 rfl rfl ?_
              refine qx_lcmp d_QM_overflows_138 ?_
              refine qx_if_eqC (t := 146) d_QM_overflows_139 rfl (fun c139 => ?_) (fun c139 => ?_)
              · refine qx_iconstN (v := 0) d_QM_overflows_146 rfl ?_
                exact qx_iret d_QM_overflows_147 rfl rfl (by omega) (by omega) (by refine ⟨?_, rfl, rfl⟩; first | (rw [(pn_mul p q).mpr (Or.inl (Or.inl c91))]; rfl) | (rw [(pn_mul p q).mpr (Or.inl (Or.inr c97))]; rfl) | (rw [(pn_mul p q).mpr (Or.inr (fun e => e.elim (fun f => (by first | exact c106 f.1 | exact c114 f.2)) (fun e => e.elim (fun f => (by first | exact c121 f.1 | exact c129 f.2)) (fun f => f c139))))]; rfl) | (rw [show xLong 2 p q = false from Bool.eq_false_iff.mpr (fun e => ((pn_mul p q).mp e).elim (fun f => f.elim c91 c97) (fun f => f (Or.inl ⟨c106, c114⟩)))]; rfl) | (rw [show xLong 2 p q = false from Bool.eq_false_iff.mpr (fun e => ((pn_mul p q).mp e).elim (fun f => f.elim c91 c97) (fun f => f (Or.inr (Or.inl ⟨c121, c129⟩))))]; rfl) | (rw [show xLong 2 p q = false from Bool.eq_false_iff.mpr (fun e => ((pn_mul p q).mp e).elim (fun f => f.elim c91 c97) (fun f => f (Or.inr (Or.inr c139))))]; rfl))
              · refine qx_iconstN (v := 1) d_QM_overflows_142 rfl ?_
                refine qx_goto (t := 147) d_QM_overflows_143 rfl ?_
                exact qx_iret d_QM_overflows_147 rfl rfl (by omega) (by omega) (by refine ⟨?_, rfl, rfl⟩; first | (rw [(pn_mul p q).mpr (Or.inl (Or.inl c91))]; rfl) | (rw [(pn_mul p q).mpr (Or.inl (Or.inr c97))]; rfl) | (rw [(pn_mul p q).mpr (Or.inr (fun e => e.elim (fun f => (by first | exact c106 f.1 | exact c114 f.2)) (fun e => e.elim (fun f => (by first | exact c121 f.1 | exact c129 f.2)) (fun f => f c139))))]; rfl) | (rw [show xLong 2 p q = false from Bool.eq_false_iff.mpr (fun e => ((pn_mul p q).mp e).elim (fun f => f.elim c91 c97) (fun f => f (Or.inl ⟨c106, c114⟩)))]; rfl) | (rw [show xLong 2 p q = false from Bool.eq_false_iff.mpr (fun e => ((pn_mul p q).mp e).elim (fun f => f.elim c91 c97) (fun f => f (Or.inr (Or.inl ⟨c121, c129⟩))))]; rfl) | (rw [show xLong 2 p q = false from Bool.eq_false_iff.mpr (fun e => ((pn_mul p q).mp e).elim (fun f => f.elim c91 c97) (fun f => f (Or.inr (Or.inr c139))))]; rfl))
    · refine qx_iconstN (v := 0) d_QM_overflows_100 rfl ?_
      exact qx_iret d_QM_overflows_101 rfl rfl (by omega) (by omega) (by refine ⟨?_, rfl, rfl⟩; first | (rw [(pn_mul p q).mpr (Or.inl (Or.inl c91))]; rfl) | (rw [(pn_mul p q).mpr (Or.inl (Or.inr c97))]; rfl) | (rw [(pn_mul p q).mpr (Or.inr (fun e => e.elim (fun f => (by first | exact c106 f.1 | exact c114 f.2)) (fun e => e.elim (fun f => (by first | exact c121 f.1 | exact c129 f.2)) (fun f => f c139))))]; rfl) | (rw [show xLong 2 p q = false from Bool.eq_false_iff.mpr (fun e => ((pn_mul p q).mp e).elim (fun f => f.elim c91 c97) (fun f => f (Or.inl ⟨c106, c114⟩)))]; rfl) | (rw [show xLong 2 p q = false from Bool.eq_false_iff.mpr (fun e => ((pn_mul p q).mp e).elim (fun f => f.elim c91 c97) (fun f => f (Or.inr (Or.inl ⟨c121, c129⟩))))]; rfl) | (rw [show xLong 2 p q = false from Bool.eq_false_iff.mpr (fun e => ((pn_mul p q).mp e).elim (fun f => f.elim c91 c97) (fun f => f (Or.inr (Or.inr c139))))]; rfl))
