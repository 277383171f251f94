/-! THE CLASS. The rows of references that never change -/
def qRMa : Nat → Option Nat := fun f => ([some 60, some 61, some 62, some 63][f]?).getD none
/-- the machine's stack, over a heap -/
def nR (h : qH) (vs : Nat → Int64) (ns : Nat → Bool) : qH := (va_up h.1 63 (iB ns), va_up h.2.1 62 vs, h.2.2)
theorem nR_v {h : qH} {vs : Nat → Int64} {ns : Nat → Bool} {i : Nat} {x : Int64} : qpL (nR h vs ns) 62 i x = nR h (va_up vs i x) ns := by
  unfold nR qpL
  dsimp only
  rw [qv_up, qus]
theorem nR_n {h : qH} {vs : Nat → Int64} {ns : Nat → Bool} {i : Nat} {b : Bool} : qpI (nR h vs ns) 63 i (b2i b) = nR h vs (va_up ns i b) := by
  unfold nR qpI
  dsimp only
  rw [qv_up, qus, iB_up]
theorem nR_of {h : qH} {ns : Nat → Bool} (e : h.1 63 = iB ns) : nR h (h.2.1 62) ns = h := by
  unfold nR
  rw [← e, qv_self, qv_self]
/-- how the machine holds a value, and its stack: the top is the list's head -/
def mOne (vs : Nat → Int64) (ns : Nat → Bool) (i : Nat) (v : Option Int64) : Prop := match v with
  | none => ns i = true
  | some x => ns i = false ∧ vs i = x
def mRep (vs : Nat → Int64) (ns : Nat → Bool) : List xV → Prop
  | [] => True
  | v :: r => mOne vs ns r.length v.2 ∧ mRep vs ns r
theorem mRep_up {vs : Nat → Int64} {ns : Nat → Bool} {i : Nat} {x : Int64} {y : Bool} : ∀ {r : List xV}, r.length ≤ i → mRep vs ns r → mRep (va_up vs i x) (va_up ns i y) r
  | [], _, _ => trivial
  | v :: r, h, hr => by
    have h : r.length + 1 ≤ i := h
    refine ⟨?_, mRep_up (by omega) hr.2⟩
    have := hr.1
    unfold mOne at this ⊢
    rw [qun (by omega), qun (by omega)]
    exact this
theorem mRep_push {vs : Nat → Int64} {ns : Nat → Bool} {r : List xV} {v : xV} {i : Nat} {x : Int64} {y : Bool} (hi : i = r.length) (hy : y = v.2.isNone) (hx : ∀ z, v.2 = some z → x = z) (hr : mRep vs ns r) : mRep (va_up vs i x) (va_up ns i y) (v :: r) := by
  subst hi
  refine ⟨?_, mRep_up (Nat.le_refl _) hr⟩
  obtain ⟨t, v⟩ := v
  cases v with
  | none => exact (qus).trans hy
  | some z => exact ⟨qus.trans hy, qus.trans (hx z rfl)⟩
theorem xL2a {p q : Int64} (h : q = 0 ∨ q = -1) : xLong 2 p q = decide (q = 0 ∨ ¬ p = xMIN) := by
  show (if q = 0 ∨ q = -1 then decide (q = 0 ∨ ¬ p = xMIN) else decide (p * q / q = p)) = _
  rw [if_pos h]
theorem xL2b {p q : Int64} (h : ¬ q = 0) (h2 : ¬ q = -1) : xLong 2 p q = decide (p * q / q = p) := by
  show (if q = 0 ∨ q = -1 then decide (q = 0 ∨ ¬ p = xMIN) else decide (p * q / q = p)) = _
  rw [if_neg (fun e => e.elim h h2)]
set_option maxRecDepth 100000 in
set_option maxHeartbeats 4000000 in
theorem ct_Ma_isLong_0 {h : qH} {n : Nat} (p q : Int64) : qT mi_Ma_isLong 0 0 0 [.int (nI 0), .long p, .long q] h n (fun v1 h1 n1 => v1 = some (.int (b2i (xLong 0 p q))) ∧ h = h1 ∧ n1 = n) := by
  refine qT.of (lv0 := [_, _, _, _, _]) (by decide +kernel) (fun _ _ => Nat.le_of_ble_eq_true rfl) rfl ?_
  refine qx_iload_n d_Ma_isLong_0 rfl rfl ?_
  refine qx_tabIn (t := 32) d_Ma_isLong_1 (by decide) (by decide) rfl rfl ?_
  refine qx_lload_n d_Ma_isLong_32 rfl rfl ?_
  refine qx_lload_n d_Ma_isLong_33 rfl rfl ?_
  refine qx_lload_n d_Ma_isLong_34 rfl rfl ?_
  refine qx_ladd d_Ma_isLong_35 ?_
  refine qx_lxor d_Ma_isLong_36 ?_
  refine qx_lload_n d_Ma_isLong_37 rfl rfl ?_
  refine qx_lload_n d_Ma_isLong_38 rfl rfl ?_
  refine qx_lload_n d_Ma_isLong_39 rfl rfl ?_
  refine qx_ladd d_Ma_isLong_40 ?_
  refine qx_lxor d_Ma_isLong_41 ?_
  refine qx_land d_Ma_isLong_42 ?_
  refine qx_lconst (v := 0) d_Ma_isLong_43 rfl ?_
  refine qx_lcmp d_Ma_isLong_44 ?_
  refine qx_if_ltC (t := 52) d_Ma_isLong_45 rfl (fun c45 => ?_) (fun c45 => ?_)
  · refine qx_iconstN (v := 0) d_Ma_isLong_52 rfl ?_
    exact qx_iret d_Ma_isLong_53 rfl rfl (by omega) (by omega) (by refine ⟨?_, rfl, rfl⟩; first | (rw [show xLong 0 p q = true from decide_eq_true c45]; rfl) | (rw [show xLong 0 p q = false from decide_eq_false (Int64.not_le.mpr c45)]; rfl))
  · refine qx_iconstN (v := 1) d_Ma_isLong_48 rfl ?_
    refine qx_goto (t := 53) d_Ma_isLong_49 rfl ?_
    exact qx_iret d_Ma_isLong_53 rfl rfl (by omega) (by omega) (by refine ⟨?_, rfl, rfl⟩; first | (rw [show xLong 0 p q = true from decide_eq_true c45]; rfl) | (rw [show xLong 0 p q = false from decide_eq_false (Int64.not_le.mpr c45)]; rfl))
set_option maxRecDepth 100000 in
set_option maxHeartbeats 4000000 in
theorem ct_Ma_isLong_1 {h : qH} {n : Nat} (p q : Int64) : qT mi_Ma_isLong 0 0 0 [.int (nI 1), .long p, .long q] h n (fun v1 h1 n1 => v1 = some (.int (b2i (xLong 1 p q))) ∧ h = h1 ∧ n1 = n) := by
  refine qT.of (lv0 := [_, _, _, _, _]) (by decide +kernel) (fun _ _ => Nat.le_of_ble_eq_true rfl) rfl ?_
  refine qx_iload_n d_Ma_isLong_0 rfl rfl ?_
  refine qx_tabIn (t := 54) d_Ma_isLong_1 (by decide) (by decide) rfl rfl ?_
  refine qx_lload_n d_Ma_isLong_54 rfl rfl ?_
  refine qx_lload_n d_Ma_isLong_55 rfl rfl ?_
  refine qx_lxor d_Ma_isLong_56 ?_
  refine qx_lload_n d_Ma_isLong_57 rfl rfl ?_
  refine qx_lload_n d_Ma_isLong_58 rfl rfl ?_
  refine qx_lload_n d_Ma_isLong_59 rfl rfl ?_
  refine qx_lsub d_Ma_isLong_60 ?_
  refine qx_lxor d_Ma_isLong_61 ?_
  refine qx_land d_Ma_isLong_62 ?_
  refine qx_lconst (v := 0) d_Ma_isLong_63 rfl ?_
  refine qx_lcmp d_Ma_isLong_64 ?_
  refine qx_if_ltC (t := 72) d_Ma_isLong_65 rfl (fun c65 => ?_) (fun c65 => ?_)
  · refine qx_iconstN (v := 0) d_Ma_isLong_72 rfl ?_
    exact qx_iret d_Ma_isLong_73 rfl rfl (by omega) (by omega) (by refine ⟨?_, rfl, rfl⟩; first | (rw [show xLong 1 p q = true from decide_eq_true c65]; rfl) | (rw [show xLong 1 p q = false from decide_eq_false (Int64.not_le.mpr c65)]; rfl))
  · refine qx_iconstN (v := 1) d_Ma_isLong_68 rfl ?_
    refine qx_goto (t := 73) d_Ma_isLong_69 rfl ?_
    exact qx_iret d_Ma_isLong_73 rfl rfl (by omega) (by omega) (by refine ⟨?_, rfl, rfl⟩; first | (rw [show xLong 1 p q = true from decide_eq_true c65]; rfl) | (rw [show xLong 1 p q = false from decide_eq_false (Int64.not_le.mpr c65)]; rfl))
set_option maxRecDepth 100000 in
set_option maxHeartbeats 4000000 in
theorem ct_Ma_isLong_2 {h : qH} {n : Nat} (p q : Int64) : qT mi_Ma_isLong 0 0 0 [.int (nI 2), .long p, .long q] h n (fun v1 h1 n1 => v1 = some (.int (b2i (xLong 2 p q))) ∧ h = h1 ∧ n1 = n) := by
  refine qT.of (lv0 := [_, _, _, _, _]) (by decide +kernel) (fun _ _ => Nat.le_of_ble_eq_true rfl) rfl ?_
  refine qx_iload_n d_Ma_isLong_0 rfl rfl ?_
  refine qx_tabIn (t := 74) d_Ma_isLong_1 (by decide) (by decide) rfl rfl ?_
  refine qx_lload_n d_Ma_isLong_74 rfl rfl ?_
  refine qx_lconst (v := 0) d_Ma_isLong_75 rfl ?_
  refine qx_lcmp d_Ma_isLong_76 ?_
  refine qx_if_eqC (t := 88) d_Ma_isLong_77 rfl (fun c77 => ?_) (fun c77 => ?_)
  · refine qx_lload_n d_Ma_isLong_88 rfl rfl ?_
    refine qx_lconst (v := 0) d_Ma_isLong_89 rfl ?_
    refine qx_lcmp d_Ma_isLong_90 ?_
    refine qx_if_eqC (t := 102) d_Ma_isLong_91 rfl (fun c91 => ?_) (fun c91 => ?_)
    · refine qx_iconstN (v := 1) d_Ma_isLong_102 rfl ?_
      refine qx_goto (t := 107) d_Ma_isLong_103 rfl ?_
      exact qx_iret d_Ma_isLong_107 rfl rfl (by omega) (by omega) (by refine ⟨?_, rfl, rfl⟩; first | (exact absurd c77 c91) | (exact absurd c91 c77) | (rw [xL2a (Or.inl c77), decide_eq_true (show q = 0 ∨ ¬ p = xMIN from Or.inl c77)]; rfl) | (have z := c99; rw [xL2a (Or.inr c85)]; first | (rw [decide_eq_true (show q = 0 ∨ ¬ p = xMIN from Or.inr c99)]; rfl) | (rw [decide_eq_false (show ¬ (q = 0 ∨ ¬ p = xMIN) from fun e => e.elim c91 (fun f => f c99))]; rfl)) | (have z := c115; rw [xL2b c77 c85]; first | (rw [decide_eq_true c115]; rfl) | (rw [decide_eq_false c115]; rfl)))
    · refine qx_lload_n d_Ma_isLong_94 rfl rfl ?_
      refine qx_ldc2 d_Ma_isLong_95 kl_Ma_70 ?_
      refine qx_lcmp d_Ma_isLong_98 ?_
      refine qx_if_eqC (t := 106) d_Ma_isLong_99 rfl (fun c99 => ?_) (fun c99 => ?_)
      · refine qx_iconstN (v := 0) d_Ma_isLong_106 rfl ?_
        exact qx_iret d_Ma_isLong_107 rfl rfl (by omega) (by omega) (by refine ⟨?_, rfl, rfl⟩; first | (exact absurd c77 c91) | (exact absurd c91 c77) | (rw [xL2a (Or.inl c77), decide_eq_true (show q = 0 ∨ ¬ p = xMIN from Or.inl c77)]; rfl) | (have z := c99; rw [xL2a (Or.inr c85)]; first | (rw [decide_eq_true (show q = 0 ∨ ¬ p = xMIN from Or.inr c99)]; rfl) | (rw [decide_eq_false (show ¬ (q = 0 ∨ ¬ p = xMIN) from fun e => e.elim c91 (fun f => f c99))]; rfl)) | (have z := c115; rw [xL2b c77 c85]; first | (rw [decide_eq_true c115]; rfl) | (rw [decide_eq_false c115]; rfl)))
      · refine qx_iconstN (v := 1) d_Ma_isLong_102 rfl ?_
        refine qx_goto (t := 107) d_Ma_isLong_103 rfl ?_
        exact qx_iret d_Ma_isLong_107 rfl rfl (by omega) (by omega) (by refine ⟨?_, rfl, rfl⟩; first | (exact absurd c77 c91) | (exact absurd c91 c77) | (rw [xL2a (Or.inl c77), decide_eq_true (show q = 0 ∨ ¬ p = xMIN from Or.inl c77)]; rfl) | (have z := c99; rw [xL2a (Or.inr c85)]; first | (rw [decide_eq_true (show q = 0 ∨ ¬ p = xMIN from Or.inr c99)]; rfl) | (rw [decide_eq_false (show ¬ (q = 0 ∨ ¬ p = xMIN) from fun e => e.elim c91 (fun f => f c99))]; rfl)) | (have z := c115; rw [xL2b c77 c85]; first | (rw [decide_eq_true c115]; rfl) | (rw [decide_eq_false c115]; rfl)))
  · refine qx_lload_n d_Ma_isLong_80 rfl rfl ?_
    refine qx_ldc2 d_Ma_isLong_81 kl_Ma_68 ?_
    refine qx_lcmp d_Ma_isLong_84 ?_
    refine qx_if_neC (t := 108) d_Ma_isLong_85 rfl (fun c85 => ?_) (fun c85 => ?_)
    · refine qx_lload_n d_Ma_isLong_108 rfl rfl ?_
      refine qx_lload_n d_Ma_isLong_109 rfl rfl ?_
      refine qx_lmul d_Ma_isLong_110 ?_
      refine qx_lload_n d_Ma_isLong_111 rfl rfl ?_
      refine qx_ldiv d_Ma_isLong_112 c77 ?_
      refine qx_lload_n d_Ma_isLong_113 rfl rfl ?_
      refine qx_lcmp d_Ma_isLong_114 ?_
      refine qx_if_neC (t := 122) d_Ma_isLong_115 rfl (fun c115 => ?_) (fun c115 => ?_)
      · refine qx_iconstN (v := 0) d_Ma_isLong_122 rfl ?_
        exact qx_iret d_Ma_isLong_123 rfl rfl (by omega) (by omega) (by refine ⟨?_, rfl, rfl⟩; first | (exact absurd c77 c91) | (exact absurd c91 c77) | (rw [xL2a (Or.inl c77), decide_eq_true (show q = 0 ∨ ¬ p = xMIN from Or.inl c77)]; rfl) | (have z := c99; rw [xL2a (Or.inr c85)]; first | (rw [decide_eq_true (show q = 0 ∨ ¬ p = xMIN from Or.inr c99)]; rfl) | (rw [decide_eq_false (show ¬ (q = 0 ∨ ¬ p = xMIN) from fun e => e.elim c91 (fun f => f c99))]; rfl)) | (have z := c115; rw [xL2b c77 c85]; first | (rw [decide_eq_true c115]; rfl) | (rw [decide_eq_false c115]; rfl)))
      · refine qx_iconstN (v := 1) d_Ma_isLong_118 rfl ?_
        refine qx_goto (t := 123) d_Ma_isLong_119 rfl ?_
        exact qx_iret d_Ma_isLong_123 rfl rfl (by omega) (by omega) (by refine ⟨?_, rfl, rfl⟩; first | (exact absurd c77 c91) | (exact absurd c91 c77) | (rw [xL2a (Or.inl c77), decide_eq_true (show q = 0 ∨ ¬ p = xMIN from Or.inl c77)]; rfl) | (have z := c99; rw [xL2a (Or.inr c85)]; first | (rw [decide_eq_true (show q = 0 ∨ ¬ p = xMIN from Or.inr c99)]; rfl) | (rw [decide_eq_false (show ¬ (q = 0 ∨ ¬ p = xMIN) from fun e => e.elim c91 (fun f => f c99))]; rfl)) | (have z := c115; rw [xL2b c77 c85]; first | (rw [decide_eq_true c115]; rfl) | (rw [decide_eq_false c115]; rfl)))
    · refine qx_lload_n d_Ma_isLong_88 rfl rfl ?_
      refine qx_lconst (v := 0) d_Ma_isLong_89 rfl ?_
      refine qx_lcmp d_Ma_isLong_90 ?_
      refine qx_if_eqC (t := 102) d_Ma_isLong_91 rfl (fun c91 => ?_) (fun c91 => ?_)
      · refine qx_iconstN (v := 1) d_Ma_isLong_102 rfl ?_
        refine qx_goto (t := 107) d_Ma_isLong_103 rfl ?_
        exact qx_iret d_Ma_isLong_107 rfl rfl (by omega) (by omega) (by refine ⟨?_, rfl, rfl⟩; first | (exact absurd c77 c91) | (exact absurd c91 c77) | (rw [xL2a (Or.inl c77), decide_eq_true (show q = 0 ∨ ¬ p = xMIN from Or.inl c77)]; rfl) | (have z := c99; rw [xL2a (Or.inr c85)]; first | (rw [decide_eq_true (show q = 0 ∨ ¬ p = xMIN from Or.inr c99)]; rfl) | (rw [decide_eq_false (show ¬ (q = 0 ∨ ¬ p = xMIN) from fun e => e.elim c91 (fun f => f c99))]; rfl)) | (have z := c115; rw [xL2b c77 c85]; first | (rw [decide_eq_true c115]; rfl) | (rw [decide_eq_false c115]; rfl)))
      · refine qx_lload_n d_Ma_isLong_94 rfl rfl ?_
        refine qx_ldc2 d_Ma_isLong_95 kl_Ma_70 ?_
        refine qx_lcmp d_Ma_isLong_98 ?_
        refine qx_if_eqC (t := 106) d_Ma_isLong_99 rfl (fun c99 => ?_) (fun c99 => ?_)
        · refine qx_iconstN (v := 0) d_Ma_isLong_106 rfl ?_
          exact qx_iret d_Ma_isLong_107 rfl rfl (by omega) (by omega) (by refine ⟨?_, rfl, rfl⟩; first | (exact absurd c77 c91) | (exact absurd c91 c77) | (rw [xL2a (Or.inl c77), decide_eq_true (show q = 0 ∨ ¬ p = xMIN from Or.inl c77)]; rfl) | (have z := c99; rw [xL2a (Or.inr c85)]; first | (rw [decide_eq_true (show q = 0 ∨ ¬ p = xMIN from Or.inr c99)]; rfl) | (rw [decide_eq_false (show ¬ (q = 0 ∨ ¬ p = xMIN) from fun e => e.elim c91 (fun f => f c99))]; rfl)) | (have z := c115; rw [xL2b c77 c85]; first | (rw [decide_eq_true c115]; rfl) | (rw [decide_eq_false c115]; rfl)))
        · refine qx_iconstN (v := 1) d_Ma_isLong_102 rfl ?_
          refine qx_goto (t := 107) d_Ma_isLong_103 rfl ?_
          exact qx_iret d_Ma_isLong_107 rfl rfl (by omega) (by omega) (by refine ⟨?_, rfl, rfl⟩; first | (exact absurd c77 c91) | (exact absurd c91 c77) | (rw [xL2a (Or.inl c77), decide_eq_true (show q = 0 ∨ ¬ p = xMIN from Or.inl c77)]; rfl) | (have z := c99; rw [xL2a (Or.inr c85)]; first | (rw [decide_eq_true (show q = 0 ∨ ¬ p = xMIN from Or.inr c99)]; rfl) | (rw [decide_eq_false (show ¬ (q = 0 ∨ ¬ p = xMIN) from fun e => e.elim c91 (fun f => f c99))]; rfl)) | (have z := c115; rw [xL2b c77 c85]; first | (rw [decide_eq_true c115]; rfl) | (rw [decide_eq_false c115]; rfl)))
set_option maxRecDepth 100000 in
set_option maxHeartbeats 4000000 in
theorem ct_Ma_isLong_3 {h : qH} {n : Nat} (p q : Int64) : qT mi_Ma_isLong 0 0 0 [.int (nI 3), .long p, .long q] h n (fun v1 h1 n1 => v1 = some (.int (b2i (xLong 3 p q))) ∧ h = h1 ∧ n1 = n) := by
  refine qT.of (lv0 := [_, _, _, _, _]) (by decide +kernel) (fun _ _ => Nat.le_of_ble_eq_true rfl) rfl ?_
  refine qx_iload_n d_Ma_isLong_0 rfl rfl ?_
  refine qx_tabIn (t := 124) d_Ma_isLong_1 (by decide) (by decide) rfl rfl ?_
  refine qx_lload_n d_Ma_isLong_124 rfl rfl ?_
  refine qx_lconst (v := 0) d_Ma_isLong_125 rfl ?_
  refine qx_lcmp d_Ma_isLong_126 ?_
  refine qx_if_eqC (t := 150) d_Ma_isLong_127 rfl (fun c127 => ?_) (fun c127 => ?_)
  · refine qx_iconstN (v := 0) d_Ma_isLong_150 rfl ?_
    exact qx_iret d_Ma_isLong_151 rfl rfl (by omega) (by omega) (by refine ⟨?_, rfl, rfl⟩; first | (rw [show xLong 3 p q = false from decide_eq_false (fun e => e.1 c127)]; rfl) | (rw [show xLong 3 p q = true from decide_eq_true ⟨c127, Or.inl c135⟩]; rfl) | (rw [show xLong 3 p q = true from decide_eq_true ⟨c127, Or.inr c143⟩]; rfl) | (rw [show xLong 3 p q = false from decide_eq_false (fun e => e.2.elim (fun f => f c135) (fun f => f c143))]; rfl))
  · refine qx_lload_n d_Ma_isLong_130 rfl rfl ?_
    refine qx_ldc2 d_Ma_isLong_131 kl_Ma_68 ?_
    refine qx_lcmp d_Ma_isLong_134 ?_
    refine qx_if_neC (t := 146) d_Ma_isLong_135 rfl (fun c135 => ?_) (fun c135 => ?_)
    · refine qx_iconstN (v := 1) d_Ma_isLong_146 rfl ?_
      refine qx_goto (t := 151) d_Ma_isLong_147 rfl ?_
      exact qx_iret d_Ma_isLong_151 rfl rfl (by omega) (by omega) (by refine ⟨?_, rfl, rfl⟩; first | (rw [show xLong 3 p q = false from decide_eq_false (fun e => e.1 c127)]; rfl) | (rw [show xLong 3 p q = true from decide_eq_true ⟨c127, Or.inl c135⟩]; rfl) | (rw [show xLong 3 p q = true from decide_eq_true ⟨c127, Or.inr c143⟩]; rfl) | (rw [show xLong 3 p q = false from decide_eq_false (fun e => e.2.elim (fun f => f c135) (fun f => f c143))]; rfl))
    · refine qx_lload_n d_Ma_isLong_138 rfl rfl ?_
      refine qx_ldc2 d_Ma_isLong_139 kl_Ma_70 ?_
      refine qx_lcmp d_Ma_isLong_142 ?_
      refine qx_if_eqC (t := 150) d_Ma_isLong_143 rfl (fun c143 => ?_) (fun c143 => ?_)
      · refine qx_iconstN (v := 0) d_Ma_isLong_150 rfl ?_
        exact qx_iret d_Ma_isLong_151 rfl rfl (by omega) (by omega) (by refine ⟨?_, rfl, rfl⟩; first | (rw [show xLong 3 p q = false from decide_eq_false (fun e => e.1 c127)]; rfl) | (rw [show xLong 3 p q = true from decide_eq_true ⟨c127, Or.inl c135⟩]; rfl) | (rw [show xLong 3 p q = true from decide_eq_true ⟨c127, Or.inr c143⟩]; rfl) | (rw [show xLong 3 p q = false from decide_eq_false (fun e => e.2.elim (fun f => f c135) (fun f => f c143))]; rfl))
      · refine qx_iconstN (v := 1) d_Ma_isLong_146 rfl ?_
        refine qx_goto (t := 151) d_Ma_isLong_147 rfl ?_
        exact qx_iret d_Ma_isLong_151 rfl rfl (by omega) (by omega) (by refine ⟨?_, rfl, rfl⟩; first | (rw [show xLong 3 p q = false from decide_eq_false (fun e => e.1 c127)]; rfl) | (rw [show xLong 3 p q = true from decide_eq_true ⟨c127, Or.inl c135⟩]; rfl) | (rw [show xLong 3 p q = true from decide_eq_true ⟨c127, Or.inr c143⟩]; rfl) | (rw [show xLong 3 p q = false from decide_eq_false (fun e => e.2.elim (fun f => f c135) (fun f => f c143))]; rfl))
set_option maxRecDepth 100000 in
set_option maxHeartbeats 4000000 in
theorem ct_Ma_calculate_0 {h : qH} {n : Nat} (p q : Int64) : qT mi_Ma_calculate 0 0 0 [.int (nI 0), .long p, .long q] h n (fun v1 h1 n1 => v1 = some (.long (xCalc 0 p q)) ∧ h = h1 ∧ n1 = n) := by
  refine qT.of (lv0 := [_, _, _, _, _]) (by decide +kernel) (fun _ _ => Nat.le_of_ble_eq_true rfl) rfl ?_
  refine qx_iload_n d_Ma_calculate_0 rfl rfl ?_
  refine qx_tabIn (t := 28) d_Ma_calculate_1 (by decide) (by decide) rfl rfl ?_
  refine qx_lload_n d_Ma_calculate_28 rfl rfl ?_
  refine qx_lload_n d_Ma_calculate_29 rfl rfl ?_
  refine qx_ladd d_Ma_calculate_30 ?_
  exact qx_lret d_Ma_calculate_31 rfl (by omega) (by omega) ⟨rfl, rfl, rfl⟩
set_option maxRecDepth 100000 in
set_option maxHeartbeats 4000000 in
theorem ct_Ma_calculate_1 {h : qH} {n : Nat} (p q : Int64) : qT mi_Ma_calculate 0 0 0 [.int (nI 1), .long p, .long q] h n (fun v1 h1 n1 => v1 = some (.long (xCalc 1 p q)) ∧ h = h1 ∧ n1 = n) := by
  refine qT.of (lv0 := [_, _, _, _, _]) (by decide +kernel) (fun _ _ => Nat.le_of_ble_eq_true rfl) rfl ?_
  refine qx_iload_n d_Ma_calculate_0 rfl rfl ?_
  refine qx_tabIn (t := 32) d_Ma_calculate_1 (by decide) (by decide) rfl rfl ?_
  refine qx_lload_n d_Ma_calculate_32 rfl rfl ?_
  refine qx_lload_n d_Ma_calculate_33 rfl rfl ?_
  refine qx_lsub d_Ma_calculate_34 ?_
  exact qx_lret d_Ma_calculate_35 rfl (by omega) (by omega) ⟨rfl, rfl, rfl⟩
set_option maxRecDepth 100000 in
set_option maxHeartbeats 4000000 in
theorem ct_Ma_calculate_2 {h : qH} {n : Nat} (p q : Int64) : qT mi_Ma_calculate 0 0 0 [.int (nI 2), .long p, .long q] h n (fun v1 h1 n1 => v1 = some (.long (xCalc 2 p q)) ∧ h = h1 ∧ n1 = n) := by
  refine qT.of (lv0 := [_, _, _, _, _]) (by decide +kernel) (fun _ _ => Nat.le_of_ble_eq_true rfl) rfl ?_
  refine qx_iload_n d_Ma_calculate_0 rfl rfl ?_
  refine qx_tabIn (t := 36) d_Ma_calculate_1 (by decide) (by decide) rfl rfl ?_
  refine qx_lload_n d_Ma_calculate_36 rfl rfl ?_
  refine qx_lload_n d_Ma_calculate_37 rfl rfl ?_
  refine qx_lmul d_Ma_calculate_38 ?_
  exact qx_lret d_Ma_calculate_39 rfl (by omega) (by omega) ⟨rfl, rfl, rfl⟩
set_option maxRecDepth 100000 in
set_option maxHeartbeats 4000000 in
theorem ct_Ma_calculate_3 {h : qH} {n : Nat} (p q : Int64) (hq : ¬ q = 0) : qT mi_Ma_calculate 0 0 0 [.int (nI 3), .long p, .long q] h n (fun v1 h1 n1 => v1 = some (.long (xCalc 3 p q)) ∧ h = h1 ∧ n1 = n) := by
  refine qT.of (lv0 := [_, _, _, _, _]) (by decide +kernel) (fun _ _ => Nat.le_of_ble_eq_true rfl) rfl ?_
  refine qx_iload_n d_Ma_calculate_0 rfl rfl ?_
  refine qx_tabOut (t := 40) d_Ma_calculate_1 (by decide) rfl ?_
  refine qx_lload_n d_Ma_calculate_40 rfl rfl ?_
  refine qx_lconst (v := 0) d_Ma_calculate_41 rfl ?_
  refine qx_lcmp d_Ma_calculate_42 ?_
  refine qx_if_neC (t := 50) d_Ma_calculate_43 rfl (fun c43 => ?_) (fun c43 => absurd c43 hq)
  refine qx_lload_n d_Ma_calculate_50 rfl rfl ?_
  refine qx_lload_n d_Ma_calculate_51 rfl rfl ?_
  refine qx_ldiv d_Ma_calculate_52 hq ?_
  exact qx_lret d_Ma_calculate_53 rfl (by omega) (by omega) ⟨rfl, rfl, rfl⟩
set_option maxRecDepth 100000 in
set_option maxHeartbeats 4000000 in
theorem ct_Ma_set {h : qH} (hM : h.2.2 59 = qRMa) (vs : Nat → Int64) (ns : Nat → Bool) (i : Nat) (hi : i < 8) (x : Int64) (b : Bool) : qT mi_Ma_set 0 0 0 [.ref 59, .int (nI i), .long x, .int (b2i b)] (nR h vs ns) NN (fun v1 h1 n1 => v1 = none ∧ h1 = nR h (va_up vs i x) (va_up ns i b) ∧ n1 = NN) := by
  refine qT.of (lv0 := [_, _, _, _, _]) (by decide +kernel) (fun _ _ => Nat.le_of_ble_eq_true rfl) rfl ?_
  refine qx_aload_n d_Ma_set_0 rfl rfl ?_
  refine qx_getR d_Ma_set_1 fR_Ma_19 rfl rfl (congrFun hM 2) ?_
  refine qx_iload_n d_Ma_set_4 rfl rfl ?_
  refine qx_lload_n d_Ma_set_5 rfl rfl ?_
  refine qx_last d_Ma_set_6 rfl rfl rfl rfl (by omega) ?_
  refine qx_aload_n d_Ma_set_7 rfl rfl ?_
  refine qx_getR d_Ma_set_8 fR_Ma_22 rfl rfl (congrFun hM 3) ?_
  refine qx_iload_n d_Ma_set_11 rfl rfl ?_
  refine qx_iload d_Ma_set_12 rfl ?_
  refine qx_zast d_Ma_set_14 rfl rfl rfl rfl (by omega) (b2i_nar b) ?_
  exact qx_ret d_Ma_set_15 rfl (by omega) (by omega) ⟨rfl, by rw [nR_v, nR_n], rfl⟩
