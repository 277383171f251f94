theorem xR_c {h : qH} {e i : Nat} {v : Int32} {s : sX} : qpI (xR h e s) (e + 1) i v = xR h e (va_up s.1 i v, s.2) := by
  refine xR_put ?_
  funext a
  by_cases h0 : a = (e + 1)
  · subst h0
    rw [qus]
    rw [xR_1, xR_1]
  · rw [qun h0]
    by_cases q0 : a = e
    · first | exact absurd q0 h0 | (subst q0; rw [xR_0, xR_0]; rfl)
    · by_cases q1 : a = e + 1
      · first | exact absurd q1 h0 | (subst q1; rw [xR_1, xR_1])
      · by_cases q2 : a = e + 2
        · first | exact absurd q2 h0 | (subst q2; rw [xR_2, xR_2])
        · rw [xR_o q0 q1 q2, xR_o q0 q1 q2]
theorem xR_p {h : qH} {e i : Nat} {v : Int32} {s : sX} : qpI (xR h e s) (e + 2) i v = xR h e (s.1, va_up s.2.1 i v, s.2.2) := by
  refine xR_put ?_
  funext a
  by_cases h0 : a = (e + 2)
  · subst h0
    rw [qus]
    rw [xR_2, xR_2]
  · rw [qun h0]
    by_cases q0 : a = e
    · first | exact absurd q0 h0 | (subst q0; rw [xR_0, xR_0]; rfl)
    · by_cases q1 : a = e + 1
      · first | exact absurd q1 h0 | (subst q1; rw [xR_1, xR_1])
      · by_cases q2 : a = e + 2
        · first | exact absurd q2 h0 | (subst q2; rw [xR_2, xR_2])
        · rw [xR_o q0 q1 q2, xR_o q0 q1 q2]
theorem xR_l {h : qH} {e : Nat} {v : Int32} {s : sX} : qpI (xR h e s) e 2 v = xR h e (s.1, s.2.1, v, s.2.2.2) := by
  refine xR_put ?_
  funext a
  by_cases h0 : a = e
  · subst h0
    rw [qus]
    rw [xR_0, xR_0]
    funext j
    unfold xRow va_up
    by_cases j2 : j = 2
    · subst j2; rfl
    · by_cases j3 : j = 3
      · subst j3; rfl
      · by_cases j4 : j = 4
        · subst j4; rfl
        · simp [j2, j3, j4]
  · rw [qun h0]
    by_cases q0 : a = e
    · first | exact absurd q0 h0 | (subst q0; rw [xR_0, xR_0]; rfl)
    · by_cases q1 : a = e + 1
      · first | exact absurd q1 h0 | (subst q1; rw [xR_1, xR_1])
      · by_cases q2 : a = e + 2
        · first | exact absurd q2 h0 | (subst q2; rw [xR_2, xR_2])
        · rw [xR_o q0 q1 q2, xR_o q0 q1 q2]
theorem xR_t {h : qH} {e : Nat} {v : Int32} {s : sX} : qpI (xR h e s) e 3 v = xR h e (s.1, s.2.1, s.2.2.1, v, s.2.2.2.2) := by
  refine xR_put ?_
  funext a
  by_cases h0 : a = e
  · subst h0
    rw [qus]
    rw [xR_0, xR_0]
    funext j
    unfold xRow va_up
    by_cases j2 : j = 2
    · subst j2; rfl
    · by_cases j3 : j = 3
      · subst j3; rfl
      · by_cases j4 : j = 4
        · subst j4; rfl
        · simp [j2, j3, j4]
  · rw [qun h0]
    by_cases q0 : a = e
    · first | exact absurd q0 h0 | (subst q0; rw [xR_0, xR_0]; rfl)
    · by_cases q1 : a = e + 1
      · first | exact absurd q1 h0 | (subst q1; rw [xR_1, xR_1])
      · by_cases q2 : a = e + 2
        · first | exact absurd q2 h0 | (subst q2; rw [xR_2, xR_2])
        · rw [xR_o q0 q1 q2, xR_o q0 q1 q2]
theorem xR_n {h : qH} {e : Nat} {v : Int32} {s : sX} : qpI (xR h e s) e 4 v = xR h e (s.1, s.2.1, s.2.2.1, s.2.2.2.1, v) := by
  refine xR_put ?_
  funext a
  by_cases h0 : a = e
  · subst h0
    rw [qus]
    rw [xR_0, xR_0]
    funext j
    unfold xRow va_up
    by_cases j2 : j = 2
    · subst j2; rfl
    · by_cases j3 : j = 3
      · subst j3; rfl
      · by_cases j4 : j = 4
        · subst j4; rfl
        · simp [j2, j3, j4]
  · rw [qun h0]
    by_cases q0 : a = e
    · first | exact absurd q0 h0 | (subst q0; rw [xR_0, xR_0]; rfl)
    · by_cases q1 : a = e + 1
      · first | exact absurd q1 h0 | (subst q1; rw [xR_1, xR_1])
      · by_cases q2 : a = e + 2
        · first | exact absurd q2 h0 | (subst q2; rw [xR_2, xR_2])
        · rw [xR_o q0 q1 q2, xR_o q0 q1 q2]
set_option maxRecDepth 100000 in
set_option maxHeartbeats 4000000 in
theorem ct_Ex_clear {h : qH} (e : Nat) (he : exOk e) (hX : h.2.2 e = qREx e) (s : sX) : qT mi_Ex_clear 0 0 0 [.ref e] (xR h e s) NN (fun v1 h1 n1 => v1 = none ∧ h1 = xR h e (s.1, s.2.1, nI 0, nI 0, nI 0) ∧ n1 = NN) := by
  refine qT.of (lv0 := [_]) (by decide +kernel) (fun _ _ => Nat.le_of_ble_eq_true rfl) rfl ?_
  have hx := ex_pl he
  refine qx_aload_n d_Ex_clear_0 rfl rfl ?_
  refine qx_iconstN (v := 0) d_Ex_clear_1 rfl ?_
  refine qx_putI d_Ex_clear_2 fI_Ex_18 hx.1 hx.2.2.2.1 ⟨rfl, rfl⟩ ?_
  refine qx_aload_n d_Ex_clear_5 rfl rfl ?_
  refine qx_iconstN (v := 0) d_Ex_clear_6 rfl ?_
  refine qx_putI d_Ex_clear_7 fI_Ex_22 hx.1 hx.2.2.2.1 ⟨rfl, rfl⟩ ?_
  refine qx_aload_n d_Ex_clear_10 rfl rfl ?_
  refine qx_iconstN (v := 0) d_Ex_clear_11 rfl ?_
  refine qx_putI d_Ex_clear_12 fI_Ex_26 hx.1 hx.2.2.2.1 ⟨rfl, rfl⟩ ?_
  exact qx_ret d_Ex_clear_15 rfl (by omega) (by omega) ⟨rfl, by rw [xR_l, xR_t, xR_n], rfl⟩
