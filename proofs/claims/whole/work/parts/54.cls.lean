/-! the class's waiting messages, over a heap -/
def qRLi (a : Nat) : Nat → Option Nat := fun f => (([some (a + 1), some (a + 2), some (a + 3)] : List (Option Nat))[f]?).getD none
def wR (h : qH) (mk mt ma : Nat → Nat) (n : Nat) : qH := (fun a => if a = 86 then iN mk else if a = 87 then iN mt else if a = 88 then iN ma else if a = 85 then va_up (h.1 85) 3 (nI n) else h.1 a, h.2.1, h.2.2)
theorem wR_of {h : qH} {mk mt ma : Nat → Nat} {n : Nat} (h1 : h.1 86 = iN mk) (h2 : h.1 87 = iN mt) (h3 : h.1 88 = iN ma) (h4 : h.1 85 3 = nI n) : wR h mk mt ma n = h := by
  obtain ⟨x, y, z⟩ := h
  unfold wR
  dsimp only at *
  refine Prod.ext ?_ rfl
  funext a
  dsimp only
  split
  · next e => rw [e, h1]
  · split
    · next e => rw [e, h2]
    · split
      · next e => rw [e, h3]
      · split
        · next e => rw [e, ← h4]; exact qv_self
        · rfl
theorem wR_k {h : qH} {mk mt ma : Nat → Nat} {n t v : Nat} : qpI (wR h mk mt ma n) 86 t (nI v) = wR h (va_up mk t v) mt ma n := by
  unfold wR qpI
  dsimp only
  refine Prod.ext ?_ rfl
  funext a
  dsimp only
  by_cases ha : a = 86
  · subst ha
    simp only [qus]
    exact iN_up
  · rw [qun ha]
    simp only [ha, if_false]
theorem wR_t {h : qH} {mk mt ma : Nat → Nat} {n t v : Nat} : qpI (wR h mk mt ma n) 87 t (nI v) = wR h mk (va_up mt t v) ma n := by
  unfold wR qpI
  dsimp only
  refine Prod.ext ?_ rfl
  funext a
  dsimp only
  by_cases ha : a = 87
  · subst ha
    simp only [qus]
    exact iN_up
  · rw [qun ha]
    simp only [ha, if_false]
theorem wR_a {h : qH} {mk mt ma : Nat → Nat} {n t v : Nat} : qpI (wR h mk mt ma n) 88 t (nI v) = wR h mk mt (va_up ma t v) n := by
  unfold wR qpI
  dsimp only
  refine Prod.ext ?_ rfl
  funext a
  dsimp only
  by_cases ha : a = 88
  · subst ha
    simp only [qus]
    exact iN_up
  · rw [qun ha]
    simp only [ha, if_false]
theorem wR_n {h : qH} {mk mt ma : Nat → Nat} {n v : Nat} : qpI (wR h mk mt ma n) 85 3 (nI v) = wR h mk mt ma v := by
  unfold wR qpI
  dsimp only
  refine Prod.ext ?_ rfl
  funext a
  dsimp only
  by_cases ha : a = 85
  · subst ha
    simp only [qus]
    exact qv_up
  · rw [qun ha]
    simp only [ha, if_false]
set_option maxRecDepth 100000 in
set_option maxHeartbeats 4000000 in
theorem ct_Li_add {h : qH} (hL : h.2.2 85 = qRLi 85) (mk mt ma : Nat → Nat) (n : Nat) (hn : n < 68) (k t a : Nat) : qT mi_Li_add 0 0 0 [.ref 85, .int (nI k), .int (nI t), .int (nI a)] (wR h mk mt ma n) NN (fun v1 h1 n1 => v1 = some (.int (b2i true)) ∧ h1 = wR h (va_up mk n k) (va_up mt n t) (va_up ma n a) (n + 1) ∧ n1 = NN) := by
  refine qT.of (lv0 := [_, _, _, _]) (by decide +kernel) (fun _ _ => Nat.le_of_ble_eq_true rfl) rfl ?_
  refine qx_aload_n d_Li_add_0 rfl rfl ?_
  refine qx_getI d_Li_add_1 fI_Li_19 rfl rfl (show _ = nI n from rfl) ?_
  refine qx_aload_n d_Li_add_4 rfl rfl ?_
  refine qx_getR d_Li_add_5 fR_Li_7 rfl rfl (congrFun hL 0) ?_
  refine qx_alenI (v := nI 68) d_Li_add_8 rfl rfl rfl ?_
  refine qx_icmp_ltN (t := 14) d_Li_add_9 rfl (by omega) (by omega) (fun c9 => ?_) (fun c9 => absurd c9 (by omega))
  refine qx_aload_n d_Li_add_14 rfl rfl ?_
  refine qx_getR d_Li_add_15 fR_Li_7 rfl rfl (congrFun hL 0) ?_
  refine qx_aload_n d_Li_add_18 rfl rfl ?_
  refine qx_getI d_Li_add_19 fI_Li_19 rfl rfl (show _ = nI n from rfl) ?_
  refine qx_iload_n d_Li_add_22 rfl rfl ?_
  refine qx_iast d_Li_add_23 rfl rfl rfl rfl hn ?_
  refine qx_aload_n d_Li_add_24 rfl rfl ?_
  refine qx_getR d_Li_add_25 fR_Li_13 rfl rfl (congrFun hL 1) ?_
  refine qx_aload_n d_Li_add_28 rfl rfl ?_
  refine qx_getI d_Li_add_29 fI_Li_19 rfl rfl (show _ = nI n from rfl) ?_
  refine qx_iload_n d_Li_add_32 rfl rfl ?_
  refine qx_iast d_Li_add_33 rfl rfl rfl rfl hn ?_
  refine qx_aload_n d_Li_add_34 rfl rfl ?_
  refine qx_getR d_Li_add_35 fR_Li_16 rfl rfl (congrFun hL 2) ?_
  refine qx_aload_n d_Li_add_38 rfl rfl ?_
  refine qx_getI d_Li_add_39 fI_Li_19 rfl rfl (show _ = nI n from rfl) ?_
  refine qx_iload_n d_Li_add_42 rfl rfl ?_
  refine qx_iast d_Li_add_43 rfl rfl rfl rfl hn ?_
  refine qx_aload_n d_Li_add_44 rfl rfl ?_
  refine qx_dup d_Li_add_45 rfl ?_
  refine qx_getI d_Li_add_46 fI_Li_19 rfl rfl (show _ = nI n from rfl) ?_
  refine qx_iconstN (v := 1) d_Li_add_49 rfl ?_
  refine qx_iaddN d_Li_add_50 ?_
  refine qx_putI d_Li_add_51 fI_Li_19 rfl rfl ⟨rfl, rfl⟩ ?_
  refine qx_iconstN (v := 1) d_Li_add_54 rfl ?_
  exact qx_iret d_Li_add_55 rfl rfl (by omega) (by omega) ⟨rfl, by rw [wR_k, wR_t, wR_a, wR_n], rfl⟩
