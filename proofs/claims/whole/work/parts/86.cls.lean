/-! expressions of the class: how one is held, and parts added -/
def exS (s : sX) (E : List xP) (t : Bool) : Prop := E.length ≤ 24 ∧ s.2.2.1 = nI E.length ∧ cExp s.1 s.2.1 0 E ∧ s.2.2.2.1 = b2i t ∧ nmOk s.2.2.2.2 E
theorem cExp_up {cd op cd2 op2 : Nat → Int32} : ∀ {E : List xP} {b : Nat}, (∀ i, b ≤ i → i < b + E.length → cd2 i = cd i ∧ op2 i = op i) → cExp cd op b E → cExp cd2 op2 b E
  | [], _, _, _ => trivial
  | p :: E, b, h, hx => by
    have h0 := h b (Nat.le_refl _) (by show b < b + (E.length + 1); omega)
    refine ⟨by rw [h0.1, h0.2]; exact hx.1, cExp_up (fun i h1 h2 => h i (by omega) (by show i < b + (E.length + 1); omega)) hx.2⟩
theorem cExp_app {cd op : Nat → Int32} {p : xP} : ∀ {E : List xP} {b : Nat}, cExp cd op b E → cPart (cd (b + E.length)) (op (b + E.length)) p → cExp cd op b (E ++ [p])
  | [], b, _, hp => ⟨hp, trivial⟩
  | q :: E, b, hx, hp => ⟨hx.1, cExp_app hx.2 (by rw [show b + 1 + E.length = b + (E.length + 1) by omega]; exact hp)⟩
theorem nms_app {w : Nat} {p : xP} : ∀ {E : List xP}, nms w (E ++ [p]) = (nms w E || nmP w p)
  | [] => by show (nmP w p || false) = (false || nmP w p); rw [Bool.or_false, Bool.false_or]
  | q :: E => by show (nmP w q || nms w (E ++ [p])) = (nmP w q || nms w E || nmP w p); rw [nms_app, Bool.or_assoc]
theorem nm_or {nm m c : Int32} : (nm ||| m) &&& c = 0 ↔ nm &&& c = 0 ∧ m &&& c = 0 := by
  rw [← Int32.or_eq_zero_iff]
  have e : (nm ||| m) &&& c = (nm &&& c) ||| (m &&& c) := by
    refine Int32.toBitVec_inj.mp ?_
    rw [Int32.toBitVec_and, Int32.toBitVec_or, Int32.toBitVec_or, Int32.toBitVec_and, Int32.toBitVec_and]
    exact BitVec.and_or_distrib_right
  rw [e]
theorem nmOk_other {nm : Int32} {E : List xP} {p : xP} (h10 : ¬ p.1 = 10) (h : nmOk nm E) : nmOk nm (E ++ [p]) := by
  have e : ∀ w, nmP w p = false := fun w => decide_eq_false (fun q => h10 q.1)
  unfold nmOk
  rw [nms_app, nms_app, e, e, Bool.or_false, Bool.or_false]
  exact h
theorem nmOk_col {nm : Int32} {E : List xP} {k : Nat} (hk : k < 4) (h : nmOk nm E) : nmOk (nm ||| (nI 1 <<< (nI k &&& 31))) (E ++ [(10, lN k)]) := by
  unfold nmOk
  rw [nms_app, nms_app, nm_or, nm_or]
  obtain ⟨h1, h2⟩ := h
  have e : k = 0 ∨ k = 1 ∨ k = 2 ∨ k = 3 := by omega
  rcases e with rfl | rfl | rfl | rfl
  · exact ⟨⟨fun _ => by rw [show nmP 0 (10, lN 0) = true by decide, Bool.or_true], fun _ q => absurd q.2 (by decide)⟩, by rw [show nmP 1 (10, lN 0) = false by decide, Bool.or_false, ← h2]; exact ⟨fun q z => q ⟨z, by decide⟩, fun q z => q z.1⟩⟩
  · exact ⟨⟨fun _ => by rw [show nmP 0 (10, lN 1) = true by decide, Bool.or_true], fun _ q => absurd q.2 (by decide)⟩, by rw [show nmP 1 (10, lN 1) = false by decide, Bool.or_false, ← h2]; exact ⟨fun q z => q ⟨z, by decide⟩, fun q z => q z.1⟩⟩
  · exact ⟨by rw [show nmP 0 (10, lN 2) = false by decide, Bool.or_false, ← h1]; exact ⟨fun q z => q ⟨z, by decide⟩, fun q z => q z.1⟩, ⟨fun _ => by rw [show nmP 1 (10, lN 2) = true by decide, Bool.or_true], fun _ q => absurd q.2 (by decide)⟩⟩
  · exact ⟨by rw [show nmP 0 (10, lN 3) = false by decide, Bool.or_false, ← h1]; exact ⟨fun q z => q ⟨z, by decide⟩, fun q z => q z.1⟩, ⟨fun _ => by rw [show nmP 1 (10, lN 3) = true by decide, Bool.or_true], fun _ q => absurd q.2 (by decide)⟩⟩
theorem cPart_w {w o : Int32} {p : xP} (h : cPart w o p) : w = nI p.1 ∧ p.1 < 12 := by
  rcases h with ⟨h1, h2⟩ | ⟨h1, c, _, _, h2, _⟩ | ⟨h1, h2, _⟩
  · exact ⟨h2, by omega⟩
  · rw [h1]; exact ⟨h2, by omega⟩
  · rw [h1]; exact ⟨h2, by omega⟩
theorem cE_put {cd op : Nat → Int32} {E : List xP} {w x : Int32} {p : xP} (hx : cExp cd op 0 E) (hp : cPart w x p) : cExp (va_up cd E.length w) (va_up op E.length x) 0 (E ++ [p]) := by
  refine cExp_app (cExp_up (fun i _ h2 => ?_) hx) ?_
  · rw [qun (by omega), qun (by omega)]; exact ⟨rfl, rfl⟩
  · rw [Nat.zero_add, qus, qus]; exact hp
theorem ct_Ex_addPartE {h : qH} (e : Nat) (he : exOk e) (hX : h.2.2 e = qREx e) (s : sX) (E : List xP) (t : Bool) (hs : exS s E t) (hl : E.length < 24) (w x : Int32) (p : xP) (hp : cPart w x p) : qT mi_Ex_addPart 0 0 0 [.ref e, .int w, .int x] (xR h e s) NN (fun v1 h1 n1 => v1 = none ∧ (∃ s2, h1 = xR h e s2 ∧ exS s2 (E ++ [p]) t) ∧ n1 = NN) := by
  obtain ⟨h1, h2, h3, h4, h5⟩ := hs
  obtain ⟨cd, op, ln, tr, nm⟩ := s
  have h2 : ln = nI E.length := h2
  subst h2
  obtain ⟨hw, hc⟩ := cPart_w hp
  subst hw
  have eL : (E ++ [p]).length = E.length + 1 := by simp
  by_cases h10 : p.1 = 10
  · refine qT.imp ?_ (ct_Ex_addPart_col e he hX cd op E.length hl tr nm p.1 hc x h10)
    rintro v h n ⟨e1, e2, e3⟩
    refine ⟨e1, ⟨_, e2, by omega, by rw [eL], cE_put h3 hp, h4, ?_⟩, e3⟩
    rcases hp with ⟨q1, _⟩ | ⟨_, c, hc4, q2, _, q3⟩ | ⟨q1, _⟩
    · omega
    · rw [q3, show p = (10, lN c) from Prod.ext h10 q2]
      exact nmOk_col hc4 h5
    · omega
  · refine qT.imp ?_ (ct_Ex_addPart_other e he hX cd op E.length hl tr nm p.1 hc x h10)
    rintro v h n ⟨e1, e2, e3⟩
    exact ⟨e1, ⟨_, e2, by omega, by rw [eL], cE_put h3 hp, h4, nmOk_other h10 h5⟩, e3⟩
theorem ex_dis {e f : Nat} (he : exOk e) (hf : exOk f) (hne : f ≠ e) : f + 2 < e ∨ e + 2 < f := by
  rcases he with ⟨i, h1, h2⟩ | ⟨i, h1, h2⟩ | ⟨i, h1, h2⟩ <;> rcases hf with ⟨j, h3, h4⟩ | ⟨j, h3, h4⟩ | ⟨j, h3, h4⟩ <;> omega
theorem xR_b {h : qH} {e f i : Nat} {s : sX} (he : exOk e) (hf : exOk f) (hne : f ≠ e) (hi : i < 3) : (xR h e s).1 (f + i) = h.1 (f + i) := by
  have := ex_dis he hf hne
  exact xR_o (by omega) (by omega) (by omega)
set_option maxRecDepth 100000 in
set_option maxHeartbeats 4000000 in
theorem ct_Ex_addAll {h : qH} (e : Nat) (he : exOk e) (hX : h.2.2 e = qREx e) (f : Nat) (hf : exOk f) (hY : h.2.2 f = qREx f) (hne : f ≠ e) (s : sX) (E E2 : List xP) (t : Bool) (hs : exS s E t) (hl : E.length + E2.length ≤ 24) (hD : exD h.1 f E2) : qT mi_Ex_addAll 1 0 0 [.ref e, .ref f] (xR h e s) NN (fun v1 h1 n1 => v1 = none ∧ (∃ s2, h1 = xR h e s2 ∧ exS s2 (E ++ E2) t) ∧ n1 = NN) := by
  refine qT.of (lv0 := [_, _, _]) (by decide +kernel) (fun _ _ => Nat.le_of_ble_eq_true rfl) rfl ?_
  have hf58 := (ex_pl hf).2.2.2.2.2.2
  have key : ∀ (r : List xP) (j : Nat) (s : sX) (Ec : List xP), j + r.length = E2.length → exS s Ec t → cExp (h.1 (f + 1)) (h.1 (f + 2)) j r → Ec.length + r.length ≤ 24 → Ec ++ r = E ++ E2 → qX mi_Ex_addAll 1 none 0 0 2 [.ref e, .ref f, .int (nI j)] [] (xR h e s) NN 0 0 (fun v1 h1 n1 => v1 = none ∧ (∃ s2, h1 = xR h e s2 ∧ exS s2 (E ++ E2) t) ∧ n1 = NN) := by
    intro r
    induction r with
    | nil =>
      intro j s Ec hj hs hx hl he2
      have hj : j + 0 = E2.length := hj
      have e24 := hD.1
      rw [List.append_nil] at he2
      refine qx_iload_n d_Ex_addAll_2 rfl rfl ?_
      refine qx_aload_n d_Ex_addAll_3 rfl rfl ?_
      refine qx_getI d_Ex_addAll_4 fI_Ex_18 (ex_pl hf).1 (ex_pl hf).2.2.2.1 (show _ = nI E2.length from (congrFun (xR_b he hf hne (i := 0) (by omega)) 2).trans hD.2.1) ?_
      refine qx_icmp_geN (t := 32) d_Ex_addAll_7 rfl (by omega) (by omega) (fun c7 => ?_) (fun c7 => absurd c7 (by omega))
      exact qx_ret d_Ex_addAll_32 rfl (by omega) (by omega) ⟨rfl, ⟨s, rfl, by rw [← he2]; exact hs⟩, rfl⟩
    | cons p r ih =>
      intro j s Ec hj hs hx hl he2
      have hj : j + (r.length + 1) = E2.length := hj
      have hl : Ec.length + (r.length + 1) ≤ 24 := hl
      have e24 := hD.1
      have eL : (Ec ++ [p]).length = Ec.length + 1 := by simp
      refine qx_iload_n d_Ex_addAll_2 rfl rfl ?_
      refine qx_aload_n d_Ex_addAll_3 rfl rfl ?_
      refine qx_getI d_Ex_addAll_4 fI_Ex_18 (ex_pl hf).1 (ex_pl hf).2.2.2.1 (show _ = nI E2.length from (congrFun (xR_b he hf hne (i := 0) (by omega)) 2).trans hD.2.1) ?_
      refine qx_icmp_geN (t := 32) d_Ex_addAll_7 rfl (by omega) (by omega) (fun c7 => absurd c7 (by omega)) (fun c7 => ?_)
      refine qx_aload_n d_Ex_addAll_10 rfl rfl ?_
      refine qx_aload_n d_Ex_addAll_11 rfl rfl ?_
      refine qx_getR d_Ex_addAll_12 fR_Ex_9 (ex_pl hf).1 (ex_pl hf).2.2.2.1 (congrFun hY 0) ?_
      refine qx_iload_n d_Ex_addAll_15 rfl rfl ?_
      refine qx_iald (j := j) d_Ex_addAll_16 (ex_pl hf).2.1 (ex_pl hf).2.2.2.2.1 rfl rfl (by omega) (congrFun (xR_b he hf hne (i := 1) (by omega)) j) ?_
      refine qx_aload_n d_Ex_addAll_17 rfl rfl ?_
      refine qx_getR d_Ex_addAll_18 fR_Ex_15 (ex_pl hf).1 (ex_pl hf).2.2.2.1 (congrFun hY 1) ?_
      refine qx_iload_n d_Ex_addAll_21 rfl rfl ?_
      refine qx_iald (j := j) d_Ex_addAll_22 (ex_pl hf).2.2.1 (ex_pl hf).2.2.2.2.2.1 rfl rfl (by omega) (congrFun (xR_b he hf hne (i := 2) (by omega)) j) ?_
      refine qx_callV (As := [_, _]) (rest := _) d_Ex_addAll_23 lk_Ex_29 y_Ex_addPart v_Ex_addPart rfl rfl (ex_pl he).1 (by decide) rfl (ex_pl he).2.2.2.1 rfl rfl (by decide) (by decide) (ct_Ex_addPartE e he hX s Ec t hs (by omega) _ _ p hx.1) ?_
      rintro _ _ _ ⟨rfl, ⟨s2, rfl, hs2⟩, rfl⟩
      refine qx_iincN (w := 1) (lv1 := [_, _, _]) d_Ex_addAll_26 rfl rfl (by decide) rfl ?_
      refine qx_goto (t := 2) d_Ex_addAll_29 rfl ?_
      exact ih (j + 1) s2 (Ec ++ [p]) (by omega) hs2 hx.2 (by omega) (by rw [List.append_assoc]; exact he2)
  refine qx_iconstN (v := 0) d_Ex_addAll_0 rfl ?_
  refine qx_istore_n (lv1 := [_, _, _]) d_Ex_addAll_1 rfl (by decide) rfl ?_
  exact key E2 0 s E (by omega) hs hD.2.2 hl rfl
