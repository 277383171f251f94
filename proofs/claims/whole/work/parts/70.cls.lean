/-! the class's tasks as they are added -/
def tFull (f : Nat → Int32) (k p q a : Nat) (s : Int32) (d : Bool) (i : Nat) : Int32 := if i = 0 then nI k else if i = 1 then nI p else if i = 2 then nI q else if i = 3 then nI a else if i = 4 then s else if i = 5 then b2i d else f i
def cT (h : qH) (S : sT) (sa : Nat → Int32) : qH := (fun a => if 90 ≤ a ∧ a < 106 then tFull (h.1 a) (tK S (a - 90)) (tP S (a - 90)) (tQ S (a - 90)) (tA S (a - 90)) (sa (a - 90)) (tF S (a - 90)) else if a = 83 then va_up (va_up (h.1 83) 3 (nI (tN S))) 4 (nI (tN S)) else h.1 a, h.2.1, h.2.2)
theorem cT_r {h : qH} {S : sT} {sa : Nat → Int32} {t : Nat} (ht : t < 16) : (cT h S sa).1 (90 + t) = tFull (h.1 (90 + t)) (tK S t) (tP S t) (tQ S t) (tA S t) (sa t) (tF S t) := by
  show (if 90 ≤ 90 + t ∧ 90 + t < 106 then tFull (h.1 (90 + t)) (tK S (90 + t - 90)) (tP S (90 + t - 90)) (tQ S (90 + t - 90)) (tA S (90 + t - 90)) (sa (90 + t - 90)) (tF S (90 + t - 90)) else _) = _
  rw [if_pos (by omega), show 90 + t - 90 = t by omega]
theorem cT_x {h : qH} {S : sT} {sa : Nat → Int32} {a : Nat} (ha : a < 90 ∨ 106 ≤ a) (h3 : a ≠ 83) : (cT h S sa).1 a = h.1 a := (if_neg (by omega)).trans (if_neg h3)
theorem cT_83 {h : qH} {S : sT} {sa : Nat → Int32} : (cT h S sa).1 83 = va_up (va_up (h.1 83) 3 (nI (tN S))) 4 (nI (tN S)) := rfl
theorem tFull_up {f : Nat → Int32} {k p q a k2 p2 q2 : Nat} {s : Int32} {d : Bool} : va_up (va_up (va_up (va_up (va_up (va_up (tFull f k p q a s d) 0 (nI k2)) 1 (nI p2)) 2 (nI q2)) 3 (nI 0)) 4 (nI 0)) 5 (nI 0) = tFull f k2 p2 q2 0 (nI 0) false := by
  funext i
  by_cases h : i < 6
  · have e : i = 0 ∨ i = 1 ∨ i = 2 ∨ i = 3 ∨ i = 4 ∨ i = 5 := by omega
    rcases e with rfl | rfl | rfl | rfl | rfl | rfl <;> rfl
  · rw [qun (by omega), qun (by omega), qun (by omega), qun (by omega), qun (by omega), qun (by omega)]
    unfold tFull
    simp only [show i ≠ 0 by omega, show i ≠ 1 by omega, show i ≠ 2 by omega, show i ≠ 3 by omega, show i ≠ 4 by omega, show i ≠ 5 by omega, if_false]
theorem cT_add {h : qH} {S : sT} {sa : Nat → Int32} {k p q : Nat} (hn : tN S < 16) : (qpI (qpI (qpI (qpI (qpI (qpI (qpI (qpI (cT h S sa) (90 + (tN S)) 0 (nI k)) (90 + (tN S)) 1 (nI p)) (90 + (tN S)) 2 (nI q)) (90 + (tN S)) 3 (nI 0)) (90 + (tN S)) 4 (nI 0)) (90 + (tN S)) 5 (nI 0)) 83 3 (nI ((tN S) + 1))) 83 4 (nI ((tN S) + 1))) = cT h (tAdd S k p q) (va_up sa (tN S) (nI 0)) := by
  refine Prod.ext ?_ rfl
  funext a
  by_cases e : a = 90 + tN S
  · subst e
    rw [(qpI_o _ 83 4 _ _ (by omega)).1, (qpI_o _ 83 3 _ _ (by omega)).1, qpI_1, qpI_1, qpI_1, qpI_1, qpI_1, qpI_1, cT_r hn, cT_r hn, tFull_up]
    unfold tAdd
    dsimp only [tK, tP, tQ, tA, tF]
    rw [qus, qus, qus, qus, qus, qus]
  · by_cases e3 : a = 83
    · subst e3
      rw [qpI_1, qpI_1, (qpI_o _ _ 5 _ _ e).1, (qpI_o _ _ 4 _ _ e).1, (qpI_o _ _ 3 _ _ e).1, (qpI_o _ _ 2 _ _ e).1, (qpI_o _ _ 1 _ _ e).1, (qpI_o _ _ 0 _ _ e).1, cT_83, cT_83]
      funext i
      by_cases i4 : i = 4
      · subst i4; rw [qus, qus]; rfl
      · rw [qun i4, qun i4]
        by_cases i3 : i = 3
        · subst i3; rw [qus, qus]; rfl
        · rw [qun i3, qun i4, qun i3, qun i3]
    · rw [(qpI_o _ 83 4 _ _ e3).1, (qpI_o _ 83 3 _ _ e3).1, (qpI_o _ _ 5 _ _ e).1, (qpI_o _ _ 4 _ _ e).1, (qpI_o _ _ 3 _ _ e).1, (qpI_o _ _ 2 _ _ e).1, (qpI_o _ _ 1 _ _ e).1, (qpI_o _ _ 0 _ _ e).1]
      by_cases r : 90 ≤ a ∧ a < 106
      · obtain ⟨u, rfl, hu⟩ : ∃ u, a = 90 + u ∧ u < 16 := ⟨a - 90, by omega, by omega⟩
        have eu : u ≠ tN S := by omega
        rw [cT_r hu, cT_r hu]
        unfold tAdd
        dsimp only [tK, tP, tQ, tA, tF]
        rw [qun eu, qun eu, qun eu, qun eu, qun eu, qun eu]
      · rw [cT_x (by omega) e3, cT_x (by omega) e3]
theorem nR_I {h : qH} {vs : Nat → Int64} {ns : Nat → Bool} {a i : Nat} {v : Int32} (ha : a ≠ 63) : qpI (nR h vs ns) a i v = nR (qpI h a i v) vs ns := by
  refine Prod.ext ?_ rfl
  show va_up (va_up h.1 63 (iB ns)) a (va_up (va_up h.1 63 (iB ns) a) i v) = va_up (va_up h.1 a (va_up (h.1 a) i v)) 63 (iB ns)
  rw [qun ha]
  funext b
  by_cases e : b = a
  · subst e; rw [qus, qun ha, qus]
  · rw [qun e]
    by_cases e2 : b = 63
    · subst e2; rw [qus, qus]
    · rw [qun e2, qun e2, qun e]
theorem lR_I {h : qH} {cv : Nat → Int64} {cb : Nat → Bool} {a i : Nat} {v : Int32} (ha : a ≠ 61) : qpI (lR h cv cb) a i v = lR (qpI h a i v) cv cb := by
  refine Prod.ext ?_ rfl
  show va_up (va_up h.1 61 (iB cb)) a (va_up (va_up h.1 61 (iB cb) a) i v) = va_up (va_up h.1 a (va_up (h.1 a) i v)) 61 (iB cb)
  rw [qun ha]
  funext b
  by_cases e : b = a
  · subst e; rw [qus, qun ha, qus]
  · rw [qun e]
    by_cases e2 : b = 61
    · subst e2; rw [qus, qus]
    · rw [qun e2, qun e2, qun e]
theorem nl_add {h : qH} {S : sT} {sa : Nat → Int32} {k p q : Nat} {cv : Nat → Int64} {cb : Nat → Bool} {vs : Nat → Int64} {ns : Nat → Bool} (hn : tN S < 16) : (qpI (qpI (qpI (qpI (qpI (qpI (qpI (qpI (nR (lR (cT h S sa) cv cb) vs ns) (90 + (tN S)) 0 (nI k)) (90 + (tN S)) 1 (nI p)) (90 + (tN S)) 2 (nI q)) (90 + (tN S)) 3 (nI 0)) (90 + (tN S)) 4 (nI 0)) (90 + (tN S)) 5 (nI 0)) 83 3 (nI ((tN S) + 1))) 83 4 (nI ((tN S) + 1))) = nR (lR (cT h (tAdd S k p q) (va_up sa (tN S) (nI 0))) cv cb) vs ns := by
  rw [nR_I (by omega), nR_I (by omega), nR_I (by omega), nR_I (by omega), nR_I (by omega), nR_I (by omega), nR_I (by omega), nR_I (by omega), lR_I (by omega), lR_I (by omega), lR_I (by omega), lR_I (by omega), lR_I (by omega), lR_I (by omega), lR_I (by omega), lR_I (by omega), cT_add hn]
set_option maxRecDepth 100000 in
set_option maxHeartbeats 4000000 in
theorem ct_Jo_addTask {h : qH} (hJ : jobOk h) (nt : Nat) (hn : nt < 16) (hnt : h.1 83 3 = nI nt) (hud : h.1 83 4 = nI nt) (k p q : Nat) : qT mi_Jo_addTask 1 0 0 [.ref 83, .int (nI k), .int (nI p), .int (nI q)] h NN (fun v1 h1 n1 => v1 = none ∧ h1 = (qpI (qpI (qpI (qpI (qpI (qpI (qpI (qpI h (90 + nt) 0 (nI k)) (90 + nt) 1 (nI p)) (90 + nt) 2 (nI q)) (90 + nt) 3 (nI 0)) (90 + nt) 4 (nI 0)) (90 + nt) 5 (nI 0)) 83 3 (nI (nt + 1))) 83 4 (nI (nt + 1))) ∧ n1 = NN) := by
  refine qT.of (lv0 := [_, _, _, _]) (by decide +kernel) (fun _ _ => Nat.le_of_ble_eq_true rfl) rfl ?_
  have ht := hn
  have h83 : ∀ f, (qpI (qpI (qpI (qpI (qpI (qpI h (90 + nt) 0 (nI k)) (90 + nt) 1 (nI p)) (90 + nt) 2 (nI q)) (90 + nt) 3 (nI 0)) (90 + nt) 4 (nI 0)) (90 + nt) 5 (nI 0)).1 83 f = h.1 83 f := by
    intro f
    rw [(qpI_o _ _ 5 _ _ (by omega)).1, (qpI_o _ _ 4 _ _ (by omega)).1, (qpI_o _ _ 3 _ _ (by omega)).1, (qpI_o _ _ 2 _ _ (by omega)).1, (qpI_o _ _ 1 _ _ (by omega)).1, (qpI_o _ _ 0 _ _ (by omega)).1]
  refine qx_aload_n d_Jo_addTask_0 rfl rfl ?_
  refine qx_getI d_Jo_addTask_1 fI_Jo_39 rfl rfl hnt ?_
  refine qx_aload_n d_Jo_addTask_4 rfl rfl ?_
  refine qx_getR d_Jo_addTask_5 fR_Jo_11 rfl rfl (congrFun hJ.1 2) ?_
  refine qx_alenR (v := nI 16) (t := 2) d_Jo_addTask_8 rfl (fun _ => rfl) rfl rfl ?_
  refine qx_icmp_geN (t := 47) d_Jo_addTask_9 rfl (by omega) (by omega) (fun c9 => absurd c9 (by omega)) (fun c9 => ?_)
  refine qx_aload_n d_Jo_addTask_12 rfl rfl ?_
  refine qx_getR d_Jo_addTask_13 fR_Jo_11 rfl rfl (congrFun hJ.1 2) ?_
  refine qx_aload_n d_Jo_addTask_16 rfl rfl ?_
  refine qx_getI d_Jo_addTask_17 fI_Jo_39 rfl rfl hnt ?_
  refine qx_aald (j := nt) (t := 2)  d_Jo_addTask_20 rfl (fun _ => rfl) rfl rfl rfl hn (hJ.2.1 nt hn) ?_
  refine qx_iload_n d_Jo_addTask_21 rfl rfl ?_
  refine qx_iload_n d_Jo_addTask_22 rfl rfl ?_
  refine qx_iload_n d_Jo_addTask_23 rfl rfl ?_
  refine qx_callV (As := [_, _, _]) (rest := _) d_Jo_addTask_24 lk_Jo_54 y_Ta_clear v_Ta_clear rfl rfl (ta_pl ht).1 (by decide) rfl (ta_pl ht).2 rfl rfl (by decide) (by decide) (ct_Ta_clear nt hn (nI k) (nI p) (nI q)) ?_
  rintro _ _ _ ⟨rfl, rfl, rfl⟩
  refine qx_aload_n d_Jo_addTask_27 rfl rfl ?_
  refine qx_dup d_Jo_addTask_28 rfl ?_
  refine qx_getI d_Jo_addTask_29 fI_Jo_39 rfl rfl (show _ = nI nt from (h83 3).trans hnt) ?_
  refine qx_iconstN (v := 1) d_Jo_addTask_32 rfl ?_
  refine qx_iaddN d_Jo_addTask_33 ?_
  refine qx_putI d_Jo_addTask_34 fI_Jo_39 rfl rfl ⟨rfl, rfl⟩ ?_
  refine qx_aload_n d_Jo_addTask_37 rfl rfl ?_
  refine qx_dup d_Jo_addTask_38 rfl ?_
  refine qx_getI d_Jo_addTask_39 fI_Jo_42 rfl rfl (show _ = nI nt from (qI_ne (by omega)).trans ((h83 4).trans hud)) ?_
  refine qx_iconstN (v := 1) d_Jo_addTask_42 rfl ?_
  refine qx_iaddN d_Jo_addTask_43 ?_
  refine qx_putI d_Jo_addTask_44 fI_Jo_42 rfl rfl ⟨rfl, rfl⟩ ?_
  exact qx_ret d_Jo_addTask_47 rfl (by omega) (by omega) ⟨rfl, rfl, rfl⟩
