def cmpC (ob wd : Nat) (dn : Bool) (x y : Nat → Option Int64) : Int32 := if cmpO (x (oBy ob wd)) (y (oBy ob wd)) = 0 then cmpR x y wd else if dn = true then -cmpO (x (oBy ob wd)) (y (oBy ob wd)) else cmpO (x (oBy ob wd)) (y (oBy ob wd))
theorem cmpO_3 (x y : Option Int64) : cmpO x y = -1 ∨ cmpO x y = 0 ∨ cmpO x y = 1 := by
  cases x with
  | none => cases y <;> simp [cmpO]
  | some v =>
    cases y with
    | none => simp [cmpO]
    | some w =>
      show (if v < w then (-1 : Int32) else if w < v then 1 else 0) = -1 ∨ (if v < w then (-1 : Int32) else if w < v then 1 else 0) = 0 ∨ (if v < w then (-1 : Int32) else if w < v then 1 else 0) = 1
      split
      · exact Or.inl rfl
      · split
        · exact Or.inr (Or.inr rfl)
        · exact Or.inr (Or.inl rfl)
theorem bef_c (ob wd : Nat) (dn : Bool) (x y : Nat → Option Int64) : bef ob wd dn x y = decide (cmpC ob wd dn x y < 0) := by
  unfold bef cmpC
  rcases cmpO_3 (x (oBy ob wd)) (y (oBy ob wd)) with e | e | e <;> rw [e]
  · cases dn <;> rfl
  · rfl
  · cases dn <;> rfl
def pC (h : qH) (p : Nat → Nat) : qH := (va_up h.1 82 (iN p), h.2.1, h.2.2)
theorem pC_p {h : qH} {p : Nat → Nat} {i v : Nat} : qpI (pC h p) 82 i (nI v) = pC h (va_up p i v) := by
  unfold pC qpI
  dsimp only
  rw [qv_up, qus, iN_up]
theorem pC_of {h : qH} {p : Nat → Nat} (e : h.1 82 = iN p) : pC h p = h := by
  unfold pC
  rw [← e, qv_self]
set_option maxRecDepth 100000 in
set_option maxHeartbeats 4000000 in
theorem ct_Re_compare {h : qH} (hR : h.2.2 79 = qRRe) (RES : Nat → Nat → Option Int64) (rs wd : Nat) (h1d : 1 ≤ wd) (hd4 : wd ≤ 4) (hrs : rs ≤ 144) (hres : ∀ i, i < rs → ∀ c, c < wd → h.1 81 (i * 4 + c) = b2i (RES i c).isNone ∧ ∀ z, RES i c = some z → h.2.1 80 (i * 4 + c) = z) (hwd : h.1 79 4 = nI wd) (ob : Nat) (dn : Bool) (a b : Nat) (ha : a < rs) (hb : b < rs) : qT mi_Re_compare 2 0 0 [.ref 79, .int (nI a), .int (nI b), .int (nI (oBy ob wd)), .int (b2i dn)] h NN (fun v1 h1 n1 => v1 = some (.int (cmpC ob wd dn (RES a) (RES b))) ∧ h = h1 ∧ n1 = NN) := by
  refine qT.of (lv0 := [_, _, _, _, _, _, _]) (by decide +kernel) (fun _ _ => Nat.le_of_ble_eq_true rfl) rfl ?_
  have hby : oBy ob wd < wd := by unfold oBy; split <;> omega
  have loop : ∀ (m c : Nat), c + m = wd → (cmpO (RES a (oBy ob wd)) (RES b (oBy ob wd))) = 0 → qX mi_Re_compare 2 none 0 0 31 [.ref 79, .int (nI a), .int (nI b), qdead, qdead, .int (cmpR (RES a) (RES b) c), .int (nI c)] [] h NN 0 0 (fun v1 h1 n1 => v1 = some (.int (cmpC ob wd dn (RES a) (RES b))) ∧ h = h1 ∧ n1 = NN) := by
    intro m
    induction m with
    | zero =>
      intro c hc h0
      have e : c = wd := by omega
      subst e
      refine qx_iload d_Re_compare_31 rfl ?_
      refine qx_aload_n d_Re_compare_33 rfl rfl ?_
      refine qx_getI d_Re_compare_34 fI_Re_29 rfl rfl hwd ?_
      refine qx_icmp_geN (t := 61) d_Re_compare_37 rfl (by omega) (by omega) (fun c37 => ?_) (fun c37 => absurd c37 (by omega))
      refine qx_iload d_Re_compare_61 rfl ?_
      exact qx_iret d_Re_compare_63 rfl rfl (by omega) (by omega) ⟨by unfold cmpC; rw [if_pos h0], rfl, rfl⟩
    | succ m ih =>
      intro c hc h0
      have hs : cmpR (RES a) (RES b) (c + 1) = if cmpR (RES a) (RES b) c = 0 then cmpO (RES a c) (RES b c) else cmpR (RES a) (RES b) c := rfl
      refine qx_iload d_Re_compare_31 rfl ?_
      refine qx_aload_n d_Re_compare_33 rfl rfl ?_
      refine qx_getI d_Re_compare_34 fI_Re_29 rfl rfl hwd ?_
      refine qx_icmp_geN (t := 61) d_Re_compare_37 rfl (by omega) (by omega) (fun c37 => absurd c37 (by omega)) (fun c37 => ?_)
      refine qx_iload d_Re_compare_40 rfl ?_
      refine qx_if_ne (t := 61) d_Re_compare_42 rfl (fun c42 => ?_) (fun c42 => ?_)
      · refine qx_iload d_Re_compare_61 rfl ?_
        exact qx_iret d_Re_compare_63 rfl rfl (by omega) (by omega) ⟨by have q := cmpR_mono c42 (m + 1); rw [show c + (m + 1) = wd by omega] at q; unfold cmpC; rw [if_pos h0, q], rfl, rfl⟩
      · refine qx_aload_n d_Re_compare_45 rfl rfl ?_
        refine qx_iload_n d_Re_compare_46 rfl rfl ?_
        refine qx_iload_n d_Re_compare_47 rfl rfl ?_
        refine qx_iload d_Re_compare_48 rfl ?_
        refine qx_callV (As := [_, _, _]) (rest := _) d_Re_compare_50 lk_Re_55 y_Re_compareAt v_Re_compareAt rfl rfl rfl (by decide) rfl rfl rfl rfl (by decide) (by decide) (ct_Re_compareAt hR a b c (by omega) (by omega) (by omega) (RES a c) (RES b c) (hres a ha c (by omega)) (hres b hb c (by omega))) ?_
        rintro _ _ _ ⟨rfl, rfl, rfl⟩
        refine qx_istore (lv1 := [_, _, _, _, _, _, _]) d_Re_compare_53 (by decide) rfl ?_
        refine qx_iincN (w := 1) (lv1 := [_, _, _, _, _, _, _]) d_Re_compare_55 rfl rfl (by decide) rfl ?_
        refine qx_goto (t := 31) d_Re_compare_58 rfl ?_
        have k2 := ih (c + 1) (by omega) h0
        rw [hs, if_pos c42] at k2
        exact k2
  refine qx_aload_n d_Re_compare_0 rfl rfl ?_
  refine qx_iload_n d_Re_compare_1 rfl rfl ?_
  refine qx_iload_n d_Re_compare_2 rfl rfl ?_
  refine qx_iload_n d_Re_compare_3 rfl rfl ?_
  refine qx_callV (As := [_, _, _]) (rest := _) d_Re_compare_4 lk_Re_55 y_Re_compareAt v_Re_compareAt rfl rfl rfl (by decide) rfl rfl rfl rfl (by decide) (by decide) (ct_Re_compareAt hR a b (oBy ob wd) (by omega) (by omega) (by omega) (RES a (oBy ob wd)) (RES b (oBy ob wd)) (hres a ha (oBy ob wd) hby) (hres b hb (oBy ob wd) hby)) ?_
  rintro _ _ _ ⟨rfl, rfl, rfl⟩
  refine qx_istore (lv1 := [_, _, _, _, _, _, _]) d_Re_compare_7 (by decide) rfl ?_
  refine qx_iload d_Re_compare_9 rfl ?_
  refine qx_if_eq (t := 28) d_Re_compare_11 rfl (fun c11 => ?_) (fun c11 => ?_)
  · refine qx_iconstN (v := 0) d_Re_compare_28 rfl ?_
    refine qx_istore (lv1 := [_, _, _, _, _, _, _]) d_Re_compare_29 (by decide) rfl ?_
    refine qx_less (lv1 := [_, _, _, qdead, qdead, _, _]) ⟨Or.inr rfl, Or.inr rfl, Or.inr rfl, Or.inl rfl, Or.inl rfl, Or.inr rfl, Or.inr rfl, trivial⟩ ?_
    exact qx_eq rfl (by rw [c11]; rfl) rfl rfl (loop wd 0 (by omega) c11)
  · refine qx_iload d_Re_compare_14 rfl ?_
    refine qx_if_eqB (t := 25) d_Re_compare_16 rfl (fun c16 => ?_) (fun c16 => ?_)
    · refine qx_iload d_Re_compare_25 rfl ?_
      exact qx_iret d_Re_compare_27 rfl rfl (by omega) (by omega) ⟨by unfold cmpC; rw [if_neg c11]; first | (rw [if_pos c16]; done) | (rw [if_neg (by rw [c16]; decide)]; done), rfl, rfl⟩
    · refine qx_iload d_Re_compare_19 rfl ?_
      refine qx_ineg d_Re_compare_21 ?_
      refine qx_goto (t := 27) d_Re_compare_22 rfl ?_
      exact qx_iret d_Re_compare_27 rfl rfl (by omega) (by omega) ⟨by unfold cmpC; rw [if_neg c11]; first | (rw [if_pos c16]; done) | (rw [if_neg (by rw [c16]; decide)]; done), rfl, rfl⟩
theorem cnt_lo {lm r : Int32} (h : lm < 0) : r = (if 0 ≤ lm ∧ lm < r then lm else r) := by
  rw [if_neg (fun e => Int32.lt_irrefl (Int32.lt_of_le_of_lt e.1 h))]
theorem cnt_hi {lm r : Int32} (h : 0 ≤ lm) : (if r ≤ lm then r else lm) = (if 0 ≤ lm ∧ lm < r then lm else r) := by
  by_cases e : r ≤ lm
  · rw [if_pos e, if_neg (fun q => Int32.lt_irrefl (Int32.lt_of_le_of_lt e q.2))]
  · rw [if_neg e, if_pos ⟨h, Int32.not_le.mp e⟩]
set_option maxRecDepth 100000 in
set_option maxHeartbeats 4000000 in
theorem ct_Re_sort {h : qH} (hR : h.2.2 79 = qRRe) (RES : Nat → Nat → Option Int64) (rs wd : Nat) (h1d : 1 ≤ wd) (hd4 : wd ≤ 4) (hrs : rs ≤ 144) (hres : ∀ i, i < rs → ∀ c, c < wd → h.1 81 (i * 4 + c) = b2i (RES i c).isNone ∧ ∀ z, RES i c = some z → h.2.1 80 (i * 4 + c) = z) (hwd : h.1 79 4 = nI wd) (ob : Nat) (hob4 : ob < 4) (hob : h.1 3 14 = nI ob) (dn : Bool) (hdn : h.1 3 15 = b2i dn) (lm : Int32) (hlm : h.1 3 16 = lm) (hrsf : h.1 79 3 = nI rs) (p0 : Nat → Nat) : qT mi_Re_sort 3 0 0 [.ref 79, .ref 3] (pC h p0) NN (fun v1 h1 n1 => v1 = none ∧ h1 = qpI (pC h (srt (fun a b => bef ob wd dn (RES a) (RES b)) p0 rs)) 79 5 (if 0 ≤ lm ∧ lm < nI rs then lm else nI rs) ∧ n1 = NN) := by
  refine qT.of (lv0 := [_, _, _, _, _]) (by decide +kernel) (fun _ _ => Nat.le_of_ble_eq_true rfl) rfl ?_
  have inner : ∀ (k i : Nat) (p : Nat → Nat), k ≤ i → i < rs → (∀ j, j < k → p j < i) → (qX mi_Re_sort 3 none 0 0 22 [.ref 79, .ref 3, .int (nI (oBy ob wd)), .int (nI (i + 1)), qdead] [] (pC h (insL (fun a b => bef ob wd dn (RES a) (RES b)) i k p)) NN 0 0 (fun v1 h1 n1 => v1 = none ∧ h1 = qpI (pC h (srt (fun a b => bef ob wd dn (RES a) (RES b)) p0 rs)) 79 5 (if 0 ≤ lm ∧ lm < nI rs then lm else nI rs) ∧ n1 = NN)) → qX mi_Re_sort 3 none 0 0 33 [.ref 79, .ref 3, .int (nI (oBy ob wd)), .int (nI i), .int (nI k)] [] (pC h p) NN 0 0 (fun v1 h1 n1 => v1 = none ∧ h1 = qpI (pC h (srt (fun a b => bef ob wd dn (RES a) (RES b)) p0 rs)) 79 5 (if 0 ≤ lm ∧ lm < nI rs then lm else nI rs) ∧ n1 = NN) := by
    intro k
    induction k with
    | zero =>
      intro i p hk hi hp nxt
      refine qx_iload d_Re_sort_33 rfl ?_
      refine qx_if_leN (t := 82) d_Re_sort_35 rfl (by omega) (fun c35 => ?_) (fun c35 => absurd c35 (by omega))
      refine qx_aload_n d_Re_sort_82 rfl rfl ?_
      refine qx_getR d_Re_sort_83 fR_Re_19 rfl rfl (congrFun hR 2) ?_
      refine qx_iload d_Re_sort_86 rfl ?_
      refine qx_iload_n d_Re_sort_88 rfl rfl ?_
      refine qx_iast d_Re_sort_89 rfl rfl rfl rfl (by omega) ?_
      refine qx_iincN (w := 1) (lv1 := [_, _, _, _, _]) d_Re_sort_90 rfl rfl (by decide) rfl ?_
      refine qx_goto (t := 22) d_Re_sort_93 rfl ?_
      refine qx_less (lv1 := [_, _, _, _, qdead]) ⟨Or.inr rfl, Or.inr rfl, Or.inr rfl, Or.inr rfl, Or.inl rfl, trivial⟩ ?_
      refine qx_eq rfl rfl rfl ?_ nxt
      exact pC_p.symm
    | succ k ih =>
      intro i p hk hi hp nxt
      have hpk := hp k (by omega)
      have hs : insL (fun a b => bef ob wd dn (RES a) (RES b)) i (k + 1) p = if bef ob wd dn (RES i) (RES (p k)) = true then insL (fun a b => bef ob wd dn (RES a) (RES b)) i k (va_up p (k + 1) (p k)) else va_up p (k + 1) i := rfl
      rw [hs] at nxt
      refine qx_iload d_Re_sort_33 rfl ?_
      refine qx_if_leN (t := 82) d_Re_sort_35 rfl (by omega) (fun c35 => absurd c35 (by omega)) (fun c35 => ?_)
      refine qx_aload_n d_Re_sort_38 rfl rfl ?_
      refine qx_iload_n d_Re_sort_39 rfl rfl ?_
      refine qx_aload_n d_Re_sort_40 rfl rfl ?_
      refine qx_getR d_Re_sort_41 fR_Re_19 rfl rfl (congrFun hR 2) ?_
      refine qx_iload d_Re_sort_44 rfl ?_
      refine qx_iconstN (v := 1) d_Re_sort_46 rfl ?_
      refine qx_isubN d_Re_sort_47 (by omega) ?_
      refine qx_iald (j := k) d_Re_sort_48 rfl rfl rfl rfl (by omega) (show _ = nI (p k) from rfl) ?_
      refine qx_iload_n d_Re_sort_49 rfl rfl ?_
      refine qx_aload_n d_Re_sort_50 rfl rfl ?_
      refine qx_getI d_Re_sort_51 fI_Re_35 rfl rfl hdn ?_
      refine qx_callV (As := [_, _, _, _]) (rest := _) d_Re_sort_54 lk_Re_39 y_Re_compare v_Re_compare rfl rfl rfl (by decide) rfl rfl rfl rfl (by decide) (by decide) (ct_Re_compare (h := pC h p) hR RES rs wd h1d hd4 hrs hres hwd ob dn i (p k) hi (by omega)) ?_
      rintro _ _ _ ⟨rfl, rfl, rfl⟩
      refine qx_if_ge (t := 82) d_Re_sort_57 rfl (fun c57 => ?_) (fun c57 => ?_)
      · refine qx_aload_n d_Re_sort_82 rfl rfl ?_
        refine qx_getR d_Re_sort_83 fR_Re_19 rfl rfl (congrFun hR 2) ?_
        refine qx_iload d_Re_sort_86 rfl ?_
        refine qx_iload_n d_Re_sort_88 rfl rfl ?_
        refine qx_iast d_Re_sort_89 rfl rfl rfl rfl (by omega) ?_
        refine qx_iincN (w := 1) (lv1 := [_, _, _, _, _]) d_Re_sort_90 rfl rfl (by decide) rfl ?_
        refine qx_goto (t := 22) d_Re_sort_93 rfl ?_
        refine qx_less (lv1 := [_, _, _, _, qdead]) ⟨Or.inr rfl, Or.inr rfl, Or.inr rfl, Or.inr rfl, Or.inl rfl, trivial⟩ ?_
        rw [bef_c, if_neg (fun e => absurd (of_decide_eq_true e) (by first | exact c57 | exact Int32.not_lt.mpr c57))] at nxt
        refine qx_eq rfl rfl rfl ?_ nxt
        exact pC_p.symm
      · refine qx_aload_n d_Re_sort_60 rfl rfl ?_
        refine qx_getR d_Re_sort_61 fR_Re_19 rfl rfl (congrFun hR 2) ?_
        refine qx_iload d_Re_sort_64 rfl ?_
        refine qx_aload_n d_Re_sort_66 rfl rfl ?_
        refine qx_getR d_Re_sort_67 fR_Re_19 rfl rfl (congrFun hR 2) ?_
        refine qx_iload d_Re_sort_70 rfl ?_
        refine qx_iconstN (v := 1) d_Re_sort_72 rfl ?_
        refine qx_isubN d_Re_sort_73 (by omega) ?_
        refine qx_iald (j := k) d_Re_sort_74 rfl rfl rfl rfl (by omega) (show _ = nI (p k) from rfl) ?_
        refine qx_iast d_Re_sort_75 rfl rfl rfl rfl (by omega) ?_
        refine qx_idecN (lv1 := [_, _, _, _, _]) d_Re_sort_76 rfl (by decide) rfl ?_
        refine qx_goto (t := 33) d_Re_sort_79 rfl ?_
        rw [bef_c, if_pos (decide_eq_true (by first | exact c57 | exact Int32.not_le.mp c57))] at nxt
        refine qx_eq rfl rfl rfl ?_ (ih i (va_up p (k + 1) (p k)) (by omega) hi (fun j hj => by rw [qun (by omega)]; exact hp j (by omega)) nxt)
        exact pC_p.symm
  have outer : ∀ (m i : Nat), i + m = rs → qX mi_Re_sort 3 none 0 0 22 [.ref 79, .ref 3, .int (nI (oBy ob wd)), .int (nI i), qdead] [] (pC h (srt (fun a b => bef ob wd dn (RES a) (RES b)) p0 i)) NN 0 0 (fun v1 h1 n1 => v1 = none ∧ h1 = qpI (pC h (srt (fun a b => bef ob wd dn (RES a) (RES b)) p0 rs)) 79 5 (if 0 ≤ lm ∧ lm < nI rs then lm else nI rs) ∧ n1 = NN) := by
    intro m
    induction m with
    | zero =>
      intro i hi
      have e : i = rs := by omega
      subst e
      refine qx_iload_n d_Re_sort_22 rfl rfl ?_
      refine qx_aload_n d_Re_sort_23 rfl rfl ?_
      refine qx_getI d_Re_sort_24 fI_Re_32 rfl rfl hrsf ?_
      refine qx_icmp_geN (t := 96) d_Re_sort_27 rfl (by omega) (by omega) (fun c27 => ?_) (fun c27 => absurd c27 (by omega))
      refine qx_aload_n d_Re_sort_96 rfl rfl ?_
      refine qx_aload_n d_Re_sort_97 rfl rfl ?_
      refine qx_getI d_Re_sort_98 fI_Re_43 rfl rfl hlm ?_
      refine qx_if_ge (t := 111) d_Re_sort_101 rfl (fun c101 => ?_) (fun c101 => ?_)
      · refine qx_aload_n d_Re_sort_111 rfl rfl ?_
        refine qx_getI d_Re_sort_112 fI_Re_32 rfl rfl hrsf ?_
        refine qx_aload_n d_Re_sort_115 rfl rfl ?_
        refine qx_getI d_Re_sort_116 fI_Re_43 rfl rfl hlm ?_
        refine qx_callS (As := [_, _]) (rest := _) d_Re_sort_119 lk_Re_46 y_JM_minI s_JM_minI rfl rfl rfl rfl (by decide) (by decide) (ct_JM_minI _ _) ?_
        rintro _ _ _ ⟨rfl, rfl, rfl⟩
        refine qx_putI d_Re_sort_122 fI_Re_52 rfl rfl ⟨rfl, rfl⟩ ?_
        exact qx_ret d_Re_sort_125 rfl (by omega) (by omega) (by refine ⟨rfl, congrArg _ ?_, rfl⟩; first | exact cnt_lo (by first | exact c101 | exact Int32.not_le.mp c101) | exact cnt_hi (by first | exact c101 | exact Int32.not_lt.mp c101))
      · refine qx_aload_n d_Re_sort_104 rfl rfl ?_
        refine qx_getI d_Re_sort_105 fI_Re_32 rfl rfl hrsf ?_
        refine qx_goto (t := 122) d_Re_sort_108 rfl ?_
        refine qx_putI d_Re_sort_122 fI_Re_52 rfl rfl ⟨rfl, rfl⟩ ?_
        exact qx_ret d_Re_sort_125 rfl (by omega) (by omega) (by refine ⟨rfl, congrArg _ ?_, rfl⟩; first | exact cnt_lo (by first | exact c101 | exact Int32.not_le.mp c101) | exact cnt_hi (by first | exact c101 | exact Int32.not_lt.mp c101))
    | succ m ih =>
      intro i hi
      refine qx_iload_n d_Re_sort_22 rfl rfl ?_
      refine qx_aload_n d_Re_sort_23 rfl rfl ?_
      refine qx_getI d_Re_sort_24 fI_Re_32 rfl rfl hrsf ?_
      refine qx_icmp_geN (t := 96) d_Re_sort_27 rfl (by omega) (by omega) (fun c27 => absurd c27 (by omega)) (fun c27 => ?_)
      refine qx_iload_n d_Re_sort_30 rfl rfl ?_
      refine qx_istore (lv1 := [_, _, _, _, _]) d_Re_sort_31 (by decide) rfl ?_
      exact inner i i (srt (fun a b => bef ob wd dn (RES a) (RES b)) p0 i) (Nat.le_refl _) (by omega) (fun j hj => srt_lt (fun a b => bef ob wd dn (RES a) (RES b)) p0 i j hj) (ih (i + 1) (by omega))
  refine qx_aload_n d_Re_sort_0 rfl rfl ?_
  refine qx_getI d_Re_sort_1 fI_Re_23 rfl rfl hob ?_
  refine qx_aload_n d_Re_sort_4 rfl rfl ?_
  refine qx_getI d_Re_sort_5 fI_Re_29 rfl rfl hwd ?_
  refine qx_icmp_geN (t := 18) d_Re_sort_8 rfl (by omega) (by omega) (fun c8 => ?_) (fun c8 => ?_)
  · refine qx_iconstN (v := 0) d_Re_sort_18 rfl ?_
    refine qx_istore_n (lv1 := [_, _, _, _, _]) d_Re_sort_19 rfl (by decide) rfl ?_
    refine qx_iconstN (v := 0) d_Re_sort_20 rfl ?_
    refine qx_istore_n (lv1 := [_, _, _, _, _]) d_Re_sort_21 rfl (by decide) rfl ?_
    first
      | exact qx_eq rfl (by rw [show oBy ob wd = 0 by unfold oBy; rw [if_neg (by omega)]]) rfl rfl (outer rs 0 (by omega))
      | exact qx_eq rfl (by rw [show oBy ob wd = ob by unfold oBy; rw [if_pos (by omega)]]) rfl rfl (outer rs 0 (by omega))
  · refine qx_aload_n d_Re_sort_11 rfl rfl ?_
    refine qx_getI d_Re_sort_12 fI_Re_23 rfl rfl hob ?_
    refine qx_goto (t := 19) d_Re_sort_15 rfl ?_
    refine qx_istore_n (lv1 := [_, _, _, _, _]) d_Re_sort_19 rfl (by decide) rfl ?_
    refine qx_iconstN (v := 0) d_Re_sort_20 rfl ?_
    refine qx_istore_n (lv1 := [_, _, _, _, _]) d_Re_sort_21 rfl (by decide) rfl ?_
    first
      | exact qx_eq rfl (by rw [show oBy ob wd = 0 by unfold oBy; rw [if_neg (by omega)]]) rfl rfl (outer rs 0 (by omega))
      | exact qx_eq rfl (by rw [show oBy ob wd = ob by unfold oBy; rw [if_pos (by omega)]]) rfl rfl (outer rs 0 (by omega))
