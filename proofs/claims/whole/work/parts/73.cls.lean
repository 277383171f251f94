def stEq (a b : sK) : Prop := a.2.2 = b.2.2 ∧ ∀ k, k < a.2.2 → a.1 k = b.1 k ∧ a.2.1 k = b.2.1 k
theorem stEq_if {ok : Nat → Option Nat → Bool} {a b : sK} {f : Nat} {s : Option Nat} (h : stEq a b) : stEq (kIf ok a f s) (kIf ok b f s) := by
  cases e : ok f s with
  | true =>
    rw [kIf_t e, kIf_t e]
    refine ⟨congrArg (· + 1) h.1, fun k hk => ?_⟩
    show va_up a.1 a.2.2 f k = va_up b.1 b.2.2 f k ∧ va_up a.2.1 a.2.2 s k = va_up b.2.1 b.2.2 s k
    have hk : k < a.2.2 + 1 := hk
    rw [← h.1]
    by_cases q : k = a.2.2
    · subst q; rw [qus, qus, qus, qus]; exact ⟨rfl, rfl⟩
    · rw [qun q, qun q, qun q, qun q]
      exact h.2 k (by omega)
  | false =>
    rw [kIf_f e, kIf_f e]
    exact h
set_option maxRecDepth 100000 in
set_option maxHeartbeats 4000000 in
theorem ct_Pl_keepRows {h : qH} (ti : Nat → Int32) (tn : Nat → Bool) (rw : Nat → Nat) (kd fi se le ri nc : Nat) (CE : Nat → List xP) (pc : Nat → Nat) (hC : plC h ti tn rw kd fi se le ri nc CE pc) (st0 : sK) (cv0 : Nat → Int64) (cb0 : Nat → Bool) (vs0 : Nat → Int64) (ns0 : Nat → Bool) (n2 : Nat) (hn0 : kd = 0 → n2 = 0) (hn1 : kd ≠ 0 → n2 = rw se) : qT mi_Pl_keepRows 5 0 0 [.ref 1] (nR (lR (kC h st0) cv0 cb0) vs0 ns0) NN (fun v1 h1 n1 => v1 = none ∧ (∃ st2 cv2 cb2 vs2 ns2, h1 = nR (lR (kC h st2) cv2 cb2) vs2 ns2 ∧ stEq st2 (jOut (fun f s => allT (jRow (fun k => (ti k).toInt64) tn fi se f s) CE nc) (jM (fun k => (ti k).toInt64) tn fi se le ri) n2 kd (rw fi))) ∧ n1 = NN) := by
  refine qT.of (lv0 := [_, _, _, _, _, _, _]) (by decide +kernel) (fun _ _ => Nat.le_of_ble_eq_true rfl) rfl ?_
  have hfi := hC.2.2.1.2.2.2.1
  have hse := hC.2.2.1.2.2.2.2.2.1
  have hkd3 := hC.2.2.1.2.1
  have hr1 := (hC.2.1 fi hfi).2.2.2
  have hr2 := (hC.2.1 se hse).2.2.2
  have hn2 : n2 ≤ 12 := by by_cases e : kd = 0 <;> omega
  have gC : ∀ (st : sK) (cv : Nat → Int64) (cb : Nat → Bool) (vs : Nat → Int64) (ns : Nat → Bool), plC (nR (lR (kC h st) cv cb) vs ns) ti tn rw kd fi se le ri nc CE pc := fun st cv cb vs ns => plC_n (plC_l (plC_k hC))
  have outer : ∀ (m i : Nat) (st : sK) (cv : Nat → Int64) (cb : Nat → Bool) (vs : Nat → Int64) (ns : Nat → Bool), i + m = rw fi → stEq st (jOut (fun f s => allT (jRow (fun k => (ti k).toInt64) tn fi se f s) CE nc) (jM (fun k => (ti k).toInt64) tn fi se le ri) n2 kd i) → qX mi_Pl_keepRows 5 none 0 0 53 [.ref 1, .ref (70 + 3 * fi), .ref (70 + 3 * se), .int (nI n2), .int (nI i), qdead, qdead] [] (nR (lR (kC h st) cv cb) vs ns) NN 0 0 (fun v1 h1 n1 => v1 = none ∧ (∃ st2 cv2 cb2 vs2 ns2, h1 = nR (lR (kC h st2) cv2 cb2) vs2 ns2 ∧ stEq st2 (jOut (fun f s => allT (jRow (fun k => (ti k).toInt64) tn fi se f s) CE nc) (jM (fun k => (ti k).toInt64) tn fi se le ri) n2 kd (rw fi))) ∧ n1 = NN) := by
    intro m
    induction m with
    | zero =>
      intro i st cv cb vs ns hi hq
      refine qx_iload d_Pl_keepRows_53 rfl ?_
      refine qx_aload_n d_Pl_keepRows_55 rfl rfl ?_
      refine qx_getI d_Pl_keepRows_56 fI_Pl_68 (tb_pl hfi).1 (tb_pl hfi).2.2.2.1 ((gC st cv cb vs ns).2.1 fi hfi).2.2.1 ?_
      refine qx_icmp_geN (t := 133) d_Pl_keepRows_59 rfl (by omega) (by omega) (fun c59 => ?_) (fun c59 => absurd c59 (by omega))
      exact qx_ret d_Pl_keepRows_133 rfl (by omega) (by omega) ⟨rfl, ⟨st, cv, cb, vs, ns, rfl, by rw [show rw fi = i by omega]; exact hq⟩, rfl⟩
    | succ m ih =>
      intro i st0 cv0 cb0 vs0 ns0 hi hq0
      have hjo := jOut_le (fun f s => allT (jRow (fun k => (ti k).toInt64) tn fi se f s) CE nc) (jM (fun k => (ti k).toInt64) tn fi se le ri) n2 kd hn2 hn0 i
      have hsO : (jOut (fun f s => allT (jRow (fun k => (ti k).toInt64) tn fi se f s) CE nc) (jM (fun k => (ti k).toInt64) tn fi se le ri) n2 kd (i + 1)) = if kd = 0 ∨ (kd = 2 ∧ (jIn (fun f s => allT (jRow (fun k => (ti k).toInt64) tn fi se f s) CE nc) (jM (fun k => (ti k).toInt64) tn fi se le ri) i (jOut (fun f s => allT (jRow (fun k => (ti k).toInt64) tn fi se f s) CE nc) (jM (fun k => (ti k).toInt64) tn fi se le ri) n2 kd i) n2).2 = 0) then kIf (fun f s => allT (jRow (fun k => (ti k).toInt64) tn fi se f s) CE nc) (jIn (fun f s => allT (jRow (fun k => (ti k).toInt64) tn fi se f s) CE nc) (jM (fun k => (ti k).toInt64) tn fi se le ri) i (jOut (fun f s => allT (jRow (fun k => (ti k).toInt64) tn fi se f s) CE nc) (jM (fun k => (ti k).toInt64) tn fi se le ri) n2 kd i) n2).1 i none else (jIn (fun f s => allT (jRow (fun k => (ti k).toInt64) tn fi se f s) CE nc) (jM (fun k => (ti k).toInt64) tn fi se le ri) i (jOut (fun f s => allT (jRow (fun k => (ti k).toInt64) tn fi se f s) CE nc) (jM (fun k => (ti k).toInt64) tn fi se le ri) n2 kd i) n2).1 := rfl
      have inner : ∀ (k j : Nat) (st : sK) (cv : Nat → Int64) (cb : Nat → Bool) (vs : Nat → Int64) (ns : Nat → Bool), j + k = n2 → stEq st (jIn (fun f s => allT (jRow (fun k => (ti k).toInt64) tn fi se f s) CE nc) (jM (fun k => (ti k).toInt64) tn fi se le ri) i (jOut (fun f s => allT (jRow (fun k => (ti k).toInt64) tn fi se f s) CE nc) (jM (fun k => (ti k).toInt64) tn fi se le ri) n2 kd i) j).1 → qX mi_Pl_keepRows 5 none 0 0 68 [.ref 1, .ref (70 + 3 * fi), .ref (70 + 3 * se), .int (nI n2), .int (nI i), (.int (b2i (decide (0 < (jIn (fun f s => allT (jRow (fun k => (ti k).toInt64) tn fi se f s) CE nc) (jM (fun k => (ti k).toInt64) tn fi se le ri) i (jOut (fun f s => allT (jRow (fun k => (ti k).toInt64) tn fi se f s) CE nc) (jM (fun k => (ti k).toInt64) tn fi se le ri) n2 kd i) j).2)))), (.int (nI j))] [] (nR (lR (kC h st) cv cb) vs ns) NN 0 0 (fun v1 h1 n1 => v1 = none ∧ (∃ st2 cv2 cb2 vs2 ns2, h1 = nR (lR (kC h st2) cv2 cb2) vs2 ns2 ∧ stEq st2 (jOut (fun f s => allT (jRow (fun k => (ti k).toInt64) tn fi se f s) CE nc) (jM (fun k => (ti k).toInt64) tn fi se le ri) n2 kd (rw fi))) ∧ n1 = NN) := by
        intro k
        induction k with
        | zero =>
          intro j st cv cb vs ns hj hq
          have ej : j = n2 := by omega
          have hji := jIn_le (fun f s => allT (jRow (fun k => (ti k).toInt64) tn fi se f s) CE nc) (jM (fun k => (ti k).toInt64) tn fi se le ri) i (jOut (fun f s => allT (jRow (fun k => (ti k).toInt64) tn fi se f s) CE nc) (jM (fun k => (ti k).toInt64) tn fi se le ri) n2 kd i) j
          have hst := hq.1
          have hj0 : kd = 0 → (jIn (fun f s => allT (jRow (fun k => (ti k).toInt64) tn fi se f s) CE nc) (jM (fun k => (ti k).toInt64) tn fi se le ri) i (jOut (fun f s => allT (jRow (fun k => (ti k).toInt64) tn fi se f s) CE nc) (jM (fun k => (ti k).toInt64) tn fi se le ri) n2 kd i) j).2 = 0 := fun e => by have := hn0 e; omega
          rw [ej] at hq hj0
          refine qx_iload d_Pl_keepRows_68 rfl ?_
          refine qx_iload_n d_Pl_keepRows_70 rfl rfl ?_
          refine qx_icmp_geN (t := 104) d_Pl_keepRows_71 rfl (by omega) (by omega) (fun c71 => ?_) (fun c71 => absurd c71 (by omega))
          refine qx_iload d_Pl_keepRows_104 rfl ?_
          refine qx_if_neB (t := 127) d_Pl_keepRows_106 rfl (fun c106 => ?_) (fun c106 => ?_)
          · refine qx_iincN (w := 1) (lv1 := [_, _, _, _, _, _, _]) d_Pl_keepRows_127 rfl rfl (by decide) rfl ?_
            refine qx_goto (t := 53) d_Pl_keepRows_130 rfl ?_
            refine qx_less (lv1 := [_, _, _, _, _, qdead, qdead]) ⟨Or.inr rfl, Or.inr rfl, Or.inr rfl, Or.inr rfl, Or.inr rfl, Or.inl rfl, Or.inl rfl, trivial⟩ ?_
            rw [ej] at c106
            first
              | (have z := vs2
                 have hp := of_decide_eq_false c106
                 refine ih (i + 1) _ cv2 cb2 vs2 ns2 (by omega) ?_
                 rw [hsO, if_pos (by omega)]
                 exact stEq_if hq)
              | (have z := c117
                 refine ih (i + 1) _ cv cb vs ns (by omega) ?_
                 rw [hsO, if_neg (by omega)]
                 exact hq)
              | (have hp := of_decide_eq_true c106
                 refine ih (i + 1) _ cv cb vs ns (by omega) ?_
                 rw [hsO, if_neg (by omega)]
                 exact hq)
          · refine qx_aload_n d_Pl_keepRows_109 rfl rfl ?_
            refine qx_getR d_Pl_keepRows_110 fR_Pl_20 rfl rfl (congrFun hC.1.1 1) ?_
            refine qx_getI d_Pl_keepRows_113 fI_Pl_82 rfl rfl hC.2.2.1.1 ?_
            refine qx_iconstN (v := 1) d_Pl_keepRows_116 rfl ?_
            refine qx_icmp_eqN (t := 127) d_Pl_keepRows_117 rfl (by omega) (by omega) (fun c117 => ?_) (fun c117 => ?_)
            · refine qx_iincN (w := 1) (lv1 := [_, _, _, _, _, _, _]) d_Pl_keepRows_127 rfl rfl (by decide) rfl ?_
              refine qx_goto (t := 53) d_Pl_keepRows_130 rfl ?_
              refine qx_less (lv1 := [_, _, _, _, _, qdead, qdead]) ⟨Or.inr rfl, Or.inr rfl, Or.inr rfl, Or.inr rfl, Or.inr rfl, Or.inl rfl, Or.inl rfl, trivial⟩ ?_
              rw [ej] at c106
              first
                | (have z := vs2
                   have hp := of_decide_eq_false c106
                   refine ih (i + 1) _ cv2 cb2 vs2 ns2 (by omega) ?_
                   rw [hsO, if_pos (by omega)]
                   exact stEq_if hq)
                | (have z := c117
                   refine ih (i + 1) _ cv cb vs ns (by omega) ?_
                   rw [hsO, if_neg (by omega)]
                   exact hq)
                | (have hp := of_decide_eq_true c106
                   refine ih (i + 1) _ cv cb vs ns (by omega) ?_
                   rw [hsO, if_neg (by omega)]
                   exact hq)
            · refine qx_aload_n d_Pl_keepRows_120 rfl rfl ?_
              refine qx_iload d_Pl_keepRows_121 rfl ?_
              refine qx_iconst (v := (oI none)) d_Pl_keepRows_123 rfl ?_
              refine qx_callV (As := [_, _]) (rest := _) d_Pl_keepRows_124 lk_Pl_78 y_Pl_keepIfAllTrue v_Pl_keepIfAllTrue rfl rfl rfl (by decide) rfl rfl rfl rfl (by decide) (by decide) (ct_Pl_keepIfAllTrue ti tn rw kd fi se le ri nc CE pc hC st (by have := of_decide_eq_false c106; omega) cv cb vs ns i (by omega) none (fun q e => by cases e)) ?_
              rintro _ _ _ ⟨rfl, ⟨cv2, cb2, vs2, ns2, rfl⟩, rfl⟩
              refine qx_iincN (w := 1) (lv1 := [_, _, _, _, _, _, _]) d_Pl_keepRows_127 rfl rfl (by decide) rfl ?_
              refine qx_goto (t := 53) d_Pl_keepRows_130 rfl ?_
              refine qx_less (lv1 := [_, _, _, _, _, qdead, qdead]) ⟨Or.inr rfl, Or.inr rfl, Or.inr rfl, Or.inr rfl, Or.inr rfl, Or.inl rfl, Or.inl rfl, trivial⟩ ?_
              rw [ej] at c106
              first
                | (have z := vs2
                   have hp := of_decide_eq_false c106
                   refine ih (i + 1) _ cv2 cb2 vs2 ns2 (by omega) ?_
                   rw [hsO, if_pos (by omega)]
                   exact stEq_if hq)
                | (have z := c117
                   refine ih (i + 1) _ cv cb vs ns (by omega) ?_
                   rw [hsO, if_neg (by omega)]
                   exact hq)
                | (have hp := of_decide_eq_true c106
                   refine ih (i + 1) _ cv cb vs ns (by omega) ?_
                   rw [hsO, if_neg (by omega)]
                   exact hq)
        | succ k ihk =>
          intro j st cv cb vs ns hj hq
          have hji := jIn_le (fun f s => allT (jRow (fun k => (ti k).toInt64) tn fi se f s) CE nc) (jM (fun k => (ti k).toInt64) tn fi se le ri) i (jOut (fun f s => allT (jRow (fun k => (ti k).toInt64) tn fi se f s) CE nc) (jM (fun k => (ti k).toInt64) tn fi se le ri) n2 kd i) j
          have hst := hq.1
          have hs : (jIn (fun f s => allT (jRow (fun k => (ti k).toInt64) tn fi se f s) CE nc) (jM (fun k => (ti k).toInt64) tn fi se le ri) i (jOut (fun f s => allT (jRow (fun k => (ti k).toInt64) tn fi se f s) CE nc) (jM (fun k => (ti k).toInt64) tn fi se le ri) n2 kd i) (j + 1)) = if (jM (fun k => (ti k).toInt64) tn fi se le ri) i j = true then (kIf (fun f s => allT (jRow (fun k => (ti k).toInt64) tn fi se f s) CE nc) (jIn (fun f s => allT (jRow (fun k => (ti k).toInt64) tn fi se f s) CE nc) (jM (fun k => (ti k).toInt64) tn fi se le ri) i (jOut (fun f s => allT (jRow (fun k => (ti k).toInt64) tn fi se f s) CE nc) (jM (fun k => (ti k).toInt64) tn fi se le ri) n2 kd i) j).1 i (some j), (jIn (fun f s => allT (jRow (fun k => (ti k).toInt64) tn fi se f s) CE nc) (jM (fun k => (ti k).toInt64) tn fi se le ri) i (jOut (fun f s => allT (jRow (fun k => (ti k).toInt64) tn fi se f s) CE nc) (jM (fun k => (ti k).toInt64) tn fi se le ri) n2 kd i) j).2 + 1) else (jIn (fun f s => allT (jRow (fun k => (ti k).toInt64) tn fi se f s) CE nc) (jM (fun k => (ti k).toInt64) tn fi se le ri) i (jOut (fun f s => allT (jRow (fun k => (ti k).toInt64) tn fi se f s) CE nc) (jM (fun k => (ti k).toInt64) tn fi se le ri) n2 kd i) j) := rfl
          refine qx_iload d_Pl_keepRows_68 rfl ?_
          refine qx_iload_n d_Pl_keepRows_70 rfl rfl ?_
          refine qx_icmp_geN (t := 104) d_Pl_keepRows_71 rfl (by omega) (by omega) (fun c71 => absurd c71 (by omega)) (fun c71 => ?_)
          refine qx_aload_n d_Pl_keepRows_74 rfl rfl ?_
          refine qx_aload_n d_Pl_keepRows_75 rfl rfl ?_
          refine qx_iload d_Pl_keepRows_76 rfl ?_
          refine qx_aload_n d_Pl_keepRows_78 rfl rfl ?_
          refine qx_iload d_Pl_keepRows_79 rfl ?_
          refine qx_callV (As := [_, _, _, _]) (rest := _) d_Pl_keepRows_81 lk_Pl_74 y_Pl_arePair v_Pl_arePair rfl rfl rfl (by decide) rfl rfl rfl rfl (by decide) (by decide) (ct_Pl_arePair ti tn rw kd fi se le ri nc CE pc (gC st cv cb vs ns) i j (by omega) (by omega)) ?_
          rintro _ _ _ ⟨rfl, rfl, rfl⟩
          refine qx_if_eqB (t := 98) d_Pl_keepRows_84 rfl (fun c84 => ?_) (fun c84 => ?_)
          · refine qx_iincN (w := 1) (lv1 := [_, _, _, _, _, _, _]) d_Pl_keepRows_98 rfl rfl (by decide) rfl ?_
            refine qx_goto (t := 68) d_Pl_keepRows_101 rfl ?_
            first
              | (have z := vs2
                 have k2 := ihk (j + 1) (kIf (fun f s => allT (jRow (fun k => (ti k).toInt64) tn fi se f s) CE nc) st i (some j)) cv2 cb2 vs2 ns2 (by omega) (by rw [hs, if_pos c84]; exact stEq_if hq)
                 rw [hs, if_pos c84, decide_eq_true (Nat.succ_pos _)] at k2
                 exact k2)
              | (have k2 := ihk (j + 1) st cv cb vs ns (by omega) (by rw [hs, if_neg (by rw [c84]; decide)]; exact hq)
                 rw [hs, if_neg (by rw [c84]; decide)] at k2
                 exact k2)
          · refine qx_iconst (v := b2i true) d_Pl_keepRows_87 rfl ?_
            refine qx_istore (lv1 := [_, _, _, _, _, _, _]) d_Pl_keepRows_88 (by decide) rfl ?_
            refine qx_aload_n d_Pl_keepRows_90 rfl rfl ?_
            refine qx_iload d_Pl_keepRows_91 rfl ?_
            refine qx_iload d_Pl_keepRows_93 rfl ?_
            refine qx_callV (As := [_, _]) (rest := _) d_Pl_keepRows_95 lk_Pl_78 y_Pl_keepIfAllTrue v_Pl_keepIfAllTrue rfl rfl rfl (by decide) rfl rfl rfl rfl (by decide) (by decide) (ct_Pl_keepIfAllTrue ti tn rw kd fi se le ri nc CE pc hC st (by omega) cv cb vs ns i (by omega) (some j) (fun q e => by cases e; omega)) ?_
            rintro _ _ _ ⟨rfl, ⟨cv2, cb2, vs2, ns2, rfl⟩, rfl⟩
            refine qx_iincN (w := 1) (lv1 := [_, _, _, _, _, _, _]) d_Pl_keepRows_98 rfl rfl (by decide) rfl ?_
            refine qx_goto (t := 68) d_Pl_keepRows_101 rfl ?_
            first
              | (have z := vs2
                 have k2 := ihk (j + 1) (kIf (fun f s => allT (jRow (fun k => (ti k).toInt64) tn fi se f s) CE nc) st i (some j)) cv2 cb2 vs2 ns2 (by omega) (by rw [hs, if_pos c84]; exact stEq_if hq)
                 rw [hs, if_pos c84, decide_eq_true (Nat.succ_pos _)] at k2
                 exact k2)
              | (have k2 := ihk (j + 1) st cv cb vs ns (by omega) (by rw [hs, if_neg (by rw [c84]; decide)]; exact hq)
                 rw [hs, if_neg (by rw [c84]; decide)] at k2
                 exact k2)
      refine qx_iload d_Pl_keepRows_53 rfl ?_
      refine qx_aload_n d_Pl_keepRows_55 rfl rfl ?_
      refine qx_getI d_Pl_keepRows_56 fI_Pl_68 (tb_pl hfi).1 (tb_pl hfi).2.2.2.1 ((gC st0 cv0 cb0 vs0 ns0).2.1 fi hfi).2.2.1 ?_
      refine qx_icmp_geN (t := 133) d_Pl_keepRows_59 rfl (by omega) (by omega) (fun c59 => absurd c59 (by omega)) (fun c59 => ?_)
      refine qx_iconst (v := b2i false) d_Pl_keepRows_62 rfl ?_
      refine qx_istore (lv1 := [_, _, _, _, _, _, _]) d_Pl_keepRows_63 (by decide) rfl ?_
      refine qx_iconstN (v := 0) d_Pl_keepRows_65 rfl ?_
      refine qx_istore (lv1 := [_, _, _, _, _, _, _]) d_Pl_keepRows_66 (by decide) rfl ?_
      exact inner n2 0 st0 cv0 cb0 vs0 ns0 (by omega) hq0
  refine qx_aload_n d_Pl_keepRows_0 rfl rfl ?_
  refine qx_getR d_Pl_keepRows_1 fR_Pl_11 rfl rfl (congrFun hC.1.1 0) ?_
  refine qx_aload_n d_Pl_keepRows_4 rfl rfl ?_
  refine qx_getR d_Pl_keepRows_5 fR_Pl_20 rfl rfl (congrFun hC.1.1 1) ?_
  refine qx_getI d_Pl_keepRows_8 fI_Pl_57 rfl rfl hC.2.2.1.2.2.1 ?_
  refine qx_aald (j := fi) (t := 0)  d_Pl_keepRows_11 rfl (fun _ => rfl) rfl rfl rfl hfi (hC.1.2.1 fi hfi) ?_
  refine qx_astore_n (lv1 := [_, _, _, _, _, _, _]) d_Pl_keepRows_12 rfl (by decide) rfl ?_
  refine qx_aload_n d_Pl_keepRows_13 rfl rfl ?_
  refine qx_getR d_Pl_keepRows_14 fR_Pl_11 rfl rfl (congrFun hC.1.1 0) ?_
  refine qx_aload_n d_Pl_keepRows_17 rfl rfl ?_
  refine qx_getR d_Pl_keepRows_18 fR_Pl_20 rfl rfl (congrFun hC.1.1 1) ?_
  refine qx_getI d_Pl_keepRows_21 fI_Pl_61 rfl rfl hC.2.2.1.2.2.2.2.1 ?_
  refine qx_aald (j := se) (t := 0)  d_Pl_keepRows_24 rfl (fun _ => rfl) rfl rfl rfl hse (hC.1.2.1 se hse) ?_
  refine qx_astore_n (lv1 := [_, _, _, _, _, _, _]) d_Pl_keepRows_25 rfl (by decide) rfl ?_
  refine qx_aload_n d_Pl_keepRows_26 rfl rfl ?_
  refine qx_getR d_Pl_keepRows_27 fR_Pl_20 rfl rfl (congrFun hC.1.1 1) ?_
  refine qx_callV (As := []) (rest := _) d_Pl_keepRows_30 lk_Pl_64 y_Qu_isJoin v_Qu_isJoin rfl rfl rfl (by decide) rfl rfl rfl rfl (by decide) (by decide) (ct_Qu_isJoin (h := nR (lR (kC h st0) cv0 cb0) vs0 ns0) kd hkd3 hC.2.2.1.1) ?_
  rintro _ _ _ ⟨rfl, rfl, rfl⟩
  refine qx_if_eqB (t := 43) d_Pl_keepRows_33 rfl (fun c33 => ?_) (fun c33 => ?_)
  · refine qx_iconstN (v := 0) d_Pl_keepRows_43 rfl ?_
    refine qx_istore_n (lv1 := [_, _, _, _, _, _, _]) d_Pl_keepRows_44 rfl (by decide) rfl ?_
    refine qx_aload_n d_Pl_keepRows_45 rfl rfl ?_
    refine qx_iconstN (v := 0) d_Pl_keepRows_46 rfl ?_
    refine qx_putI d_Pl_keepRows_47 fI_Pl_71 rfl rfl ⟨rfl, rfl⟩ ?_
    refine qx_eq (h1 := nR (lR (kC h ((st0.1, st0.2.1, 0) : sK)) cv0 cb0) vs0 ns0) rfl rfl rfl (by rw [nR_I (by omega), lR_I (by omega), kC_k]) ?_
    refine qx_iconstN (v := 0) d_Pl_keepRows_50 rfl ?_
    refine qx_istore (lv1 := [_, _, _, _, _, _, _]) d_Pl_keepRows_51 (by decide) rfl ?_
    have k2 := outer (rw fi) 0 ((st0.1, st0.2.1, 0) : sK) cv0 cb0 vs0 ns0 (by omega) ⟨rfl, fun k hk => absurd hk (Nat.not_lt_zero _)⟩
    first
      | (have e0 := hn0 (by have := of_decide_eq_false c33; omega); refine qx_eq (lv1 := [_, _, _, .int (nI n2), _, _, _]) rfl (by rw [e0]) rfl rfl k2)
      | (have e0 := hn1 (of_decide_eq_true c33); refine qx_eq (lv1 := [_, _, _, .int (nI n2), _, _, _]) rfl (by rw [e0]) rfl rfl k2)
  · refine qx_aload_n d_Pl_keepRows_36 rfl rfl ?_
    refine qx_getI d_Pl_keepRows_37 fI_Pl_68 (tb_pl hse).1 (tb_pl hse).2.2.2.1 ((gC st0 cv0 cb0 vs0 ns0).2.1 se hse).2.2.1 ?_
    refine qx_goto (t := 44) d_Pl_keepRows_40 rfl ?_
    refine qx_istore_n (lv1 := [_, _, _, _, _, _, _]) d_Pl_keepRows_44 rfl (by decide) rfl ?_
    refine qx_aload_n d_Pl_keepRows_45 rfl rfl ?_
    refine qx_iconstN (v := 0) d_Pl_keepRows_46 rfl ?_
    refine qx_putI d_Pl_keepRows_47 fI_Pl_71 rfl rfl ⟨rfl, rfl⟩ ?_
    refine qx_eq (h1 := nR (lR (kC h ((st0.1, st0.2.1, 0) : sK)) cv0 cb0) vs0 ns0) rfl rfl rfl (by rw [nR_I (by omega), lR_I (by omega), kC_k]) ?_
    refine qx_iconstN (v := 0) d_Pl_keepRows_50 rfl ?_
    refine qx_istore (lv1 := [_, _, _, _, _, _, _]) d_Pl_keepRows_51 (by decide) rfl ?_
    have k2 := outer (rw fi) 0 ((st0.1, st0.2.1, 0) : sK) cv0 cb0 vs0 ns0 (by omega) ⟨rfl, fun k hk => absurd hk (Nat.not_lt_zero _)⟩
    first
      | (have e0 := hn0 (by have := of_decide_eq_false c33; omega); refine qx_eq (lv1 := [_, _, _, .int (nI n2), _, _, _]) rfl (by rw [e0]) rfl rfl k2)
      | (have e0 := hn1 (of_decide_eq_true c33); refine qx_eq (lv1 := [_, _, _, .int (nI n2), _, _, _]) rfl (by rw [e0]) rfl rfl k2)
