theorem va_comm {α : Type} {f : Nat → α} {a b : Nat} {x y : α} (h : a ≠ b) : va_up (va_up f a x) b y = va_up (va_up f b y) a x := by
  funext j
  by_cases e : j = b
  · subst e; rw [qus, qun (fun q => h q.symm), qus]
  · rw [qun e]
    by_cases e2 : j = a
    · subst e2; rw [qus, qus]
    · rw [qun e2, qun e2, qun e]
theorem fH_u {h : qH} {S : sC} {cv : Nat → Int64} {cb : Nat → Bool} {vs : Nat → Int64} {ns : Nat → Bool} {vv : Nat → Int64} {vb : Nat → Bool} : (uR (nR (lR (aR h S) cv cb) vs ns) vv vb) = (nR (lR (aR (uR h vv vb) S) cv cb) vs ns) := by
  refine Prod.ext ?_ (Prod.ext ?_ rfl)
  · show va_up (va_up (va_up h.1 61 (iB cb)) 63 (iB ns)) 81 (iB vb) = va_up (va_up (va_up h.1 81 (iB vb)) 61 (iB cb)) 63 (iB ns)
    rw [va_comm (by omega), va_comm (a := 61) (by omega)]
  · show va_up (va_up (va_up (va_up h.2.1 64 (aRow (h.2.1 64) S)) 60 cv) 62 vs) 80 vv = va_up (va_up (va_up (va_up h.2.1 80 vv) 64 (aRow (va_up h.2.1 80 vv 64) S)) 60 cv) 62 vs
    rw [va_comm (by omega), va_comm (a := 60) (by omega), va_comm (a := 64) (by omega), qun (by omega)]
theorem fH_a {h : qH} {S : sC} {cv : Nat → Int64} {cb : Nat → Bool} {vs : Nat → Int64} {ns : Nat → Bool} {vv : Nat → Int64} {vb : Nat → Bool} : (aR (nR (lR (uR h vv vb) cv cb) vs ns) S) = (nR (lR (aR (uR h vv vb) S) cv cb) vs ns) := by
  refine Prod.ext rfl (Prod.ext ?_ rfl)
  show va_up (va_up (va_up (va_up h.2.1 80 vv) 60 cv) 62 vs) 64 (aRow (va_up (va_up (va_up h.2.1 80 vv) 60 cv) 62 vs 64) S) = va_up (va_up (va_up (va_up h.2.1 80 vv) 64 (aRow (va_up h.2.1 80 vv 64) S)) 60 cv) 62 vs
  rw [va_comm (a := 62) (by omega), va_comm (a := 60) (by omega), qun (by omega), qun (by omega)]
theorem ag_f {h : qH} {S : sC} {cv : Nat → Int64} {cb : Nat → Bool} {vv : Nat → Int64} {vb : Nat → Bool} : ∀ a, (3 ≤ a ∧ a ≤ 58) ∨ (70 ≤ a ∧ a ≤ 78) → (lR (aR (uR h vv vb) S) cv cb).1 a = h.1 a := fun a ha => (qun (by omega)).trans (qun (by omega))
theorem plC_f {h : qH} {ti : Nat → Int32} {tn : Nat → Bool} {rw : Nat → Nat} {kd fi se le ri nc : Nat} {CE : Nat → List xP} {pc : Nat → Nat} (hC : plC h ti tn rw kd fi se le ri nc CE pc) {S : sC} {vv : Nat → Int64} {vb : Nat → Bool} : plC (aR (uR h vv vb) S) ti tn rw kd fi se le ri nc CE pc := plC_ag (fun a ha => qun (by omega)) rfl hC
theorem aRel_step {w : Nat} {S : sC} {a : sA} {ts : List Bool} {E : List xP} {row : Nat → Option Int64} {vs : Nat → Int64} {ns : Nat → Bool} (ha : aRel w S a) (hts : w ≠ 1 → ts = [false]) (hty : xT 8 [] E = some ts) (hm : mRep vs ns (xE row [] E)) : aRel w (cAdd S (if ns 0 = true then none else some (vs 0))) (agS w a (xVal row E)) := by
  have q := aRel_S (x := if ns 0 = true then none else some (vs 0)) ha
  by_cases hw : w = 1
  · rw [agS_1 hw]
    rw [agS_1 hw] at q
    exact q
  · rw [hts hw] at hty
    rw [← mVal hty hm]
    exact q
def plK (h : qH) (st : sK) (G : sG) : Prop := h.1 65 = iN st.1 ∧ h.1 66 = oN st.2.1 ∧ h.1 1 6 = nI st.2.2 ∧ h.2.1 68 = G.1 ∧ h.1 69 = iB G.2.1 ∧ h.1 67 = iN G.2.2.1 ∧ h.1 1 10 = nI G.2.2.2
def plO (h : qH) (gr : Option Nat) (no : Nat) (OE : Nat → List xP) (ok po : Nat → Nat) : Prop := (∀ g, gr = some g → g < 4) ∧ h.1 3 13 = grI gr ∧ no ≤ 3 ∧ h.1 3 12 = nI no ∧ ∀ o, o < no → h.2.2 48 o = some (po o) ∧ exOk (po o) ∧ h.1 58 o = nI (ok o) ∧ ok o < 6 ∧ exD h.1 (po o) (OE o) ∧ ∃ ts, xT 8 [] (OE o) = some ts ∧ (ok o ≠ 1 → ts = [false])
def cV1 (vv : Nat → Int64) (vb : Nat → Bool) (i c : Nat) (x : Option Int64) : Prop := vb (i * 4 + c) = x.isNone ∧ ∀ z, x = some z → vv (i * 4 + c) = z
theorem cV1_set {vv : Nat → Int64} {vb : Nat → Bool} {i c : Nat} {v : Int64} {b : Bool} {x : Option Int64} (h : (if b = true then none else some v) = x) : cV1 (va_up vv (i * 4 + c) v) (va_up vb (i * 4 + c) b) i c x := by
  unfold cV1
  rw [qus, qus, ← h]
  cases b
  · exact ⟨rfl, fun z e => by cases e; rfl⟩
  · exact ⟨rfl, fun z e => by cases e⟩
theorem cV1_ne {vv vv2 : Nat → Int64} {vb vb2 : Nat → Bool} {i c : Nat} {x : Option Int64} (h1 : vv2 (i * 4 + c) = vv (i * 4 + c)) (h2 : vb2 (i * 4 + c) = vb (i * 4 + c)) (h : cV1 vv vb i c x) : cV1 vv2 vb2 i c x := by
  unfold cV1
  rw [h1, h2]
  exact h
set_option maxRecDepth 100000 in
set_option maxHeartbeats 4000000 in
theorem ct_Pl_addUp {h : qH} (ti : Nat → Int32) (tn : Nat → Bool) (rw : Nat → Nat) (kd fi se le ri nc : Nat) (CE : Nat → List xP) (pc : Nat → Nat) (hC : plC h ti tn rw kd fi se le ri nc CE pc) (st : sK) (hst : stOk st) (G : sG) (hK : plK h st G) (vv : Nat → Int64) (vb : Nat → Bool) (e : Nat) (he : exOk e) (E : List xP) (hx0 : exD h.1 e E) (ts : List Bool) (hty : xT 8 [] E = some ts) (w : Nat) (hts : w ≠ 1 → ts = [false]) (tg : Nat → Bool) (j : Nat) (hj : j < 145) (hgo : ∀ i, i < st.2.2 → G.2.2.1 i < 145 ∧ decide (G.2.2.1 i = j) = tg i) (S : sC) (cv : Nat → Int64) (cb : Nat → Bool) (vs : Nat → Int64) (ns : Nat → Bool) : qT mi_Pl_addUp 4 0 0 [.ref 1, .ref e, .int (nI j)] (nR (lR (aR (uR h vv vb) S) cv cb) vs ns) NN (fun v1 h1 n1 => v1 = none ∧ (∃ S2 cv2 cb2 vs2 ns2, h1 = (nR (lR (aR (uR h vv vb) S2) cv2 cb2) vs2 ns2) ∧ aRel w S2 (agL w tg (fun i => xVal ((rowK ti tn fi se st) i) E) st.2.2)) ∧ n1 = NN) := by
  have hk144 := hst.1
  refine qT.of (lv0 := [_, _, _, _]) (by decide +kernel) (fun _ _ => Nat.le_of_ble_eq_true rfl) rfl ?_
  have key : ∀ (m i : Nat) (S : sC) (cv : Nat → Int64) (cb : Nat → Bool) (vs : Nat → Int64) (ns : Nat → Bool), i + m = st.2.2 → aRel w S (agL w tg (fun i => xVal ((rowK ti tn fi se st) i) E) i) → qX mi_Pl_addUp 4 none 0 0 9 [.ref 1, .ref e, .int (nI j), .int (nI i)] [] (nR (lR (aR (uR h vv vb) S) cv cb) vs ns) NN 0 0 (fun v1 h1 n1 => v1 = none ∧ (∃ S2 cv2 cb2 vs2 ns2, h1 = (nR (lR (aR (uR h vv vb) S2) cv2 cb2) vs2 ns2) ∧ aRel w S2 (agL w tg (fun i => xVal ((rowK ti tn fi se st) i) E) st.2.2)) ∧ n1 = NN) := by
    intro m
    induction m with
    | zero =>
      intro i S cv cb vs ns hi ha
      have ei : i = st.2.2 := by omega
      refine qx_iload_n d_Pl_addUp_9 rfl rfl ?_
      refine qx_aload_n d_Pl_addUp_10 rfl rfl ?_
      refine qx_getI d_Pl_addUp_11 fI_Pl_71 rfl rfl (show _ = nI st.2.2 from hK.2.2.1) ?_
      refine qx_icmp_geN (t := 78) d_Pl_addUp_14 rfl (by omega) (by omega) (fun c14 => ?_) (fun c14 => absurd c14 (by omega))
      exact qx_ret d_Pl_addUp_78 rfl (by omega) (by omega) ⟨rfl, ⟨S, cv, cb, vs, ns, rfl, by rw [← ei]; exact ha⟩, rfl⟩
    | succ m ih =>
      intro i S cv cb vs ns hi ha
      have hk : i < st.2.2 := by omega
      have hs : (agL w tg (fun i => xVal ((rowK ti tn fi se st) i) E) (i + 1)) = if tg i = true then agS w (agL w tg (fun i => xVal ((rowK ti tn fi se st) i) E) i) (xVal ((rowK ti tn fi se st) i) E) else (agL w tg (fun i => xVal ((rowK ti tn fi se st) i) E) i) := rfl
      have hgi := (hgo i hk).1
      refine qx_iload_n d_Pl_addUp_9 rfl rfl ?_
      refine qx_aload_n d_Pl_addUp_10 rfl rfl ?_
      refine qx_getI d_Pl_addUp_11 fI_Pl_71 rfl rfl (show _ = nI st.2.2 from hK.2.2.1) ?_
      refine qx_icmp_geN (t := 78) d_Pl_addUp_14 rfl (by omega) (by omega) (fun c14 => absurd c14 (by omega)) (fun c14 => ?_)
      refine qx_aload_n d_Pl_addUp_17 rfl rfl ?_
      refine qx_getR d_Pl_addUp_18 fR_Pl_45 rfl rfl (congrFun hC.1.1 7) ?_
      refine qx_iload_n d_Pl_addUp_21 rfl rfl ?_
      refine qx_iald (j := i) d_Pl_addUp_22 rfl rfl rfl rfl (by omega) (show _ = nI (G.2.2.1 i) from congrFun hK.2.2.2.2.2.1 i) ?_
      refine qx_iload_n d_Pl_addUp_23 rfl rfl ?_
      refine qx_icmp_neN (t := 72) d_Pl_addUp_24 rfl (by omega) (by omega) (fun c24 => ?_) (fun c24 => ?_)
      · refine qx_iincN (w := 1) (lv1 := [_, _, _, _]) d_Pl_addUp_72 rfl rfl (by decide) rfl ?_
        refine qx_goto (t := 9) d_Pl_addUp_75 rfl ?_
        first
          | (have z := vs3
             refine ih (i + 1) _ cv1 cb1 vs3 ns3 (by omega) ?_
             rw [hs, if_pos (show tg i = true by rw [← (hgo i hk).2]; exact decide_eq_true c24)]
             exact aRel_step ha hts hty hm)
          | (refine ih (i + 1) S cv cb vs ns (by omega) ?_
             rw [hs, if_neg (show ¬ tg i = true by rw [← (hgo i hk).2, decide_eq_false c24]; decide)]
             exact ha)
      · refine qx_aload_n d_Pl_addUp_27 rfl rfl ?_
        refine qx_aload_n d_Pl_addUp_28 rfl rfl ?_
        refine qx_getR d_Pl_addUp_29 fR_Pl_38 rfl rfl (congrFun hC.1.1 4) ?_
        refine qx_iload_n d_Pl_addUp_32 rfl rfl ?_
        refine qx_iald (j := i) d_Pl_addUp_33 rfl rfl rfl rfl (by omega) (show _ = nI (st.1 i) from congrFun hK.1 i) ?_
        refine qx_aload_n d_Pl_addUp_34 rfl rfl ?_
        refine qx_getR d_Pl_addUp_35 fR_Pl_42 rfl rfl (congrFun hC.1.1 5) ?_
        refine qx_iload_n d_Pl_addUp_38 rfl rfl ?_
        refine qx_iald (j := i) d_Pl_addUp_39 rfl rfl rfl rfl (by omega) (show _ = oI (st.2.1 i) from congrFun hK.2.1 i) ?_
        refine qx_callV (As := [_, _]) (rest := _) d_Pl_addUp_40 lk_Pl_99 y_Pl_loadJoined v_Pl_loadJoined rfl rfl rfl (by decide) rfl rfl rfl rfl (by decide) (by decide) (ct_Pl_loadJoined (h := aR (uR h vv vb) S) ti tn rw kd fi se le ri nc CE pc (plC_f hC) cv cb vs ns (st.1 i) (hst.2 i hk).1 (st.2.1 i) (hst.2 i hk).2) ?_
        rintro _ _ _ ⟨rfl, ⟨cv1, cb1, rfl, hrow⟩, rfl⟩
        refine qx_aload_n d_Pl_addUp_43 rfl rfl ?_
        refine qx_getR d_Pl_addUp_44 fR_Pl_27 rfl rfl (congrFun hC.1.1 2) ?_
        refine qx_aload_n d_Pl_addUp_47 rfl rfl ?_
        have hx := exD_ag he (ag_f (S := S) (cv := cv1) (cb := cb1) (vv := vv) (vb := vb)) hx0
        refine qx_callV (As := [_]) (rest := _) d_Pl_addUp_48 lk_Pl_109 y_Ma_evaluate v_Ma_evaluate rfl rfl rfl (by decide) rfl rfl rfl rfl (by decide) (by decide) (ct_Ma_evaluate (h := lR (aR (uR h vv vb) S) cv1 cb1) hC.1.2.2.1 vs ns e he (hC.1.2.2.2.2.2.1 _ he) E hx.1 hx.2.1 hx.2.2 ts hty ((rowK ti tn fi se st) i) cb1 (fun c hc => ⟨rfl, (hrow c hc).1⟩)) ?_
        rintro _ _ _ ⟨rfl, ⟨vs3, ns3, rfl, hm⟩, rfl⟩
        refine qx_aload_n d_Pl_addUp_51 rfl rfl ?_
        refine qx_getR d_Pl_addUp_52 fR_Pl_34 rfl rfl (congrFun hC.1.1 3) ?_
        refine qx_aload_n d_Pl_addUp_55 rfl rfl ?_
        refine qx_getR d_Pl_addUp_56 fR_Pl_27 rfl rfl (congrFun hC.1.1 2) ?_
        refine qx_callV (As := []) (rest := _) d_Pl_addUp_59 lk_Pl_167 y_Ma_value v_Ma_value rfl rfl rfl (by decide) rfl rfl rfl rfl (by decide) (by decide) (ct_Ma_value (h := lR (aR (uR h vv vb) S) cv1 cb1) hC.1.2.2.1 vs3 ns3) ?_
        rintro _ _ _ ⟨rfl, rfl, rfl⟩
        refine qx_aload_n d_Pl_addUp_62 rfl rfl ?_
        refine qx_getR d_Pl_addUp_63 fR_Pl_27 rfl rfl (congrFun hC.1.1 2) ?_
        refine qx_callV (As := []) (rest := _) d_Pl_addUp_66 lk_Pl_170 y_Ma_isNull v_Ma_isNull rfl rfl rfl (by decide) rfl rfl rfl rfl (by decide) (by decide) (ct_Ma_isNull (h := lR (aR (uR h vv vb) S) cv1 cb1) hC.1.2.2.1 vs3 ns3) ?_
        rintro _ _ _ ⟨rfl, rfl, rfl⟩
        refine qx_eq (h1 := (aR (nR (lR (uR h vv vb) cv1 cb1) vs3 ns3) S)) rfl rfl rfl fH_a ?_
        refine qx_callV (As := [_, _]) (rest := _) d_Pl_addUp_69 lk_Pl_192 y_Ag_add v_Ag_add rfl rfl rfl (by decide) rfl rfl rfl rfl (by decide) (by decide) (ct_Ag_add (h := nR (lR (uR h vv vb) cv1 cb1) vs3 ns3) S (vs3 0) (ns3 0)) ?_
        rintro _ _ _ ⟨rfl, rfl, rfl⟩
        refine qx_eq (h1 := (nR (lR (aR (uR h vv vb) (cAdd S (if ns3 0 = true then none else some (vs3 0)))) cv1 cb1) vs3 ns3)) rfl rfl rfl fH_a.symm ?_
        refine qx_iincN (w := 1) (lv1 := [_, _, _, _]) d_Pl_addUp_72 rfl rfl (by decide) rfl ?_
        refine qx_goto (t := 9) d_Pl_addUp_75 rfl ?_
        first
          | (have z := vs3
             refine ih (i + 1) _ cv1 cb1 vs3 ns3 (by omega) ?_
             rw [hs, if_pos (show tg i = true by rw [← (hgo i hk).2]; exact decide_eq_true c24)]
             exact aRel_step ha hts hty hm)
          | (refine ih (i + 1) S cv cb vs ns (by omega) ?_
             rw [hs, if_neg (show ¬ tg i = true by rw [← (hgo i hk).2, decide_eq_false c24]; decide)]
             exact ha)
  refine qx_aload_n d_Pl_addUp_0 rfl rfl ?_
  refine qx_getR d_Pl_addUp_1 fR_Pl_34 rfl rfl (congrFun hC.1.1 3) ?_
  refine qx_eq (h1 := (aR (nR (lR (uR h vv vb) cv cb) vs ns) S)) rfl rfl rfl fH_a ?_
  refine qx_callV (As := []) (rest := _) d_Pl_addUp_4 lk_Pl_189 y_Ag_clear v_Ag_clear rfl rfl rfl (by decide) rfl rfl rfl rfl (by decide) (by decide) (ct_Ag_clear (h := nR (lR (uR h vv vb) cv cb) vs ns) S) ?_
  rintro _ _ _ ⟨rfl, rfl, rfl⟩
  refine qx_eq (h1 := (nR (lR (aR (uR h vv vb) sC0) cv cb) vs ns)) rfl rfl rfl fH_a.symm ?_
  refine qx_iconstN (v := 0) d_Pl_addUp_7 rfl ?_
  refine qx_istore_n (lv1 := [_, _, _, _]) d_Pl_addUp_8 rfl (by decide) rfl ?_
  exact key st.2.2 0 sC0 cv cb vs ns (by omega) (aRel_0 w)
set_option maxRecDepth 100000 in
set_option maxHeartbeats 4000000 in
theorem ct_Pl_fillPlain {h : qH} (ti : Nat → Int32) (tn : Nat → Bool) (rw : Nat → Nat) (kd fi se le ri nc : Nat) (CE : Nat → List xP) (pc : Nat → Nat) (hC : plC h ti tn rw kd fi se le ri nc CE pc) (st : sK) (hst : stOk st) (G : sG) (hK : plK h st G) (gr : Option Nat) (no : Nat) (OE : Nat → List xP) (ok po : Nat → Nat) (hO : plO h gr no OE ok po) (hok : ∀ o, o < no → ok o = 0) (vv : Nat → Int64) (vb : Nat → Bool) (S : sC) (cv : Nat → Int64) (cb : Nat → Bool) (vs : Nat → Int64) (ns : Nat → Bool) (k : Nat) (hk : k < st.2.2) : qT mi_Pl_fillPlain 4 0 0 [.ref 1, .ref 79, .int (nI k)] (nR (lR (aR (uR h vv vb) S) cv cb) vs ns) NN (fun v1 h1 n1 => v1 = none ∧ (∃ vv2 vb2 cv2 cb2 vs2 ns2, h1 = (nR (lR (aR (uR h vv2 vb2) S) cv2 cb2) vs2 ns2) ∧ (∀ o, o < no → cV1 vv2 vb2 k o (xVal ((rowK ti tn fi se st) k) (OE o))) ∧ ∀ q, q < k * 4 ∨ k * 4 + 4 ≤ q → vv2 q = vv q ∧ vb2 q = vb q) ∧ n1 = NN) := by
  have hk144 := hst.1
  have hno3 := hO.2.2.1
  refine qT.of (lv0 := [_, _, _, _]) (by decide +kernel) (fun _ _ => Nat.le_of_ble_eq_true rfl) rfl ?_
  have key : ∀ (cv1 : Nat → Int64) (cb1 : Nat → Bool), cRow cv1 cb1 ((rowK ti tn fi se st) k) → ∀ (m i : Nat) (vv2 : Nat → Int64) (vb2 : Nat → Bool) (vs : Nat → Int64) (ns : Nat → Bool), i + m = no → (∀ o, o < i → cV1 vv2 vb2 k o (xVal ((rowK ti tn fi se st) k) (OE o))) → (∀ q, q < k * 4 ∨ k * 4 + 4 ≤ q → vv2 q = vv q ∧ vb2 q = vb q) → qX mi_Pl_fillPlain 4 none 0 0 18 [.ref 1, .ref 79, .int (nI k), .int (nI i)] [] (nR (lR (aR (uR h vv2 vb2) S) cv1 cb1) vs ns) NN 0 0 (fun v1 h1 n1 => v1 = none ∧ (∃ vv2 vb2 cv2 cb2 vs2 ns2, h1 = (nR (lR (aR (uR h vv2 vb2) S) cv2 cb2) vs2 ns2) ∧ (∀ o, o < no → cV1 vv2 vb2 k o (xVal ((rowK ti tn fi se st) k) (OE o))) ∧ ∀ q, q < k * 4 ∨ k * 4 + 4 ≤ q → vv2 q = vv q ∧ vb2 q = vb q) ∧ n1 = NN) := by
    intro cv1 cb1 hrow m
    induction m with
    | zero =>
      intro i vv2 vb2 vs ns hi h1 h2
      have ei : i = no := by omega
      refine qx_iload_n d_Pl_fillPlain_18 rfl rfl ?_
      refine qx_aload_n d_Pl_fillPlain_19 rfl rfl ?_
      refine qx_getR d_Pl_fillPlain_20 fR_Pl_20 rfl rfl (congrFun hC.1.1 1) ?_
      refine qx_getI d_Pl_fillPlain_23 fI_Pl_161 rfl rfl hO.2.2.2.1 ?_
      refine qx_icmp_geN (t := 71) d_Pl_fillPlain_26 rfl (by omega) (by omega) (fun c26 => ?_) (fun c26 => absurd c26 (by omega))
      exact qx_ret d_Pl_fillPlain_71 rfl (by omega) (by omega) ⟨rfl, ⟨vv2, vb2, cv1, cb1, vs, ns, rfl, by rw [← ei]; exact h1, h2⟩, rfl⟩
    | succ m ih =>
      intro i vv2 vb2 vs ns hi h1 h2
      obtain ⟨o1, he, o3, o4, hx0, ts, hty, hts⟩ := hO.2.2.2.2 i (by omega)
      rw [hts (by rw [hok i (by omega)]; omega)] at hty
      have hx := exD_ag he (ag_f (S := S) (cv := cv1) (cb := cb1) (vv := vv2) (vb := vb2)) hx0
      refine qx_iload_n d_Pl_fillPlain_18 rfl rfl ?_
      refine qx_aload_n d_Pl_fillPlain_19 rfl rfl ?_
      refine qx_getR d_Pl_fillPlain_20 fR_Pl_20 rfl rfl (congrFun hC.1.1 1) ?_
      refine qx_getI d_Pl_fillPlain_23 fI_Pl_161 rfl rfl hO.2.2.2.1 ?_
      refine qx_icmp_geN (t := 71) d_Pl_fillPlain_26 rfl (by omega) (by omega) (fun c26 => absurd c26 (by omega)) (fun c26 => ?_)
      refine qx_aload_n d_Pl_fillPlain_29 rfl rfl ?_
      refine qx_getR d_Pl_fillPlain_30 fR_Pl_27 rfl rfl (congrFun hC.1.1 2) ?_
      refine qx_aload_n d_Pl_fillPlain_33 rfl rfl ?_
      refine qx_getR d_Pl_fillPlain_34 fR_Pl_20 rfl rfl (congrFun hC.1.1 1) ?_
      refine qx_getR d_Pl_fillPlain_37 fR_Pl_164 rfl rfl (congrFun hC.1.2.2.2.2.1 10) ?_
      refine qx_iload_n d_Pl_fillPlain_40 rfl rfl ?_
      refine qx_aald (j := i) (t := 1)  d_Pl_fillPlain_41 rfl (fun _ => rfl) rfl rfl rfl (by omega) o1 ?_
      refine qx_callV (As := [_]) (rest := _) d_Pl_fillPlain_42 lk_Pl_109 y_Ma_evaluate v_Ma_evaluate rfl rfl rfl (by decide) rfl rfl rfl rfl (by decide) (by decide) (ct_Ma_evaluate (h := lR (aR (uR h vv2 vb2) S) cv1 cb1) hC.1.2.2.1 vs ns (po i) he (hC.1.2.2.2.2.2.1 _ he) (OE i) hx.1 hx.2.1 hx.2.2 [false] hty ((rowK ti tn fi se st) k) cb1 (fun c hc => ⟨rfl, (hrow c hc).1⟩)) ?_
      rintro _ _ _ ⟨rfl, ⟨vs3, ns3, rfl, hm⟩, rfl⟩
      refine qx_aload_n d_Pl_fillPlain_45 rfl rfl ?_
      refine qx_iload_n d_Pl_fillPlain_46 rfl rfl ?_
      refine qx_iload_n d_Pl_fillPlain_47 rfl rfl ?_
      refine qx_aload_n d_Pl_fillPlain_48 rfl rfl ?_
      refine qx_getR d_Pl_fillPlain_49 fR_Pl_27 rfl rfl (congrFun hC.1.1 2) ?_
      refine qx_callV (As := []) (rest := _) d_Pl_fillPlain_52 lk_Pl_167 y_Ma_value v_Ma_value rfl rfl rfl (by decide) rfl rfl rfl rfl (by decide) (by decide) (ct_Ma_value (h := lR (aR (uR h vv2 vb2) S) cv1 cb1) hC.1.2.2.1 vs3 ns3) ?_
      rintro _ _ _ ⟨rfl, rfl, rfl⟩
      refine qx_aload_n d_Pl_fillPlain_55 rfl rfl ?_
      refine qx_getR d_Pl_fillPlain_56 fR_Pl_27 rfl rfl (congrFun hC.1.1 2) ?_
      refine qx_callV (As := []) (rest := _) d_Pl_fillPlain_59 lk_Pl_170 y_Ma_isNull v_Ma_isNull rfl rfl rfl (by decide) rfl rfl rfl rfl (by decide) (by decide) (ct_Ma_isNull (h := lR (aR (uR h vv2 vb2) S) cv1 cb1) hC.1.2.2.1 vs3 ns3) ?_
      rintro _ _ _ ⟨rfl, rfl, rfl⟩
      refine qx_eq (h1 := (uR (nR (lR (aR h S) cv1 cb1) vs3 ns3) vv2 vb2)) rfl rfl rfl fH_u ?_
      refine qx_callV (As := [_, _, _, _]) (rest := _) d_Pl_fillPlain_62 lk_Pl_172 y_Re_set v_Re_set rfl rfl rfl (by decide) rfl rfl rfl rfl (by decide) (by decide) (ct_Re_set (h := nR (lR (aR h S) cv1 cb1) vs3 ns3) hC.1.2.2.2.2.2.2 vv2 vb2 k i (by omega) (by omega) (vs3 0) (ns3 0)) ?_
      rintro _ _ _ ⟨rfl, rfl, rfl⟩
      refine qx_eq (h1 := (nR (lR (aR (uR h (va_up vv2 (k * 4 + i) (vs3 0)) (va_up vb2 (k * 4 + i) (ns3 0))) S) cv1 cb1) vs3 ns3)) rfl rfl rfl fH_u.symm ?_
      refine qx_iincN (w := 1) (lv1 := [_, _, _, _]) d_Pl_fillPlain_65 rfl rfl (by decide) rfl ?_
      refine qx_goto (t := 18) d_Pl_fillPlain_68 rfl ?_
      refine ih (i + 1) _ _ vs3 ns3 (by omega) (fun o ho => ?_) (fun q hq => ?_)
      · by_cases e : o = i
        · subst e; exact cV1_set (mVal hty hm)
        · exact cV1_ne (qun (by omega)) (qun (by omega)) (h1 o (by omega))
      · rw [qun (by omega), qun (by omega)]; exact h2 q hq
  refine qx_aload_n d_Pl_fillPlain_0 rfl rfl ?_
  refine qx_aload_n d_Pl_fillPlain_1 rfl rfl ?_
  refine qx_getR d_Pl_fillPlain_2 fR_Pl_38 rfl rfl (congrFun hC.1.1 4) ?_
  refine qx_iload_n d_Pl_fillPlain_5 rfl rfl ?_
  refine qx_iald (j := k) d_Pl_fillPlain_6 rfl rfl rfl rfl (by omega) (show _ = nI (st.1 k) from congrFun hK.1 k) ?_
  refine qx_aload_n d_Pl_fillPlain_7 rfl rfl ?_
  refine qx_getR d_Pl_fillPlain_8 fR_Pl_42 rfl rfl (congrFun hC.1.1 5) ?_
  refine qx_iload_n d_Pl_fillPlain_11 rfl rfl ?_
  refine qx_iald (j := k) d_Pl_fillPlain_12 rfl rfl rfl rfl (by omega) (show _ = oI (st.2.1 k) from congrFun hK.2.1 k) ?_
  refine qx_callV (As := [_, _]) (rest := _) d_Pl_fillPlain_13 lk_Pl_99 y_Pl_loadJoined v_Pl_loadJoined rfl rfl rfl (by decide) rfl rfl rfl rfl (by decide) (by decide) (ct_Pl_loadJoined (h := aR (uR h vv vb) S) ti tn rw kd fi se le ri nc CE pc (plC_f hC) cv cb vs ns (st.1 k) (hst.2 k hk).1 (st.2.1 k) (hst.2 k hk).2) ?_
  rintro _ _ _ ⟨rfl, ⟨cv1, cb1, rfl, hrow⟩, rfl⟩
  refine qx_iconstN (v := 0) d_Pl_fillPlain_16 rfl ?_
  refine qx_istore_n (lv1 := [_, _, _, _]) d_Pl_fillPlain_17 rfl (by decide) rfl ?_
  exact key cv1 cb1 hrow no 0 vv vb vs ns (by omega) (fun o ho => absurd ho (Nat.not_lt_zero _)) (fun q _ => ⟨rfl, rfl⟩)
