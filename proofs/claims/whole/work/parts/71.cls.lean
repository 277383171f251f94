/-! the class's plan: what stays as it is while a job is made ready -/
def qRPl : Nat → Option Nat := fun f => (([some 2, some 3, some 59, some 64, some 65, some 66, none, some 67, some 68, some 69, none] : List (Option Nat))[f]?).getD none
def oI (s : Option Nat) : Int32 := match s with
  | none => -1
  | some s => nI s
def oN (f : Nat → Option Nat) : Nat → Int32 := fun i => oI (f i)
theorem oN_up {f : Nat → Option Nat} {k : Nat} {v : Option Nat} : va_up (oN f) k (oI v) = oN (va_up f k v) := by
  funext j
  unfold oN
  by_cases h : j = k
  · subst h; rw [qus, qus]
  · rw [qun h, qun h]
def nmOk (nm : Int32) (E : List xP) : Prop := (¬ nm &&& nI 3 = 0 ↔ nms 0 E = true) ∧ (¬ nm &&& nI 12 = 0 ↔ nms 1 E = true)
def exD (g : Nat → Nat → Int32) (e : Nat) (E : List xP) : Prop := E.length ≤ 24 ∧ g e 2 = nI E.length ∧ cExp (g (e + 1)) (g (e + 2)) 0 E
def plRef (h : qH) : Prop := h.2.2 1 = qRPl ∧ (∀ t, t < 3 → h.2.2 2 t = some (70 + 3 * t)) ∧ h.2.2 59 = qRMa ∧ (∀ t, t < 3 → h.2.2 (70 + 3 * t) = qRTb t) ∧ h.2.2 3 = qRQu ∧ (∀ e, exOk e → h.2.2 e = qREx e) ∧ h.2.2 79 = qRRe
def plTab (g : Nat → Nat → Int32) (ti : Nat → Int32) (tn : Nat → Bool) (rw : Nat → Nat) : Prop := ∀ t, t < 3 → (∀ k, k < 24 → g (70 + 3 * t + 1) k = ti (24 * t + k)) ∧ (∀ k, k < 24 → g (70 + 3 * t + 2) k = b2i (tn (24 * t + k))) ∧ g (70 + 3 * t) 2 = nI (rw t) ∧ rw t ≤ 12
def plQ (g : Nat → Nat → Int32) (kd fi se le ri : Nat) : Prop := g 3 1 = nI kd ∧ kd < 3 ∧ g 3 2 = nI fi ∧ fi < 3 ∧ g 3 3 = nI se ∧ se < 3 ∧ g 3 4 = nI le ∧ le < 2 ∧ g 3 5 = nI ri ∧ ri < 2
def plCo (h : qH) (nc : Nat) (CE : Nat → List xP) (pc : Nat → Nat) : Prop := h.1 3 9 = nI nc ∧ nc ≤ 6 ∧ ∀ c, c < nc → h.2.2 29 c = some (pc c) ∧ exOk (pc c) ∧ exD h.1 (pc c) (CE c) ∧ xT 8 [] (CE c) = some [true] ∧ nmOk (h.1 (pc c) 4) (CE c)
def plC (h : qH) (ti : Nat → Int32) (tn : Nat → Bool) (rw : Nat → Nat) (kd fi se le ri nc : Nat) (CE : Nat → List xP) (pc : Nat → Nat) : Prop := plRef h ∧ plTab h.1 ti tn rw ∧ plQ h.1 kd fi se le ri ∧ plCo h nc CE pc
theorem exD_ag {g g2 : Nat → Nat → Int32} {e : Nat} {E : List xP} (he : exOk e) (ha : ∀ a, (3 ≤ a ∧ a ≤ 58) ∨ (70 ≤ a ∧ a ≤ 78) → g2 a = g a) (h : exD g e E) : exD g2 e E := by
  have h58 := (ex_pl he).2.2.2.2.2.2
  have h3 : 3 ≤ e := by
    rcases he with ⟨i, _, q⟩ | ⟨i, _, q⟩ | ⟨i, _, q⟩ <;> omega
  unfold exD
  rw [ha e (by omega), ha (e + 1) (by omega), ha (e + 2) (by omega)]
  exact h
theorem plC_ag {h h2 : qH} {ti : Nat → Int32} {tn : Nat → Bool} {rw : Nat → Nat} {kd fi se le ri nc : Nat} {CE : Nat → List xP} {pc : Nat → Nat} (ha : ∀ a, (3 ≤ a ∧ a ≤ 58) ∨ (70 ≤ a ∧ a ≤ 78) → h2.1 a = h.1 a) (hr : h2.2.2 = h.2.2) (h : plC h ti tn rw kd fi se le ri nc CE pc) : plC h2 ti tn rw kd fi se le ri nc CE pc := by
  obtain ⟨h1, h2, h3, h4⟩ := h
  refine ⟨?_, ?_, ?_, ?_⟩
  · unfold plRef; rw [hr]; exact h1
  · intro t ht
    rw [ha (70 + 3 * t + 1) (by omega), ha (70 + 3 * t + 2) (by omega), ha (70 + 3 * t) (by omega)]
    exact h2 t ht
  · unfold plQ; rw [ha 3 (by omega)]; exact h3
  · refine ⟨by rw [ha 3 (by omega)]; exact h4.1, h4.2.1, fun c hc => ?_⟩
    have q := h4.2.2 c hc
    rw [hr]
    have e58 := (ex_pl q.2.1).2.2.2.2.2.2
    have e3 : 3 ≤ pc c := by
      rcases q.2.1 with ⟨i, _, z⟩ | ⟨i, _, z⟩ | ⟨i, _, z⟩ <;> omega
    rw [ha (pc c) (by omega)]
    exact ⟨q.1, q.2.1, exD_ag q.2.1 ha q.2.2.1, q.2.2.2⟩
def cRow (cv : Nat → Int64) (cb : Nat → Bool) (row : Nat → Option Int64) : Prop := ∀ c, c < 4 → (row c = if cb c = true then none else some (cv c)) ∧ (cb c = true → cv c = 0)
theorem c_if {a : Bool} {x : Int64} : (if a = true then none else some (if a = true then 0 else x)) = (if a = true then none else some x) := by
  cases a <;> rfl
theorem c4 {P : Nat → Prop} (h0 : P 0) (h1 : P 1) (h2 : P 2) (h3 : P 3) : ∀ c, c < 4 → P c := by
  intro c hc
  have e : c = 0 ∨ c = 1 ∨ c = 2 ∨ c = 3 := by omega
  rcases e with rfl | rfl | rfl | rfl
  · exact h0
  · exact h1
  · exact h2
  · exact h3
set_option maxRecDepth 100000 in
set_option maxHeartbeats 4000000 in
theorem ct_Pl_loadJoined_n {h : qH} (ti : Nat → Int32) (tn : Nat → Bool) (rw : Nat → Nat) (kd fi se le ri nc : Nat) (CE : Nat → List xP) (pc : Nat → Nat) (hC : plC h ti tn rw kd fi se le ri nc CE pc) (cv : Nat → Int64) (cb : Nat → Bool) (vs : Nat → Int64) (ns : Nat → Bool) (f : Nat) (hf : f < 12) : qT mi_Pl_loadJoined 2 0 0 [.ref 1, .int (nI f), .int (-1)] (nR (lR h cv cb) vs ns) NN (fun v1 h1 n1 => v1 = none ∧ (∃ cv1 cb1, h1 = nR (lR h cv1 cb1) vs ns ∧ cRow cv1 cb1 (jRow (fun k => (ti k).toInt64) tn fi se f none)) ∧ n1 = NN) := by
  refine qT.of (lv0 := [_, _, _]) (by decide +kernel) (fun _ _ => Nat.le_of_ble_eq_true rfl) rfl ?_
  have hfi := hC.2.2.1.2.2.2.1
  have hse := hC.2.2.1.2.2.2.2.2.1
  refine qx_aload_n d_Pl_loadJoined_0 rfl rfl ?_
  refine qx_getR d_Pl_loadJoined_1 fR_Pl_27 rfl rfl (congrFun hC.1.1 2) ?_
  refine qx_iconstN (v := 0) d_Pl_loadJoined_4 rfl ?_
  refine qx_aload_n d_Pl_loadJoined_5 rfl rfl ?_
  refine qx_getR d_Pl_loadJoined_6 fR_Pl_11 rfl rfl (congrFun hC.1.1 0) ?_
  refine qx_aload_n d_Pl_loadJoined_9 rfl rfl ?_
  refine qx_getR d_Pl_loadJoined_10 fR_Pl_20 rfl rfl (congrFun hC.1.1 1) ?_
  refine qx_getI d_Pl_loadJoined_13 fI_Pl_57 rfl rfl hC.2.2.1.2.2.1 ?_
  refine qx_aald (j := fi) (t := 0)  d_Pl_loadJoined_16 rfl (fun _ => rfl) rfl rfl rfl hC.2.2.1.2.2.2.1 (hC.1.2.1 fi hC.2.2.1.2.2.2.1) ?_
  refine qx_iload_n d_Pl_loadJoined_17 rfl rfl ?_
  refine qx_callV (As := [_, _, _]) (rest := _) d_Pl_loadJoined_18 lk_Pl_116 y_Ma_load v_Ma_load rfl rfl rfl (by decide) rfl rfl rfl rfl (by decide) (by decide) (ct_Ma_load_0 hC.1.2.2.1 cv cb vs ns fi hfi (hC.1.2.2.2.1 fi hfi) (fun k => ti (24 * fi + k)) (fun k => tn (24 * fi + k)) (hC.2.1 fi hfi).1 (hC.2.1 fi hfi).2.1 f hf) ?_
  rintro _ _ _ ⟨rfl, rfl, rfl⟩
  refine qx_aload_n d_Pl_loadJoined_21 rfl rfl ?_
  refine qx_getR d_Pl_loadJoined_22 fR_Pl_27 rfl rfl (congrFun hC.1.1 2) ?_
  refine qx_iconstN (v := 2) d_Pl_loadJoined_25 rfl ?_
  refine qx_aload_n d_Pl_loadJoined_26 rfl rfl ?_
  refine qx_getR d_Pl_loadJoined_27 fR_Pl_11 rfl rfl (congrFun hC.1.1 0) ?_
  refine qx_aload_n d_Pl_loadJoined_30 rfl rfl ?_
  refine qx_getR d_Pl_loadJoined_31 fR_Pl_20 rfl rfl (congrFun hC.1.1 1) ?_
  refine qx_getI d_Pl_loadJoined_34 fI_Pl_61 rfl rfl hC.2.2.1.2.2.2.2.1 ?_
  refine qx_aald (j := se) (t := 0)  d_Pl_loadJoined_37 rfl (fun _ => rfl) rfl rfl rfl hse (hC.1.2.1 se hse) ?_
  refine qx_iload_n d_Pl_loadJoined_38 rfl rfl ?_
  refine qx_callV (As := [_, _, _]) (rest := _) d_Pl_loadJoined_39 lk_Pl_116 y_Ma_load v_Ma_load rfl rfl rfl (by decide) rfl rfl rfl rfl (by decide) (by decide) (ct_Ma_load_2_none hC.1.2.2.1 _ _ vs ns (70 + 3 * se)) ?_
  rintro _ _ _ ⟨rfl, rfl, rfl⟩
  exact qx_ret d_Pl_loadJoined_42 rfl (by omega) (by omega) ⟨rfl, ⟨_, _, rfl, c4 ⟨(show jRow (fun k => (ti k).toInt64) tn fi se f none 0 = _ from (by unfold jRow; rw [jB_lo (by omega), jV_lo (by omega), show 24 * fi + 2 * f + 0 = 24 * fi + (f * 2 + 0) by omega]; exact c_if.symm)), fun e => if_pos e⟩ ⟨(show jRow (fun k => (ti k).toInt64) tn fi se f none 1 = _ from (by unfold jRow; rw [jB_lo (by omega), jV_lo (by omega), show 24 * fi + 2 * f + 1 = 24 * fi + (f * 2 + 1) by omega]; exact c_if.symm)), fun e => if_pos e⟩ ⟨(show jRow (fun k => (ti k).toInt64) tn fi se f none 2 = _ from rfl), fun _ => rfl⟩ ⟨(show jRow (fun k => (ti k).toInt64) tn fi se f none 3 = _ from rfl), fun _ => rfl⟩⟩, rfl⟩
set_option maxRecDepth 100000 in
set_option maxHeartbeats 4000000 in
theorem ct_Pl_loadJoined_s {h : qH} (ti : Nat → Int32) (tn : Nat → Bool) (rw : Nat → Nat) (kd fi se le ri nc : Nat) (CE : Nat → List xP) (pc : Nat → Nat) (hC : plC h ti tn rw kd fi se le ri nc CE pc) (cv : Nat → Int64) (cb : Nat → Bool) (vs : Nat → Int64) (ns : Nat → Bool) (f : Nat) (hf : f < 12) (q : Nat) (hq : q < 12) : qT mi_Pl_loadJoined 2 0 0 [.ref 1, .int (nI f), .int (nI q)] (nR (lR h cv cb) vs ns) NN (fun v1 h1 n1 => v1 = none ∧ (∃ cv1 cb1, h1 = nR (lR h cv1 cb1) vs ns ∧ cRow cv1 cb1 (jRow (fun k => (ti k).toInt64) tn fi se f (some q))) ∧ n1 = NN) := by
  refine qT.of (lv0 := [_, _, _]) (by decide +kernel) (fun _ _ => Nat.le_of_ble_eq_true rfl) rfl ?_
  have hfi := hC.2.2.1.2.2.2.1
  have hse := hC.2.2.1.2.2.2.2.2.1
  refine qx_aload_n d_Pl_loadJoined_0 rfl rfl ?_
  refine qx_getR d_Pl_loadJoined_1 fR_Pl_27 rfl rfl (congrFun hC.1.1 2) ?_
  refine qx_iconstN (v := 0) d_Pl_loadJoined_4 rfl ?_
  refine qx_aload_n d_Pl_loadJoined_5 rfl rfl ?_
  refine qx_getR d_Pl_loadJoined_6 fR_Pl_11 rfl rfl (congrFun hC.1.1 0) ?_
  refine qx_aload_n d_Pl_loadJoined_9 rfl rfl ?_
  refine qx_getR d_Pl_loadJoined_10 fR_Pl_20 rfl rfl (congrFun hC.1.1 1) ?_
  refine qx_getI d_Pl_loadJoined_13 fI_Pl_57 rfl rfl hC.2.2.1.2.2.1 ?_
  refine qx_aald (j := fi) (t := 0)  d_Pl_loadJoined_16 rfl (fun _ => rfl) rfl rfl rfl hC.2.2.1.2.2.2.1 (hC.1.2.1 fi hC.2.2.1.2.2.2.1) ?_
  refine qx_iload_n d_Pl_loadJoined_17 rfl rfl ?_
  refine qx_callV (As := [_, _, _]) (rest := _) d_Pl_loadJoined_18 lk_Pl_116 y_Ma_load v_Ma_load rfl rfl rfl (by decide) rfl rfl rfl rfl (by decide) (by decide) (ct_Ma_load_0 hC.1.2.2.1 cv cb vs ns fi hfi (hC.1.2.2.2.1 fi hfi) (fun k => ti (24 * fi + k)) (fun k => tn (24 * fi + k)) (hC.2.1 fi hfi).1 (hC.2.1 fi hfi).2.1 f hf) ?_
  rintro _ _ _ ⟨rfl, rfl, rfl⟩
  refine qx_aload_n d_Pl_loadJoined_21 rfl rfl ?_
  refine qx_getR d_Pl_loadJoined_22 fR_Pl_27 rfl rfl (congrFun hC.1.1 2) ?_
  refine qx_iconstN (v := 2) d_Pl_loadJoined_25 rfl ?_
  refine qx_aload_n d_Pl_loadJoined_26 rfl rfl ?_
  refine qx_getR d_Pl_loadJoined_27 fR_Pl_11 rfl rfl (congrFun hC.1.1 0) ?_
  refine qx_aload_n d_Pl_loadJoined_30 rfl rfl ?_
  refine qx_getR d_Pl_loadJoined_31 fR_Pl_20 rfl rfl (congrFun hC.1.1 1) ?_
  refine qx_getI d_Pl_loadJoined_34 fI_Pl_61 rfl rfl hC.2.2.1.2.2.2.2.1 ?_
  refine qx_aald (j := se) (t := 0)  d_Pl_loadJoined_37 rfl (fun _ => rfl) rfl rfl rfl hse (hC.1.2.1 se hse) ?_
  refine qx_iload_n d_Pl_loadJoined_38 rfl rfl ?_
  refine qx_callV (As := [_, _, _]) (rest := _) d_Pl_loadJoined_39 lk_Pl_116 y_Ma_load v_Ma_load rfl rfl rfl (by decide) rfl rfl rfl rfl (by decide) (by decide) (ct_Ma_load_2 hC.1.2.2.1 _ _ vs ns se hse (hC.1.2.2.2.1 se hse) (fun k => ti (24 * se + k)) (fun k => tn (24 * se + k)) (hC.2.1 se hse).1 (hC.2.1 se hse).2.1 q hq) ?_
  rintro _ _ _ ⟨rfl, rfl, rfl⟩
  exact qx_ret d_Pl_loadJoined_42 rfl (by omega) (by omega) ⟨rfl, ⟨_, _, rfl, c4 ⟨(show jRow (fun k => (ti k).toInt64) tn fi se f (some q) 0 = _ from (by unfold jRow; rw [jB_lo (by omega), jV_lo (by omega), show 24 * fi + 2 * f + 0 = 24 * fi + (f * 2 + 0) by omega]; exact c_if.symm)), fun e => if_pos e⟩ ⟨(show jRow (fun k => (ti k).toInt64) tn fi se f (some q) 1 = _ from (by unfold jRow; rw [jB_lo (by omega), jV_lo (by omega), show 24 * fi + 2 * f + 1 = 24 * fi + (f * 2 + 1) by omega]; exact c_if.symm)), fun e => if_pos e⟩ ⟨(show jRow (fun k => (ti k).toInt64) tn fi se f (some q) 2 = _ from (by show (if tn (24 * se + 2 * q + 0) = true then none else some ((ti (24 * se + 2 * q + 0)).toInt64)) = _; rw [show 24 * se + 2 * q + 0 = 24 * se + (q * 2 + 0) by omega]; exact c_if.symm)), fun e => if_pos e⟩ ⟨(show jRow (fun k => (ti k).toInt64) tn fi se f (some q) 3 = _ from (by show (if tn (24 * se + 2 * q + 1) = true then none else some ((ti (24 * se + 2 * q + 1)).toInt64)) = _; rw [show 24 * se + 2 * q + 1 = 24 * se + (q * 2 + 1) by omega]; exact c_if.symm)), fun e => if_pos e⟩⟩, rfl⟩
theorem ct_Pl_loadJoined {h : qH} (ti : Nat → Int32) (tn : Nat → Bool) (rw : Nat → Nat) (kd fi se le ri nc : Nat) (CE : Nat → List xP) (pc : Nat → Nat) (hC : plC h ti tn rw kd fi se le ri nc CE pc) (cv : Nat → Int64) (cb : Nat → Bool) (vs : Nat → Int64) (ns : Nat → Bool) (f : Nat) (hf : f < 12) (s : Option Nat) (hs : ∀ q, s = some q → q < 12) : qT mi_Pl_loadJoined 2 0 0 [.ref 1, .int (nI f), .int (oI s)] (nR (lR h cv cb) vs ns) NN (fun v1 h1 n1 => v1 = none ∧ (∃ cv1 cb1, h1 = nR (lR h cv1 cb1) vs ns ∧ cRow cv1 cb1 (jRow (fun k => (ti k).toInt64) tn fi se f s)) ∧ n1 = NN) := by
  cases s with
  | none => exact ct_Pl_loadJoined_n ti tn rw kd fi se le ri nc CE pc hC cv cb vs ns f hf
  | some q => exact ct_Pl_loadJoined_s ti tn rw kd fi se le ri nc CE pc hC cv cb vs ns f hf q (hs q rfl)
