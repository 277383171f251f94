/-! THE CLAIM OUT OF ONE WALK OF THE LAW'S BODY. Your part is whole_start (and what it stands on); all else here is the same for every law, but numbers. -/
def R_law : String := "QueryFleetLaw"
def lw_P (b : Addr) (xs : List Int32) (args : Array Value) (s : State) : Prop := args = #[.ref b] ∧ s.IntsAt b xs ∧ xs.length ≤ 3072 ∧ (Jvm.Cond.and given_1 narrow_1).before args s = true
def lw_Q (_ : Array Value) (s : State) (o : Outcome) (t : State) : Prop := o = .returned (some (.int 1)) ∧ Framed s o t [] 600000 7302250
def lw_Z (below : List Frame) (a : Array Value) (s : State) : State → Prop := fun t => ∃ o, t.status = .running ∧ Ended t below o ∧ lw_Q a s o t
/-- the law's own end, with 1 on the stack, nothing written that was there before, its room as the claim has it -/
theorem lw_ret {p : Program} {l : Launch} {e : Env} {s : State} {m : MethodId} {below : List Frame} {meth : Method} {c : Code} {b : Nat} (hx : p.tables.exec = Jvm.exec) (hb : c.code = code) (hr : meth.sig.returnType = ret) (hlocks : meth.locks = false) {pc : Nat} {H : Heap} {ls : Array Slot} (hdg : decode code pc = .ok (.ireturn, 1)) : W p l e room_1 s m #[Value.ref b] below meth c H [] 600000 7302250 (lw_Z below #[Value.ref b] s) (F0 m pc ls [.int 1]) := by
  intro T hT X
  obtain ⟨fs, hret, hrun, hended, hW, hframe⟩ := X.leave (v := some (.int 1)) (hlocks := hlocks) (fun h => by rw [hr] at h; cases h)
  have hmeth' : T.vm.method? m = some meth := X.method'
  refine ⟨T.setFrames fs, ?_, .returned (some (.int 1)), hrun, hended, rfl, ⟨_, rfl⟩, hW, hframe⟩
  jvm_step X.here [X.here.top, hx, hb, hdg, hmeth', hr, ret, narrow_b1]
  (try refine ⟨rfl, ?_⟩); (try refine ⟨rfl, ?_⟩)
  first | (intro acts; rw [hret _ acts rfl rfl rfl]) | rw [hret _ _ rfl rfl rfl]
  exact Steps.refl _
/-- what holds at the law's entry: the machine, the code, the tables' words (any of lw_tbl by 'hts w (by decide +kernel)'), the script of L ints xs at the cell b, what the Statement gives of the start (any of its parts by flat_of_before) -/
def lw_At (p : Program) (s : State) (m : MethodId) (meth : Method) (c : Code) (b L : Nat) (xs : Nat → Int32) : Prop :=
  p.tables.exec = Jvm.exec ∧ c.code = code ∧ meth.sig.returnType = ret ∧ c.maxLocals = 4 ∧ s.vm.findClass R_law = some m.cls ∧ (∀ w ∈ lw_tbl, w.before #[Value.ref b] s = true) ∧ va_X b L xs s s.heap ∧ b < s.heap.size ∧ meth.locks = false ∧ meth.name = "law" ∧ (Jvm.Cond.and given_1 narrow_1).before #[Value.ref b] s = true
theorem tw1 {w : Cond} (i : Nat) (hi : tables_1_1[i]? = some w) : w ∈ lw_tbl := List.mem_append_right _ (by show w ∈ tables_1_1 ++ (tables_1_2 ++ (tables_1_3 ++ (tables_1_4 ++ (tables_1_5 ++ tables_1_6)))); exact List.mem_append_left _ (List.mem_of_getElem? hi))
theorem tw2 {w : Cond} (i : Nat) (hi : tables_1_2[i]? = some w) : w ∈ lw_tbl := List.mem_append_right _ (by show w ∈ tables_1_1 ++ (tables_1_2 ++ (tables_1_3 ++ (tables_1_4 ++ (tables_1_5 ++ tables_1_6)))); exact List.mem_append_right _ (List.mem_append_left _ (List.mem_of_getElem? hi)))
theorem tw3 {w : Cond} (i : Nat) (hi : tables_1_3[i]? = some w) : w ∈ lw_tbl := List.mem_append_right _ (by show w ∈ tables_1_1 ++ (tables_1_2 ++ (tables_1_3 ++ (tables_1_4 ++ (tables_1_5 ++ tables_1_6)))); exact List.mem_append_right _ (List.mem_append_right _ (List.mem_append_left _ (List.mem_of_getElem? hi))))
theorem tw4 {w : Cond} (i : Nat) (hi : tables_1_4[i]? = some w) : w ∈ lw_tbl := List.mem_append_right _ (by show w ∈ tables_1_1 ++ (tables_1_2 ++ (tables_1_3 ++ (tables_1_4 ++ (tables_1_5 ++ tables_1_6)))); exact List.mem_append_right _ (List.mem_append_right _ (List.mem_append_right _ (List.mem_append_left _ (List.mem_of_getElem? hi)))))
theorem tw5 {w : Cond} (i : Nat) (hi : tables_1_5[i]? = some w) : w ∈ lw_tbl := List.mem_append_right _ (by show w ∈ tables_1_1 ++ (tables_1_2 ++ (tables_1_3 ++ (tables_1_4 ++ (tables_1_5 ++ tables_1_6)))); exact List.mem_append_right _ (List.mem_append_right _ (List.mem_append_right _ (List.mem_append_right _ (List.mem_append_left _ (List.mem_of_getElem? hi))))))
theorem tw6 {w : Cond} (i : Nat) (hi : tables_1_6[i]? = some w) : w ∈ lw_tbl := List.mem_append_right _ (by show w ∈ tables_1_1 ++ (tables_1_2 ++ (tables_1_3 ++ (tables_1_4 ++ (tables_1_5 ++ tables_1_6)))); exact List.mem_append_right _ (List.mem_append_right _ (List.mem_append_right _ (List.mem_append_right _ (List.mem_append_right _ (List.mem_of_getElem? hi))))))
theorem nf_in : ∀ q ∈ qNF, Cond.fieldLinkNest q.1 q.2.1 q.2.2.1 q.2.2.2.1 q.2.2.2.2.1 q.2.2.2.2.2 ∈ lw_tbl := (List.forall_mem_cons.mpr ⟨(tw1 48 rfl), (List.forall_mem_cons.mpr ⟨(tw1 50 rfl), (List.forall_mem_cons.mpr ⟨(tw1 52 rfl), (List.forall_mem_cons.mpr ⟨(tw1 53 rfl), (List.forall_mem_cons.mpr ⟨(tw1 55 rfl), (List.forall_mem_cons.mpr ⟨(tw1 70 rfl), (List.forall_mem_cons.mpr ⟨(tw1 71 rfl), (List.forall_mem_cons.mpr ⟨(tw1 73 rfl), (List.forall_mem_cons.mpr ⟨(tw1 75 rfl), (List.forall_mem_cons.mpr ⟨(tw1 77 rfl), (List.forall_mem_cons.mpr ⟨(tw1 79 rfl), (List.forall_mem_cons.mpr ⟨(tw1 83 rfl), (List.forall_mem_cons.mpr ⟨(tw1 85 rfl), (List.forall_mem_cons.mpr ⟨(tw1 87 rfl), (List.forall_mem_cons.mpr ⟨(tw1 89 rfl), (List.forall_mem_cons.mpr ⟨(tw1 91 rfl), (List.forall_mem_cons.mpr ⟨(tw1 93 rfl), (List.forall_mem_cons.mpr ⟨(tw1 95 rfl), (List.forall_mem_cons.mpr ⟨(tw1 96 rfl), (List.forall_mem_cons.mpr ⟨(tw1 98 rfl), (List.forall_mem_cons.mpr ⟨(tw1 99 rfl), (List.forall_mem_cons.mpr ⟨(tw1 101 rfl), (List.forall_mem_cons.mpr ⟨(tw1 102 rfl), (List.forall_mem_cons.mpr ⟨(tw1 104 rfl), (List.forall_mem_cons.mpr ⟨(tw1 105 rfl), (List.forall_mem_cons.mpr ⟨(tw1 148 rfl), (List.forall_mem_cons.mpr ⟨(tw1 150 rfl), (List.forall_mem_cons.mpr ⟨(tw1 197 rfl), (List.forall_mem_cons.mpr ⟨(tw1 206 rfl), (List.forall_mem_cons.mpr ⟨(tw1 208 rfl), (List.forall_mem_cons.mpr ⟨(tw2 11 rfl), (List.forall_mem_cons.mpr ⟨(tw2 13 rfl), (List.forall_mem_cons.mpr ⟨(tw2 14 rfl), (List.forall_mem_cons.mpr ⟨(tw2 16 rfl), (List.forall_mem_cons.mpr ⟨(tw2 18 rfl), (List.forall_mem_cons.mpr ⟨(tw2 49 rfl), (List.forall_mem_cons.mpr ⟨(tw2 51 rfl), (List.forall_mem_cons.mpr ⟨(tw2 53 rfl), (List.forall_mem_cons.mpr ⟨(tw2 55 rfl), (List.forall_mem_cons.mpr ⟨(tw2 56 rfl), (List.forall_mem_cons.mpr ⟨(tw2 73 rfl), (List.forall_mem_cons.mpr ⟨(tw2 75 rfl), (List.forall_mem_cons.mpr ⟨(tw2 77 rfl), (List.forall_mem_cons.mpr ⟨(tw2 79 rfl), (List.forall_mem_cons.mpr ⟨(tw2 81 rfl), (List.forall_mem_cons.mpr ⟨(tw2 83 rfl), (List.forall_mem_cons.mpr ⟨(tw2 98 rfl), (List.forall_mem_cons.mpr ⟨(tw2 100 rfl), (List.forall_mem_cons.mpr ⟨(tw2 102 rfl), (List.forall_mem_cons.mpr ⟨(tw2 104 rfl), (List.forall_mem_cons.mpr ⟨(tw2 107 rfl), (List.forall_mem_cons.mpr ⟨(tw2 110 rfl), (List.forall_mem_cons.mpr ⟨(tw2 112 rfl), (fun _ h => absurd h List.not_mem_nil)⟩)⟩)⟩)⟩)⟩)⟩)⟩)⟩)⟩)⟩)⟩)⟩)⟩)⟩)⟩)⟩)⟩)⟩)⟩)⟩)⟩)⟩)⟩)⟩)⟩)⟩)⟩)⟩)⟩)⟩)⟩)⟩)⟩)⟩)⟩)⟩)⟩)⟩)⟩)⟩)⟩)⟩)⟩)⟩)⟩)⟩)⟩)⟩)⟩)⟩)⟩)⟩)⟩)
theorem nm_in : ∀ q ∈ qNM, Cond.methodLinkNest q.1 q.2.1 q.2.2.1 q.2.2.2 ∈ lw_tbl := (List.forall_mem_cons.mpr ⟨(tw1 33 rfl), (List.forall_mem_cons.mpr ⟨(tw1 43 rfl), (List.forall_mem_cons.mpr ⟨(tw1 143 rfl), (List.forall_mem_cons.mpr ⟨(tw1 166 rfl), (List.forall_mem_cons.mpr ⟨(tw1 190 rfl), (List.forall_mem_cons.mpr ⟨(tw2 3 rfl), (List.forall_mem_cons.mpr ⟨(tw2 68 rfl), (fun _ h => absurd h List.not_mem_nil)⟩)⟩)⟩)⟩)⟩)⟩)⟩)
theorem ao_in : ∀ C ∈ qAO, Cond.arrayOver (.object C) ∈ lw_tbl := (List.forall_mem_cons.mpr ⟨(tw1 30 rfl), (List.forall_mem_cons.mpr ⟨(tw1 41 rfl), (List.forall_mem_cons.mpr ⟨(tw2 41 rfl), (List.forall_mem_cons.mpr ⟨(tw2 66 rfl), (fun _ h => absurd h List.not_mem_nil)⟩)⟩)⟩)⟩)
theorem qGW_sub {w : Cond} (h : w ∈ qGW) : w ∈ lw_tbl := (List.mem_filter.mp h).1
theorem k_cls {s : State} {args : Array Value} (hts : ∀ w ∈ qGW, w.before args s = true) {own : String} {idx ci : Nat} (h : qNw own idx ci) : ∃ (q : ClassId × (Nat → Nat)), ∀ r, vwCl[ci]? = some r → u_Kn s r.1 r.2.1 r.2.2 q.1 q.2 := by
  obtain ⟨h1, C, T, h2, h3, h4, h5, h6, h7, h8⟩ := h
  obtain ⟨cC, iS, hk⟩ := u_known hts h3 (hts _ h7)
  exact ⟨(cC, iS), fun r hr => by rw [h2] at hr; cases hr; exact hk⟩
theorem k_all {s : State} {args : Array Value} (hts : ∀ w ∈ qGW, w.before args s = true) (c : Nat) : ∃ (q : ClassId × (Nat → Nat)), ∀ r, vwCl[c]? = some r → u_Kn s r.1 r.2.1 r.2.2 q.1 q.2 := by
  by_cases hc : c < 12
  · have e : c = 0 ∨ c = 1 ∨ c = 2 ∨ c = 3 ∨ c = 4 ∨ c = 5 ∨ c = 6 ∨ c = 7 ∨ c = 8 ∨ c = 9 ∨ c = 10 ∨ c = 11 := by omega
    rcases e with rfl | rfl | rfl | rfl | rfl | rfl | rfl | rfl | rfl | rfl | rfl | rfl
    · exact k_cls hts nw_La_7
    · exact k_cls hts nw_QF_9
    · exact k_cls hts nw_Pl_17
    · exact k_cls hts nw_Qu_36
    · exact k_cls hts nw_Pl_24
    · exact k_cls hts nw_Pl_31
    · exact k_cls hts nw_Pl_9
    · exact k_cls hts nw_QF_26
    · exact k_cls hts nw_QF_33
    · exact k_cls hts nw_Jo_17
    · exact k_cls hts nw_Jo_9
    · exact k_cls hts nw_La_10
  · exact ⟨(0, fun _ => 0), fun r hr => absurd (List.getElem?_eq_some_iff.mp hr).1 (by show ¬ c < 12; exact hc)⟩
theorem k_int {s : State} {args : Array Value} (h : (Cond.arrayClass .int).before args s = true) : ∃ cA, ArrOfT s cA .int ∧ va_RA s cA .int := by
  obtain ⟨cA, kA, comp, h1, h2, h3⟩ := Cond.arrayClass_spec h
  exact ⟨cA, fun n z => ⟨fun k h => (by cases h), kA, h2, comp, h3⟩, h1⟩
theorem k_long {s : State} {args : Array Value} (h : (Cond.arrayClass .long).before args s = true) : ∃ cA, ArrOfT s cA .long ∧ va_RA s cA .long := by
  obtain ⟨cA, kA, comp, h1, h2, h3⟩ := Cond.arrayClass_spec h
  exact ⟨cA, fun n z => ⟨fun k h => (by cases h), kA, h2, comp, h3⟩, h1⟩
theorem k_bool {s : State} {args : Array Value} (h : (Cond.arrayClass .boolean).before args s = true) : ∃ cA, ArrOfT s cA .boolean ∧ va_RA s cA .boolean := by
  obtain ⟨cA, kA, comp, h1, h2, h3⟩ := Cond.arrayClass_spec h
  exact ⟨cA, fun n z => ⟨fun k h => (by cases h), kA, h2, comp, h3⟩, h1⟩
theorem k_obj {s : State} {args : Array Value} {C : String} (h : (Cond.arrayOver (.object C)).before args s = true) : ∃ cA, ArrOfT s cA (.object C) ∧ va_RA s cA (.object C) := by
  obtain ⟨comp, cA, kA, h1, h2, h3, h4, h5⟩ := Cond.arrayOver_spec h
  exact ⟨cA, fun n z => ⟨fun k h => (by cases h), kA, h3, comp, h4⟩, kA, comp, h3, h4, h1, h5⟩
theorem qK_start {s : State} {args : Array Value} (hts : ∀ w ∈ lw_tbl, w.before args s = true) : ∃ (D : va_G) (dA : Nat → ClassId), qK D dA s := by
  have htg : ∀ w ∈ qGW, w.before args s = true := fun w hw => hts w (qGW_sub hw)
  obtain ⟨a0, g0⟩ := k_int (htg _ aw_int)
  obtain ⟨a1, g1⟩ := k_long (htg _ aw_long)
  obtain ⟨a2, g2⟩ := k_bool (htg _ aw_boolean)
  obtain ⟨a3, g3⟩ := k_obj (C := "QueryFleet$Table") (hts _ (ao_in _ (by decide)))
  obtain ⟨a4, g4⟩ := k_obj (C := "QueryFleet$Expression") (hts _ (ao_in _ (by decide)))
  obtain ⟨a5, g5⟩ := k_obj (C := "QueryFleet$Task") (hts _ (ao_in _ (by decide)))
  obtain ⟨a6, g6⟩ := k_obj (C := "QueryFleet$Line") (hts _ (ao_in _ (by decide)))
  refine ⟨(fun c => (Classical.choose (k_all htg c)).1, fun c => (Classical.choose (k_all htg c)).2), fun k => ([a0, a1, a2, a3, a4, a5, a6][k]?).getD 0, ⟨fun c q hq => Classical.choose_spec (k_all htg c) q hq, fun k q hk => ?_⟩, fun q hq => va_Nw.of rfl (hts _ (nf_in q hq)), fun q hq => va_Nw.of rfl (hts _ (nm_in q hq)), fun C hC => va_AO.of (hts _ (ao_in C hC))⟩
  have hk7 : k < 7 := (List.getElem?_eq_some_iff.mp hk).1
  have e : k = 0 ∨ k = 1 ∨ k = 2 ∨ k = 3 ∨ k = 4 ∨ k = 5 ∨ k = 6 := by omega
  rcases e with rfl | rfl | rfl | rfl | rfl | rfl | rfl
  · cases hk; exact g0
  · cases hk; exact g1
  · cases hk; exact g2
  · cases hk; exact g3
  · cases hk; exact g4
  · cases hk; exact g5
  · cases hk; exact g6
theorem whole_start {p : Program} {e : Env} {s : State} {m : MethodId} {below : List Frame} {meth : Method} {c : Code} (l : Launch) {b L : Nat} {xs : Nat → Int32} (hL : L ≤ 3072) (C0 : lw_At p s m meth c b L xs) : W p l e room_1 s m #[Value.ref b] below meth c s.heap [] 0 0 (lw_Z below #[Value.ref b] s) (entryFrame m ([Value.ref b] : List Value).toArray 4) := by
  obtain ⟨hx, hb, hr, hml, hown, hts, hX, hbl, hlk, hnm, hgv⟩ := C0
  obtain ⟨D, dA, hK⟩ := qK_start hts
  rw [lg_entry_eq]
  refine la_law (xs := xs) hL p l e room_1 s m #[Value.ref b] below meth c _ s.heap.size b D dA ⟨hx, hb, hml, hown, fun w hw => hts w (qGW_sub hw), hK, ⟨by decide, by decide, by decide, by decide⟩, Nat.le_refl _, hnm, hX, hbl⟩ ?_ s.heap [] _ ⟨fun k q hk => (by cases hk), rfl, va_S.rf⟩ (qL.entry (av := [.retAddr 0]) (b0 := s.heap.size) (b := b) (nL := 4) (Nat.le_of_ble_eq_true rfl))
  intro H locs ls pc v h n hR hA hq
  cases hR
  refine va_forget hA.2.2.2.2 ?_
  rcases hq with ⟨h1, h2, h3⟩ | ⟨r, ty, h1, h2, h3, h4⟩ | ⟨r, h1, h2, h3⟩ | ⟨r, ty, h1, h2, h3, h4⟩
  · cases h3
  · exact lw_ret hx hb hr hlk h2
  · cases h3
  · cases h4
set_option maxHeartbeats 4000000 in
theorem lw_walk (l : Launch) (b : Addr) (xs : List Int32) : MetFree l x (headSpec (Jvm.Cond.code x code maxLocals ret :: tables_1) room_1) (lw_P b xs) (fun _ _ _ _ _ => True) lw_Q := by
  refine MetFree.of_bodyS (code := code) (maxLocals := maxLocals) (ret := ret) (by decide) ?_ ?_
  · intro args s m h hn
    obtain ⟨meth, c, h1, h2, h3, h4, h5, h6, -, -⟩ := Cond.code_spec hn (atoms_spec (ws := Jvm.Cond.code x code maxLocals ret :: tables_1) h _ List.mem_cons_self)
    exact ⟨meth, c, h1, h2, h3, h4, h5, h6⟩
  · intro p e s m args below meth c s₁ B hml0 hP _
    obtain ⟨rfl, hx, hbd, hgv⟩ := hP
    obtain ⟨scr, harrAt, hlist, hof, hsmall⟩ := hx
    obtain ⟨hcb, hkn, -, -⟩ := State.arrayAt?_spec harrAt
    have hown : s.vm.findClass R_law = some m.cls := findClass_of_methodNamed B.named
    have hts0 : ∀ c ∈ (Jvm.Cond.code x code maxLocals ret :: tables_1), c.before #[Value.ref b] s = true := atoms_spec (ws := Jvm.Cond.code x code maxLocals ret :: tables_1) B.pre
    have hts : ∀ w ∈ lw_tbl, w.before #[Value.ref b] s = true := k2_hts_sels lw_privs (fun w hw => hts0 w (List.mem_cons_of_mem _ hw)) lw_privs_ok
    have hml : c.maxLocals = 4 := B.maxLocals_eq (hts0 _ List.mem_cons_self)
    have X₀ : Stand p l e room_1 s m #[Value.ref b] below meth c s₁ [] 0 0 := Stand.of_body B
    have hh0 : s₁.heap = s.heap := by rw [B.state]; rfl
    have hsz : scr.slots.size = xs.length := by rw [← Array.length_toList, hlist, List.length_map]
    have hval : ∀ j : Nat, j < xs.length → scr.slots[j]? = some (.int (xs.getD j 0)) := fun j hj => by
      rw [← Array.getElem?_toList, hlist]
      simp [hj]
    have hbl : b < s.heap.size := (Array.getElem?_eq_some_iff.mp hcb).1
    have hX : va_X b xs.length (fun j => xs.getD j 0) s s.heap := ⟨scr, hcb, hof, hkn, hsz, hval⟩
    have K : W p l e room_1 s m #[Value.ref b] below meth c s₁.heap [] 0 0 (lw_Z below #[Value.ref b] s) (entryFrame m ([Value.ref b] : List Value).toArray 4) := by
      rw [hh0]
      exact whole_start l hbd ⟨B.exec, B.bytes, B.returns, hml, hown, hts, hX, hbl, B.notSynchronized, (name_of_methodNamed B.named B.method).1, hgv⟩
    obtain ⟨t, a1, o, b1, b2, b3⟩ := K s₁ rfl X₀
    exact ⟨t, o, a1, b1, b2, b3⟩
theorem lw_pre_spec {args : Array Value} {s : State} (h : (Jvm.Cond.and given_1 narrow_1).before args s = true) (hr : rest_1_c.before args s = true) : ∃ (b : Addr) (xs : List Int32), lw_P b xs args s := by
  have hs := flat_of_before _ h
  have hq := flat_of_before _ hr
  have hc : (Cond.count 1).before args s = true := hs _ (by decide +kernel)
  have harr : (Cond.arrayOf (.arg 0) .int).before args s = true := hs _ (by decide +kernel)
  have hle : (Cond.le (.length (.arg 0)) (.int 3072)).before args s = true := hs _ (by decide +kernel)
  have hlen : (Cond.isInt (.length (.arg 0))).before args s = true := hq _ (by decide +kernel)
  have hall : (Cond.all (.arg 0) (.isInt (.elem (.arg 0) (.index 0)))).before args s = true := hq _ (by decide +kernel)
  obtain ⟨b, xs, hb, hx⟩ := State.ints_of_pre rfl harr hlen hall
  have hsm : xs.length < 2 ^ 31 := hx.choose_spec.2.2.2
  have hev : (Term.length (.arg 0)).eval args s none [] s = some (.int xs.length.toInt32) := hx.length_eval hb
  have hv := Cond.le_ints hev (show (Term.int 3072).eval args s none [] s = some (.int 3072) from rfl)
  have hd : xs.length.toInt32 ≤ 3072 := by
    simpa [Cond.before, Cond.holds, hv] using hle
  have hN : xs.length ≤ 3072 := (Int32.ofNat_le_ofNat hsm (by decide)).mp (show Int32.ofNat xs.length ≤ Int32.ofNat 3072 from hd)
  exact ⟨b, xs, Cond.one_arg hc (show args[0]? = some (.ref b) from hb), hx, hN, h⟩
theorem lw_comes (l : Launch) : Comes l x (Jvm.Cond.code x code maxLocals ret :: tables_1) room_1 (fun tb e args s => Calls_1 tb e args s ∧ rest_1 tb e args s ∧ Pre_1 tb e args s)
    (fun _ _ args s o t => lw_Q args s o t) := by
  intro p e ha hc hk s m args below hf hfit hheap happ hpre
  obtain ⟨b, xs, hP⟩ := lw_pre_spec hpre.2.2 hpre.2.1
  obtain ⟨k, o, h1, h2, h3, hQ⟩ := lw_walk l b xs p e ha hc hk s m args below hf ((Spec.applies_iff_loose hf).mp happ).1 hP trivial
  exact ⟨k, o, h1, h2, h3, hQ⟩
theorem lw_frame {s t : State} {o : Outcome} {args : Array Value} (h : Framed s o t [] 600000 7302250) :
    Framed s o t (fieldLocs frame_1_writes args s ++ arrayLocs frame_1_arrays args s ++ staticLocs frame_1_statics s) 600000 7302250 := h
theorem lw_limb (L : Cond) (hL : ∀ (args : Array Value) (s t : State), L.after args s (.returned (some (.int 1))) t = true) :
    ArmFor flags0 classFile x code maxLocals ret World_1 tables_1 room_1 Calls_1 rest_1 Pre_1
      (fun tb e a s o t => postC L tb e a s o t ∧ Framed s o t (fieldLocs frame_1_writes a s ++ arrayLocs frame_1_arrays a s ++ staticLocs frame_1_statics s) 600000 7302250) := by
  intro l _ _ _ p e ha hc hk s m args below hf hfit hheap happ hpre
  obtain ⟨k, o, h1, h2, h3, rfl, hF⟩ := lw_comes l p e ha hc hk s m args below hf hfit hheap happ hpre
  exact ⟨k, _, h1, h2, h3, hL args s _, lw_frame hF⟩
theorem i_vc : Claimed_1_1 ∧ Claimed_1_2 := ⟨lw_limb limb_1_1 (fun args s t => by simp [limb_1_1, Cond.after, Cond.holds, Cond.value]), lw_limb limb_1_2 (fun args s t => Cond.after_iff.mpr (by
  first | (rw [show limb_1_2 = Cond.eq .result (.int 1) from rfl, Cond.eq_ints (x := 1) (y := 1) rfl rfl]; simp; done) | (simp [limb_1_2, Cond.value, Term.eval]; done)))⟩
