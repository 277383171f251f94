/-! the pool of expressions: 0..7 the stack, 8..13 conditions, 14..16 outputs -/
def plP (h : qH) (pp : Nat → Nat) : Prop := (∀ i, i < 17 → exOk (pp i)) ∧ (∀ i, i < 17 → ∀ j, j < 17 → pp i = pp j → i = j) ∧ (∀ i, i < 8 → h.2.2 4 i = some (pp i)) ∧ (∀ i, i < 6 → h.2.2 29 i = some (pp (8 + i))) ∧ (∀ i, i < 3 → h.2.2 48 i = some (pp (14 + i))) ∧ h.2.2 3 = qRQu ∧ ∀ e, exOk e → h.2.2 e = qREx e
def exA (g : Nat → Nat → Int32) (e : Nat) (E : List xP) (t : Bool) : Prop := exD g e E ∧ g e 3 = b2i t ∧ nmOk (g e 4) E
def sOf (g : Nat → Nat → Int32) (e : Nat) : sX := (g (e + 1), g (e + 2), g e 2, g e 3, g e 4)
theorem exA_s {g : Nat → Nat → Int32} {e : Nat} {E : List xP} {t : Bool} (h : exA g e E t) : exS (sOf g e) E t := ⟨h.1.1, h.1.2.1, h.1.2.2, h.2.1, h.2.2⟩
theorem exS_a {h : qH} {e : Nat} {s : sX} {E : List xP} {t : Bool} (hs : exS s E t) : exA (xR h e s).1 e E t := by
  obtain ⟨h1, h2, h3, h4, h5⟩ := hs
  refine ⟨⟨h1, ?_, ?_⟩, ?_, ?_⟩
  · rw [xR_0]; exact h2
  · rw [xR_1, xR_2]; exact h3
  · rw [xR_0]; exact h4
  · rw [xR_0]; exact h5
theorem exA_c {g g2 : Nat → Nat → Int32} {e : Nat} {E : List xP} {t : Bool} (h0 : g2 e = g e) (h1 : g2 (e + 1) = g (e + 1)) (h2 : g2 (e + 2) = g (e + 2)) (h : exA g e E t) : exA g2 e E t := by
  unfold exA exD
  rw [h0, h1, h2]
  exact h
theorem exS_t {s : sX} {E : List xP} {t u : Bool} (hs : exS s E t) : exS (s.1, s.2.1, s.2.2.1, b2i u, s.2.2.2.2) E u := ⟨hs.1, hs.2.1, hs.2.2.1, rfl, hs.2.2.2.2⟩
theorem ex_ge {e : Nat} (h : exOk e) : 5 ≤ e := by
  rcases h with ⟨i, h1, h2⟩ | ⟨i, h1, h2⟩ | ⟨i, h1, h2⟩ <;> omega
theorem xR_3 {h : qH} {e : Nat} {s : sX} (he : exOk e) : (xR h e s).1 3 = h.1 3 := by
  have := ex_ge he
  exact xR_o (by omega) (by omega) (by omega)
theorem xR_sOf {h : qH} {e : Nat} : xR h e (sOf h.1 e) = h := xR_of
theorem nmOk_nil : nmOk (nI 0) [] := ⟨⟨fun q => absurd (by decide) q, fun q => by cases q⟩, ⟨fun q => absurd (by decide) q, fun q => by cases q⟩⟩
theorem cP_op {op : Nat} {x : Int32} (h : op < 10) : cPart (nI op) x (op, 0) := Or.inl ⟨h, rfl⟩
set_option maxRecDepth 100000 in
set_option maxHeartbeats 4000000 in
theorem ct_Qu_push_full {h : qH} (dep : Nat) (h8 : dep ≤ 8) (hdep : h.1 3 7 = nI dep) (hd8 : dep = 8) (w x : Int32) : qT mi_Qu_push 1 0 0 [.ref 3, .int w, .int x] h NN (fun v1 h1 n1 => v1 = some (.int (b2i false)) ∧ h = h1 ∧ n1 = NN) := by
  refine qT.of (lv0 := [_, _, _]) (by decide +kernel) (fun _ _ => Nat.le_of_ble_eq_true rfl) rfl ?_
  refine qx_aload_n d_Qu_push_0 rfl rfl ?_
  refine qx_getI d_Qu_push_1 fI_Qu_58 rfl rfl hdep ?_
  refine qx_bipushN (v := 8) d_Qu_push_4 rfl ?_
  refine qx_icmp_ltN (t := 11) d_Qu_push_6 rfl (by omega) (by omega) (fun c6 => absurd c6 (by omega)) (fun c6 => ?_)
  refine qx_iconst (v := b2i false) d_Qu_push_9 rfl ?_
  exact qx_iret d_Qu_push_10 rfl (b2i_nar _) (by omega) (by omega) ⟨rfl, rfl, rfl⟩
set_option maxRecDepth 100000 in
set_option maxHeartbeats 4000000 in
theorem ct_Qu_push {h : qH} (pp : Nat → Nat) (hP : plP h pp) (dep : Nat) (h8 : dep ≤ 8) (hdep : h.1 3 7 = nI dep) (hd8 : dep < 8) (w x : Int32) (p : xP) (hp : cPart w x p) : qT mi_Qu_push 1 0 0 [.ref 3, .int w, .int x] h NN (fun v1 h1 n1 => v1 = some (.int (b2i true)) ∧ (∃ s2, h1 = qpI (xR h (pp dep) s2) 3 7 (nI (dep + 1)) ∧ exS s2 [p] false) ∧ n1 = NN) := by
  refine qT.of (lv0 := [_, _, _]) (by decide +kernel) (fun _ _ => Nat.le_of_ble_eq_true rfl) rfl ?_
  have he := hP.1 dep (by omega)
  have hX := hP.2.2.2.2.2.2 _ he
  refine qx_aload_n d_Qu_push_0 rfl rfl ?_
  refine qx_getI d_Qu_push_1 fI_Qu_58 rfl rfl hdep ?_
  refine qx_bipushN (v := 8) d_Qu_push_4 rfl ?_
  refine qx_icmp_ltN (t := 11) d_Qu_push_6 rfl (by omega) (by omega) (fun c6 => ?_) (fun c6 => absurd c6 (by omega))
  refine qx_aload_n d_Qu_push_11 rfl rfl ?_
  refine qx_getR d_Qu_push_12 fR_Qu_15 rfl rfl (congrFun hP.2.2.2.2.2.1 6) ?_
  refine qx_aload_n d_Qu_push_15 rfl rfl ?_
  refine qx_getI d_Qu_push_16 fI_Qu_58 rfl rfl hdep ?_
  refine qx_aald (j := dep) (t := 1)  d_Qu_push_19 rfl (fun _ => rfl) rfl rfl rfl hd8 (hP.2.2.1 dep hd8) ?_
  refine qx_eq (h1 := xR h (pp dep) (sOf h.1 (pp dep))) rfl rfl rfl xR_sOf ?_
  refine qx_callV (As := []) (rest := _) d_Qu_push_20 lk_Qu_89 y_Ex_clear v_Ex_clear rfl rfl (ex_pl he).1 (by decide) rfl (ex_pl he).2.2.2.1 rfl rfl (by decide) (by decide) (ct_Ex_clear (pp dep) he hX (sOf h.1 (pp dep))) ?_
  rintro _ _ _ ⟨rfl, rfl, rfl⟩
  refine qx_aload_n d_Qu_push_23 rfl rfl ?_
  refine qx_getR d_Qu_push_24 fR_Qu_15 rfl rfl (congrFun hP.2.2.2.2.2.1 6) ?_
  refine qx_aload_n d_Qu_push_27 rfl rfl ?_
  refine qx_getI d_Qu_push_28 fI_Qu_58 rfl rfl (show _ = nI dep from (congrFun (xR_3 he) 7).trans hdep) ?_
  refine qx_aald (j := dep) (t := 1)  d_Qu_push_31 rfl (fun _ => rfl) rfl rfl rfl hd8 (hP.2.2.1 dep hd8) ?_
  refine qx_iload_n d_Qu_push_32 rfl rfl ?_
  refine qx_iload_n d_Qu_push_33 rfl rfl ?_
  refine qx_callV (As := [_, _]) (rest := _) d_Qu_push_34 lk_Qu_92 y_Ex_addPart v_Ex_addPart rfl rfl (ex_pl he).1 (by decide) rfl (ex_pl he).2.2.2.1 rfl rfl (by decide) (by decide) (ct_Ex_addPartE (pp dep) he hX ((sOf h.1 (pp dep)).1, (sOf h.1 (pp dep)).2.1, nI 0, nI 0, nI 0) [] false ⟨by decide, rfl, trivial, rfl, nmOk_nil⟩ (by decide) w x p hp) ?_
  rintro _ _ _ ⟨rfl, ⟨s2, rfl, hs2⟩, rfl⟩
  refine qx_aload_n d_Qu_push_37 rfl rfl ?_
  refine qx_dup d_Qu_push_38 rfl ?_
  refine qx_getI d_Qu_push_39 fI_Qu_58 rfl rfl (show _ = nI dep from (congrFun (xR_3 he) 7).trans hdep) ?_
  refine qx_iconstN (v := 1) d_Qu_push_42 rfl ?_
  refine qx_iaddN d_Qu_push_43 ?_
  refine qx_putI d_Qu_push_44 fI_Qu_58 rfl rfl ⟨rfl, rfl⟩ ?_
  refine qx_iconst (v := b2i true) d_Qu_push_47 rfl ?_
  exact qx_iret d_Qu_push_48 rfl (b2i_nar _) (by omega) (by omega) ⟨rfl, ⟨s2, rfl, hs2⟩, rfl⟩
set_option maxRecDepth 100000 in
set_option maxHeartbeats 4000000 in
theorem ct_Qu_apply_two {h : qH} (op : Nat) (ho8 : op < 8) (pp : Nat → Nat) (hP : plP h pp) (dep : Nat) (h8 : dep ≤ 8) (hdep : h.1 3 7 = nI dep) (SE : Nat → List xP) (tr : Nat → Bool) (hSE : ∀ i, i < dep → exA h.1 (pp i) (SE i) (tr i)) : qT mi_Qu_apply 2 0 0 [.ref 3, .int (nI op)] h NN (fun v1 h1 n1 => v1 = some (.int (b2i (decide (2 ≤ dep) && ((tr (dep - 2) == decide (6 ≤ op)) && ((tr (dep - 1) == decide (6 ≤ op)) && decide (1 + (SE (dep - 2)).length + (SE (dep - 1)).length ≤ 24)))))) ∧ (((decide (2 ≤ dep) && ((tr (dep - 2) == decide (6 ≤ op)) && ((tr (dep - 1) == decide (6 ≤ op)) && decide (1 + (SE (dep - 2)).length + (SE (dep - 1)).length ≤ 24)))) = false ∧ h1 = h) ∨ ((decide (2 ≤ dep) && ((tr (dep - 2) == decide (6 ≤ op)) && ((tr (dep - 1) == decide (6 ≤ op)) && decide (1 + (SE (dep - 2)).length + (SE (dep - 1)).length ≤ 24)))) = true ∧ ∃ s2, h1 = qpI (xR h (pp (dep - 2)) s2) 3 7 (nI ((dep - 2) + 1)) ∧ exS s2 (SE (dep - 2) ++ SE (dep - 1) ++ [(op, 0)]) (decide (4 ≤ op)))) ∧ n1 = NN) := by
  refine qT.of (lv0 := [_, _, _, _, _, _]) (by decide +kernel) (fun _ _ => Nat.le_of_ble_eq_true rfl) rfl ?_
  have key : ∀ ot : Bool, ot = decide (6 ≤ op) → qX mi_Qu_apply 2 none 0 0 42 [.ref 3, .int (nI op), .int (nI 2), .int (b2i ot), qdead, qdead] [] h NN 0 0 (fun v1 h1 n1 => v1 = some (.int (b2i (decide (2 ≤ dep) && ((tr (dep - 2) == decide (6 ≤ op)) && ((tr (dep - 1) == decide (6 ≤ op)) && decide (1 + (SE (dep - 2)).length + (SE (dep - 1)).length ≤ 24)))))) ∧ (((decide (2 ≤ dep) && ((tr (dep - 2) == decide (6 ≤ op)) && ((tr (dep - 1) == decide (6 ≤ op)) && decide (1 + (SE (dep - 2)).length + (SE (dep - 1)).length ≤ 24)))) = false ∧ h1 = h) ∨ ((decide (2 ≤ dep) && ((tr (dep - 2) == decide (6 ≤ op)) && ((tr (dep - 1) == decide (6 ≤ op)) && decide (1 + (SE (dep - 2)).length + (SE (dep - 1)).length ≤ 24)))) = true ∧ ∃ s2, h1 = qpI (xR h (pp (dep - 2)) s2) 3 7 (nI ((dep - 2) + 1)) ∧ exS s2 (SE (dep - 2) ++ SE (dep - 1) ++ [(op, 0)]) (decide (4 ≤ op)))) ∧ n1 = NN) := by
    intro ot hot
    refine qx_aload_n d_Qu_apply_42 rfl rfl ?_
    refine qx_getI d_Qu_apply_43 fI_Qu_58 rfl rfl hdep ?_
    refine qx_iload_n d_Qu_apply_46 rfl rfl ?_
    refine qx_icmp_geN (t := 52) d_Qu_apply_47 rfl (by omega) (by omega) (fun c47 => ?_) (fun c47 => ?_)
    · refine qx_iconstN (v := 1) d_Qu_apply_52 rfl ?_
      refine qx_istore (lv1 := [_, _, _, _, _, _]) d_Qu_apply_53 (by decide) rfl ?_
      refine qx_aload_n d_Qu_apply_55 rfl rfl ?_
      refine qx_getI d_Qu_apply_56 fI_Qu_58 rfl rfl hdep ?_
      refine qx_iload_n d_Qu_apply_59 rfl rfl ?_
      refine qx_isubN d_Qu_apply_60 (by omega) ?_
      refine qx_istore (lv1 := [_, _, _, _, _, _]) d_Qu_apply_61 (by decide) rfl ?_
      refine qx_iload d_Qu_apply_63 rfl ?_
      refine qx_aload_n d_Qu_apply_65 rfl rfl ?_
      refine qx_getI d_Qu_apply_66 fI_Qu_58 rfl rfl hdep ?_
      refine qx_icmp_geN (t := 109) d_Qu_apply_69 rfl (by omega) (by omega) (fun c69 => absurd c69 (by omega)) (fun c69 => ?_)
      refine qx_aload_n d_Qu_apply_72 rfl rfl ?_
      refine qx_getR d_Qu_apply_73 fR_Qu_15 rfl rfl (congrFun hP.2.2.2.2.2.1 6) ?_
      refine qx_iload d_Qu_apply_76 rfl ?_
      refine qx_aald (j := (dep - 2)) (t := 1)  d_Qu_apply_78 rfl (fun _ => rfl) rfl rfl rfl (by omega) (hP.2.2.1 (dep - 2) (by omega)) ?_
      refine qx_getI d_Qu_apply_79 fI_Qu_96 (ex_pl (hP.1 (dep - 2) (by omega))).1 (ex_pl (hP.1 (dep - 2) (by omega))).2.2.2.1 (hSE (dep - 2) (by omega)).2.1 ?_
      refine qx_iload_n d_Qu_apply_82 rfl rfl ?_
      refine qx_icmp_eqE (t := 88) d_Qu_apply_83 rfl (fun cE0 => ?_) (fun cE0 => ?_)
      · refine qx_iload d_Qu_apply_88 rfl ?_
        refine qx_aload_n d_Qu_apply_90 rfl rfl ?_
        refine qx_getR d_Qu_apply_91 fR_Qu_15 rfl rfl (congrFun hP.2.2.2.2.2.1 6) ?_
        refine qx_iload d_Qu_apply_94 rfl ?_
        refine qx_aald (j := (dep - 2)) (t := 1)  d_Qu_apply_96 rfl (fun _ => rfl) rfl rfl rfl (by omega) (hP.2.2.1 (dep - 2) (by omega)) ?_
        refine qx_getI d_Qu_apply_97 fI_Qu_99 (ex_pl (hP.1 (dep - 2) (by omega))).1 (ex_pl (hP.1 (dep - 2) (by omega))).2.2.2.1 (hSE (dep - 2) (by omega)).1.2.1 ?_
        refine qx_iaddN d_Qu_apply_100 ?_
        refine qx_istore (lv1 := [_, _, _, _, _, _]) d_Qu_apply_101 (by decide) rfl ?_
        refine qx_iincN (w := 1) (lv1 := [_, _, _, _, _, _]) d_Qu_apply_103 rfl rfl (by decide) rfl ?_
        refine qx_goto (t := 63) d_Qu_apply_106 rfl ?_
        refine qx_iload d_Qu_apply_63 rfl ?_
        refine qx_aload_n d_Qu_apply_65 rfl rfl ?_
        refine qx_getI d_Qu_apply_66 fI_Qu_58 rfl rfl hdep ?_
        refine qx_icmp_geN (t := 109) d_Qu_apply_69 rfl (by omega) (by omega) (fun c69 => absurd c69 (by omega)) (fun c69 => ?_)
        refine qx_aload_n d_Qu_apply_72 rfl rfl ?_
        refine qx_getR d_Qu_apply_73 fR_Qu_15 rfl rfl (congrFun hP.2.2.2.2.2.1 6) ?_
        refine qx_iload d_Qu_apply_76 rfl ?_
        refine qx_aald (j := (dep - 1)) (t := 1)  d_Qu_apply_78 rfl (fun _ => rfl) rfl rfl (congrArg nI (show (dep - 2 + 1) = (dep - 1) by omega)) (by omega) (hP.2.2.1 (dep - 1) (by omega)) ?_
        refine qx_getI d_Qu_apply_79 fI_Qu_96 (ex_pl (hP.1 (dep - 1) (by omega))).1 (ex_pl (hP.1 (dep - 1) (by omega))).2.2.2.1 (hSE (dep - 1) (by omega)).2.1 ?_
        refine qx_iload_n d_Qu_apply_82 rfl rfl ?_
        refine qx_icmp_eqE (t := 88) d_Qu_apply_83 rfl (fun cE1 => ?_) (fun cE1 => ?_)
        · refine qx_iload d_Qu_apply_88 rfl ?_
          refine qx_aload_n d_Qu_apply_90 rfl rfl ?_
          refine qx_getR d_Qu_apply_91 fR_Qu_15 rfl rfl (congrFun hP.2.2.2.2.2.1 6) ?_
          refine qx_iload d_Qu_apply_94 rfl ?_
          refine qx_aald (j := (dep - 1)) (t := 1)  d_Qu_apply_96 rfl (fun _ => rfl) rfl rfl (congrArg nI (show (dep - 2 + 1) = (dep - 1) by omega)) (by omega) (hP.2.2.1 (dep - 1) (by omega)) ?_
          refine qx_getI d_Qu_apply_97 fI_Qu_99 (ex_pl (hP.1 (dep - 1) (by omega))).1 (ex_pl (hP.1 (dep - 1) (by omega))).2.2.2.1 (hSE (dep - 1) (by omega)).1.2.1 ?_
          refine qx_iaddN d_Qu_apply_100 ?_
          refine qx_istore (lv1 := [_, _, _, _, _, _]) d_Qu_apply_101 (by decide) rfl ?_
          refine qx_iincN (w := 1) (lv1 := [_, _, _, _, _, _]) d_Qu_apply_103 rfl rfl (by decide) rfl ?_
          refine qx_goto (t := 63) d_Qu_apply_106 rfl ?_
          refine qx_iload d_Qu_apply_63 rfl ?_
          refine qx_aload_n d_Qu_apply_65 rfl rfl ?_
          refine qx_getI d_Qu_apply_66 fI_Qu_58 rfl rfl hdep ?_
          refine qx_icmp_geN (t := 109) d_Qu_apply_69 rfl (by omega) (by omega) (fun c69 => ?_) (fun c69 => absurd c69 (by omega))
          refine qx_iload d_Qu_apply_109 rfl ?_
          refine qx_bipushN (v := 24) d_Qu_apply_111 rfl ?_
          have hq0 := (hSE (dep - 2) (by omega)).1.1
          have hq1 := (hSE (dep - 1) (by omega)).1.1
          refine qx_icmp_leN (t := 118) d_Qu_apply_113 rfl (by omega) (by omega) (fun c113 => ?_) (fun c113 => ?_)
          · have he := hP.1 (dep - 2) (by omega)
            have hX := hP.2.2.2.2.2.2 _ he
            have hs0 := exA_s (hSE (dep - 2) (by omega))
            have hl0 := (hSE (dep - 2) (by omega)).1.1
            have hf := hP.1 (dep - 1) (by omega)
            have hne : pp (dep - 1) ≠ pp (dep - 2) := fun q => by have := hP.2.1 (dep - 1) (by omega) (dep - 2) (by omega) q; omega
            refine qx_aload_n d_Qu_apply_118 rfl rfl ?_
            refine qx_getR d_Qu_apply_119 fR_Qu_15 rfl rfl (congrFun hP.2.2.2.2.2.1 6) ?_
            refine qx_aload_n d_Qu_apply_122 rfl rfl ?_
            refine qx_getI d_Qu_apply_123 fI_Qu_58 rfl rfl hdep ?_
            refine qx_iload_n d_Qu_apply_126 rfl rfl ?_
            refine qx_isubN d_Qu_apply_127 (by omega) ?_
            refine qx_aald (j := (dep - 2)) (t := 1)  d_Qu_apply_128 rfl (fun _ => rfl) rfl rfl rfl (by omega) (hP.2.2.1 (dep - 2) (by omega)) ?_
            refine qx_astore (lv1 := [_, _, _, _, _, _]) d_Qu_apply_129 (by decide) rfl ?_
            refine qx_iload_n d_Qu_apply_131 rfl rfl ?_
            refine qx_iconstN (v := 2) d_Qu_apply_132 rfl ?_
            refine qx_icmp_neN (t := 152) d_Qu_apply_133 rfl (by omega) (by omega) (fun c133 => absurd c133 (by omega)) (fun c133 => ?_)
            refine qx_aload d_Qu_apply_136 rfl ?_
            refine qx_aload_n d_Qu_apply_138 rfl rfl ?_
            refine qx_getR d_Qu_apply_139 fR_Qu_15 rfl rfl (congrFun hP.2.2.2.2.2.1 6) ?_
            refine qx_aload_n d_Qu_apply_142 rfl rfl ?_
            refine qx_getI d_Qu_apply_143 fI_Qu_58 rfl rfl hdep ?_
            refine qx_iconstN (v := 1) d_Qu_apply_146 rfl ?_
            refine qx_isubN d_Qu_apply_147 (by omega) ?_
            refine qx_aald (j := (dep - 1)) (t := 1)  d_Qu_apply_148 rfl (fun _ => rfl) rfl rfl rfl (by omega) (hP.2.2.1 (dep - 1) (by omega)) ?_
            refine qx_eq (h1 := xR h (pp (dep - 2)) (sOf h.1 (pp (dep - 2)))) rfl rfl rfl xR_sOf ?_
            refine qx_callV (As := [_]) (rest := _) d_Qu_apply_149 lk_Qu_102 y_Ex_addAll v_Ex_addAll rfl rfl (ex_pl he).1 (by decide) rfl (ex_pl he).2.2.2.1 rfl rfl (by decide) (by decide) (ct_Ex_addAll (pp (dep - 2)) he hX (pp (dep - 1)) hf (hP.2.2.2.2.2.2 _ hf) hne (sOf h.1 (pp (dep - 2))) (SE (dep - 2)) (SE (dep - 1)) (tr (dep - 2)) hs0 (by omega) (hSE (dep - 1) (by omega)).1) ?_
            rintro _ _ _ ⟨rfl, ⟨s1, rfl, hs1⟩, rfl⟩
            refine qx_aload d_Qu_apply_152 rfl ?_
            refine qx_iload_n d_Qu_apply_154 rfl rfl ?_
            refine qx_iconstN (v := 0) d_Qu_apply_155 rfl ?_
            refine qx_callV (As := [_, _]) (rest := _) d_Qu_apply_156 lk_Qu_92 y_Ex_addPart v_Ex_addPart rfl rfl (ex_pl he).1 (by decide) rfl (ex_pl he).2.2.2.1 rfl rfl (by decide) (by decide) (ct_Ex_addPartE (pp (dep - 2)) he hX s1 ((SE (dep - 2)) ++ SE (dep - 1)) (tr (dep - 2)) hs1 (by rw [List.length_append]; omega) (nI op) (nI 0) (op, 0) (cP_op (by omega))) ?_
            rintro _ _ _ ⟨rfl, ⟨s2, rfl, hs2⟩, rfl⟩
            refine qx_aload d_Qu_apply_159 rfl ?_
            refine qx_iload_n d_Qu_apply_161 rfl rfl ?_
            refine qx_iconstN (v := 4) d_Qu_apply_162 rfl ?_
            refine qx_icmp_ltN (t := 170) d_Qu_apply_163 rfl (by omega) (by omega) (fun c163 => ?_) (fun c163 => ?_)
            · refine qx_iconst (v := b2i false) d_Qu_apply_170 rfl ?_
              refine qx_putI d_Qu_apply_171 fI_Qu_96 (ex_pl he).1 (ex_pl he).2.2.2.1 (b2i_fit _) ?_
              refine qx_aload_n d_Qu_apply_174 rfl rfl ?_
              refine qx_aload_n d_Qu_apply_175 rfl rfl ?_
              refine qx_getI d_Qu_apply_176 fI_Qu_58 rfl rfl (show _ = nI dep from (congrFun ((qpI_o _ _ 3 _ 3 (by have := ex_ge he; omega)).1.trans (xR_3 he)) 7).trans hdep) ?_
              refine qx_iload_n d_Qu_apply_179 rfl rfl ?_
              refine qx_isubN d_Qu_apply_180 (by omega) ?_
              refine qx_iconstN (v := 1) d_Qu_apply_181 rfl ?_
              refine qx_iaddN d_Qu_apply_182 ?_
              refine qx_putI d_Qu_apply_183 fI_Qu_58 rfl rfl ⟨rfl, rfl⟩ ?_
              refine qx_iconst (v := b2i true) d_Qu_apply_186 rfl ?_
              exact qx_iret d_Qu_apply_187 rfl (b2i_nar _) (by omega) (by omega) (by have ec : (decide (2 ≤ dep) && ((tr (dep - 2) == decide (6 ≤ op)) && ((tr (dep - 1) == decide (6 ≤ op)) && decide (1 + (SE (dep - 2)).length + (SE (dep - 1)).length ≤ 24)))) = true := (by rw [decide_eq_true (show 2 ≤ dep by omega), q_beq_t (a := tr (dep - 2)) (cE0.trans hot), q_beq_t (a := tr (dep - 1)) (cE1.trans hot), decide_eq_true (show 1 + (SE (dep - 2)).length + (SE (dep - 1)).length ≤ 24 by omega)]; rfl); rw [ec]; refine ⟨rfl, Or.inr ⟨rfl, ?_⟩, rfl⟩; first | (have z := c163; rw [xR_t, decide_eq_true (show 4 ≤ op by omega)]; exact ⟨_, rfl, exS_t hs2⟩) | (rw [xR_t, decide_eq_false (show ¬ 4 ≤ op by omega)]; exact ⟨_, rfl, exS_t hs2⟩))
            · refine qx_iconst (v := b2i true) d_Qu_apply_166 rfl ?_
              refine qx_goto (t := 171) d_Qu_apply_167 rfl ?_
              refine qx_putI d_Qu_apply_171 fI_Qu_96 (ex_pl he).1 (ex_pl he).2.2.2.1 (b2i_fit _) ?_
              refine qx_aload_n d_Qu_apply_174 rfl rfl ?_
              refine qx_aload_n d_Qu_apply_175 rfl rfl ?_
              refine qx_getI d_Qu_apply_176 fI_Qu_58 rfl rfl (show _ = nI dep from (congrFun ((qpI_o _ _ 3 _ 3 (by have := ex_ge he; omega)).1.trans (xR_3 he)) 7).trans hdep) ?_
              refine qx_iload_n d_Qu_apply_179 rfl rfl ?_
              refine qx_isubN d_Qu_apply_180 (by omega) ?_
              refine qx_iconstN (v := 1) d_Qu_apply_181 rfl ?_
              refine qx_iaddN d_Qu_apply_182 ?_
              refine qx_putI d_Qu_apply_183 fI_Qu_58 rfl rfl ⟨rfl, rfl⟩ ?_
              refine qx_iconst (v := b2i true) d_Qu_apply_186 rfl ?_
              exact qx_iret d_Qu_apply_187 rfl (b2i_nar _) (by omega) (by omega) (by have ec : (decide (2 ≤ dep) && ((tr (dep - 2) == decide (6 ≤ op)) && ((tr (dep - 1) == decide (6 ≤ op)) && decide (1 + (SE (dep - 2)).length + (SE (dep - 1)).length ≤ 24)))) = true := (by rw [decide_eq_true (show 2 ≤ dep by omega), q_beq_t (a := tr (dep - 2)) (cE0.trans hot), q_beq_t (a := tr (dep - 1)) (cE1.trans hot), decide_eq_true (show 1 + (SE (dep - 2)).length + (SE (dep - 1)).length ≤ 24 by omega)]; rfl); rw [ec]; refine ⟨rfl, Or.inr ⟨rfl, ?_⟩, rfl⟩; first | (have z := c163; rw [xR_t, decide_eq_true (show 4 ≤ op by omega)]; exact ⟨_, rfl, exS_t hs2⟩) | (rw [xR_t, decide_eq_false (show ¬ 4 ≤ op by omega)]; exact ⟨_, rfl, exS_t hs2⟩))
          · refine qx_iconst (v := b2i false) d_Qu_apply_116 rfl ?_
            exact qx_iret d_Qu_apply_117 rfl (b2i_nar _) (by omega) (by omega) (by have ec : (decide (2 ≤ dep) && ((tr (dep - 2) == decide (6 ≤ op)) && ((tr (dep - 1) == decide (6 ≤ op)) && decide (1 + (SE (dep - 2)).length + (SE (dep - 1)).length ≤ 24)))) = false := (by rw [decide_eq_false (show ¬ (1 + (SE (dep - 2)).length + (SE (dep - 1)).length ≤ 24) by omega), Bool.and_false, Bool.and_false, Bool.and_false]); rw [ec]; exact ⟨rfl, Or.inl ⟨rfl, rfl⟩, rfl⟩)
        · refine qx_iconst (v := b2i false) d_Qu_apply_86 rfl ?_
          exact qx_iret d_Qu_apply_87 rfl (b2i_nar _) (by omega) (by omega) (by have ec : (decide (2 ≤ dep) && ((tr (dep - 2) == decide (6 ≤ op)) && ((tr (dep - 1) == decide (6 ≤ op)) && decide (1 + (SE (dep - 2)).length + (SE (dep - 1)).length ≤ 24)))) = false := (by first | (have z := cE1; rw [q_beq_f (a := tr (dep - 1)) (fun w => z (w.trans hot.symm))]; simp; done) | (rw [q_beq_f (a := tr (dep - 2)) (fun w => cE0 (w.trans hot.symm))]; simp; done)); rw [ec]; exact ⟨rfl, Or.inl ⟨rfl, rfl⟩, rfl⟩)
      · refine qx_iconst (v := b2i false) d_Qu_apply_86 rfl ?_
        exact qx_iret d_Qu_apply_87 rfl (b2i_nar _) (by omega) (by omega) (by have ec : (decide (2 ≤ dep) && ((tr (dep - 2) == decide (6 ≤ op)) && ((tr (dep - 1) == decide (6 ≤ op)) && decide (1 + (SE (dep - 2)).length + (SE (dep - 1)).length ≤ 24)))) = false := (by first | (have z := cE1; rw [q_beq_f (a := tr (dep - 1)) (fun w => z (w.trans hot.symm))]; simp; done) | (rw [q_beq_f (a := tr (dep - 2)) (fun w => cE0 (w.trans hot.symm))]; simp; done)); rw [ec]; exact ⟨rfl, Or.inl ⟨rfl, rfl⟩, rfl⟩)
    · refine qx_iconst (v := b2i false) d_Qu_apply_50 rfl ?_
      exact qx_iret d_Qu_apply_51 rfl (b2i_nar _) (by omega) (by omega) (by have ec : (decide (2 ≤ dep) && ((tr (dep - 2) == decide (6 ≤ op)) && ((tr (dep - 1) == decide (6 ≤ op)) && decide (1 + (SE (dep - 2)).length + (SE (dep - 1)).length ≤ 24)))) = false := (by rw [decide_eq_false (by omega)]; rfl); rw [ec]; exact ⟨rfl, Or.inl ⟨rfl, rfl⟩, rfl⟩)
  refine qx_iload_n d_Qu_apply_0 rfl rfl ?_
  refine qx_bipushN (v := 8) d_Qu_apply_1 rfl ?_
  refine qx_icmp_eqN (t := 12) d_Qu_apply_3 rfl (by omega) (by omega) (fun c3 => absurd c3 (by omega)) (fun c3 => ?_)
  refine qx_iload_n d_Qu_apply_6 rfl rfl ?_
  refine qx_bipushN (v := 9) d_Qu_apply_7 rfl ?_
  refine qx_icmp_neN (t := 16) d_Qu_apply_9 rfl (by omega) (by omega) (fun c9 => ?_) (fun c9 => absurd c9 (by omega))
  refine qx_iconstN (v := 2) d_Qu_apply_16 rfl ?_
  refine qx_istore_n (lv1 := [_, _, _, _, _, _]) d_Qu_apply_17 rfl (by decide) rfl ?_
  refine qx_iload_n d_Qu_apply_18 rfl rfl ?_
  refine qx_bipushN (v := 6) d_Qu_apply_19 rfl ?_
  refine qx_icmp_eqN (t := 36) d_Qu_apply_21 rfl (by omega) (by omega) (fun c21 => ?_) (fun c21 => ?_)
  · refine qx_iconst (v := b2i true) d_Qu_apply_36 rfl ?_
    refine qx_goto (t := 41) d_Qu_apply_37 rfl ?_
    refine qx_istore_n (lv1 := [_, _, _, _, _, _]) d_Qu_apply_41 rfl (by decide) rfl ?_
    first
      | exact key true (decide_eq_true (by omega)).symm
      | exact key false (decide_eq_false (by omega)).symm
  · refine qx_iload_n d_Qu_apply_24 rfl rfl ?_
    refine qx_bipushN (v := 7) d_Qu_apply_25 rfl ?_
    refine qx_icmp_eqN (t := 36) d_Qu_apply_27 rfl (by omega) (by omega) (fun c27 => ?_) (fun c27 => ?_)
    · refine qx_iconst (v := b2i true) d_Qu_apply_36 rfl ?_
      refine qx_goto (t := 41) d_Qu_apply_37 rfl ?_
      refine qx_istore_n (lv1 := [_, _, _, _, _, _]) d_Qu_apply_41 rfl (by decide) rfl ?_
      first
        | exact key true (decide_eq_true (by omega)).symm
        | exact key false (decide_eq_false (by omega)).symm
    · refine qx_iload_n d_Qu_apply_30 rfl rfl ?_
      refine qx_bipushN (v := 8) d_Qu_apply_31 rfl ?_
      refine qx_icmp_neN (t := 40) d_Qu_apply_33 rfl (by omega) (by omega) (fun c33 => ?_) (fun c33 => absurd c33 (by omega))
      refine qx_iconst (v := b2i false) d_Qu_apply_40 rfl ?_
      refine qx_istore_n (lv1 := [_, _, _, _, _, _]) d_Qu_apply_41 rfl (by decide) rfl ?_
      first
        | exact key true (decide_eq_true (by omega)).symm
        | exact key false (decide_eq_false (by omega)).symm
set_option maxRecDepth 100000 in
set_option maxHeartbeats 4000000 in
theorem ct_Qu_apply_one {h : qH} (op : Nat) (ho8 : 8 ≤ op) (ho9 : op ≤ 9) (pp : Nat → Nat) (hP : plP h pp) (dep : Nat) (h8 : dep ≤ 8) (hdep : h.1 3 7 = nI dep) (SE : Nat → List xP) (tr : Nat → Bool) (hSE : ∀ i, i < dep → exA h.1 (pp i) (SE i) (tr i)) : qT mi_Qu_apply 2 0 0 [.ref 3, .int (nI op)] h NN (fun v1 h1 n1 => v1 = some (.int (b2i (decide (1 ≤ dep) && ((tr (dep - 1) == decide (op = 8)) && decide (1 + (SE (dep - 1)).length ≤ 24))))) ∧ (((decide (1 ≤ dep) && ((tr (dep - 1) == decide (op = 8)) && decide (1 + (SE (dep - 1)).length ≤ 24))) = false ∧ h1 = h) ∨ ((decide (1 ≤ dep) && ((tr (dep - 1) == decide (op = 8)) && decide (1 + (SE (dep - 1)).length ≤ 24))) = true ∧ ∃ s2, h1 = qpI (xR h (pp (dep - 1)) s2) 3 7 (nI ((dep - 1) + 1)) ∧ exS s2 (SE (dep - 1) ++ [(op, 0)]) true)) ∧ n1 = NN) := by
  refine qT.of (lv0 := [_, _, _, _, _, _]) (by decide +kernel) (fun _ _ => Nat.le_of_ble_eq_true rfl) rfl ?_
  have key : ∀ ot : Bool, ot = decide (op = 8) → qX mi_Qu_apply 2 none 0 0 42 [.ref 3, .int (nI op), .int (nI 1), .int (b2i ot), qdead, qdead] [] h NN 0 0 (fun v1 h1 n1 => v1 = some (.int (b2i (decide (1 ≤ dep) && ((tr (dep - 1) == decide (op = 8)) && decide (1 + (SE (dep - 1)).length ≤ 24))))) ∧ (((decide (1 ≤ dep) && ((tr (dep - 1) == decide (op = 8)) && decide (1 + (SE (dep - 1)).length ≤ 24))) = false ∧ h1 = h) ∨ ((decide (1 ≤ dep) && ((tr (dep - 1) == decide (op = 8)) && decide (1 + (SE (dep - 1)).length ≤ 24))) = true ∧ ∃ s2, h1 = qpI (xR h (pp (dep - 1)) s2) 3 7 (nI ((dep - 1) + 1)) ∧ exS s2 (SE (dep - 1) ++ [(op, 0)]) true)) ∧ n1 = NN) := by
    intro ot hot
    refine qx_aload_n d_Qu_apply_42 rfl rfl ?_
    refine qx_getI d_Qu_apply_43 fI_Qu_58 rfl rfl hdep ?_
    refine qx_iload_n d_Qu_apply_46 rfl rfl ?_
    refine qx_icmp_geN (t := 52) d_Qu_apply_47 rfl (by omega) (by omega) (fun c47 => ?_) (fun c47 => ?_)
    · refine qx_iconstN (v := 1) d_Qu_apply_52 rfl ?_
      refine qx_istore (lv1 := [_, _, _, _, _, _]) d_Qu_apply_53 (by decide) rfl ?_
      refine qx_aload_n d_Qu_apply_55 rfl rfl ?_
      refine qx_getI d_Qu_apply_56 fI_Qu_58 rfl rfl hdep ?_
      refine qx_iload_n d_Qu_apply_59 rfl rfl ?_
      refine qx_isubN d_Qu_apply_60 (by omega) ?_
      refine qx_istore (lv1 := [_, _, _, _, _, _]) d_Qu_apply_61 (by decide) rfl ?_
      refine qx_iload d_Qu_apply_63 rfl ?_
      refine qx_aload_n d_Qu_apply_65 rfl rfl ?_
      refine qx_getI d_Qu_apply_66 fI_Qu_58 rfl rfl hdep ?_
      refine qx_icmp_geN (t := 109) d_Qu_apply_69 rfl (by omega) (by omega) (fun c69 => absurd c69 (by omega)) (fun c69 => ?_)
      refine qx_aload_n d_Qu_apply_72 rfl rfl ?_
      refine qx_getR d_Qu_apply_73 fR_Qu_15 rfl rfl (congrFun hP.2.2.2.2.2.1 6) ?_
      refine qx_iload d_Qu_apply_76 rfl ?_
      refine qx_aald (j := (dep - 1)) (t := 1)  d_Qu_apply_78 rfl (fun _ => rfl) rfl rfl rfl (by omega) (hP.2.2.1 (dep - 1) (by omega)) ?_
      refine qx_getI d_Qu_apply_79 fI_Qu_96 (ex_pl (hP.1 (dep - 1) (by omega))).1 (ex_pl (hP.1 (dep - 1) (by omega))).2.2.2.1 (hSE (dep - 1) (by omega)).2.1 ?_
      refine qx_iload_n d_Qu_apply_82 rfl rfl ?_
      refine qx_icmp_eqE (t := 88) d_Qu_apply_83 rfl (fun cE0 => ?_) (fun cE0 => ?_)
      · refine qx_iload d_Qu_apply_88 rfl ?_
        refine qx_aload_n d_Qu_apply_90 rfl rfl ?_
        refine qx_getR d_Qu_apply_91 fR_Qu_15 rfl rfl (congrFun hP.2.2.2.2.2.1 6) ?_
        refine qx_iload d_Qu_apply_94 rfl ?_
        refine qx_aald (j := (dep - 1)) (t := 1)  d_Qu_apply_96 rfl (fun _ => rfl) rfl rfl rfl (by omega) (hP.2.2.1 (dep - 1) (by omega)) ?_
        refine qx_getI d_Qu_apply_97 fI_Qu_99 (ex_pl (hP.1 (dep - 1) (by omega))).1 (ex_pl (hP.1 (dep - 1) (by omega))).2.2.2.1 (hSE (dep - 1) (by omega)).1.2.1 ?_
        refine qx_iaddN d_Qu_apply_100 ?_
        refine qx_istore (lv1 := [_, _, _, _, _, _]) d_Qu_apply_101 (by decide) rfl ?_
        refine qx_iincN (w := 1) (lv1 := [_, _, _, _, _, _]) d_Qu_apply_103 rfl rfl (by decide) rfl ?_
        refine qx_goto (t := 63) d_Qu_apply_106 rfl ?_
        refine qx_iload d_Qu_apply_63 rfl ?_
        refine qx_aload_n d_Qu_apply_65 rfl rfl ?_
        refine qx_getI d_Qu_apply_66 fI_Qu_58 rfl rfl hdep ?_
        refine qx_icmp_geN (t := 109) d_Qu_apply_69 rfl (by omega) (by omega) (fun c69 => ?_) (fun c69 => absurd c69 (by omega))
        refine qx_iload d_Qu_apply_109 rfl ?_
        refine qx_bipushN (v := 24) d_Qu_apply_111 rfl ?_
        have hq0 := (hSE (dep - 1) (by omega)).1.1
        refine qx_icmp_leN (t := 118) d_Qu_apply_113 rfl (by omega) (by omega) (fun c113 => ?_) (fun c113 => ?_)
        · have he := hP.1 (dep - 1) (by omega)
          have hX := hP.2.2.2.2.2.2 _ he
          have hs0 := exA_s (hSE (dep - 1) (by omega))
          have hl0 := (hSE (dep - 1) (by omega)).1.1
          refine qx_aload_n d_Qu_apply_118 rfl rfl ?_
          refine qx_getR d_Qu_apply_119 fR_Qu_15 rfl rfl (congrFun hP.2.2.2.2.2.1 6) ?_
          refine qx_aload_n d_Qu_apply_122 rfl rfl ?_
          refine qx_getI d_Qu_apply_123 fI_Qu_58 rfl rfl hdep ?_
          refine qx_iload_n d_Qu_apply_126 rfl rfl ?_
          refine qx_isubN d_Qu_apply_127 (by omega) ?_
          refine qx_aald (j := (dep - 1)) (t := 1)  d_Qu_apply_128 rfl (fun _ => rfl) rfl rfl rfl (by omega) (hP.2.2.1 (dep - 1) (by omega)) ?_
          refine qx_astore (lv1 := [_, _, _, _, _, _]) d_Qu_apply_129 (by decide) rfl ?_
          refine qx_iload_n d_Qu_apply_131 rfl rfl ?_
          refine qx_iconstN (v := 2) d_Qu_apply_132 rfl ?_
          refine qx_icmp_neN (t := 152) d_Qu_apply_133 rfl (by omega) (by omega) (fun c133 => ?_) (fun c133 => absurd c133 (by omega))
          refine qx_aload d_Qu_apply_152 rfl ?_
          refine qx_iload_n d_Qu_apply_154 rfl rfl ?_
          refine qx_iconstN (v := 0) d_Qu_apply_155 rfl ?_
          refine qx_eq (h1 := xR h (pp (dep - 1)) (sOf h.1 (pp (dep - 1)))) rfl rfl rfl xR_sOf ?_
          refine qx_callV (As := [_, _]) (rest := _) d_Qu_apply_156 lk_Qu_92 y_Ex_addPart v_Ex_addPart rfl rfl (ex_pl he).1 (by decide) rfl (ex_pl he).2.2.2.1 rfl rfl (by decide) (by decide) (ct_Ex_addPartE (pp (dep - 1)) he hX (sOf h.1 (pp (dep - 1))) (SE (dep - 1)) (tr (dep - 1)) hs0 (by omega) (nI op) (nI 0) (op, 0) (cP_op (by omega))) ?_
          rintro _ _ _ ⟨rfl, ⟨s2, rfl, hs2⟩, rfl⟩
          refine qx_aload d_Qu_apply_159 rfl ?_
          refine qx_iload_n d_Qu_apply_161 rfl rfl ?_
          refine qx_iconstN (v := 4) d_Qu_apply_162 rfl ?_
          refine qx_icmp_ltN (t := 170) d_Qu_apply_163 rfl (by omega) (by omega) (fun c163 => absurd c163 (by omega)) (fun c163 => ?_)
          refine qx_iconst (v := b2i true) d_Qu_apply_166 rfl ?_
          refine qx_goto (t := 171) d_Qu_apply_167 rfl ?_
          refine qx_putI d_Qu_apply_171 fI_Qu_96 (ex_pl he).1 (ex_pl he).2.2.2.1 (b2i_fit _) ?_
          refine qx_aload_n d_Qu_apply_174 rfl rfl ?_
          refine qx_aload_n d_Qu_apply_175 rfl rfl ?_
          refine qx_getI d_Qu_apply_176 fI_Qu_58 rfl rfl (show _ = nI dep from (congrFun ((qpI_o _ _ 3 _ 3 (by have := ex_ge he; omega)).1.trans (xR_3 he)) 7).trans hdep) ?_
          refine qx_iload_n d_Qu_apply_179 rfl rfl ?_
          refine qx_isubN d_Qu_apply_180 (by omega) ?_
          refine qx_iconstN (v := 1) d_Qu_apply_181 rfl ?_
          refine qx_iaddN d_Qu_apply_182 ?_
          refine qx_putI d_Qu_apply_183 fI_Qu_58 rfl rfl ⟨rfl, rfl⟩ ?_
          refine qx_iconst (v := b2i true) d_Qu_apply_186 rfl ?_
          exact qx_iret d_Qu_apply_187 rfl (b2i_nar _) (by omega) (by omega) (by have ec : (decide (1 ≤ dep) && ((tr (dep - 1) == decide (op = 8)) && decide (1 + (SE (dep - 1)).length ≤ 24))) = true := (by rw [decide_eq_true (show 1 ≤ dep by omega), q_beq_t (a := tr (dep - 1)) (cE0.trans hot), decide_eq_true (show 1 + (SE (dep - 1)).length ≤ 24 by omega)]; rfl); rw [ec]; refine ⟨rfl, Or.inr ⟨rfl, ?_⟩, rfl⟩; rw [xR_t]; exact ⟨_, rfl, exS_t hs2⟩)
        · refine qx_iconst (v := b2i false) d_Qu_apply_116 rfl ?_
          exact qx_iret d_Qu_apply_117 rfl (b2i_nar _) (by omega) (by omega) (by have ec : (decide (1 ≤ dep) && ((tr (dep - 1) == decide (op = 8)) && decide (1 + (SE (dep - 1)).length ≤ 24))) = false := (by rw [decide_eq_false (show ¬ (1 + (SE (dep - 1)).length ≤ 24) by omega), Bool.and_false, Bool.and_false]); rw [ec]; exact ⟨rfl, Or.inl ⟨rfl, rfl⟩, rfl⟩)
      · refine qx_iconst (v := b2i false) d_Qu_apply_86 rfl ?_
        exact qx_iret d_Qu_apply_87 rfl (b2i_nar _) (by omega) (by omega) (by have ec : (decide (1 ≤ dep) && ((tr (dep - 1) == decide (op = 8)) && decide (1 + (SE (dep - 1)).length ≤ 24))) = false := (by first | (have z := cE1; rw [q_beq_f (a := tr (dep - 1)) (fun w => z (w.trans hot.symm))]; simp; done) | (rw [q_beq_f (a := tr (dep - 1)) (fun w => cE0 (w.trans hot.symm))]; simp; done)); rw [ec]; exact ⟨rfl, Or.inl ⟨rfl, rfl⟩, rfl⟩)
    · refine qx_iconst (v := b2i false) d_Qu_apply_50 rfl ?_
      exact qx_iret d_Qu_apply_51 rfl (b2i_nar _) (by omega) (by omega) (by have ec : (decide (1 ≤ dep) && ((tr (dep - 1) == decide (op = 8)) && decide (1 + (SE (dep - 1)).length ≤ 24))) = false := (by rw [decide_eq_false (by omega)]; rfl); rw [ec]; exact ⟨rfl, Or.inl ⟨rfl, rfl⟩, rfl⟩)
  refine qx_iload_n d_Qu_apply_0 rfl rfl ?_
  refine qx_bipushN (v := 8) d_Qu_apply_1 rfl ?_
  refine qx_icmp_eqN (t := 12) d_Qu_apply_3 rfl (by omega) (by omega) (fun c3 => ?_) (fun c3 => ?_)
  · refine qx_iconstN (v := 1) d_Qu_apply_12 rfl ?_
    refine qx_goto (t := 17) d_Qu_apply_13 rfl ?_
    refine qx_istore_n (lv1 := [_, _, _, _, _, _]) d_Qu_apply_17 rfl (by decide) rfl ?_
    refine qx_iload_n d_Qu_apply_18 rfl rfl ?_
    refine qx_bipushN (v := 6) d_Qu_apply_19 rfl ?_
    refine qx_icmp_eqN (t := 36) d_Qu_apply_21 rfl (by omega) (by omega) (fun c21 => absurd c21 (by omega)) (fun c21 => ?_)
    refine qx_iload_n d_Qu_apply_24 rfl rfl ?_
    refine qx_bipushN (v := 7) d_Qu_apply_25 rfl ?_
    refine qx_icmp_eqN (t := 36) d_Qu_apply_27 rfl (by omega) (by omega) (fun c27 => absurd c27 (by omega)) (fun c27 => ?_)
    refine qx_iload_n d_Qu_apply_30 rfl rfl ?_
    refine qx_bipushN (v := 8) d_Qu_apply_31 rfl ?_
    refine qx_icmp_neN (t := 40) d_Qu_apply_33 rfl (by omega) (by omega) (fun c33 => ?_) (fun c33 => ?_)
    · refine qx_iconst (v := b2i false) d_Qu_apply_40 rfl ?_
      refine qx_istore_n (lv1 := [_, _, _, _, _, _]) d_Qu_apply_41 rfl (by decide) rfl ?_
      first
        | exact key true (decide_eq_true (by omega)).symm
        | exact key false (decide_eq_false (by omega)).symm
        | (exfalso; omega)
    · refine qx_iconst (v := b2i true) d_Qu_apply_36 rfl ?_
      refine qx_goto (t := 41) d_Qu_apply_37 rfl ?_
      refine qx_istore_n (lv1 := [_, _, _, _, _, _]) d_Qu_apply_41 rfl (by decide) rfl ?_
      first
        | exact key true (decide_eq_true (by omega)).symm
        | exact key false (decide_eq_false (by omega)).symm
        | (exfalso; omega)
  · refine qx_iload_n d_Qu_apply_6 rfl rfl ?_
    refine qx_bipushN (v := 9) d_Qu_apply_7 rfl ?_
    refine qx_icmp_neN (t := 16) d_Qu_apply_9 rfl (by omega) (by omega) (fun c9 => ?_) (fun c9 => ?_)
    · refine qx_iconstN (v := 2) d_Qu_apply_16 rfl ?_
      refine qx_istore_n (lv1 := [_, _, _, _, _, _]) d_Qu_apply_17 rfl (by decide) rfl ?_
      refine qx_iload_n d_Qu_apply_18 rfl rfl ?_
      refine qx_bipushN (v := 6) d_Qu_apply_19 rfl ?_
      refine qx_icmp_eqN (t := 36) d_Qu_apply_21 rfl (by omega) (by omega) (fun c21 => absurd c21 (by omega)) (fun c21 => ?_)
      refine qx_iload_n d_Qu_apply_24 rfl rfl ?_
      refine qx_bipushN (v := 7) d_Qu_apply_25 rfl ?_
      refine qx_icmp_eqN (t := 36) d_Qu_apply_27 rfl (by omega) (by omega) (fun c27 => absurd c27 (by omega)) (fun c27 => ?_)
      refine qx_iload_n d_Qu_apply_30 rfl rfl ?_
      refine qx_bipushN (v := 8) d_Qu_apply_31 rfl ?_
      refine qx_icmp_neN (t := 40) d_Qu_apply_33 rfl (by omega) (by omega) (fun c33 => ?_) (fun c33 => ?_)
      · refine qx_iconst (v := b2i false) d_Qu_apply_40 rfl ?_
        refine qx_istore_n (lv1 := [_, _, _, _, _, _]) d_Qu_apply_41 rfl (by decide) rfl ?_
        first
          | exact key true (decide_eq_true (by omega)).symm
          | exact key false (decide_eq_false (by omega)).symm
          | (exfalso; omega)
      · refine qx_iconst (v := b2i true) d_Qu_apply_36 rfl ?_
        refine qx_goto (t := 41) d_Qu_apply_37 rfl ?_
        refine qx_istore_n (lv1 := [_, _, _, _, _, _]) d_Qu_apply_41 rfl (by decide) rfl ?_
        first
          | exact key true (decide_eq_true (by omega)).symm
          | exact key false (decide_eq_false (by omega)).symm
          | (exfalso; omega)
    · refine qx_iconstN (v := 1) d_Qu_apply_12 rfl ?_
      refine qx_goto (t := 17) d_Qu_apply_13 rfl ?_
      refine qx_istore_n (lv1 := [_, _, _, _, _, _]) d_Qu_apply_17 rfl (by decide) rfl ?_
      refine qx_iload_n d_Qu_apply_18 rfl rfl ?_
      refine qx_bipushN (v := 6) d_Qu_apply_19 rfl ?_
      refine qx_icmp_eqN (t := 36) d_Qu_apply_21 rfl (by omega) (by omega) (fun c21 => absurd c21 (by omega)) (fun c21 => ?_)
      refine qx_iload_n d_Qu_apply_24 rfl rfl ?_
      refine qx_bipushN (v := 7) d_Qu_apply_25 rfl ?_
      refine qx_icmp_eqN (t := 36) d_Qu_apply_27 rfl (by omega) (by omega) (fun c27 => absurd c27 (by omega)) (fun c27 => ?_)
      refine qx_iload_n d_Qu_apply_30 rfl rfl ?_
      refine qx_bipushN (v := 8) d_Qu_apply_31 rfl ?_
      refine qx_icmp_neN (t := 40) d_Qu_apply_33 rfl (by omega) (by omega) (fun c33 => ?_) (fun c33 => ?_)
      · refine qx_iconst (v := b2i false) d_Qu_apply_40 rfl ?_
        refine qx_istore_n (lv1 := [_, _, _, _, _, _]) d_Qu_apply_41 rfl (by decide) rfl ?_
        first
          | exact key true (decide_eq_true (by omega)).symm
          | exact key false (decide_eq_false (by omega)).symm
          | (exfalso; omega)
      · refine qx_iconst (v := b2i true) d_Qu_apply_36 rfl ?_
        refine qx_goto (t := 41) d_Qu_apply_37 rfl ?_
        refine qx_istore_n (lv1 := [_, _, _, _, _, _]) d_Qu_apply_41 rfl (by decide) rfl ?_
        first
          | exact key true (decide_eq_true (by omega)).symm
          | exact key false (decide_eq_false (by omega)).symm
          | (exfalso; omega)
