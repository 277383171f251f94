/-! the class's expressions: where they lie, how a part is held -/
def exOk (e : Nat) : Prop := (∃ i, i < 8 ∧ e = 5 + 3 * i) ∨ (∃ i, i < 6 ∧ e = 30 + 3 * i) ∨ (∃ i, i < 3 ∧ e = 49 + 3 * i)
theorem ex_pl {e : Nat} (h : exOk e) : qPl e = (3, 0) ∧ qPl (e + 1) = (20, 24) ∧ qPl (e + 2) = (20, 24) ∧ Nat.blt e NN = true ∧ Nat.blt (e + 1) NN = true ∧ Nat.blt (e + 2) NN = true ∧ e + 2 < 58 := by
  rcases h with ⟨i, hi, rfl⟩ | ⟨i, hi, rfl⟩ | ⟨i, hi, rfl⟩
  · have h : i = 0 ∨ i = 1 ∨ i = 2 ∨ i = 3 ∨ i = 4 ∨ i = 5 ∨ i = 6 ∨ i = 7 := by omega
    rcases h with rfl | rfl | rfl | rfl | rfl | rfl | rfl | rfl <;> exact ⟨rfl, rfl, rfl, rfl, rfl, rfl, by decide⟩
  · have h : i = 0 ∨ i = 1 ∨ i = 2 ∨ i = 3 ∨ i = 4 ∨ i = 5 := by omega
    rcases h with rfl | rfl | rfl | rfl | rfl | rfl <;> exact ⟨rfl, rfl, rfl, rfl, rfl, rfl, by decide⟩
  · have h : i = 0 ∨ i = 1 ∨ i = 2 := by omega
    rcases h with rfl | rfl | rfl <;> exact ⟨rfl, rfl, rfl, rfl, rfl, rfl, by decide⟩
def qREx (e : Nat) : Nat → Option Nat := fun f => (([some (e + 1), some (e + 2)] : List (Option Nat))[f]?).getD none
def cPart (w o : Int32) (p : xP) : Prop := (p.1 < 10 ∧ w = nI p.1) ∨ (p.1 = 10 ∧ ∃ c, c < 4 ∧ p.2 = lN c ∧ w = nI 10 ∧ o = nI c) ∨ (p.1 = 11 ∧ w = nI 11 ∧ o.toInt64 = p.2)
def cExp (cd op : Nat → Int32) (b : Nat) : List xP → Prop
  | [] => True
  | p :: E => cPart (cd b) (op b) p ∧ cExp cd op (b + 1) E
theorem nR_w {h : qH} {vs : Nat → Int64} {ns : Nat → Bool} {i : Nat} {x : Int64} : qpL (nR h vs ns) 62 i x = nR h (va_up vs i x) (va_up ns i (ns i)) := by
  rw [nR_v, qv_self]
set_option maxRecDepth 100000 in
set_option maxHeartbeats 4000000 in
theorem ct_Ma_evaluate {h : qH} (hM : h.2.2 59 = qRMa) (vs : Nat → Int64) (ns : Nat → Bool) (e : Nat) (he : exOk e) (hX : h.2.2 e = qREx e) (E : List xP) (hE : E.length ≤ 24) (hlen : h.1 e 2 = nI E.length) (hex : cExp (h.1 (e + 1)) (h.1 (e + 2)) 0 E) (ts : List Bool) (hty : xT 8 [] E = some ts) (row : Nat → Option Int64) (hb : Nat → Bool) (hrow : ∀ c, c < 4 → h.1 61 c = b2i (hb c) ∧ row c = if hb c = true then none else some (h.2.1 60 c)) :
    qT mi_Ma_evaluate 3 0 0 [.ref 59, .ref e] (nR h vs ns) NN (fun v1 h1 n1 => v1 = none ∧ (∃ vs1 ns1, h1 = nR h vs1 ns1 ∧ mRep vs1 ns1 (xE row [] E)) ∧ n1 = NN) := by
  have hx := ex_pl he
  have he58 := hx.2.2.2.2.2.2
  refine qT.of (lv0 := [_, _, _, _, _, _]) (by decide +kernel) (fun _ _ => Nat.le_of_ble_eq_true rfl) rfl ?_
  have key : ∀ (E2 : List xP) (j : Nat) (st : List xV) (vs : Nat → Int64) (ns : Nat → Bool), j + E2.length = E.length → cExp (h.1 (e + 1)) (h.1 (e + 2)) j E2 → mRep vs ns st → (∀ v ∈ st, xTr v) → st.length ≤ 8 → xT 8 (st.map (fun v => v.1)) E2 = some ts → xE row st E2 = xE row [] E →
      qX mi_Ma_evaluate 3 none 0 0 11 [.ref 59, .ref e, .int (nI st.length), .int (nI j), qdead, qdead] [] (nR h vs ns) NN 0 0 (fun v1 h1 n1 => v1 = none ∧ (∃ vs1 ns1, h1 = nR h vs1 ns1 ∧ mRep vs1 ns1 (xE row [] E)) ∧ n1 = NN) := by
    intro E2
    induction E2 with
    | nil =>
      intro j st vs ns hj hre hw htr hlm htt htg
      have hj : j = E.length := hj
      refine qx_iload_n d_Ma_evaluate_11 rfl rfl ?_
      refine qx_aload_n d_Ma_evaluate_12 rfl rfl ?_
      refine qx_getI d_Ma_evaluate_13 fI_Ma_39 hx.1 hx.2.2.2.1 ((congrFun (qun (by omega)) 2).trans hlen) ?_
      refine qx_icmp_geN (t := 197) d_Ma_evaluate_16 rfl (by omega) (by omega) (fun c16 => ?_) (fun c16 => absurd c16 (by omega))
      exact qx_ret d_Ma_evaluate_197 rfl (by omega) (by omega) ⟨rfl, ⟨vs, ns, rfl, by rw [← htg]; exact hw⟩, rfl⟩
    | cons p E2 ih =>
      intro j st vs ns hj hre hw htr hlm htt htg
      have hj : j + (E2.length + 1) = E.length := hj
      obtain ⟨hp, hre⟩ := hre
      have htt : (xT1 8 (st.map (fun v => v.1)) p).bind (fun ts => xT 8 ts E2) = some ts := htt
      obtain ⟨ts1, ht1, ht2⟩ : ∃ ts1, xT1 8 (st.map (fun v => v.1)) p = some ts1 ∧ xT 8 ts1 E2 = some ts := by
        cases hx : xT1 8 (st.map (fun v => v.1)) p with
        | none => rw [hx] at htt; cases htt
        | some ts1 => rw [hx] at htt; exact ⟨ts1, rfl, htt⟩
      have hl2 : (xS row st p).length ≤ 8 := by
        have := xT1_len (by rw [List.length_map]; exact hlm) ht1
        rw [← xS_ty (row := row) ht1, List.length_map] at this
        exact this
      have htr2 := xS_tr (row := row) ht1 htr
      have ht3 : xT 8 ((xS row st p).map (fun v => v.1)) E2 = some ts := by rw [xS_ty ht1]; exact ht2
      have htg2 : xE row (xS row st p) E2 = xE row [] E := htg
      have ih2 := fun vs ns hm => ih (j + 1) (xS row st p) vs ns (by omega) hre hm htr2 hl2 ht3 htg2
      clear ih
      rcases hp with ⟨h10, hpw⟩ | ⟨h10, c, hc4, hpc, hpw, hpo⟩ | ⟨h11, hpw, hpx⟩
      · by_cases h8 : p.1 = 8
        · obtain ⟨v, rs, rfl, hv⟩ := xT1_un ht1 (Or.inl h8)
          obtain ⟨op, x⟩ := p
          dsimp only at h8 hpw hv h10
          subst h8
          have hxs : xS row (v :: rs) (8, x) = (true, v.2.map (fun x => 1 - x)) :: rs := rfl
          rw [hxs] at ih2
          have hlm : rs.length + 1 ≤ 8 := hlm
          refine qx_iload_n d_Ma_evaluate_11 rfl rfl ?_
          refine qx_aload_n d_Ma_evaluate_12 rfl rfl ?_
          refine qx_getI d_Ma_evaluate_13 fI_Ma_39 hx.1 hx.2.2.2.1 ((congrFun (qun (by omega)) 2).trans hlen) ?_
          refine qx_icmp_geN (t := 197) d_Ma_evaluate_16 rfl (by omega) (by omega) (fun c16 => absurd c16 (by omega)) (fun c16 => ?_)
          refine qx_aload_n d_Ma_evaluate_19 rfl rfl ?_
          refine qx_getR d_Ma_evaluate_20 fR_Ma_45 hx.1 hx.2.2.2.1 (congrFun hX 0) ?_
          refine qx_iload_n d_Ma_evaluate_23 rfl rfl ?_
          refine qx_iald d_Ma_evaluate_24 hx.2.1 hx.2.2.2.2.1 rfl rfl (by omega) ((congrFun (qun (by omega)) j).trans hpw) ?_
          refine qx_istore (lv1 := [_, _, _, _, _, _]) d_Ma_evaluate_25 (by decide) rfl ?_
          refine qx_aload_n d_Ma_evaluate_27 rfl rfl ?_
          refine qx_getR d_Ma_evaluate_28 fR_Ma_49 hx.1 hx.2.2.2.1 (congrFun hX 1) ?_
          refine qx_iload_n d_Ma_evaluate_31 rfl rfl ?_
          refine qx_iald d_Ma_evaluate_32 hx.2.2.1 hx.2.2.2.2.2.1 rfl rfl (by omega) (congrFun (qun (by omega)) j) ?_
          refine qx_istore (lv1 := [_, _, _, _, _, _]) d_Ma_evaluate_33 (by decide) rfl ?_
          refine qx_iload d_Ma_evaluate_35 rfl ?_
          refine qx_bipushN (v := 10) d_Ma_evaluate_37 rfl ?_
          refine qx_icmp_neN (t := 73) d_Ma_evaluate_39 rfl (by omega) (by omega) (fun c39 => ?_) (fun c39 => absurd c39 (by omega))
          refine qx_iload d_Ma_evaluate_73 rfl ?_
          refine qx_bipushN (v := 11) d_Ma_evaluate_75 rfl ?_
          refine qx_icmp_neN (t := 101) d_Ma_evaluate_77 rfl (by omega) (by omega) (fun c77 => ?_) (fun c77 => absurd c77 (by omega))
          refine qx_iload d_Ma_evaluate_101 rfl ?_
          refine qx_bipushN (v := 8) d_Ma_evaluate_103 rfl ?_
          refine qx_icmp_neN (t := 134) d_Ma_evaluate_105 rfl (by omega) (by omega) (fun c105 => absurd rfl c105) (fun c105 => ?_)
          refine qx_iload_n d_Ma_evaluate_108 rfl rfl ?_
          refine qx_iconstN (v := 1) d_Ma_evaluate_109 rfl ?_
          refine qx_icmp_ltN (t := 134) d_Ma_evaluate_110 rfl (by show rs.length + 1 < 2 ^ 31; omega) (by omega) (fun c110 => absurd (show rs.length + 1 < 1 from c110) (by omega)) (fun c110 => ?_)
          refine qx_aload_n d_Ma_evaluate_113 rfl rfl ?_
          refine qx_getR d_Ma_evaluate_114 fR_Ma_19 rfl rfl (congrFun hM 2) ?_
          refine qx_iload_n d_Ma_evaluate_117 rfl rfl ?_
          refine qx_iconstN (v := 1) d_Ma_evaluate_118 rfl ?_
          refine qx_isubN d_Ma_evaluate_119 (by show 1 ≤ rs.length + 1; omega) ?_
          refine qx_lconst (v := 1) d_Ma_evaluate_120 rfl ?_
          refine qx_aload_n d_Ma_evaluate_121 rfl rfl ?_
          refine qx_getR d_Ma_evaluate_122 fR_Ma_19 rfl rfl (congrFun hM 2) ?_
          refine qx_iload_n d_Ma_evaluate_125 rfl rfl ?_
          refine qx_iconstN (v := 1) d_Ma_evaluate_126 rfl ?_
          refine qx_isubN d_Ma_evaluate_127 (by show 1 ≤ rs.length + 1; omega) ?_
          refine qx_lald (j := rs.length) d_Ma_evaluate_128 rfl rfl rfl rfl (by omega) (show _ = vs rs.length from rfl) ?_
          refine qx_lsub d_Ma_evaluate_129 ?_
          refine qx_last (j := rs.length) d_Ma_evaluate_130 rfl rfl rfl rfl (by omega) ?_
          refine qx_goto (t := 191) d_Ma_evaluate_131 rfl ?_
          refine qx_iincN (w := 1) (lv1 := [_, _, _, _, _, _]) d_Ma_evaluate_191 rfl rfl (by decide) rfl ?_
          refine qx_goto (t := 11) d_Ma_evaluate_194 rfl ?_
          refine qx_less (lv1 := [_, _, _, _, qdead, qdead]) ⟨Or.inr rfl, Or.inr rfl, Or.inr rfl, Or.inr rfl, Or.inl rfl, Or.inl rfl, trivial⟩ ?_
          refine qx_eq (h1 := nR h (va_up vs rs.length (1 - vs rs.length)) (va_up ns rs.length (ns rs.length))) rfl rfl rfl nR_w.symm ?_
          refine ih2 _ _ (mRep_push rfl ?_ ?_ hw.2)
          · have := hw.1
            obtain ⟨vt, vo⟩ := v
            cases vo with
            | none => exact this
            | some z => exact this.1
          · intro z hz
            have := hw.1
            obtain ⟨vt, vo⟩ := v
            cases vo with
            | none => cases hz
            | some y =>
              rw [this.2]
              exact Option.some.inj hz
        · by_cases h9 : p.1 = 9
          · obtain ⟨v, rs, rfl, hv⟩ := xT1_un ht1 (Or.inr h9)
            obtain ⟨op, x⟩ := p
            dsimp only at h9 hpw hv h10
            subst h9
            have hxs : xS row (v :: rs) (9, x) = (true, some (if v.2 = none then 1 else 0)) :: rs := rfl
            rw [hxs] at ih2
            have hlm : rs.length + 1 ≤ 8 := hlm
            have hvn : ns rs.length = v.2.isNone := by
              have := hw.1
              obtain ⟨vt, vo⟩ := v
              cases vo with
              | none => exact this
              | some z => exact this.1
            refine qx_iload_n d_Ma_evaluate_11 rfl rfl ?_
            refine qx_aload_n d_Ma_evaluate_12 rfl rfl ?_
            refine qx_getI d_Ma_evaluate_13 fI_Ma_39 hx.1 hx.2.2.2.1 ((congrFun (qun (by omega)) 2).trans hlen) ?_
            refine qx_icmp_geN (t := 197) d_Ma_evaluate_16 rfl (by omega) (by omega) (fun c16 => absurd c16 (by omega)) (fun c16 => ?_)
            refine qx_aload_n d_Ma_evaluate_19 rfl rfl ?_
            refine qx_getR d_Ma_evaluate_20 fR_Ma_45 hx.1 hx.2.2.2.1 (congrFun hX 0) ?_
            refine qx_iload_n d_Ma_evaluate_23 rfl rfl ?_
            refine qx_iald d_Ma_evaluate_24 hx.2.1 hx.2.2.2.2.1 rfl rfl (by omega) ((congrFun (qun (by omega)) j).trans hpw) ?_
            refine qx_istore (lv1 := [_, _, _, _, _, _]) d_Ma_evaluate_25 (by decide) rfl ?_
            refine qx_aload_n d_Ma_evaluate_27 rfl rfl ?_
            refine qx_getR d_Ma_evaluate_28 fR_Ma_49 hx.1 hx.2.2.2.1 (congrFun hX 1) ?_
            refine qx_iload_n d_Ma_evaluate_31 rfl rfl ?_
            refine qx_iald d_Ma_evaluate_32 hx.2.2.1 hx.2.2.2.2.2.1 rfl rfl (by omega) (congrFun (qun (by omega)) j) ?_
            refine qx_istore (lv1 := [_, _, _, _, _, _]) d_Ma_evaluate_33 (by decide) rfl ?_
            refine qx_iload d_Ma_evaluate_35 rfl ?_
            refine qx_bipushN (v := 10) d_Ma_evaluate_37 rfl ?_
            refine qx_icmp_neN (t := 73) d_Ma_evaluate_39 rfl (by omega) (by omega) (fun c39 => ?_) (fun c39 => absurd c39 (by omega))
            refine qx_iload d_Ma_evaluate_73 rfl ?_
            refine qx_bipushN (v := 11) d_Ma_evaluate_75 rfl ?_
            refine qx_icmp_neN (t := 101) d_Ma_evaluate_77 rfl (by omega) (by omega) (fun c77 => ?_) (fun c77 => absurd c77 (by omega))
            refine qx_iload d_Ma_evaluate_101 rfl ?_
            refine qx_bipushN (v := 8) d_Ma_evaluate_103 rfl ?_
            refine qx_icmp_neN (t := 134) d_Ma_evaluate_105 rfl (by omega) (by omega) (fun c105 => ?_) (fun c105 => absurd c105 (by decide))
            refine qx_iload d_Ma_evaluate_134 rfl ?_
            refine qx_bipushN (v := 9) d_Ma_evaluate_136 rfl ?_
            refine qx_icmp_neN (t := 173) d_Ma_evaluate_138 rfl (by omega) (by omega) (fun c138 => absurd rfl c138) (fun c138 => ?_)
            refine qx_iload_n d_Ma_evaluate_141 rfl rfl ?_
            refine qx_iconstN (v := 1) d_Ma_evaluate_142 rfl ?_
            refine qx_icmp_ltN (t := 173) d_Ma_evaluate_143 rfl (by show rs.length + 1 < 2 ^ 31; omega) (by omega) (fun c143 => absurd (show rs.length + 1 < 1 from c143) (by omega)) (fun c143 => ?_)
            refine qx_aload_n d_Ma_evaluate_146 rfl rfl ?_
            refine qx_iload_n d_Ma_evaluate_147 rfl rfl ?_
            refine qx_iconstN (v := 1) d_Ma_evaluate_148 rfl ?_
            refine qx_isubN d_Ma_evaluate_149 (by show 1 ≤ rs.length + 1; omega) ?_
            refine qx_aload_n d_Ma_evaluate_150 rfl rfl ?_
            refine qx_getR d_Ma_evaluate_151 fR_Ma_22 rfl rfl (congrFun hM 3) ?_
            refine qx_iload_n d_Ma_evaluate_154 rfl rfl ?_
            refine qx_iconstN (v := 1) d_Ma_evaluate_155 rfl ?_
            refine qx_isubN d_Ma_evaluate_156 (by show 1 ≤ rs.length + 1; omega) ?_
            refine qx_zald (j := rs.length) d_Ma_evaluate_157 rfl rfl rfl rfl (by omega) (show _ = b2i (ns rs.length) from rfl) ?_
            refine qx_if_eqB (t := 165) d_Ma_evaluate_158 rfl (fun c158 => ?_) (fun c158 => ?_)
            · refine qx_lconst (v := 0) d_Ma_evaluate_165 rfl ?_
              refine qx_iconst (v := b2i false) d_Ma_evaluate_166 rfl ?_
              refine qx_callV (As := [_, _, _]) (rest := _) d_Ma_evaluate_167 lk_Ma_35 y_Ma_set v_Ma_set rfl rfl rfl (by decide) rfl rfl rfl rfl (by decide) (by decide) (ct_Ma_set hM vs ns rs.length (by omega) _ false) ?_
              rintro _ _ _ ⟨rfl, rfl, rfl⟩
              refine qx_goto (t := 191) d_Ma_evaluate_170 rfl ?_
              refine qx_iincN (w := 1) (lv1 := [_, _, _, _, _, _]) d_Ma_evaluate_191 rfl rfl (by decide) rfl ?_
              refine qx_goto (t := 11) d_Ma_evaluate_194 rfl ?_
              refine qx_less (lv1 := [_, _, _, _, qdead, qdead]) ⟨Or.inr rfl, Or.inr rfl, Or.inr rfl, Or.inr rfl, Or.inl rfl, Or.inl rfl, trivial⟩ ?_
              refine ih2 _ _ (mRep_push (v := (true, some (if v.2 = none then 1 else 0))) rfl rfl ?_ hw.2)
              intro z hz
              rw [hvn] at c158
              have hz : (if v.2 = none then (1 : Int64) else 0) = z := Option.some.inj hz
              rw [← hz]
              cases hvo : v.2 with
              | none => rw [hvo] at c158; first | rfl | cases c158
              | some y => rw [hvo] at c158; first | rfl | cases c158
            · refine qx_lconst (v := 1) d_Ma_evaluate_161 rfl ?_
              refine qx_goto (t := 166) d_Ma_evaluate_162 rfl ?_
              refine qx_iconst (v := b2i false) d_Ma_evaluate_166 rfl ?_
              refine qx_callV (As := [_, _, _]) (rest := _) d_Ma_evaluate_167 lk_Ma_35 y_Ma_set v_Ma_set rfl rfl rfl (by decide) rfl rfl rfl rfl (by decide) (by decide) (ct_Ma_set hM vs ns rs.length (by omega) _ false) ?_
              rintro _ _ _ ⟨rfl, rfl, rfl⟩
              refine qx_goto (t := 191) d_Ma_evaluate_170 rfl ?_
              refine qx_iincN (w := 1) (lv1 := [_, _, _, _, _, _]) d_Ma_evaluate_191 rfl rfl (by decide) rfl ?_
              refine qx_goto (t := 11) d_Ma_evaluate_194 rfl ?_
              refine qx_less (lv1 := [_, _, _, _, qdead, qdead]) ⟨Or.inr rfl, Or.inr rfl, Or.inr rfl, Or.inr rfl, Or.inl rfl, Or.inl rfl, trivial⟩ ?_
              refine ih2 _ _ (mRep_push (v := (true, some (if v.2 = none then 1 else 0))) rfl rfl ?_ hw.2)
              intro z hz
              rw [hvn] at c158
              have hz : (if v.2 = none then (1 : Int64) else 0) = z := Option.some.inj hz
              rw [← hz]
              cases hvo : v.2 with
              | none => rw [hvo] at c158; first | rfl | cases c158
              | some y => rw [hvo] at c158; first | rfl | cases c158
          · obtain ⟨v, w, rs, rfl, hv, hw2⟩ := xT1_bin ht1 (by omega)
            obtain ⟨op, x⟩ := p
            dsimp only at h8 h9 hpw hv hw2 h10
            have hxs : xS row (v :: w :: rs) (op, x) = (decide (4 ≤ op), xOp op w.2 v.2) :: rs := by
              have h10' : ¬ op = 10 := by omega
              have h11' : ¬ op = 11 := by omega
              simp only [xS, h10', h11', h8, h9, if_false]
            rw [hxs] at ih2
            have hlm : rs.length + 1 + 1 ≤ 8 := hlm
            refine qx_iload_n d_Ma_evaluate_11 rfl rfl ?_
            refine qx_aload_n d_Ma_evaluate_12 rfl rfl ?_
            refine qx_getI d_Ma_evaluate_13 fI_Ma_39 hx.1 hx.2.2.2.1 ((congrFun (qun (by omega)) 2).trans hlen) ?_
            refine qx_icmp_geN (t := 197) d_Ma_evaluate_16 rfl (by omega) (by omega) (fun c16 => absurd c16 (by omega)) (fun c16 => ?_)
            refine qx_aload_n d_Ma_evaluate_19 rfl rfl ?_
            refine qx_getR d_Ma_evaluate_20 fR_Ma_45 hx.1 hx.2.2.2.1 (congrFun hX 0) ?_
            refine qx_iload_n d_Ma_evaluate_23 rfl rfl ?_
            refine qx_iald d_Ma_evaluate_24 hx.2.1 hx.2.2.2.2.1 rfl rfl (by omega) ((congrFun (qun (by omega)) j).trans hpw) ?_
            refine qx_istore (lv1 := [_, _, _, _, _, _]) d_Ma_evaluate_25 (by decide) rfl ?_
            refine qx_aload_n d_Ma_evaluate_27 rfl rfl ?_
            refine qx_getR d_Ma_evaluate_28 fR_Ma_49 hx.1 hx.2.2.2.1 (congrFun hX 1) ?_
            refine qx_iload_n d_Ma_evaluate_31 rfl rfl ?_
            refine qx_iald d_Ma_evaluate_32 hx.2.2.1 hx.2.2.2.2.2.1 rfl rfl (by omega) (congrFun (qun (by omega)) j) ?_
            refine qx_istore (lv1 := [_, _, _, _, _, _]) d_Ma_evaluate_33 (by decide) rfl ?_
            refine qx_iload d_Ma_evaluate_35 rfl ?_
            refine qx_bipushN (v := 10) d_Ma_evaluate_37 rfl ?_
            refine qx_icmp_neN (t := 73) d_Ma_evaluate_39 rfl (by omega) (by omega) (fun c39 => ?_) (fun c39 => absurd c39 (by omega))
            refine qx_iload d_Ma_evaluate_73 rfl ?_
            refine qx_bipushN (v := 11) d_Ma_evaluate_75 rfl ?_
            refine qx_icmp_neN (t := 101) d_Ma_evaluate_77 rfl (by omega) (by omega) (fun c77 => ?_) (fun c77 => absurd c77 (by omega))
            refine qx_iload d_Ma_evaluate_101 rfl ?_
            refine qx_bipushN (v := 8) d_Ma_evaluate_103 rfl ?_
            refine qx_icmp_neN (t := 134) d_Ma_evaluate_105 rfl (by omega) (by omega) (fun c105 => ?_) (fun c105 => absurd c105 (by omega))
            refine qx_iload d_Ma_evaluate_134 rfl ?_
            refine qx_bipushN (v := 9) d_Ma_evaluate_136 rfl ?_
            refine qx_icmp_neN (t := 173) d_Ma_evaluate_138 rfl (by omega) (by omega) (fun c138 => ?_) (fun c138 => absurd c138 (by omega))
            refine qx_iload_n d_Ma_evaluate_173 rfl rfl ?_
            refine qx_iconstN (v := 2) d_Ma_evaluate_174 rfl ?_
            refine qx_icmp_ltN (t := 191) d_Ma_evaluate_175 rfl (by show rs.length + 1 + 1 < 2 ^ 31; omega) (by omega) (fun c175 => absurd (show rs.length + 1 + 1 < 2 from c175) (by omega)) (fun c175 => ?_)
            refine qx_idecN (lv1 := [_, _, _, _, _, _]) d_Ma_evaluate_178 rfl (by decide) rfl ?_
            refine qx_aload_n d_Ma_evaluate_181 rfl rfl ?_
            refine qx_iload d_Ma_evaluate_182 rfl ?_
            refine qx_iload_n d_Ma_evaluate_184 rfl rfl ?_
            refine qx_iconstN (v := 1) d_Ma_evaluate_185 rfl ?_
            refine qx_isubN d_Ma_evaluate_186 (by show 1 ≤ rs.length + 1; omega) ?_
            refine qx_iload_n d_Ma_evaluate_187 rfl rfl ?_
            refine qx_callV (As := [_, _, _]) (rest := _) d_Ma_evaluate_188 lk_Ma_52 y_Ma_combine v_Ma_combine rfl rfl rfl (by decide) rfl rfl rfl rfl (by decide) (by decide) (ct_Ma_combine hM vs ns op (by omega) w v rs.length (by omega) hw2 hv (htr _ (List.mem_cons_of_mem _ List.mem_cons_self)) (htr _ List.mem_cons_self) hw.2.1 hw.1) ?_
            rintro _ _ _ ⟨rfl, ⟨x1, y1, rfl, hy1, hx1⟩, rfl⟩
            refine qx_iincN (w := 1) (lv1 := [_, _, _, _, _, _]) d_Ma_evaluate_191 rfl rfl (by decide) rfl ?_
            refine qx_goto (t := 11) d_Ma_evaluate_194 rfl ?_
            refine qx_less (lv1 := [_, _, _, _, qdead, qdead]) ⟨Or.inr rfl, Or.inr rfl, Or.inr rfl, Or.inr rfl, Or.inl rfl, Or.inl rfl, trivial⟩ ?_
            exact ih2 _ _ (mRep_push (v := (decide (4 ≤ op), xOp op w.2 v.2)) rfl hy1 hx1 hw.2.2)
      · obtain ⟨op, x⟩ := p
        dsimp only at h10 hpc hpw
        subst h10
        subst hpc
        have hcn : (lN c).toInt.toNat = c := by rw [lN_toInt (by omega)]; rfl
        have hxs : xS row st (10, lN c) = (false, row c) :: st := by
          show (false, row (lN c).toInt.toNat) :: st = _
          rw [hcn]
        rw [hxs] at ih2 hl2
        have hl2 : st.length + 1 ≤ 8 := hl2
        refine qx_iload_n d_Ma_evaluate_11 rfl rfl ?_
        refine qx_aload_n d_Ma_evaluate_12 rfl rfl ?_
        refine qx_getI d_Ma_evaluate_13 fI_Ma_39 hx.1 hx.2.2.2.1 ((congrFun (qun (by omega)) 2).trans hlen) ?_
        refine qx_icmp_geN (t := 197) d_Ma_evaluate_16 rfl (by omega) (by omega) (fun c16 => absurd c16 (by omega)) (fun c16 => ?_)
        refine qx_aload_n d_Ma_evaluate_19 rfl rfl ?_
        refine qx_getR d_Ma_evaluate_20 fR_Ma_45 hx.1 hx.2.2.2.1 (congrFun hX 0) ?_
        refine qx_iload_n d_Ma_evaluate_23 rfl rfl ?_
        refine qx_iald d_Ma_evaluate_24 hx.2.1 hx.2.2.2.2.1 rfl rfl (by omega) ((congrFun (qun (by omega)) j).trans hpw) ?_
        refine qx_istore (lv1 := [_, _, _, _, _, _]) d_Ma_evaluate_25 (by decide) rfl ?_
        refine qx_aload_n d_Ma_evaluate_27 rfl rfl ?_
        refine qx_getR d_Ma_evaluate_28 fR_Ma_49 hx.1 hx.2.2.2.1 (congrFun hX 1) ?_
        refine qx_iload_n d_Ma_evaluate_31 rfl rfl ?_
        refine qx_iald d_Ma_evaluate_32 hx.2.2.1 hx.2.2.2.2.2.1 rfl rfl (by omega) ((congrFun (qun (by omega)) j).trans hpo) ?_
        refine qx_istore (lv1 := [_, _, _, _, _, _]) d_Ma_evaluate_33 (by decide) rfl ?_
        refine qx_iload d_Ma_evaluate_35 rfl ?_
        refine qx_bipushN (v := 10) d_Ma_evaluate_37 rfl ?_
        refine qx_icmp_neN (t := 73) d_Ma_evaluate_39 rfl (by omega) (by omega) (fun c39 => absurd rfl c39) (fun c39 => ?_)
        refine qx_iload_n d_Ma_evaluate_42 rfl rfl ?_
        refine qx_bipushN (v := 8) d_Ma_evaluate_43 rfl ?_
        refine qx_icmp_geN (t := 73) d_Ma_evaluate_45 rfl (by omega) (by omega) (fun c45 => absurd c45 (by omega)) (fun c45 => ?_)
        refine qx_aload_n d_Ma_evaluate_48 rfl rfl ?_
        refine qx_iload_n d_Ma_evaluate_49 rfl rfl ?_
        refine qx_aload_n d_Ma_evaluate_50 rfl rfl ?_
        refine qx_getR d_Ma_evaluate_51 fR_Ma_9 rfl rfl (congrFun hM 0) ?_
        refine qx_iload d_Ma_evaluate_54 rfl ?_
        refine qx_lald d_Ma_evaluate_56 rfl rfl rfl rfl (by omega) (show _ = h.2.1 60 c from rfl) ?_
        refine qx_aload_n d_Ma_evaluate_57 rfl rfl ?_
        refine qx_getR d_Ma_evaluate_58 fR_Ma_15 rfl rfl (congrFun hM 1) ?_
        refine qx_iload d_Ma_evaluate_61 rfl ?_
        refine qx_zald d_Ma_evaluate_63 rfl rfl rfl rfl (by omega) (show _ = b2i (hb c) from (hrow c hc4).1) ?_
        refine qx_callV (As := [_, _, _]) (rest := _) d_Ma_evaluate_64 lk_Ma_35 y_Ma_set v_Ma_set rfl rfl rfl (by decide) rfl rfl rfl rfl (by decide) (by decide) (ct_Ma_set hM vs ns st.length (by omega) _ _) ?_
        rintro _ _ _ ⟨rfl, rfl, rfl⟩
        refine qx_iincN (w := 1) (lv1 := [_, _, _, _, _, _]) d_Ma_evaluate_67 rfl rfl (by decide) rfl ?_
        refine qx_goto (t := 191) d_Ma_evaluate_70 rfl ?_
        refine qx_iincN (w := 1) (lv1 := [_, _, _, _, _, _]) d_Ma_evaluate_191 rfl rfl (by decide) rfl ?_
        refine qx_goto (t := 11) d_Ma_evaluate_194 rfl ?_
        refine qx_less (lv1 := [_, _, _, _, qdead, qdead]) ⟨Or.inr rfl, Or.inr rfl, Or.inr rfl, Or.inr rfl, Or.inl rfl, Or.inl rfl, trivial⟩ ?_
        refine ih2 _ _ (mRep_push (v := (false, row c)) rfl ?_ ?_ hw)
        · rw [show row c = _ from (hrow c hc4).2]
          cases hb c <;> rfl
        · intro z hz
          rw [show row c = _ from (hrow c hc4).2] at hz
          cases hbc : hb c with
          | true => rw [hbc] at hz; cases hz
          | false => rw [hbc] at hz; exact Option.some.inj hz
      · obtain ⟨op, x⟩ := p
        dsimp only at h11 hpx
        subst h11
        subst hpx
        have hxs : xS row st (11, (h.1 (e + 2) j).toInt64) = (false, some (h.1 (e + 2) j).toInt64) :: st := rfl
        rw [hxs] at ih2 hl2
        have hl2 : st.length + 1 ≤ 8 := hl2
        refine qx_iload_n d_Ma_evaluate_11 rfl rfl ?_
        refine qx_aload_n d_Ma_evaluate_12 rfl rfl ?_
        refine qx_getI d_Ma_evaluate_13 fI_Ma_39 hx.1 hx.2.2.2.1 ((congrFun (qun (by omega)) 2).trans hlen) ?_
        refine qx_icmp_geN (t := 197) d_Ma_evaluate_16 rfl (by omega) (by omega) (fun c16 => absurd c16 (by omega)) (fun c16 => ?_)
        refine qx_aload_n d_Ma_evaluate_19 rfl rfl ?_
        refine qx_getR d_Ma_evaluate_20 fR_Ma_45 hx.1 hx.2.2.2.1 (congrFun hX 0) ?_
        refine qx_iload_n d_Ma_evaluate_23 rfl rfl ?_
        refine qx_iald d_Ma_evaluate_24 hx.2.1 hx.2.2.2.2.1 rfl rfl (by omega) ((congrFun (qun (by omega)) j).trans hpw) ?_
        refine qx_istore (lv1 := [_, _, _, _, _, _]) d_Ma_evaluate_25 (by decide) rfl ?_
        refine qx_aload_n d_Ma_evaluate_27 rfl rfl ?_
        refine qx_getR d_Ma_evaluate_28 fR_Ma_49 hx.1 hx.2.2.2.1 (congrFun hX 1) ?_
        refine qx_iload_n d_Ma_evaluate_31 rfl rfl ?_
        refine qx_iald d_Ma_evaluate_32 hx.2.2.1 hx.2.2.2.2.2.1 rfl rfl (by omega) (congrFun (qun (by omega)) j) ?_
        refine qx_istore (lv1 := [_, _, _, _, _, _]) d_Ma_evaluate_33 (by decide) rfl ?_
        refine qx_iload d_Ma_evaluate_35 rfl ?_
        refine qx_bipushN (v := 10) d_Ma_evaluate_37 rfl ?_
        refine qx_icmp_neN (t := 73) d_Ma_evaluate_39 rfl (by omega) (by omega) (fun c39 => ?_) (fun c39 => absurd c39 (by decide))
        refine qx_iload d_Ma_evaluate_73 rfl ?_
        refine qx_bipushN (v := 11) d_Ma_evaluate_75 rfl ?_
        refine qx_icmp_neN (t := 101) d_Ma_evaluate_77 rfl (by omega) (by omega) (fun c77 => absurd rfl c77) (fun c77 => ?_)
        refine qx_iload_n d_Ma_evaluate_80 rfl rfl ?_
        refine qx_bipushN (v := 8) d_Ma_evaluate_81 rfl ?_
        refine qx_icmp_geN (t := 101) d_Ma_evaluate_83 rfl (by omega) (by omega) (fun c83 => absurd c83 (by omega)) (fun c83 => ?_)
        refine qx_aload_n d_Ma_evaluate_86 rfl rfl ?_
        refine qx_iload_n d_Ma_evaluate_87 rfl rfl ?_
        refine qx_iload d_Ma_evaluate_88 rfl ?_
        refine qx_i2l d_Ma_evaluate_90 ?_
        refine qx_iconst (v := b2i false) d_Ma_evaluate_91 rfl ?_
        refine qx_callV (As := [_, _, _]) (rest := _) d_Ma_evaluate_92 lk_Ma_35 y_Ma_set v_Ma_set rfl rfl rfl (by decide) rfl rfl rfl rfl (by decide) (by decide) (ct_Ma_set hM vs ns st.length (by omega) _ false) ?_
        rintro _ _ _ ⟨rfl, rfl, rfl⟩
        refine qx_iincN (w := 1) (lv1 := [_, _, _, _, _, _]) d_Ma_evaluate_95 rfl rfl (by decide) rfl ?_
        refine qx_goto (t := 191) d_Ma_evaluate_98 rfl ?_
        refine qx_iincN (w := 1) (lv1 := [_, _, _, _, _, _]) d_Ma_evaluate_191 rfl rfl (by decide) rfl ?_
        refine qx_goto (t := 11) d_Ma_evaluate_194 rfl ?_
        refine qx_less (lv1 := [_, _, _, _, qdead, qdead]) ⟨Or.inr rfl, Or.inr rfl, Or.inr rfl, Or.inr rfl, Or.inl rfl, Or.inl rfl, trivial⟩ ?_
        exact ih2 _ _ (mRep_push (v := (false, some (h.1 (e + 2) j).toInt64)) rfl rfl (fun z hz => Option.some.inj hz) hw)
  refine qx_aload_n d_Ma_evaluate_0 rfl rfl ?_
  refine qx_iconstN (v := 0) d_Ma_evaluate_1 rfl ?_
  refine qx_lconst (v := 0) d_Ma_evaluate_2 rfl ?_
  refine qx_iconst (v := b2i true) d_Ma_evaluate_3 rfl ?_
  refine qx_callV (As := [_, _, _]) (rest := _) d_Ma_evaluate_4 lk_Ma_35 y_Ma_set v_Ma_set rfl rfl rfl (by decide) rfl rfl rfl rfl (by decide) (by decide) (ct_Ma_set hM vs ns 0 (by omega) _ true) ?_
  rintro _ _ _ ⟨rfl, rfl, rfl⟩
  refine qx_iconstN (v := 0) d_Ma_evaluate_7 rfl ?_
  refine qx_istore_n (lv1 := [_, _, _, _, _, _]) d_Ma_evaluate_8 rfl (by decide) rfl ?_
  refine qx_iconstN (v := 0) d_Ma_evaluate_9 rfl ?_
  refine qx_istore_n (lv1 := [_, _, _, _, _, _]) d_Ma_evaluate_10 rfl (by decide) rfl ?_
  exact key E 0 [] _ _ (by omega) hex trivial (fun v hv => by cases hv) (Nat.zero_le _) hty rfl
