/-- how the reference holds a part, and an expression from place b on -/
def rPart (w : Int32) (x : Int64) (p : xP) : Prop := (p.1 < 10 ∧ w = nI p.1) ∨ (p.1 = 10 ∧ ∃ c, c < 4 ∧ p.2 = lN c ∧ w = nI (20 + c)) ∨ (p.1 = 11 ∧ w = nI 30 ∧ x = p.2)
def rExp (pr : Nat → Int32) (pv : Nat → Int64) (b : Nat) : List xP → Prop
  | [] => True
  | p :: e => rPart (pr b) (pv b) p ∧ rExp pr pv (b + 1) e
theorem xT1_len {m : Nat} {ts ts' : List Bool} {p : xP} (hl : ts.length ≤ m) (h : xT1 m ts p = some ts') : ts'.length ≤ m := by
  unfold xT1 at h
  by_cases h10 : p.1 = 10
  · rw [if_pos h10] at h
    split at h
    · next hc => cases h; exact hc.2.2
    · cases h
  · rw [if_neg h10] at h
    by_cases h11 : p.1 = 11
    · rw [if_pos h11] at h
      split at h
      · next hc => cases h; exact hc
      · cases h
    · rw [if_neg h11] at h
      cases ts with
      | nil => cases h
      | cons t r =>
        have hl : r.length + 1 ≤ m := hl
        dsimp only at h
        by_cases h8 : p.1 = 8
        · rw [if_pos h8] at h
          split at h
          · cases h; exact hl
          · cases h
        · rw [if_neg h8] at h
          by_cases h9 : p.1 = 9
          · rw [if_pos h9] at h
            split at h
            · cases h; exact hl
            · cases h
          · rw [if_neg h9] at h
            cases r with
            | nil => cases h
            | cons u r =>
              have hl : r.length + 1 + 1 ≤ m := hl
              dsimp only at h
              split at h
              · cases h; show r.length + 1 ≤ m; omega
              · cases h
/-- what a well made part finds on the stack -/
theorem xT1_un {m : Nat} {st : List xV} {p : xP} {ts : List Bool} (h : xT1 m (st.map (fun v => v.1)) p = some ts) (hp : p.1 = 8 ∨ p.1 = 9) : ∃ v r, st = v :: r ∧ v.1 = decide (p.1 = 8) := by
  cases st with
  | nil => rcases hp with e | e <;> simp [xT1, e] at h
  | cons v r =>
    refine ⟨v, r, rfl, ?_⟩
    rcases hp with e | e
    · simp [xT1, e] at h
      simp [e, h.1]
    · simp [xT1, e] at h
      simp [e, h.1]
theorem xT1_bin {m : Nat} {st : List xV} {p : xP} {ts : List Bool} (h : xT1 m (st.map (fun v => v.1)) p = some ts) (hp : p.1 < 8) : ∃ v w r, st = v :: w :: r ∧ v.1 = decide (6 ≤ p.1) ∧ w.1 = decide (6 ≤ p.1) := by
  have h10 : ¬ p.1 = 10 := by omega
  have h11 : ¬ p.1 = 11 := by omega
  have h8 : ¬ p.1 = 8 := by omega
  have h9 : ¬ p.1 = 9 := by omega
  cases st with
  | nil => simp [xT1, h10, h11] at h
  | cons v r =>
    cases r with
    | nil => simp [xT1, h10, h11, h8, h9] at h
    | cons w r =>
      refine ⟨v, w, r, rfl, ?_⟩
      simp only [xT1, h10, h11, h8, h9, if_false, List.map_cons] at h
      split at h
      · next hc => exact hc.2
      · cases h
set_option maxRecDepth 100000 in
set_option maxHeartbeats 4000000 in
theorem ct_QM_evaluate {h : qH} (hR : h.2.2 122 = qRQM) (wk : Nat → Int64) (wn : Nat → Int32) (e : Nat) (he : e < 17) (E : List xP) (hE : E.length ≤ 24) (hsz : h.1 128 e = nI E.length) (hex : rExp (h.1 126) (h.2.1 127) (24 * e) E) (m : Nat) (hm : m ≤ 23) (ts : List Bool) (hty : xT m [] E = some ts) (row : Nat → Option Int64) (hb : Nat → Bool) (hrow : ∀ c, c < 4 → h.1 134 c = b2i (hb c) ∧ row c = if hb c = true then none else some (h.2.1 133 c)) :
    qT mi_QM_evaluate 2 0 0 [.ref 122, .int (nI e)] (eR h wk wn) NN (fun v1 h1 n1 => v1 = none ∧ (∃ wk1 wn1, h1 = eR h wk1 wn1 ∧ wRep wk1 wn1 (xE row [] E)) ∧ n1 = NN) := by
  refine qT.of (lv0 := [_, _, _, _, _]) (by decide +kernel) (fun _ _ => Nat.le_of_ble_eq_true rfl) rfl ?_
  have key : ∀ (E2 : List xP) (j : Nat) (st : List xV) (wk : Nat → Int64) (wn : Nat → Int32), j + E2.length = E.length → rExp (h.1 126) (h.2.1 127) (24 * e + j) E2 → wRep wk wn st → (∀ v ∈ st, xTr v) → st.length ≤ m → xT m (st.map (fun v => v.1)) E2 = some ts → xE row st E2 = xE row [] E →
      qX mi_QM_evaluate 2 none 0 0 7 [.ref 122, .int (nI e), .int (nI st.length), .int (nI (24 * e + j)), qdead] [] (eR h wk wn) NN 0 0 (fun v1 h1 n1 => v1 = none ∧ (∃ wk1 wn1, h1 = eR h wk1 wn1 ∧ wRep wk1 wn1 (xE row [] E)) ∧ n1 = NN) := by
    intro E2
    induction E2 with
    | nil =>
      intro j st wk wn hj hre hw htr hlm htt htg
      have hj : j = E.length := hj
      refine qx_iload_n d_QM_evaluate_7 rfl rfl ?_
      refine qx_bipushN (v := 24) d_QM_evaluate_8 rfl ?_
      refine qx_iload_n d_QM_evaluate_10 rfl rfl ?_
      refine qx_imulN d_QM_evaluate_11 ?_
      refine qx_aload_n d_QM_evaluate_12 rfl rfl ?_
      refine qx_getR d_QM_evaluate_13 fR_QM_27 rfl rfl (congrFun hR 18) ?_
      refine qx_iload_n d_QM_evaluate_16 rfl rfl ?_
      refine qx_iald d_QM_evaluate_17 rfl rfl rfl rfl (by omega) hsz ?_
      refine qx_iaddN d_QM_evaluate_18 ?_
      refine qx_icmp_geN (t := 177) d_QM_evaluate_19 rfl (by omega) (by omega) (fun c19 => ?_) (fun c19 => absurd c19 (by omega))
      exact qx_ret d_QM_evaluate_177 rfl (by omega) (by omega) ⟨rfl, ⟨wk, wn, rfl, by rw [← htg]; exact hw⟩, rfl⟩
    | cons p E2 ih =>
      intro j st wk wn hj hre hw htr hlm htt htg
      have hj : j + (E2.length + 1) = E.length := hj
      obtain ⟨hp, hre⟩ := hre
      have htt : (xT1 m (st.map (fun v => v.1)) p).bind (fun ts => xT m ts E2) = some ts := htt
      obtain ⟨ts1, ht1, ht2⟩ : ∃ ts1, xT1 m (st.map (fun v => v.1)) p = some ts1 ∧ xT m ts1 E2 = some ts := by
        cases hx : xT1 m (st.map (fun v => v.1)) p with
        | none => rw [hx] at htt; cases htt
        | some ts1 => rw [hx] at htt; exact ⟨ts1, rfl, htt⟩
      have hl2 : (xS row st p).length ≤ m := by
        have := xT1_len (by rw [List.length_map]; exact hlm) ht1
        rw [← xS_ty (row := row) ht1, List.length_map] at this
        exact this
      have htr2 := xS_tr (row := row) ht1 htr
      have ht3 : xT m ((xS row st p).map (fun v => v.1)) E2 = some ts := by rw [xS_ty ht1]; exact ht2
      have htg2 : xE row (xS row st p) E2 = xE row [] E := htg
      have ih2 := fun wk wn h => ih (j + 1) (xS row st p) wk wn (by omega) hre h htr2 hl2 ht3 htg2
      clear ih
      rcases hp with ⟨h10, hpw⟩ | ⟨h10, c, hc4, hpc, hpw⟩ | ⟨h11, hpw, hpx⟩
      · by_cases h8 : p.1 = 8
        · obtain ⟨v, rs, rfl, hv⟩ := xT1_un ht1 (Or.inl h8)
          obtain ⟨op, x⟩ := p
          dsimp only at h8 hpw hv h10
          subst h8
          have hxs : xS row (v :: rs) (8, x) = (true, v.2.map (fun x => 1 - x)) :: rs := rfl
          rw [hxs] at ih2
          have hlm : rs.length + 1 ≤ m := hlm
          refine qx_iload_n d_QM_evaluate_7 rfl rfl ?_
          refine qx_bipushN (v := 24) d_QM_evaluate_8 rfl ?_
          refine qx_iload_n d_QM_evaluate_10 rfl rfl ?_
          refine qx_imulN d_QM_evaluate_11 ?_
          refine qx_aload_n d_QM_evaluate_12 rfl rfl ?_
          refine qx_getR d_QM_evaluate_13 fR_QM_27 rfl rfl (congrFun hR 18) ?_
          refine qx_iload_n d_QM_evaluate_16 rfl rfl ?_
          refine qx_iald d_QM_evaluate_17 rfl rfl rfl rfl (by omega) hsz ?_
          refine qx_iaddN d_QM_evaluate_18 ?_
          refine qx_icmp_geN (t := 177) d_QM_evaluate_19 rfl (by omega) (by omega) (fun c19 => absurd c19 (by omega)) (fun c19 => ?_)
          refine qx_aload_n d_QM_evaluate_22 rfl rfl ?_
          refine qx_getR d_QM_evaluate_23 fR_QM_21 rfl rfl (congrFun hR 16) ?_
          refine qx_iload_n d_QM_evaluate_26 rfl rfl ?_
          refine qx_iald d_QM_evaluate_27 rfl rfl rfl rfl (by omega) hpw ?_
          refine qx_istore (lv1 := [_, _, _, _, _]) d_QM_evaluate_28 (by decide) rfl ?_
          refine qx_iload d_QM_evaluate_30 rfl ?_
          refine qx_bipushN (v := 30) d_QM_evaluate_32 rfl ?_
          refine qx_icmp_ltN (t := 55) d_QM_evaluate_34 rfl (by omega) (by omega) (fun c34 => ?_) (fun c34 => absurd c34 (by omega))
          refine qx_iload d_QM_evaluate_55 rfl ?_
          refine qx_bipushN (v := 20) d_QM_evaluate_57 rfl ?_
          refine qx_icmp_ltN (t := 93) d_QM_evaluate_59 rfl (by omega) (by omega) (fun c59 => ?_) (fun c59 => absurd c59 (by omega))
          refine qx_iload d_QM_evaluate_93 rfl ?_
          refine qx_bipushN (v := 8) d_QM_evaluate_95 rfl ?_
          refine qx_icmp_neN (t := 123) d_QM_evaluate_97 rfl (by omega) (by omega) (fun c97 => absurd rfl c97) (fun c97 => ?_)
          refine qx_aload_n d_QM_evaluate_100 rfl rfl ?_
          refine qx_iload_n d_QM_evaluate_101 rfl rfl ?_
          refine qx_iconstN (v := 1) d_QM_evaluate_102 rfl ?_
          refine qx_isubN d_QM_evaluate_103 (by show 1 ≤ rs.length + 1; omega) ?_
          refine qx_ldc2 d_QM_evaluate_104 kl_QM_175 ?_
          refine qx_aload_n d_QM_evaluate_107 rfl rfl ?_
          refine qx_getR d_QM_evaluate_108 fR_QM_36 rfl rfl (congrFun hR 21) ?_
          refine qx_iload_n d_QM_evaluate_111 rfl rfl ?_
          refine qx_iconstN (v := 1) d_QM_evaluate_112 rfl ?_
          refine qx_isubN d_QM_evaluate_113 (by show 1 ≤ rs.length + 1; omega) ?_
          refine qx_lald (j := rs.length) d_QM_evaluate_114 rfl rfl rfl rfl (by omega) hw.1 ?_
          refine qx_lsub d_QM_evaluate_115 ?_
          refine qx_iconst (v := b2i false) d_QM_evaluate_116 rfl ?_
          refine qx_callV (As := [_, _, _]) (rest := _) d_QM_evaluate_117 lk_QM_171 y_QM_set v_QM_set rfl rfl rfl (by decide) rfl rfl rfl rfl (by decide) (by decide) (ct_QM_set hR wk wn rs.length (by omega) _ false) ?_
          rintro _ _ _ ⟨rfl, rfl, rfl⟩
          refine qx_goto (t := 171) d_QM_evaluate_120 rfl ?_
          refine qx_iincN (w := 1) (lv1 := [_, _, _, _, _]) d_QM_evaluate_171 rfl rfl (by decide) rfl ?_
          refine qx_goto (t := 7) d_QM_evaluate_174 rfl ?_
          refine qx_less (lv1 := [_, _, _, _, qdead]) ⟨Or.inr rfl, Or.inr rfl, Or.inr rfl, Or.inr rfl, Or.inl rfl, trivial⟩ ?_
          refine ih2 _ _ ?_
          have hq : (if (false : Bool) = true then 0 else 2 - rvV v) = rvV (true, v.2.map (fun x => 1 - x)) := by
            obtain ⟨vt, vo⟩ := v
            have hv2 : vt = true := hv
            subst hv2
            rcases htr _ List.mem_cons_self rfl with q | q | q <;> (dsimp only at q; subst q; first | rfl | decide)
          rw [hq]
          exact wRep_push (v := (true, v.2.map (fun x => 1 - x))) rfl hw.2.2
        · by_cases h9 : p.1 = 9
          · obtain ⟨v, rs, rfl, hv⟩ := xT1_un ht1 (Or.inr h9)
            obtain ⟨op, x⟩ := p
            dsimp only at h9 hpw hv h10
            subst h9
            have hxs : xS row (v :: rs) (9, x) = (true, some (if v.2 = none then 1 else 0)) :: rs := rfl
            rw [hxs] at ih2
            have hlm : rs.length + 1 ≤ m := hlm
            refine qx_iload_n d_QM_evaluate_7 rfl rfl ?_
            refine qx_bipushN (v := 24) d_QM_evaluate_8 rfl ?_
            refine qx_iload_n d_QM_evaluate_10 rfl rfl ?_
            refine qx_imulN d_QM_evaluate_11 ?_
            refine qx_aload_n d_QM_evaluate_12 rfl rfl ?_
            refine qx_getR d_QM_evaluate_13 fR_QM_27 rfl rfl (congrFun hR 18) ?_
            refine qx_iload_n d_QM_evaluate_16 rfl rfl ?_
            refine qx_iald d_QM_evaluate_17 rfl rfl rfl rfl (by omega) hsz ?_
            refine qx_iaddN d_QM_evaluate_18 ?_
            refine qx_icmp_geN (t := 177) d_QM_evaluate_19 rfl (by omega) (by omega) (fun c19 => absurd c19 (by omega)) (fun c19 => ?_)
            refine qx_aload_n d_QM_evaluate_22 rfl rfl ?_
            refine qx_getR d_QM_evaluate_23 fR_QM_21 rfl rfl (congrFun hR 16) ?_
            refine qx_iload_n d_QM_evaluate_26 rfl rfl ?_
            refine qx_iald d_QM_evaluate_27 rfl rfl rfl rfl (by omega) hpw ?_
            refine qx_istore (lv1 := [_, _, _, _, _]) d_QM_evaluate_28 (by decide) rfl ?_
            refine qx_iload d_QM_evaluate_30 rfl ?_
            refine qx_bipushN (v := 30) d_QM_evaluate_32 rfl ?_
            refine qx_icmp_ltN (t := 55) d_QM_evaluate_34 rfl (by omega) (by omega) (fun c34 => ?_) (fun c34 => absurd c34 (by omega))
            refine qx_iload d_QM_evaluate_55 rfl ?_
            refine qx_bipushN (v := 20) d_QM_evaluate_57 rfl ?_
            refine qx_icmp_ltN (t := 93) d_QM_evaluate_59 rfl (by omega) (by omega) (fun c59 => ?_) (fun c59 => absurd c59 (by omega))
            refine qx_iload d_QM_evaluate_93 rfl ?_
            refine qx_bipushN (v := 8) d_QM_evaluate_95 rfl ?_
            refine qx_icmp_neN (t := 123) d_QM_evaluate_97 rfl (by omega) (by omega) (fun c97 => ?_) (fun c97 => absurd c97 (by decide))
            refine qx_iload d_QM_evaluate_123 rfl ?_
            refine qx_bipushN (v := 9) d_QM_evaluate_125 rfl ?_
            refine qx_icmp_neN (t := 159) d_QM_evaluate_127 rfl (by omega) (by omega) (fun c127 => absurd rfl c127) (fun c127 => ?_)
            refine qx_aload_n d_QM_evaluate_130 rfl rfl ?_
            refine qx_iload_n d_QM_evaluate_131 rfl rfl ?_
            refine qx_iconstN (v := 1) d_QM_evaluate_132 rfl ?_
            refine qx_isubN d_QM_evaluate_133 (by show 1 ≤ rs.length + 1; omega) ?_
            refine qx_aload_n d_QM_evaluate_134 rfl rfl ?_
            refine qx_getR d_QM_evaluate_135 fR_QM_39 rfl rfl (congrFun hR 22) ?_
            refine qx_iload_n d_QM_evaluate_138 rfl rfl ?_
            refine qx_iconstN (v := 1) d_QM_evaluate_139 rfl ?_
            refine qx_isubN d_QM_evaluate_140 (by show 1 ≤ rs.length + 1; omega) ?_
            refine qx_zald (j := rs.length) d_QM_evaluate_141 rfl rfl rfl rfl (by omega) hw.2.1 ?_
            refine qx_if_eqB (t := 151) d_QM_evaluate_142 rfl (fun c142 => ?_) (fun c142 => ?_)
            · refine qx_lconst (v := 0) d_QM_evaluate_151 rfl ?_
              refine qx_iconst (v := b2i false) d_QM_evaluate_152 rfl ?_
              refine qx_callV (As := [_, _, _]) (rest := _) d_QM_evaluate_153 lk_QM_171 y_QM_set v_QM_set rfl rfl rfl (by decide) rfl rfl rfl rfl (by decide) (by decide) (ct_QM_set hR wk wn rs.length (by omega) _ false) ?_
              rintro _ _ _ ⟨rfl, rfl, rfl⟩
              refine qx_goto (t := 171) d_QM_evaluate_156 rfl ?_
              refine qx_iincN (w := 1) (lv1 := [_, _, _, _, _]) d_QM_evaluate_171 rfl rfl (by decide) rfl ?_
              refine qx_goto (t := 7) d_QM_evaluate_174 rfl ?_
              refine qx_less (lv1 := [_, _, _, _, qdead]) ⟨Or.inr rfl, Or.inr rfl, Or.inr rfl, Or.inr rfl, Or.inl rfl, trivial⟩ ?_
              refine ih2 _ _ ?_
              have hvn : rvN v = v.2.isNone := by
                unfold rvN
                rw [hv]
                rfl
              rw [hvn] at c142
              have hq : rvV (true, some (if v.2 = none then 1 else 0)) = (if (false : Bool) = true then 0 else (if v.2.isNone = true then 2 else 0)) := by
                cases v.2 <;> rfl
              first
                | (have q := wRep_push (v := (true, some (if v.2 = none then 1 else 0))) rfl hw.2.2; rw [hq, c142] at q; exact q)
            · refine qx_ldc2 d_QM_evaluate_145 kl_QM_175 ?_
              refine qx_goto (t := 152) d_QM_evaluate_148 rfl ?_
              refine qx_iconst (v := b2i false) d_QM_evaluate_152 rfl ?_
              refine qx_callV (As := [_, _, _]) (rest := _) d_QM_evaluate_153 lk_QM_171 y_QM_set v_QM_set rfl rfl rfl (by decide) rfl rfl rfl rfl (by decide) (by decide) (ct_QM_set hR wk wn rs.length (by omega) _ false) ?_
              rintro _ _ _ ⟨rfl, rfl, rfl⟩
              refine qx_goto (t := 171) d_QM_evaluate_156 rfl ?_
              refine qx_iincN (w := 1) (lv1 := [_, _, _, _, _]) d_QM_evaluate_171 rfl rfl (by decide) rfl ?_
              refine qx_goto (t := 7) d_QM_evaluate_174 rfl ?_
              refine qx_less (lv1 := [_, _, _, _, qdead]) ⟨Or.inr rfl, Or.inr rfl, Or.inr rfl, Or.inr rfl, Or.inl rfl, trivial⟩ ?_
              refine ih2 _ _ ?_
              have hvn : rvN v = v.2.isNone := by
                unfold rvN
                rw [hv]
                rfl
              rw [hvn] at c142
              have hq : rvV (true, some (if v.2 = none then 1 else 0)) = (if (false : Bool) = true then 0 else (if v.2.isNone = true then 2 else 0)) := by
                cases v.2 <;> rfl
              first
                | (have q := wRep_push (v := (true, some (if v.2 = none then 1 else 0))) rfl hw.2.2; rw [hq, c142] at q; exact q)
          · obtain ⟨v, w, rs, rfl, hv, hw2⟩ := xT1_bin ht1 (by omega)
            obtain ⟨op, x⟩ := p
            dsimp only at h8 h9 hpw hv hw2 h10
            have hxs : xS row (v :: w :: rs) (op, x) = (decide (4 ≤ op), xOp op w.2 v.2) :: rs := by
              have h10' : ¬ op = 10 := by omega
              have h11' : ¬ op = 11 := by omega
              simp only [xS, h10', h11', h8, h9, if_false]
            rw [hxs] at ih2
            have hlm : rs.length + 1 + 1 ≤ m := hlm
            refine qx_iload_n d_QM_evaluate_7 rfl rfl ?_
            refine qx_bipushN (v := 24) d_QM_evaluate_8 rfl ?_
            refine qx_iload_n d_QM_evaluate_10 rfl rfl ?_
            refine qx_imulN d_QM_evaluate_11 ?_
            refine qx_aload_n d_QM_evaluate_12 rfl rfl ?_
            refine qx_getR d_QM_evaluate_13 fR_QM_27 rfl rfl (congrFun hR 18) ?_
            refine qx_iload_n d_QM_evaluate_16 rfl rfl ?_
            refine qx_iald d_QM_evaluate_17 rfl rfl rfl rfl (by omega) hsz ?_
            refine qx_iaddN d_QM_evaluate_18 ?_
            refine qx_icmp_geN (t := 177) d_QM_evaluate_19 rfl (by omega) (by omega) (fun c19 => absurd c19 (by omega)) (fun c19 => ?_)
            refine qx_aload_n d_QM_evaluate_22 rfl rfl ?_
            refine qx_getR d_QM_evaluate_23 fR_QM_21 rfl rfl (congrFun hR 16) ?_
            refine qx_iload_n d_QM_evaluate_26 rfl rfl ?_
            refine qx_iald d_QM_evaluate_27 rfl rfl rfl rfl (by omega) hpw ?_
            refine qx_istore (lv1 := [_, _, _, _, _]) d_QM_evaluate_28 (by decide) rfl ?_
            refine qx_iload d_QM_evaluate_30 rfl ?_
            refine qx_bipushN (v := 30) d_QM_evaluate_32 rfl ?_
            refine qx_icmp_ltN (t := 55) d_QM_evaluate_34 rfl (by omega) (by omega) (fun c34 => ?_) (fun c34 => absurd c34 (by omega))
            refine qx_iload d_QM_evaluate_55 rfl ?_
            refine qx_bipushN (v := 20) d_QM_evaluate_57 rfl ?_
            refine qx_icmp_ltN (t := 93) d_QM_evaluate_59 rfl (by omega) (by omega) (fun c59 => ?_) (fun c59 => absurd c59 (by omega))
            refine qx_iload d_QM_evaluate_93 rfl ?_
            refine qx_bipushN (v := 8) d_QM_evaluate_95 rfl ?_
            refine qx_icmp_neN (t := 123) d_QM_evaluate_97 rfl (by omega) (by omega) (fun c97 => ?_) (fun c97 => absurd c97 (by omega))
            refine qx_iload d_QM_evaluate_123 rfl ?_
            refine qx_bipushN (v := 9) d_QM_evaluate_125 rfl ?_
            refine qx_icmp_neN (t := 159) d_QM_evaluate_127 rfl (by omega) (by omega) (fun c127 => ?_) (fun c127 => absurd c127 (by omega))
            refine qx_idecN (lv1 := [_, _, _, _, _]) d_QM_evaluate_159 rfl (by decide) rfl ?_
            refine qx_aload_n d_QM_evaluate_162 rfl rfl ?_
            refine qx_iload d_QM_evaluate_163 rfl ?_
            refine qx_iload_n d_QM_evaluate_165 rfl rfl ?_
            refine qx_iconstN (v := 1) d_QM_evaluate_166 rfl ?_
            refine qx_isubN d_QM_evaluate_167 (by show 1 ≤ rs.length + 1; omega) ?_
            refine qx_callV (As := [_, _]) (rest := _) d_QM_evaluate_168 lk_QM_177 y_QM_calculate v_QM_calculate rfl rfl rfl (by decide) rfl rfl rfl rfl (by decide) (by decide) (ct_QM_calculate hR wk wn op (by omega) w v rs (by omega) hw2 hv (htr _ (List.mem_cons_of_mem _ List.mem_cons_self)) (htr _ List.mem_cons_self) hw) ?_
            rintro _ _ _ ⟨rfl, rfl, rfl⟩
            refine qx_iincN (w := 1) (lv1 := [_, _, _, _, _]) d_QM_evaluate_171 rfl rfl (by decide) rfl ?_
            refine qx_goto (t := 7) d_QM_evaluate_174 rfl ?_
            refine qx_less (lv1 := [_, _, _, _, qdead]) ⟨Or.inr rfl, Or.inr rfl, Or.inr rfl, Or.inr rfl, Or.inl rfl, trivial⟩ ?_
            exact ih2 _ _ (wRep_push rfl hw.2.2.2.2)
      · obtain ⟨op, x⟩ := p
        dsimp only at h10 hpc hpw
        subst h10
        subst hpc
        have hcn : (lN c).toInt.toNat = c := by rw [lN_toInt (by omega)]; rfl
        have hxs : xS row st (10, lN c) = (false, row c) :: st := by
          show (false, row (lN c).toInt.toNat) :: st = _
          rw [hcn]
        rw [hxs] at ih2 hl2
        have hl2 : st.length + 1 ≤ m := hl2
        refine qx_iload_n d_QM_evaluate_7 rfl rfl ?_
        refine qx_bipushN (v := 24) d_QM_evaluate_8 rfl ?_
        refine qx_iload_n d_QM_evaluate_10 rfl rfl ?_
        refine qx_imulN d_QM_evaluate_11 ?_
        refine qx_aload_n d_QM_evaluate_12 rfl rfl ?_
        refine qx_getR d_QM_evaluate_13 fR_QM_27 rfl rfl (congrFun hR 18) ?_
        refine qx_iload_n d_QM_evaluate_16 rfl rfl ?_
        refine qx_iald d_QM_evaluate_17 rfl rfl rfl rfl (by omega) hsz ?_
        refine qx_iaddN d_QM_evaluate_18 ?_
        refine qx_icmp_geN (t := 177) d_QM_evaluate_19 rfl (by omega) (by omega) (fun c19 => absurd c19 (by omega)) (fun c19 => ?_)
        refine qx_aload_n d_QM_evaluate_22 rfl rfl ?_
        refine qx_getR d_QM_evaluate_23 fR_QM_21 rfl rfl (congrFun hR 16) ?_
        refine qx_iload_n d_QM_evaluate_26 rfl rfl ?_
        refine qx_iald d_QM_evaluate_27 rfl rfl rfl rfl (by omega) hpw ?_
        refine qx_istore (lv1 := [_, _, _, _, _]) d_QM_evaluate_28 (by decide) rfl ?_
        refine qx_iload d_QM_evaluate_30 rfl ?_
        refine qx_bipushN (v := 30) d_QM_evaluate_32 rfl ?_
        refine qx_icmp_ltN (t := 55) d_QM_evaluate_34 rfl (by omega) (by omega) (fun c34 => ?_) (fun c34 => absurd c34 (by omega))
        refine qx_iload d_QM_evaluate_55 rfl ?_
        refine qx_bipushN (v := 20) d_QM_evaluate_57 rfl ?_
        refine qx_icmp_ltN (t := 93) d_QM_evaluate_59 rfl (by omega) (by omega) (fun c59 => absurd c59 (by omega)) (fun c59 => ?_)
        refine qx_aload_n d_QM_evaluate_62 rfl rfl ?_
        refine qx_iload_n d_QM_evaluate_63 rfl rfl ?_
        refine qx_aload_n d_QM_evaluate_64 rfl rfl ?_
        refine qx_getR d_QM_evaluate_65 fR_QM_42 rfl rfl (congrFun hR 23) ?_
        refine qx_iload d_QM_evaluate_68 rfl ?_
        refine qx_bipushN (v := 20) d_QM_evaluate_70 rfl ?_
        refine qx_isubN d_QM_evaluate_72 (by omega) ?_
        refine qx_lald d_QM_evaluate_73 rfl rfl rfl rfl (by omega) (show _ = h.2.1 133 c from (by rw [Nat.add_sub_cancel_left]; rfl)) ?_
        refine qx_aload_n d_QM_evaluate_74 rfl rfl ?_
        refine qx_getR d_QM_evaluate_75 fR_QM_45 rfl rfl (congrFun hR 24) ?_
        refine qx_iload d_QM_evaluate_78 rfl ?_
        refine qx_bipushN (v := 20) d_QM_evaluate_80 rfl ?_
        refine qx_isubN d_QM_evaluate_82 (by omega) ?_
        refine qx_zald d_QM_evaluate_83 rfl rfl rfl rfl (by omega) (show _ = b2i (hb c) from (by rw [Nat.add_sub_cancel_left]; exact (hrow c hc4).1)) ?_
        refine qx_callV (As := [_, _, _]) (rest := _) d_QM_evaluate_84 lk_QM_171 y_QM_set v_QM_set rfl rfl rfl (by decide) rfl rfl rfl rfl (by decide) (by decide) (ct_QM_set hR wk wn st.length (by omega) _ _) ?_
        rintro _ _ _ ⟨rfl, rfl, rfl⟩
        refine qx_iincN (w := 1) (lv1 := [_, _, _, _, _]) d_QM_evaluate_87 rfl rfl (by decide) rfl ?_
        refine qx_goto (t := 171) d_QM_evaluate_90 rfl ?_
        refine qx_iincN (w := 1) (lv1 := [_, _, _, _, _]) d_QM_evaluate_171 rfl rfl (by decide) rfl ?_
        refine qx_goto (t := 7) d_QM_evaluate_174 rfl ?_
        refine qx_less (lv1 := [_, _, _, _, qdead]) ⟨Or.inr rfl, Or.inr rfl, Or.inr rfl, Or.inr rfl, Or.inl rfl, trivial⟩ ?_
        refine ih2 _ _ ?_
        have hq := (hrow c hc4).2
        cases hbc : hb c with
        | true =>
          rw [hbc] at hq
          rw [show row c = none from hq]
          exact wRep_push (v := (false, none)) rfl hw
        | false =>
          rw [hbc] at hq
          rw [show row c = some _ from hq]
          exact wRep_push (v := (false, some _)) rfl hw
      · obtain ⟨op, x⟩ := p
        dsimp only at h11 hpx
        subst h11
        subst hpx
        have hxs : xS row st (11, h.2.1 127 (24 * e + j)) = (false, some (h.2.1 127 (24 * e + j))) :: st := rfl
        rw [hxs] at ih2 hl2
        have hl2 : st.length + 1 ≤ m := hl2
        refine qx_iload_n d_QM_evaluate_7 rfl rfl ?_
        refine qx_bipushN (v := 24) d_QM_evaluate_8 rfl ?_
        refine qx_iload_n d_QM_evaluate_10 rfl rfl ?_
        refine qx_imulN d_QM_evaluate_11 ?_
        refine qx_aload_n d_QM_evaluate_12 rfl rfl ?_
        refine qx_getR d_QM_evaluate_13 fR_QM_27 rfl rfl (congrFun hR 18) ?_
        refine qx_iload_n d_QM_evaluate_16 rfl rfl ?_
        refine qx_iald d_QM_evaluate_17 rfl rfl rfl rfl (by omega) hsz ?_
        refine qx_iaddN d_QM_evaluate_18 ?_
        refine qx_icmp_geN (t := 177) d_QM_evaluate_19 rfl (by omega) (by omega) (fun c19 => absurd c19 (by omega)) (fun c19 => ?_)
        refine qx_aload_n d_QM_evaluate_22 rfl rfl ?_
        refine qx_getR d_QM_evaluate_23 fR_QM_21 rfl rfl (congrFun hR 16) ?_
        refine qx_iload_n d_QM_evaluate_26 rfl rfl ?_
        refine qx_iald d_QM_evaluate_27 rfl rfl rfl rfl (by omega) hpw ?_
        refine qx_istore (lv1 := [_, _, _, _, _]) d_QM_evaluate_28 (by decide) rfl ?_
        refine qx_iload d_QM_evaluate_30 rfl ?_
        refine qx_bipushN (v := 30) d_QM_evaluate_32 rfl ?_
        refine qx_icmp_ltN (t := 55) d_QM_evaluate_34 rfl (by omega) (by omega) (fun c34 => absurd c34 (by omega)) (fun c34 => ?_)
        refine qx_aload_n d_QM_evaluate_37 rfl rfl ?_
        refine qx_iload_n d_QM_evaluate_38 rfl rfl ?_
        refine qx_aload_n d_QM_evaluate_39 rfl rfl ?_
        refine qx_getR d_QM_evaluate_40 fR_QM_24 rfl rfl (congrFun hR 17) ?_
        refine qx_iload_n d_QM_evaluate_43 rfl rfl ?_
        refine qx_lald d_QM_evaluate_44 rfl rfl rfl rfl (by omega) (show _ = h.2.1 127 (24 * e + j) from rfl) ?_
        refine qx_iconst (v := b2i false) d_QM_evaluate_45 rfl ?_
        refine qx_callV (As := [_, _, _]) (rest := _) d_QM_evaluate_46 lk_QM_171 y_QM_set v_QM_set rfl rfl rfl (by decide) rfl rfl rfl rfl (by decide) (by decide) (ct_QM_set hR wk wn st.length (by omega) _ false) ?_
        rintro _ _ _ ⟨rfl, rfl, rfl⟩
        refine qx_iincN (w := 1) (lv1 := [_, _, _, _, _]) d_QM_evaluate_49 rfl rfl (by decide) rfl ?_
        refine qx_goto (t := 171) d_QM_evaluate_52 rfl ?_
        refine qx_iincN (w := 1) (lv1 := [_, _, _, _, _]) d_QM_evaluate_171 rfl rfl (by decide) rfl ?_
        refine qx_goto (t := 7) d_QM_evaluate_174 rfl ?_
        refine qx_less (lv1 := [_, _, _, _, qdead]) ⟨Or.inr rfl, Or.inr rfl, Or.inr rfl, Or.inr rfl, Or.inl rfl, trivial⟩ ?_
        exact ih2 _ _ (wRep_push (v := (false, some (h.2.1 127 (24 * e + j)))) rfl hw)
  refine qx_iconstN (v := 0) d_QM_evaluate_0 rfl ?_
  refine qx_istore_n (lv1 := [_, _, _, _, _]) d_QM_evaluate_1 rfl (by decide) rfl ?_
  refine qx_bipushN (v := 24) d_QM_evaluate_2 rfl ?_
  refine qx_iload_n d_QM_evaluate_4 rfl rfl ?_
  refine qx_imulN d_QM_evaluate_5 ?_
  refine qx_istore_n (lv1 := [_, _, _, _, _]) d_QM_evaluate_6 rfl (by decide) rfl ?_
  exact key E 0 [] wk wn (by omega) hex trivial (fun v hv => by cases hv) (Nat.zero_le _) hty rfl
