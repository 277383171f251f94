/-! which tables an expression names -/
def nmP (w : Nat) (p : xP) : Bool := decide (p.1 = 10 ∧ p.2.toInt.toNat / 2 = w)
def nms (w : Nat) : List xP → Bool
  | [] => false
  | p :: E => nmP w p || nms w E
theorem nms_mem {w : Nat} : ∀ {E : List xP} {p : xP}, p ∈ E → nmP w p = true → nms w E = true
  | [], p, h, _ => by cases h
  | q :: E, p, h, hp => by
    show (nmP w q || nms w E) = true
    rcases List.mem_cons.mp h with e | e
    · rw [← e, hp]; rfl
    · rw [nms_mem e hp, Bool.or_true]
theorem xE_ag {row row2 : Nat → Option Int64} : ∀ (E : List xP) (st : List xV), (∀ p ∈ E, p.1 = 10 → row p.2.toInt.toNat = row2 p.2.toInt.toNat) → xE row st E = xE row2 st E
  | [], _, _ => rfl
  | p :: E, st, h => by
    show xE row (xS row st p) E = xE row2 (xS row2 st p) E
    have e : xS row st p = xS row2 st p := by
      unfold xS
      by_cases h10 : p.1 = 10
      · rw [if_pos h10, if_pos h10, h p List.mem_cons_self h10]
      · rw [if_neg h10, if_neg h10]
    rw [e]
    exact xE_ag E _ (fun q hq => h q (List.mem_cons_of_mem _ hq))
theorem xT_col {m : Nat} : ∀ {E : List xP} {ts ts2 : List Bool}, xT m ts E = some ts2 → ∀ p ∈ E, p.1 = 10 → p.2.toInt.toNat < 4
  | [], _, _, _, p, hp, _ => by cases hp
  | q :: E, ts, ts2, h, p, hp, h10 => by
    have h : (xT1 m ts q).bind (fun ts => xT m ts E) = some ts2 := h
    cases hx : xT1 m ts q with
    | none => rw [hx] at h; cases h
    | some ts1 =>
      rw [hx] at h
      rcases List.mem_cons.mp hp with e | e
      · subst e
        unfold xT1 at hx
        rw [if_pos h10] at hx
        split at hx
        · next hc => omega
        · cases hx
      · exact xT_col (E := E) (ts := ts1) h p e h10
/-- is the condition weighed while scanning table w? -/
def pu (kd w : Nat) (E : List xP) : Bool := if w = 0 then !nms 1 E else decide (kd = 1) && (nms 1 E && !nms 0 E)
def scR (tv : Nat → Int64) (tn : Nat → Bool) (t w q : Nat) : Nat → Option Int64 := fun c => if c / 2 = w then tCell tv tn t q (c % 2) else none
theorem xTru_sc {m : Nat} {row row2 : Nat → Option Int64} {E : List xP} {ts : List Bool} {kd w : Nat} (hw : w < 2) (hE : xT m [] E = some ts) (hr : ∀ c, c < 4 → c / 2 = w → row c = row2 c) (hp : pu kd w E = true) : xTru row E = xTru row2 E := by
  unfold xTru
  rw [xE_ag (row2 := row2) E [] (fun p hp2 h10 => ?_)]
  have h4 := xT_col hE p hp2 h10
  refine hr _ h4 ?_
  by_cases h : p.2.toInt.toNat / 2 = w
  · exact h
  · exfalso
    have n : nms (1 - w) E = true := nms_mem hp2 (decide_eq_true ⟨h10, by omega⟩)
    have hw2 : w = 0 ∨ w = 1 := by omega
    rcases hw2 with rfl | rfl
    · simp [pu] at hp
      rw [show nms (1 - 0) E = nms 1 E from rfl, hp] at n
      cases n
    · simp [pu] at hp
      rw [show nms (1 - 1) E = nms 0 E from rfl, hp.2.2] at n
      cases n
def aB (b : Bool) (f : Nat → Bool) : Nat → Bool
  | 0 => b
  | c + 1 => aB b f c && f c
theorem aB_mono {b : Bool} {f : Nat → Bool} {a : Nat} (h : aB b f a = false) : ∀ m, aB b f (a + m) = false
  | 0 => h
  | m + 1 => by
    show (aB b f (a + m) && _) = false
    rw [aB_mono h m]
    rfl
theorem nm_op : ∀ op, op < 10 → decide (nI 0 ≤ nI op - nI 20 ∧ nI op - nI 20 ≤ nI 3) = false := by decide
theorem nm_col : ∀ c, c < 4 → decide (nI 0 ≤ nI c ∧ nI c ≤ nI 3) = true := by decide
set_option maxRecDepth 100000 in
set_option maxHeartbeats 4000000 in
theorem ct_QM_names {h : qH} (hR : h.2.2 122 = qRQM) (c : Nat) (hc : c < 6) (w : Nat) (hw : w < 2) (E : List xP) (hE : E.length ≤ 24) (hsz : h.1 128 (8 + c) = nI E.length) (hex : rExp (h.1 126) (h.2.1 127) (24 * (8 + c)) E) :
    qT mi_QM_names 1 0 0 [.ref 122, .int (nI c), .int (nI w)] h NN (fun v1 h1 n1 => v1 = some (.int (b2i (nms w E))) ∧ h = h1 ∧ n1 = NN) := by
  refine qT.of (lv0 := [_, _, _, _, _, _]) (by decide +kernel) (fun _ _ => Nat.le_of_ble_eq_true rfl) rfl ?_
  have key : ∀ (E2 : List xP) (j : Nat) (acc : Bool), j + E2.length = E.length → rExp (h.1 126) (h.2.1 127) (24 * (8 + c) + j) E2 → (acc || nms w E2) = nms w E →
      qX mi_QM_names 1 none 0 0 11 [.ref 122, .int (nI c), .int (nI w), .int (b2i acc), .int (nI (24 * (8 + c) + j)), qdead] [] h NN 0 0 (fun v1 h1 n1 => v1 = some (.int (b2i (nms w E))) ∧ h = h1 ∧ n1 = NN) := by
    intro E2
    induction E2 with
    | nil =>
      intro j acc hj hre hs
      have hj : j = E.length := hj
      have hs : (acc || false) = nms w E := hs
      rw [Bool.or_false] at hs
      refine qx_iload d_QM_names_11 rfl ?_
      refine qx_bipushN (v := 24) d_QM_names_13 rfl ?_
      refine qx_bipushN (v := 8) d_QM_names_15 rfl ?_
      refine qx_iload_n d_QM_names_17 rfl rfl ?_
      refine qx_iaddN d_QM_names_18 ?_
      refine qx_imulN d_QM_names_19 ?_
      refine qx_aload_n d_QM_names_20 rfl rfl ?_
      refine qx_getR d_QM_names_21 fR_QM_27 rfl rfl (congrFun hR 18) ?_
      refine qx_bipushN (v := 8) d_QM_names_24 rfl ?_
      refine qx_iload_n d_QM_names_26 rfl rfl ?_
      refine qx_iaddN d_QM_names_27 ?_
      refine qx_iald d_QM_names_28 rfl rfl rfl rfl (by omega) hsz ?_
      refine qx_iaddN d_QM_names_29 ?_
      refine qx_icmp_geN (t := 79) d_QM_names_30 rfl (by omega) (by omega) (fun c30 => ?_) (fun c30 => absurd c30 (by omega))
      refine qx_iload_n d_QM_names_79 rfl rfl ?_
      exact qx_iret d_QM_names_80 rfl (b2i_nar _) (by omega) (by omega) ⟨by rw [hs], rfl, rfl⟩
    | cons p E2 ih =>
      intro j acc hj hre hs
      have hj : j + (E2.length + 1) = E.length := hj
      obtain ⟨hp, hre⟩ := hre
      have hs : (acc || (nmP w p || nms w E2)) = nms w E := hs
      rcases hp with ⟨h10, hpw⟩ | ⟨h10, k, hk4, hpc, hpw⟩ | ⟨h11, hpw, hpx⟩
      · have hq : nmP w p = false := decide_eq_false (fun e => by omega)
        refine qx_iload d_QM_names_11 rfl ?_
        refine qx_bipushN (v := 24) d_QM_names_13 rfl ?_
        refine qx_bipushN (v := 8) d_QM_names_15 rfl ?_
        refine qx_iload_n d_QM_names_17 rfl rfl ?_
        refine qx_iaddN d_QM_names_18 ?_
        refine qx_imulN d_QM_names_19 ?_
        refine qx_aload_n d_QM_names_20 rfl rfl ?_
        refine qx_getR d_QM_names_21 fR_QM_27 rfl rfl (congrFun hR 18) ?_
        refine qx_bipushN (v := 8) d_QM_names_24 rfl ?_
        refine qx_iload_n d_QM_names_26 rfl rfl ?_
        refine qx_iaddN d_QM_names_27 ?_
        refine qx_iald d_QM_names_28 rfl rfl rfl rfl (by omega) hsz ?_
        refine qx_iaddN d_QM_names_29 ?_
        refine qx_icmp_geN (t := 79) d_QM_names_30 rfl (by omega) (by omega) (fun c30 => absurd c30 (by omega)) (fun c30 => ?_)
        refine qx_aload_n d_QM_names_33 rfl rfl ?_
        refine qx_getR d_QM_names_34 fR_QM_21 rfl rfl (congrFun hR 16) ?_
        refine qx_iload d_QM_names_37 rfl ?_
        refine qx_iald d_QM_names_39 rfl rfl rfl rfl (by omega) hpw ?_
        refine qx_bipushN (v := 20) d_QM_names_40 rfl ?_
        refine qx_isub d_QM_names_42 ?_
        refine qx_istore (lv1 := [_, _, _, _, _, _]) d_QM_names_43 (by decide) rfl ?_
        refine qx_iload_n d_QM_names_45 rfl rfl ?_
        refine qx_if_neB (t := 67) d_QM_names_46 rfl (fun c46 => ?_) (fun c46 => ?_)
        · refine qx_iconst (v := b2i true) d_QM_names_67 rfl ?_
          refine qx_goto (t := 72) d_QM_names_68 rfl ?_
          refine qx_istore_n (lv1 := [_, _, _, _, _, _]) d_QM_names_72 rfl (by decide) rfl ?_
          refine qx_iincN (w := 1) (lv1 := [_, _, _, _, _, _]) d_QM_names_73 rfl rfl (by decide) rfl ?_
          refine qx_goto (t := 11) d_QM_names_76 rfl ?_
          refine qx_less (lv1 := [_, _, _, _, _, qdead]) ⟨Or.inr rfl, Or.inr rfl, Or.inr rfl, Or.inr rfl, Or.inr rfl, Or.inl rfl, trivial⟩ ?_
          exact ih (j + 1) _ (by omega) hre (by rw [← hs, hq]; first | simp [c46])
        · refine qx_iload d_QM_names_49 rfl ?_
          refine qx_iconstN (v := 0) d_QM_names_51 rfl ?_
          refine qx_iconstN (v := 3) d_QM_names_52 rfl ?_
          refine qx_callS (As := [_, _, _]) (rest := _) d_QM_names_53 lk_QM_103 y_QM_within s_QM_within rfl rfl rfl rfl (by decide) (by decide) (ct_QM_within _ _ _) ?_
          rintro _ _ _ ⟨rfl, rfl, rfl⟩
          refine qx_if_eqB (t := 71) d_QM_names_56 rfl (fun c56 => ?_) (fun c56 => absurd ((nm_op _ h10).symm.trans c56) (by decide))
          refine qx_iconst (v := b2i false) d_QM_names_71 rfl ?_
          refine qx_istore_n (lv1 := [_, _, _, _, _, _]) d_QM_names_72 rfl (by decide) rfl ?_
          refine qx_iincN (w := 1) (lv1 := [_, _, _, _, _, _]) d_QM_names_73 rfl rfl (by decide) rfl ?_
          refine qx_goto (t := 11) d_QM_names_76 rfl ?_
          refine qx_less (lv1 := [_, _, _, _, _, qdead]) ⟨Or.inr rfl, Or.inr rfl, Or.inr rfl, Or.inr rfl, Or.inr rfl, Or.inl rfl, trivial⟩ ?_
          exact ih (j + 1) _ (by omega) hre (by rw [← hs, hq]; first | simp [c46])
      · have hq : nmP w p = decide (k / 2 = w) := by
          unfold nmP
          rw [hpc, lN_toInt (by omega)]
          simp [h10]
        refine qx_iload d_QM_names_11 rfl ?_
        refine qx_bipushN (v := 24) d_QM_names_13 rfl ?_
        refine qx_bipushN (v := 8) d_QM_names_15 rfl ?_
        refine qx_iload_n d_QM_names_17 rfl rfl ?_
        refine qx_iaddN d_QM_names_18 ?_
        refine qx_imulN d_QM_names_19 ?_
        refine qx_aload_n d_QM_names_20 rfl rfl ?_
        refine qx_getR d_QM_names_21 fR_QM_27 rfl rfl (congrFun hR 18) ?_
        refine qx_bipushN (v := 8) d_QM_names_24 rfl ?_
        refine qx_iload_n d_QM_names_26 rfl rfl ?_
        refine qx_iaddN d_QM_names_27 ?_
        refine qx_iald d_QM_names_28 rfl rfl rfl rfl (by omega) hsz ?_
        refine qx_iaddN d_QM_names_29 ?_
        refine qx_icmp_geN (t := 79) d_QM_names_30 rfl (by omega) (by omega) (fun c30 => absurd c30 (by omega)) (fun c30 => ?_)
        refine qx_aload_n d_QM_names_33 rfl rfl ?_
        refine qx_getR d_QM_names_34 fR_QM_21 rfl rfl (congrFun hR 16) ?_
        refine qx_iload d_QM_names_37 rfl ?_
        refine qx_iald d_QM_names_39 rfl rfl rfl rfl (by omega) hpw ?_
        refine qx_bipushN (v := 20) d_QM_names_40 rfl ?_
        refine qx_isubN d_QM_names_42 (by omega) ?_
        rw [Nat.add_sub_cancel_left]
        refine qx_istore (lv1 := [_, _, _, _, _, _]) d_QM_names_43 (by decide) rfl ?_
        refine qx_iload_n d_QM_names_45 rfl rfl ?_
        refine qx_if_neB (t := 67) d_QM_names_46 rfl (fun c46 => ?_) (fun c46 => ?_)
        · refine qx_iconst (v := b2i true) d_QM_names_67 rfl ?_
          refine qx_goto (t := 72) d_QM_names_68 rfl ?_
          refine qx_istore_n (lv1 := [_, _, _, _, _, _]) d_QM_names_72 rfl (by decide) rfl ?_
          refine qx_iincN (w := 1) (lv1 := [_, _, _, _, _, _]) d_QM_names_73 rfl rfl (by decide) rfl ?_
          refine qx_goto (t := 11) d_QM_names_76 rfl ?_
          refine qx_less (lv1 := [_, _, _, _, _, qdead]) ⟨Or.inr rfl, Or.inr rfl, Or.inr rfl, Or.inr rfl, Or.inr rfl, Or.inl rfl, trivial⟩ ?_
          exact ih (j + 1) _ (by omega) hre (by rw [← hs, hq]; first | (have z := c64; simp [c46, z]) | simp [c46])
        · refine qx_iload d_QM_names_49 rfl ?_
          refine qx_iconstN (v := 0) d_QM_names_51 rfl ?_
          refine qx_iconstN (v := 3) d_QM_names_52 rfl ?_
          refine qx_callS (As := [_, _, _]) (rest := _) d_QM_names_53 lk_QM_103 y_QM_within s_QM_within rfl rfl rfl rfl (by decide) (by decide) (ct_QM_within _ _ _) ?_
          rintro _ _ _ ⟨rfl, rfl, rfl⟩
          refine qx_if_eqB (t := 71) d_QM_names_56 rfl (fun c56 => absurd ((nm_col _ hk4).symm.trans c56) (by decide)) (fun c56 => ?_)
          refine qx_iload d_QM_names_59 rfl ?_
          refine qx_iconstN (v := 2) d_QM_names_61 rfl ?_
          refine qx_idivN d_QM_names_62 (by omega) (by omega) (by omega) ?_
          refine qx_iload_n d_QM_names_63 rfl rfl ?_
          refine qx_icmp_neN (t := 71) d_QM_names_64 rfl (by omega) (by omega) (fun c64 => ?_) (fun c64 => ?_)
          · refine qx_iconst (v := b2i false) d_QM_names_71 rfl ?_
            refine qx_istore_n (lv1 := [_, _, _, _, _, _]) d_QM_names_72 rfl (by decide) rfl ?_
            refine qx_iincN (w := 1) (lv1 := [_, _, _, _, _, _]) d_QM_names_73 rfl rfl (by decide) rfl ?_
            refine qx_goto (t := 11) d_QM_names_76 rfl ?_
            refine qx_less (lv1 := [_, _, _, _, _, qdead]) ⟨Or.inr rfl, Or.inr rfl, Or.inr rfl, Or.inr rfl, Or.inr rfl, Or.inl rfl, trivial⟩ ?_
            exact ih (j + 1) _ (by omega) hre (by rw [← hs, hq]; first | (have z := c64; simp [c46, z]) | simp [c46])
          · refine qx_iconst (v := b2i true) d_QM_names_67 rfl ?_
            refine qx_goto (t := 72) d_QM_names_68 rfl ?_
            refine qx_istore_n (lv1 := [_, _, _, _, _, _]) d_QM_names_72 rfl (by decide) rfl ?_
            refine qx_iincN (w := 1) (lv1 := [_, _, _, _, _, _]) d_QM_names_73 rfl rfl (by decide) rfl ?_
            refine qx_goto (t := 11) d_QM_names_76 rfl ?_
            refine qx_less (lv1 := [_, _, _, _, _, qdead]) ⟨Or.inr rfl, Or.inr rfl, Or.inr rfl, Or.inr rfl, Or.inr rfl, Or.inl rfl, trivial⟩ ?_
            exact ih (j + 1) _ (by omega) hre (by rw [← hs, hq]; first | (have z := c64; simp [c46, z]) | simp [c46])
      · have hq : nmP w p = false := decide_eq_false (fun e => by omega)
        refine qx_iload d_QM_names_11 rfl ?_
        refine qx_bipushN (v := 24) d_QM_names_13 rfl ?_
        refine qx_bipushN (v := 8) d_QM_names_15 rfl ?_
        refine qx_iload_n d_QM_names_17 rfl rfl ?_
        refine qx_iaddN d_QM_names_18 ?_
        refine qx_imulN d_QM_names_19 ?_
        refine qx_aload_n d_QM_names_20 rfl rfl ?_
        refine qx_getR d_QM_names_21 fR_QM_27 rfl rfl (congrFun hR 18) ?_
        refine qx_bipushN (v := 8) d_QM_names_24 rfl ?_
        refine qx_iload_n d_QM_names_26 rfl rfl ?_
        refine qx_iaddN d_QM_names_27 ?_
        refine qx_iald d_QM_names_28 rfl rfl rfl rfl (by omega) hsz ?_
        refine qx_iaddN d_QM_names_29 ?_
        refine qx_icmp_geN (t := 79) d_QM_names_30 rfl (by omega) (by omega) (fun c30 => absurd c30 (by omega)) (fun c30 => ?_)
        refine qx_aload_n d_QM_names_33 rfl rfl ?_
        refine qx_getR d_QM_names_34 fR_QM_21 rfl rfl (congrFun hR 16) ?_
        refine qx_iload d_QM_names_37 rfl ?_
        refine qx_iald d_QM_names_39 rfl rfl rfl rfl (by omega) hpw ?_
        refine qx_bipushN (v := 20) d_QM_names_40 rfl ?_
        refine qx_isubN d_QM_names_42 (by omega) ?_
        refine qx_istore (lv1 := [_, _, _, _, _, _]) d_QM_names_43 (by decide) rfl ?_
        refine qx_iload_n d_QM_names_45 rfl rfl ?_
        refine qx_if_neB (t := 67) d_QM_names_46 rfl (fun c46 => ?_) (fun c46 => ?_)
        · refine qx_iconst (v := b2i true) d_QM_names_67 rfl ?_
          refine qx_goto (t := 72) d_QM_names_68 rfl ?_
          refine qx_istore_n (lv1 := [_, _, _, _, _, _]) d_QM_names_72 rfl (by decide) rfl ?_
          refine qx_iincN (w := 1) (lv1 := [_, _, _, _, _, _]) d_QM_names_73 rfl rfl (by decide) rfl ?_
          refine qx_goto (t := 11) d_QM_names_76 rfl ?_
          refine qx_less (lv1 := [_, _, _, _, _, qdead]) ⟨Or.inr rfl, Or.inr rfl, Or.inr rfl, Or.inr rfl, Or.inr rfl, Or.inl rfl, trivial⟩ ?_
          exact ih (j + 1) _ (by omega) hre (by rw [← hs, hq]; first | simp [c46])
        · refine qx_iload d_QM_names_49 rfl ?_
          refine qx_iconstN (v := 0) d_QM_names_51 rfl ?_
          refine qx_iconstN (v := 3) d_QM_names_52 rfl ?_
          refine qx_callS (As := [_, _, _]) (rest := _) d_QM_names_53 lk_QM_103 y_QM_within s_QM_within rfl rfl rfl rfl (by decide) (by decide) (ct_QM_within _ _ _) ?_
          rintro _ _ _ ⟨rfl, rfl, rfl⟩
          refine qx_if_eqB (t := 71) d_QM_names_56 rfl (fun c56 => ?_) (fun c56 => absurd c56 (by decide))
          refine qx_iconst (v := b2i false) d_QM_names_71 rfl ?_
          refine qx_istore_n (lv1 := [_, _, _, _, _, _]) d_QM_names_72 rfl (by decide) rfl ?_
          refine qx_iincN (w := 1) (lv1 := [_, _, _, _, _, _]) d_QM_names_73 rfl rfl (by decide) rfl ?_
          refine qx_goto (t := 11) d_QM_names_76 rfl ?_
          refine qx_less (lv1 := [_, _, _, _, _, qdead]) ⟨Or.inr rfl, Or.inr rfl, Or.inr rfl, Or.inr rfl, Or.inr rfl, Or.inl rfl, trivial⟩ ?_
          exact ih (j + 1) _ (by omega) hre (by rw [← hs, hq]; first | simp [c46])
  refine qx_iconst (v := b2i false) d_QM_names_0 rfl ?_
  refine qx_istore_n (lv1 := [_, _, _, _, _, _]) d_QM_names_1 rfl (by decide) rfl ?_
  refine qx_bipushN (v := 24) d_QM_names_2 rfl ?_
  refine qx_bipushN (v := 8) d_QM_names_4 rfl ?_
  refine qx_iload_n d_QM_names_6 rfl rfl ?_
  refine qx_iaddN d_QM_names_7 ?_
  refine qx_imulN d_QM_names_8 ?_
  refine qx_istore (lv1 := [_, _, _, _, _, _]) d_QM_names_9 (by decide) rfl ?_
  exact key E 0 false (by omega) hex rfl
set_option maxRecDepth 100000 in
set_option maxHeartbeats 4000000 in
theorem ct_QM_scanRows_0 {h : qH} (hR : h.2.2 122 = qRQM) (hv : Nat → Int64) (hb : Nat → Bool) (kv : Nat → Int64) (kb : Nat → Bool) (kp : Nat) (wk : Nat → Int64) (wn : Nat → Int32) (tv : Nat → Int64) (tn : Nat → Bool) (htv : ∀ k, k < 72 → h.2.1 124 k = tv k ∧ h.1 125 k = b2i (tn k)) (nc : Nat) (hnc6 : nc ≤ 6) (hnc : h.1 122 14 = nI nc) (CE : Nat → List xP) (hce : ∀ c, c < nc → (CE c).length ≤ 24 ∧ h.1 128 (8 + c) = nI (CE c).length ∧ rExp (h.1 126) (h.2.1 127) (24 * (8 + c)) (CE c) ∧ xT 8 [] (CE c) = some [true]) (wc : Nat) (h1w : 1 ≤ wc) (hw4 : wc ≤ 4) (hwk : h.1 122 38 = nI wc) (kd : Nat) (hk3 : kd < 3) (hkd : h.1 122 4 = nI kd) (t : Nat) (ht3 : t < 3) (ht : h.1 122 5 = nI t) (nr : Nat) (hnr : nr ≤ 12) (hr : h.1 123 t = nI nr) (p : Nat) (hp : p < 4) : qT mi_QM_scanRows 4 0 0 [.ref 122, .int (nI 0), .int (nI p)] (eR (fR h hv hb kv kb kp) wk wn) NN (fun v1 h1 n1 => v1 = some (.int (nI (cntB (fun q => (aB (decide (q % wc = p)) (fun c => !pu kd 0 (CE c) || xTru (scR tv tn t 0 q) (CE c)) nc)) nr))) ∧ (∃ hv1 hb1 wk1 wn1, h1 = eR (fR h hv1 hb1 kv kb kp) wk1 wn1) ∧ n1 = NN) := by
  refine qT.of (lv0 := [_, _, _, _, _, _, _, _, _]) (by decide +kernel) (fun _ _ => Nat.le_of_ble_eq_true rfl) rfl ?_
  have inner : ∀ (m c q cnt : Nat) (ok : Bool) (hv : Nat → Int64) (hb : Nat → Bool) (wk : Nat → Int64) (wn : Nat → Int32), c + m = nc → q < nr → cnt ≤ q → ok = (aB (decide (q % wc = p)) (fun c => !pu kd 0 (CE c) || xTru (scR tv tn t 0 q) (CE c)) c) → (∀ c, c < 4 → c / 2 = 0 → (if hb c = true then none else some (hv c)) = scR tv tn t 0 q c) → (∀ (hv : Nat → Int64) (hb : Nat → Bool) (wk : Nat → Int64) (wn : Nat → Int32) (c2 : Nat), c2 = (if (aB (decide (q % wc = p)) (fun c => !pu kd 0 (CE c) || xTru (scR tv tn t 0 q) (CE c)) nc) = true then cnt + 1 else cnt) → qX mi_QM_scanRows 4 none 0 0 22 [.ref 122, .int (nI 0), .int (nI p), .int (nI c2), .int (nI t), .int (nI (q + 1)), qdead, qdead, qdead] [] (eR (fR h hv hb kv kb kp) wk wn) NN 0 0 (fun v1 h1 n1 => v1 = some (.int (nI (cntB (fun q => (aB (decide (q % wc = p)) (fun c => !pu kd 0 (CE c) || xTru (scR tv tn t 0 q) (CE c)) nc)) nr))) ∧ (∃ hv1 hb1 wk1 wn1, h1 = eR (fR h hv1 hb1 kv kb kp) wk1 wn1) ∧ n1 = NN)) →
      qX mi_QM_scanRows 4 none 0 0 62 [.ref 122, .int (nI 0), .int (nI p), .int (nI cnt), .int (nI t), .int (nI q), .int (b2i ok), .int (nI c), qdead] [] (eR (fR h hv hb kv kb kp) wk wn) NN 0 0 (fun v1 h1 n1 => v1 = some (.int (nI (cntB (fun q => (aB (decide (q % wc = p)) (fun c => !pu kd 0 (CE c) || xTru (scR tv tn t 0 q) (CE c)) nc)) nr))) ∧ (∃ hv1 hb1 wk1 wn1, h1 = eR (fR h hv1 hb1 kv kb kp) wk1 wn1) ∧ n1 = NN) := by
    intro m
    induction m with
    | zero =>
      intro c q cnt ok hv hb wk wn hc hq hcn hok hrw nxt
      have e : c = nc := by omega
      subst e
      refine qx_iload d_QM_scanRows_62 rfl ?_
      refine qx_aload_n d_QM_scanRows_64 rfl rfl ?_
      refine qx_getI d_QM_scanRows_65 fI_QM_141 rfl rfl hnc ?_
      refine qx_icmp_geN (t := 160) d_QM_scanRows_68 rfl (by omega) (by omega) (fun c68 => ?_) (fun c68 => absurd c68 (by omega))
      refine qx_iload d_QM_scanRows_160 rfl ?_
      refine qx_if_eqB (t := 171) d_QM_scanRows_162 rfl (fun c162 => ?_) (fun c162 => ?_)
      · refine qx_iload_n d_QM_scanRows_171 rfl rfl ?_
        refine qx_istore_n (lv1 := [_, _, _, _, _, _, _, _, _]) d_QM_scanRows_172 rfl (by decide) rfl ?_
        refine qx_iincN (w := 1) (lv1 := [_, _, _, _, _, _, _, _, _]) d_QM_scanRows_173 rfl rfl (by decide) rfl ?_
        refine qx_goto (t := 22) d_QM_scanRows_176 rfl ?_
        refine qx_less (lv1 := [_, _, _, _, _, _, qdead, qdead, qdead]) ⟨Or.inr rfl, Or.inr rfl, Or.inr rfl, Or.inr rfl, Or.inr rfl, Or.inr rfl, Or.inl rfl, Or.inl rfl, Or.inl rfl, trivial⟩ ?_
        exact nxt _ _ _ _ _ (by first | (rw [if_pos (hok ▸ c162)]; done) | (rw [if_neg (fun e => absurd ((hok.trans e).symm.trans c162) (by decide))]; done))
      · refine qx_iload_n d_QM_scanRows_165 rfl rfl ?_
        refine qx_iconstN (v := 1) d_QM_scanRows_166 rfl ?_
        refine qx_iaddN d_QM_scanRows_167 ?_
        refine qx_goto (t := 172) d_QM_scanRows_168 rfl ?_
        refine qx_istore_n (lv1 := [_, _, _, _, _, _, _, _, _]) d_QM_scanRows_172 rfl (by decide) rfl ?_
        refine qx_iincN (w := 1) (lv1 := [_, _, _, _, _, _, _, _, _]) d_QM_scanRows_173 rfl rfl (by decide) rfl ?_
        refine qx_goto (t := 22) d_QM_scanRows_176 rfl ?_
        refine qx_less (lv1 := [_, _, _, _, _, _, qdead, qdead, qdead]) ⟨Or.inr rfl, Or.inr rfl, Or.inr rfl, Or.inr rfl, Or.inr rfl, Or.inr rfl, Or.inl rfl, Or.inl rfl, Or.inl rfl, trivial⟩ ?_
        exact nxt _ _ _ _ _ (by first | (rw [if_pos (hok ▸ c162)]; done) | (rw [if_neg (fun e => absurd ((hok.trans e).symm.trans c162) (by decide))]; done))
    | succ m ih =>
      intro c q cnt ok hv hb wk wn hc hq hcn hok hrw nxt
      have hst : (aB (decide (q % wc = p)) (fun c => !pu kd 0 (CE c) || xTru (scR tv tn t 0 q) (CE c)) (c + 1)) = ((aB (decide (q % wc = p)) (fun c => !pu kd 0 (CE c) || xTru (scR tv tn t 0 q) (CE c)) c) && (!pu kd 0 (CE c) || xTru (scR tv tn t 0 q) (CE c))) := rfl
      have hag := fun hp => xTru_sc (row := fun c => if hb c = true then none else some (hv c)) (row2 := scR tv tn t 0 q) (kd := kd) (show 0 < 2 by decide) (hce c (by omega)).2.2.2 hrw hp
      refine qx_iload d_QM_scanRows_62 rfl ?_
      refine qx_aload_n d_QM_scanRows_64 rfl rfl ?_
      refine qx_getI d_QM_scanRows_65 fI_QM_141 rfl rfl hnc ?_
      refine qx_icmp_geN (t := 160) d_QM_scanRows_68 rfl (by omega) (by omega) (fun c68 => absurd c68 (by omega)) (fun c68 => ?_)
      refine qx_iload d_QM_scanRows_71 rfl ?_
      refine qx_if_eqB (t := 160) d_QM_scanRows_73 rfl (fun c73 => ?_) (fun c73 => ?_)
      · refine qx_iload d_QM_scanRows_160 rfl ?_
        refine qx_if_eqB (t := 171) d_QM_scanRows_162 rfl (fun c162 => ?_) (fun c162 => ?_)
        · refine qx_iload_n d_QM_scanRows_171 rfl rfl ?_
          refine qx_istore_n (lv1 := [_, _, _, _, _, _, _, _, _]) d_QM_scanRows_172 rfl (by decide) rfl ?_
          refine qx_iincN (w := 1) (lv1 := [_, _, _, _, _, _, _, _, _]) d_QM_scanRows_173 rfl rfl (by decide) rfl ?_
          refine qx_goto (t := 22) d_QM_scanRows_176 rfl ?_
          first
            | exact absurd (c73.symm.trans c162) (by decide)
            | (refine qx_less (lv1 := [_, _, _, _, _, _, qdead, qdead, qdead]) ⟨Or.inr rfl, Or.inr rfl, Or.inr rfl, Or.inr rfl, Or.inr rfl, Or.inr rfl, Or.inl rfl, Or.inl rfl, Or.inl rfl, trivial⟩ ?_
               refine nxt _ _ _ _ _ ?_
               have hz := aB_mono (hok.symm.trans c73) (m + 1)
               rw [show c + (m + 1) = nc by omega] at hz
               rw [if_neg (by rw [hz]; decide)])
        · refine qx_iload_n d_QM_scanRows_165 rfl rfl ?_
          refine qx_iconstN (v := 1) d_QM_scanRows_166 rfl ?_
          refine qx_iaddN d_QM_scanRows_167 ?_
          refine qx_goto (t := 172) d_QM_scanRows_168 rfl ?_
          refine qx_istore_n (lv1 := [_, _, _, _, _, _, _, _, _]) d_QM_scanRows_172 rfl (by decide) rfl ?_
          refine qx_iincN (w := 1) (lv1 := [_, _, _, _, _, _, _, _, _]) d_QM_scanRows_173 rfl rfl (by decide) rfl ?_
          refine qx_goto (t := 22) d_QM_scanRows_176 rfl ?_
          first
            | exact absurd (c73.symm.trans c162) (by decide)
            | (refine qx_less (lv1 := [_, _, _, _, _, _, qdead, qdead, qdead]) ⟨Or.inr rfl, Or.inr rfl, Or.inr rfl, Or.inr rfl, Or.inr rfl, Or.inr rfl, Or.inl rfl, Or.inl rfl, Or.inl rfl, trivial⟩ ?_
               refine nxt _ _ _ _ _ ?_
               have hz := aB_mono (hok.symm.trans c73) (m + 1)
               rw [show c + (m + 1) = nc by omega] at hz
               rw [if_neg (by rw [hz]; decide)])
      · refine qx_iload_n d_QM_scanRows_76 rfl rfl ?_
        refine qx_if_neN (t := 98) d_QM_scanRows_77 rfl (by omega) (fun c77 => absurd c77 (by decide)) (fun c77 => ?_)
        refine qx_aload_n d_QM_scanRows_80 rfl rfl ?_
        refine qx_iload d_QM_scanRows_81 rfl ?_
        refine qx_iconstN (v := 1) d_QM_scanRows_83 rfl ?_
        refine qx_callV (As := [_, _]) (rest := _) d_QM_scanRows_84 lk_QM_251 y_QM_names v_QM_names rfl rfl rfl (by decide) rfl rfl rfl rfl (by decide) (by decide) (ct_QM_names (h := (eR (fR h hv hb kv kb kp) wk wn)) hR c (by omega) 1 (by omega) (CE c) (hce c (by omega)).1 (hce c (by omega)).2.1 (hce c (by omega)).2.2.1) ?_
        rintro _ _ _ ⟨rfl, rfl, rfl⟩
        refine qx_if_neB (t := 94) d_QM_scanRows_87 rfl (fun c87 => ?_) (fun c87 => ?_)
        · refine qx_iconst (v := b2i false) d_QM_scanRows_94 rfl ?_
          refine qx_goto (t := 131) d_QM_scanRows_95 rfl ?_
          refine qx_istore (lv1 := [_, _, _, _, _, _, _, _, _]) d_QM_scanRows_131 (by decide) rfl ?_
          refine qx_iload d_QM_scanRows_133 rfl ?_
          refine qx_if_eqB (t := 147) d_QM_scanRows_135 rfl (fun c135 => ?_) (fun c135 => ?_)
          · refine qx_iconst (v := b2i true) d_QM_scanRows_147 rfl ?_
            refine qx_goto (t := 152) d_QM_scanRows_148 rfl ?_
            refine qx_istore (lv1 := [_, _, _, _, _, _, _, _, _]) d_QM_scanRows_152 (by decide) rfl ?_
            refine qx_iincN (w := 1) (lv1 := [_, _, _, _, _, _, _, _, _]) d_QM_scanRows_154 rfl rfl (by decide) rfl ?_
            refine qx_goto (t := 62) d_QM_scanRows_157 rfl ?_
            have hpu : pu kd 0 (CE c) = !nms 1 (CE c) := rfl
            rw [c87] at hpu
            first
              | exact absurd c135 (by decide)
              | (refine qx_less (lv1 := [_, _, _, _, _, _, _, _, qdead]) ⟨Or.inr rfl, Or.inr rfl, Or.inr rfl, Or.inr rfl, Or.inr rfl, Or.inr rfl, Or.inr rfl, Or.inr rfl, Or.inl rfl, trivial⟩ ?_
                 refine ih (c + 1) q cnt _ hv hb _ _ (by omega) hq hcn ?_ hrw nxt
                 rw [hst, ← hok, c73, hpu]
                 first
                   | (rw [← hag hpu, c144]; rfl)
                   | rfl)
          · refine qx_aload_n d_QM_scanRows_138 rfl rfl ?_
            refine qx_iload d_QM_scanRows_139 rfl ?_
            refine qx_callV (As := [_]) (rest := _) d_QM_scanRows_141 lk_QM_185 y_QM_isTrue v_QM_isTrue rfl rfl rfl (by decide) rfl rfl rfl rfl (by decide) (by decide) (ct_QM_isTrue hR hv hb kv kb kp wk wn nc hnc6 hnc CE hce (fun c => if hb c = true then none else some (hv c)) (fun _ _ => rfl) c (by omega)) ?_
            rintro _ _ _ ⟨rfl, ⟨wk1, wn1, rfl⟩, rfl⟩
            refine qx_if_eqB (t := 151) d_QM_scanRows_144 rfl (fun c144 => ?_) (fun c144 => ?_)
            · refine qx_iconst (v := b2i false) d_QM_scanRows_151 rfl ?_
              refine qx_istore (lv1 := [_, _, _, _, _, _, _, _, _]) d_QM_scanRows_152 (by decide) rfl ?_
              refine qx_iincN (w := 1) (lv1 := [_, _, _, _, _, _, _, _, _]) d_QM_scanRows_154 rfl rfl (by decide) rfl ?_
              refine qx_goto (t := 62) d_QM_scanRows_157 rfl ?_
              have hpu : pu kd 0 (CE c) = !nms 1 (CE c) := rfl
              rw [c87] at hpu
              first
                | exact absurd c135 (by decide)
                | (refine qx_less (lv1 := [_, _, _, _, _, _, _, _, qdead]) ⟨Or.inr rfl, Or.inr rfl, Or.inr rfl, Or.inr rfl, Or.inr rfl, Or.inr rfl, Or.inr rfl, Or.inr rfl, Or.inl rfl, trivial⟩ ?_
                   refine ih (c + 1) q cnt _ hv hb _ _ (by omega) hq hcn ?_ hrw nxt
                   rw [hst, ← hok, c73, hpu]
                   first
                     | (rw [← hag hpu, c144]; rfl)
                     | rfl)
            · refine qx_iconst (v := b2i true) d_QM_scanRows_147 rfl ?_
              refine qx_goto (t := 152) d_QM_scanRows_148 rfl ?_
              refine qx_istore (lv1 := [_, _, _, _, _, _, _, _, _]) d_QM_scanRows_152 (by decide) rfl ?_
              refine qx_iincN (w := 1) (lv1 := [_, _, _, _, _, _, _, _, _]) d_QM_scanRows_154 rfl rfl (by decide) rfl ?_
              refine qx_goto (t := 62) d_QM_scanRows_157 rfl ?_
              have hpu : pu kd 0 (CE c) = !nms 1 (CE c) := rfl
              rw [c87] at hpu
              first
                | exact absurd c135 (by decide)
                | (refine qx_less (lv1 := [_, _, _, _, _, _, _, _, qdead]) ⟨Or.inr rfl, Or.inr rfl, Or.inr rfl, Or.inr rfl, Or.inr rfl, Or.inr rfl, Or.inr rfl, Or.inr rfl, Or.inl rfl, trivial⟩ ?_
                   refine ih (c + 1) q cnt _ hv hb _ _ (by omega) hq hcn ?_ hrw nxt
                   rw [hst, ← hok, c73, hpu]
                   first
                     | (rw [← hag hpu, c144]; rfl)
                     | rfl)
        · refine qx_iconst (v := b2i true) d_QM_scanRows_90 rfl ?_
          refine qx_goto (t := 131) d_QM_scanRows_91 rfl ?_
          refine qx_istore (lv1 := [_, _, _, _, _, _, _, _, _]) d_QM_scanRows_131 (by decide) rfl ?_
          refine qx_iload d_QM_scanRows_133 rfl ?_
          refine qx_if_eqB (t := 147) d_QM_scanRows_135 rfl (fun c135 => ?_) (fun c135 => ?_)
          · refine qx_iconst (v := b2i true) d_QM_scanRows_147 rfl ?_
            refine qx_goto (t := 152) d_QM_scanRows_148 rfl ?_
            refine qx_istore (lv1 := [_, _, _, _, _, _, _, _, _]) d_QM_scanRows_152 (by decide) rfl ?_
            refine qx_iincN (w := 1) (lv1 := [_, _, _, _, _, _, _, _, _]) d_QM_scanRows_154 rfl rfl (by decide) rfl ?_
            refine qx_goto (t := 62) d_QM_scanRows_157 rfl ?_
            have hpu : pu kd 0 (CE c) = !nms 1 (CE c) := rfl
            rw [c87] at hpu
            first
              | exact absurd c135 (by decide)
              | (refine qx_less (lv1 := [_, _, _, _, _, _, _, _, qdead]) ⟨Or.inr rfl, Or.inr rfl, Or.inr rfl, Or.inr rfl, Or.inr rfl, Or.inr rfl, Or.inr rfl, Or.inr rfl, Or.inl rfl, trivial⟩ ?_
                 refine ih (c + 1) q cnt _ hv hb _ _ (by omega) hq hcn ?_ hrw nxt
                 rw [hst, ← hok, c73, hpu]
                 first
                   | (rw [← hag hpu, c144]; rfl)
                   | rfl)
          · refine qx_aload_n d_QM_scanRows_138 rfl rfl ?_
            refine qx_iload d_QM_scanRows_139 rfl ?_
            refine qx_callV (As := [_]) (rest := _) d_QM_scanRows_141 lk_QM_185 y_QM_isTrue v_QM_isTrue rfl rfl rfl (by decide) rfl rfl rfl rfl (by decide) (by decide) (ct_QM_isTrue hR hv hb kv kb kp wk wn nc hnc6 hnc CE hce (fun c => if hb c = true then none else some (hv c)) (fun _ _ => rfl) c (by omega)) ?_
            rintro _ _ _ ⟨rfl, ⟨wk1, wn1, rfl⟩, rfl⟩
            refine qx_if_eqB (t := 151) d_QM_scanRows_144 rfl (fun c144 => ?_) (fun c144 => ?_)
            · refine qx_iconst (v := b2i false) d_QM_scanRows_151 rfl ?_
              refine qx_istore (lv1 := [_, _, _, _, _, _, _, _, _]) d_QM_scanRows_152 (by decide) rfl ?_
              refine qx_iincN (w := 1) (lv1 := [_, _, _, _, _, _, _, _, _]) d_QM_scanRows_154 rfl rfl (by decide) rfl ?_
              refine qx_goto (t := 62) d_QM_scanRows_157 rfl ?_
              have hpu : pu kd 0 (CE c) = !nms 1 (CE c) := rfl
              rw [c87] at hpu
              first
                | exact absurd c135 (by decide)
                | (refine qx_less (lv1 := [_, _, _, _, _, _, _, _, qdead]) ⟨Or.inr rfl, Or.inr rfl, Or.inr rfl, Or.inr rfl, Or.inr rfl, Or.inr rfl, Or.inr rfl, Or.inr rfl, Or.inl rfl, trivial⟩ ?_
                   refine ih (c + 1) q cnt _ hv hb _ _ (by omega) hq hcn ?_ hrw nxt
                   rw [hst, ← hok, c73, hpu]
                   first
                     | (rw [← hag hpu, c144]; rfl)
                     | rfl)
            · refine qx_iconst (v := b2i true) d_QM_scanRows_147 rfl ?_
              refine qx_goto (t := 152) d_QM_scanRows_148 rfl ?_
              refine qx_istore (lv1 := [_, _, _, _, _, _, _, _, _]) d_QM_scanRows_152 (by decide) rfl ?_
              refine qx_iincN (w := 1) (lv1 := [_, _, _, _, _, _, _, _, _]) d_QM_scanRows_154 rfl rfl (by decide) rfl ?_
              refine qx_goto (t := 62) d_QM_scanRows_157 rfl ?_
              have hpu : pu kd 0 (CE c) = !nms 1 (CE c) := rfl
              rw [c87] at hpu
              first
                | exact absurd c135 (by decide)
                | (refine qx_less (lv1 := [_, _, _, _, _, _, _, _, qdead]) ⟨Or.inr rfl, Or.inr rfl, Or.inr rfl, Or.inr rfl, Or.inr rfl, Or.inr rfl, Or.inr rfl, Or.inr rfl, Or.inl rfl, trivial⟩ ?_
                   refine ih (c + 1) q cnt _ hv hb _ _ (by omega) hq hcn ?_ hrw nxt
                   rw [hst, ← hok, c73, hpu]
                   first
                     | (rw [← hag hpu, c144]; rfl)
                     | rfl)
  have outer : ∀ (m q : Nat) (hv : Nat → Int64) (hb : Nat → Bool) (wk : Nat → Int64) (wn : Nat → Int32), q + m = nr → qX mi_QM_scanRows 4 none 0 0 22 [.ref 122, .int (nI 0), .int (nI p), .int (nI (cntB (fun q => (aB (decide (q % wc = p)) (fun c => !pu kd 0 (CE c) || xTru (scR tv tn t 0 q) (CE c)) nc)) q)), .int (nI t), .int (nI q), qdead, qdead, qdead] [] (eR (fR h hv hb kv kb kp) wk wn) NN 0 0 (fun v1 h1 n1 => v1 = some (.int (nI (cntB (fun q => (aB (decide (q % wc = p)) (fun c => !pu kd 0 (CE c) || xTru (scR tv tn t 0 q) (CE c)) nc)) nr))) ∧ (∃ hv1 hb1 wk1 wn1, h1 = eR (fR h hv1 hb1 kv kb kp) wk1 wn1) ∧ n1 = NN) := by
    intro m
    induction m with
    | zero =>
      intro q hv hb wk wn hq
      have e : q = nr := by omega
      subst e
      refine qx_iload d_QM_scanRows_22 rfl ?_
      refine qx_aload_n d_QM_scanRows_24 rfl rfl ?_
      refine qx_getR d_QM_scanRows_25 fR_QM_7 rfl rfl (congrFun hR 0) ?_
      refine qx_iload d_QM_scanRows_28 rfl ?_
      refine qx_iald d_QM_scanRows_30 rfl rfl rfl rfl (by omega) hr ?_
      refine qx_icmp_geN (t := 179) d_QM_scanRows_31 rfl (by omega) (by omega) (fun c31 => ?_) (fun c31 => absurd c31 (by omega))
      refine qx_iload_n d_QM_scanRows_179 rfl rfl ?_
      exact qx_iret d_QM_scanRows_180 rfl rfl (by omega) (by omega) ⟨rfl, ⟨hv, hb, wk, wn, rfl⟩, rfl⟩
    | succ m ih =>
      intro q hv hb wk wn hq
      have hle := cntB_le (fun q => (aB (decide (q % wc = p)) (fun c => !pu kd 0 (CE c) || xTru (scR tv tn t 0 q) (CE c)) nc)) q
      have hst : cntB (fun q => (aB (decide (q % wc = p)) (fun c => !pu kd 0 (CE c) || xTru (scR tv tn t 0 q) (CE c)) nc)) (q + 1) = if (aB (decide (q % wc = p)) (fun c => !pu kd 0 (CE c) || xTru (scR tv tn t 0 q) (CE c)) nc) = true then cntB (fun q => (aB (decide (q % wc = p)) (fun c => !pu kd 0 (CE c) || xTru (scR tv tn t 0 q) (CE c)) nc)) q + 1 else cntB (fun q => (aB (decide (q % wc = p)) (fun c => !pu kd 0 (CE c) || xTru (scR tv tn t 0 q) (CE c)) nc)) q := rfl
      refine qx_iload d_QM_scanRows_22 rfl ?_
      refine qx_aload_n d_QM_scanRows_24 rfl rfl ?_
      refine qx_getR d_QM_scanRows_25 fR_QM_7 rfl rfl (congrFun hR 0) ?_
      refine qx_iload d_QM_scanRows_28 rfl ?_
      refine qx_iald d_QM_scanRows_30 rfl rfl rfl rfl (by omega) hr ?_
      refine qx_icmp_geN (t := 179) d_QM_scanRows_31 rfl (by omega) (by omega) (fun c31 => absurd c31 (by omega)) (fun c31 => ?_)
      refine qx_aload_n d_QM_scanRows_34 rfl rfl ?_
      refine qx_iload_n d_QM_scanRows_35 rfl rfl ?_
      refine qx_iload d_QM_scanRows_36 rfl ?_
      refine qx_callV (As := [_, _]) (rest := _) d_QM_scanRows_38 lk_QM_194 y_QM_bring v_QM_bring rfl rfl rfl (by decide) rfl rfl rfl rfl (by decide) (by decide) (ct_QM_bring_0 hR hv hb kv kb kp wk wn tv tn htv t ht3 ht q (by omega)) ?_
      rintro _ _ _ ⟨rfl, rfl, rfl⟩
      refine qx_iload d_QM_scanRows_41 rfl ?_
      refine qx_aload_n d_QM_scanRows_43 rfl rfl ?_
      refine qx_getI d_QM_scanRows_44 fI_QM_248 rfl rfl hwk ?_
      refine qx_iremN d_QM_scanRows_47 (by omega) (by omega) (by omega) ?_
      refine qx_iload_n d_QM_scanRows_48 rfl rfl ?_
      refine qx_icmp_neN (t := 56) d_QM_scanRows_49 rfl (by have := Nat.mod_lt q (show 0 < wc by omega); omega) (by omega) (fun c49 => ?_) (fun c49 => ?_)
      · refine qx_iconst (v := b2i false) d_QM_scanRows_56 rfl ?_
        refine qx_istore (lv1 := [_, _, _, _, _, _, _, _, _]) d_QM_scanRows_57 (by decide) rfl ?_
        refine qx_iconstN (v := 0) d_QM_scanRows_59 rfl ?_
        refine qx_istore (lv1 := [_, _, _, _, _, _, _, _, _]) d_QM_scanRows_60 (by decide) rfl ?_
        refine inner nc 0 q _ _ _ _ _ _ (by omega) (by omega) hle ?_ (fun c h4 h2 => (by
          have hc : c = 0 ∨ c = 1 := by omega
          rcases hc with rfl | rfl <;> rfl)) (fun hv hb wk wn c2 e => ?_)
        · first
            | exact (decide_eq_true c49).symm
            | exact (decide_eq_false c49).symm
        · rw [e, ← hst]
          exact ih (q + 1) hv hb wk wn (by omega)
      · refine qx_iconst (v := b2i true) d_QM_scanRows_52 rfl ?_
        refine qx_goto (t := 57) d_QM_scanRows_53 rfl ?_
        refine qx_istore (lv1 := [_, _, _, _, _, _, _, _, _]) d_QM_scanRows_57 (by decide) rfl ?_
        refine qx_iconstN (v := 0) d_QM_scanRows_59 rfl ?_
        refine qx_istore (lv1 := [_, _, _, _, _, _, _, _, _]) d_QM_scanRows_60 (by decide) rfl ?_
        refine inner nc 0 q _ _ _ _ _ _ (by omega) (by omega) hle ?_ (fun c h4 h2 => (by
          have hc : c = 0 ∨ c = 1 := by omega
          rcases hc with rfl | rfl <;> rfl)) (fun hv hb wk wn c2 e => ?_)
        · first
            | exact (decide_eq_true c49).symm
            | exact (decide_eq_false c49).symm
        · rw [e, ← hst]
          exact ih (q + 1) hv hb wk wn (by omega)
  refine qx_iconstN (v := 0) d_QM_scanRows_0 rfl ?_
  refine qx_istore_n (lv1 := [_, _, _, _, _, _, _, _, _]) d_QM_scanRows_1 rfl (by decide) rfl ?_
  refine qx_iload_n d_QM_scanRows_2 rfl rfl ?_
  refine qx_if_neN (t := 13) d_QM_scanRows_3 rfl (by omega) (fun c3 => absurd c3 (by decide)) (fun c3 => ?_)
  refine qx_aload_n d_QM_scanRows_6 rfl rfl ?_
  refine qx_getI d_QM_scanRows_7 fI_QM_114 rfl rfl ht ?_
  refine qx_goto (t := 17) d_QM_scanRows_10 rfl ?_
  refine qx_istore (lv1 := [_, _, _, _, _, _, _, _, _]) d_QM_scanRows_17 (by decide) rfl ?_
  refine qx_iconstN (v := 0) d_QM_scanRows_19 rfl ?_
  refine qx_istore (lv1 := [_, _, _, _, _, _, _, _, _]) d_QM_scanRows_20 (by decide) rfl ?_
  exact outer nr 0 hv hb wk wn (by omega)
set_option maxRecDepth 100000 in
set_option maxHeartbeats 4000000 in
theorem ct_QM_scanRows_1 {h : qH} (hR : h.2.2 122 = qRQM) (hv : Nat → Int64) (hb : Nat → Bool) (kv : Nat → Int64) (kb : Nat → Bool) (kp : Nat) (wk : Nat → Int64) (wn : Nat → Int32) (tv : Nat → Int64) (tn : Nat → Bool) (htv : ∀ k, k < 72 → h.2.1 124 k = tv k ∧ h.1 125 k = b2i (tn k)) (nc : Nat) (hnc6 : nc ≤ 6) (hnc : h.1 122 14 = nI nc) (CE : Nat → List xP) (hce : ∀ c, c < nc → (CE c).length ≤ 24 ∧ h.1 128 (8 + c) = nI (CE c).length ∧ rExp (h.1 126) (h.2.1 127) (24 * (8 + c)) (CE c) ∧ xT 8 [] (CE c) = some [true]) (wc : Nat) (h1w : 1 ≤ wc) (hw4 : wc ≤ 4) (hwk : h.1 122 38 = nI wc) (kd : Nat) (hk3 : kd < 3) (hkd : h.1 122 4 = nI kd) (t : Nat) (ht3 : t < 3) (ht : h.1 122 6 = nI t) (nr : Nat) (hnr : nr ≤ 12) (hr : h.1 123 t = nI nr) (p : Nat) (hp : p < 4) : qT mi_QM_scanRows 4 0 0 [.ref 122, .int (nI 1), .int (nI p)] (eR (fR h hv hb kv kb kp) wk wn) NN (fun v1 h1 n1 => v1 = some (.int (nI (cntB (fun q => (aB (decide (q % wc = p)) (fun c => !pu kd 1 (CE c) || xTru (scR tv tn t 1 q) (CE c)) nc)) nr))) ∧ (∃ hv1 hb1 wk1 wn1, h1 = eR (fR h hv1 hb1 kv kb kp) wk1 wn1) ∧ n1 = NN) := by
  refine qT.of (lv0 := [_, _, _, _, _, _, _, _, _]) (by decide +kernel) (fun _ _ => Nat.le_of_ble_eq_true rfl) rfl ?_
  have inner : ∀ (m c q cnt : Nat) (ok : Bool) (hv : Nat → Int64) (hb : Nat → Bool) (wk : Nat → Int64) (wn : Nat → Int32), c + m = nc → q < nr → cnt ≤ q → ok = (aB (decide (q % wc = p)) (fun c => !pu kd 1 (CE c) || xTru (scR tv tn t 1 q) (CE c)) c) → (∀ c, c < 4 → c / 2 = 1 → (if hb c = true then none else some (hv c)) = scR tv tn t 1 q c) → (∀ (hv : Nat → Int64) (hb : Nat → Bool) (wk : Nat → Int64) (wn : Nat → Int32) (c2 : Nat), c2 = (if (aB (decide (q % wc = p)) (fun c => !pu kd 1 (CE c) || xTru (scR tv tn t 1 q) (CE c)) nc) = true then cnt + 1 else cnt) → qX mi_QM_scanRows 4 none 0 0 22 [.ref 122, .int (nI 1), .int (nI p), .int (nI c2), .int (nI t), .int (nI (q + 1)), qdead, qdead, qdead] [] (eR (fR h hv hb kv kb kp) wk wn) NN 0 0 (fun v1 h1 n1 => v1 = some (.int (nI (cntB (fun q => (aB (decide (q % wc = p)) (fun c => !pu kd 1 (CE c) || xTru (scR tv tn t 1 q) (CE c)) nc)) nr))) ∧ (∃ hv1 hb1 wk1 wn1, h1 = eR (fR h hv1 hb1 kv kb kp) wk1 wn1) ∧ n1 = NN)) →
      qX mi_QM_scanRows 4 none 0 0 62 [.ref 122, .int (nI 1), .int (nI p), .int (nI cnt), .int (nI t), .int (nI q), .int (b2i ok), .int (nI c), qdead] [] (eR (fR h hv hb kv kb kp) wk wn) NN 0 0 (fun v1 h1 n1 => v1 = some (.int (nI (cntB (fun q => (aB (decide (q % wc = p)) (fun c => !pu kd 1 (CE c) || xTru (scR tv tn t 1 q) (CE c)) nc)) nr))) ∧ (∃ hv1 hb1 wk1 wn1, h1 = eR (fR h hv1 hb1 kv kb kp) wk1 wn1) ∧ n1 = NN) := by
    intro m
    induction m with
    | zero =>
      intro c q cnt ok hv hb wk wn hc hq hcn hok hrw nxt
      have e : c = nc := by omega
      subst e
      refine qx_iload d_QM_scanRows_62 rfl ?_
      refine qx_aload_n d_QM_scanRows_64 rfl rfl ?_
      refine qx_getI d_QM_scanRows_65 fI_QM_141 rfl rfl hnc ?_
      refine qx_icmp_geN (t := 160) d_QM_scanRows_68 rfl (by omega) (by omega) (fun c68 => ?_) (fun c68 => absurd c68 (by omega))
      refine qx_iload d_QM_scanRows_160 rfl ?_
      refine qx_if_eqB (t := 171) d_QM_scanRows_162 rfl (fun c162 => ?_) (fun c162 => ?_)
      · refine qx_iload_n d_QM_scanRows_171 rfl rfl ?_
        refine qx_istore_n (lv1 := [_, _, _, _, _, _, _, _, _]) d_QM_scanRows_172 rfl (by decide) rfl ?_
        refine qx_iincN (w := 1) (lv1 := [_, _, _, _, _, _, _, _, _]) d_QM_scanRows_173 rfl rfl (by decide) rfl ?_
        refine qx_goto (t := 22) d_QM_scanRows_176 rfl ?_
        refine qx_less (lv1 := [_, _, _, _, _, _, qdead, qdead, qdead]) ⟨Or.inr rfl, Or.inr rfl, Or.inr rfl, Or.inr rfl, Or.inr rfl, Or.inr rfl, Or.inl rfl, Or.inl rfl, Or.inl rfl, trivial⟩ ?_
        exact nxt _ _ _ _ _ (by first | (rw [if_pos (hok ▸ c162)]; done) | (rw [if_neg (fun e => absurd ((hok.trans e).symm.trans c162) (by decide))]; done))
      · refine qx_iload_n d_QM_scanRows_165 rfl rfl ?_
        refine qx_iconstN (v := 1) d_QM_scanRows_166 rfl ?_
        refine qx_iaddN d_QM_scanRows_167 ?_
        refine qx_goto (t := 172) d_QM_scanRows_168 rfl ?_
        refine qx_istore_n (lv1 := [_, _, _, _, _, _, _, _, _]) d_QM_scanRows_172 rfl (by decide) rfl ?_
        refine qx_iincN (w := 1) (lv1 := [_, _, _, _, _, _, _, _, _]) d_QM_scanRows_173 rfl rfl (by decide) rfl ?_
        refine qx_goto (t := 22) d_QM_scanRows_176 rfl ?_
        refine qx_less (lv1 := [_, _, _, _, _, _, qdead, qdead, qdead]) ⟨Or.inr rfl, Or.inr rfl, Or.inr rfl, Or.inr rfl, Or.inr rfl, Or.inr rfl, Or.inl rfl, Or.inl rfl, Or.inl rfl, trivial⟩ ?_
        exact nxt _ _ _ _ _ (by first | (rw [if_pos (hok ▸ c162)]; done) | (rw [if_neg (fun e => absurd ((hok.trans e).symm.trans c162) (by decide))]; done))
    | succ m ih =>
      intro c q cnt ok hv hb wk wn hc hq hcn hok hrw nxt
      have hst : (aB (decide (q % wc = p)) (fun c => !pu kd 1 (CE c) || xTru (scR tv tn t 1 q) (CE c)) (c + 1)) = ((aB (decide (q % wc = p)) (fun c => !pu kd 1 (CE c) || xTru (scR tv tn t 1 q) (CE c)) c) && (!pu kd 1 (CE c) || xTru (scR tv tn t 1 q) (CE c))) := rfl
      have hag := fun hp => xTru_sc (row := fun c => if hb c = true then none else some (hv c)) (row2 := scR tv tn t 1 q) (kd := kd) (show 1 < 2 by decide) (hce c (by omega)).2.2.2 hrw hp
      refine qx_iload d_QM_scanRows_62 rfl ?_
      refine qx_aload_n d_QM_scanRows_64 rfl rfl ?_
      refine qx_getI d_QM_scanRows_65 fI_QM_141 rfl rfl hnc ?_
      refine qx_icmp_geN (t := 160) d_QM_scanRows_68 rfl (by omega) (by omega) (fun c68 => absurd c68 (by omega)) (fun c68 => ?_)
      refine qx_iload d_QM_scanRows_71 rfl ?_
      refine qx_if_eqB (t := 160) d_QM_scanRows_73 rfl (fun c73 => ?_) (fun c73 => ?_)
      · refine qx_iload d_QM_scanRows_160 rfl ?_
        refine qx_if_eqB (t := 171) d_QM_scanRows_162 rfl (fun c162 => ?_) (fun c162 => ?_)
        · refine qx_iload_n d_QM_scanRows_171 rfl rfl ?_
          refine qx_istore_n (lv1 := [_, _, _, _, _, _, _, _, _]) d_QM_scanRows_172 rfl (by decide) rfl ?_
          refine qx_iincN (w := 1) (lv1 := [_, _, _, _, _, _, _, _, _]) d_QM_scanRows_173 rfl rfl (by decide) rfl ?_
          refine qx_goto (t := 22) d_QM_scanRows_176 rfl ?_
          first
            | exact absurd (c73.symm.trans c162) (by decide)
            | (refine qx_less (lv1 := [_, _, _, _, _, _, qdead, qdead, qdead]) ⟨Or.inr rfl, Or.inr rfl, Or.inr rfl, Or.inr rfl, Or.inr rfl, Or.inr rfl, Or.inl rfl, Or.inl rfl, Or.inl rfl, trivial⟩ ?_
               refine nxt _ _ _ _ _ ?_
               have hz := aB_mono (hok.symm.trans c73) (m + 1)
               rw [show c + (m + 1) = nc by omega] at hz
               rw [if_neg (by rw [hz]; decide)])
        · refine qx_iload_n d_QM_scanRows_165 rfl rfl ?_
          refine qx_iconstN (v := 1) d_QM_scanRows_166 rfl ?_
          refine qx_iaddN d_QM_scanRows_167 ?_
          refine qx_goto (t := 172) d_QM_scanRows_168 rfl ?_
          refine qx_istore_n (lv1 := [_, _, _, _, _, _, _, _, _]) d_QM_scanRows_172 rfl (by decide) rfl ?_
          refine qx_iincN (w := 1) (lv1 := [_, _, _, _, _, _, _, _, _]) d_QM_scanRows_173 rfl rfl (by decide) rfl ?_
          refine qx_goto (t := 22) d_QM_scanRows_176 rfl ?_
          first
            | exact absurd (c73.symm.trans c162) (by decide)
            | (refine qx_less (lv1 := [_, _, _, _, _, _, qdead, qdead, qdead]) ⟨Or.inr rfl, Or.inr rfl, Or.inr rfl, Or.inr rfl, Or.inr rfl, Or.inr rfl, Or.inl rfl, Or.inl rfl, Or.inl rfl, trivial⟩ ?_
               refine nxt _ _ _ _ _ ?_
               have hz := aB_mono (hok.symm.trans c73) (m + 1)
               rw [show c + (m + 1) = nc by omega] at hz
               rw [if_neg (by rw [hz]; decide)])
      · refine qx_iload_n d_QM_scanRows_76 rfl rfl ?_
        refine qx_if_neN (t := 98) d_QM_scanRows_77 rfl (by omega) (fun c77 => ?_) (fun c77 => absurd c77 (by decide))
        refine qx_aload_n d_QM_scanRows_98 rfl rfl ?_
        refine qx_getI d_QM_scanRows_99 fI_QM_110 rfl rfl hkd ?_
        refine qx_iconstN (v := 1) d_QM_scanRows_102 rfl ?_
        refine qx_icmp_neN (t := 130) d_QM_scanRows_103 rfl (by omega) (by omega) (fun c103 => ?_) (fun c103 => ?_)
        · refine qx_iconst (v := b2i false) d_QM_scanRows_130 rfl ?_
          refine qx_istore (lv1 := [_, _, _, _, _, _, _, _, _]) d_QM_scanRows_131 (by decide) rfl ?_
          refine qx_iload d_QM_scanRows_133 rfl ?_
          refine qx_if_eqB (t := 147) d_QM_scanRows_135 rfl (fun c135 => ?_) (fun c135 => ?_)
          · refine qx_iconst (v := b2i true) d_QM_scanRows_147 rfl ?_
            refine qx_goto (t := 152) d_QM_scanRows_148 rfl ?_
            refine qx_istore (lv1 := [_, _, _, _, _, _, _, _, _]) d_QM_scanRows_152 (by decide) rfl ?_
            refine qx_iincN (w := 1) (lv1 := [_, _, _, _, _, _, _, _, _]) d_QM_scanRows_154 rfl rfl (by decide) rfl ?_
            refine qx_goto (t := 62) d_QM_scanRows_157 rfl ?_
            have hpu : pu kd 1 (CE c) = (decide (kd = 1) && (nms 1 (CE c) && !nms 0 (CE c))) := rfl
            first
              | (have z := c123; rw [c113, c123, decide_eq_true c103] at hpu)
              | (have z := c113; rw [c113, Bool.false_and, Bool.and_false] at hpu)
              | (rw [decide_eq_false c103, Bool.false_and] at hpu)
            first
              | exact absurd c135 (by decide)
              | (refine qx_less (lv1 := [_, _, _, _, _, _, _, _, qdead]) ⟨Or.inr rfl, Or.inr rfl, Or.inr rfl, Or.inr rfl, Or.inr rfl, Or.inr rfl, Or.inr rfl, Or.inr rfl, Or.inl rfl, trivial⟩ ?_
                 refine ih (c + 1) q cnt _ hv hb _ _ (by omega) hq hcn ?_ hrw nxt
                 rw [hst, ← hok, c73, hpu]
                 first
                   | (rw [← hag hpu, c144]; rfl)
                   | rfl)
          · refine qx_aload_n d_QM_scanRows_138 rfl rfl ?_
            refine qx_iload d_QM_scanRows_139 rfl ?_
            refine qx_callV (As := [_]) (rest := _) d_QM_scanRows_141 lk_QM_185 y_QM_isTrue v_QM_isTrue rfl rfl rfl (by decide) rfl rfl rfl rfl (by decide) (by decide) (ct_QM_isTrue hR hv hb kv kb kp wk wn nc hnc6 hnc CE hce (fun c => if hb c = true then none else some (hv c)) (fun _ _ => rfl) c (by omega)) ?_
            rintro _ _ _ ⟨rfl, ⟨wk1, wn1, rfl⟩, rfl⟩
            refine qx_if_eqB (t := 151) d_QM_scanRows_144 rfl (fun c144 => ?_) (fun c144 => ?_)
            · refine qx_iconst (v := b2i false) d_QM_scanRows_151 rfl ?_
              refine qx_istore (lv1 := [_, _, _, _, _, _, _, _, _]) d_QM_scanRows_152 (by decide) rfl ?_
              refine qx_iincN (w := 1) (lv1 := [_, _, _, _, _, _, _, _, _]) d_QM_scanRows_154 rfl rfl (by decide) rfl ?_
              refine qx_goto (t := 62) d_QM_scanRows_157 rfl ?_
              have hpu : pu kd 1 (CE c) = (decide (kd = 1) && (nms 1 (CE c) && !nms 0 (CE c))) := rfl
              first
                | (have z := c123; rw [c113, c123, decide_eq_true c103] at hpu)
                | (have z := c113; rw [c113, Bool.false_and, Bool.and_false] at hpu)
                | (rw [decide_eq_false c103, Bool.false_and] at hpu)
              first
                | exact absurd c135 (by decide)
                | (refine qx_less (lv1 := [_, _, _, _, _, _, _, _, qdead]) ⟨Or.inr rfl, Or.inr rfl, Or.inr rfl, Or.inr rfl, Or.inr rfl, Or.inr rfl, Or.inr rfl, Or.inr rfl, Or.inl rfl, trivial⟩ ?_
                   refine ih (c + 1) q cnt _ hv hb _ _ (by omega) hq hcn ?_ hrw nxt
                   rw [hst, ← hok, c73, hpu]
                   first
                     | (rw [← hag hpu, c144]; rfl)
                     | rfl)
            · refine qx_iconst (v := b2i true) d_QM_scanRows_147 rfl ?_
              refine qx_goto (t := 152) d_QM_scanRows_148 rfl ?_
              refine qx_istore (lv1 := [_, _, _, _, _, _, _, _, _]) d_QM_scanRows_152 (by decide) rfl ?_
              refine qx_iincN (w := 1) (lv1 := [_, _, _, _, _, _, _, _, _]) d_QM_scanRows_154 rfl rfl (by decide) rfl ?_
              refine qx_goto (t := 62) d_QM_scanRows_157 rfl ?_
              have hpu : pu kd 1 (CE c) = (decide (kd = 1) && (nms 1 (CE c) && !nms 0 (CE c))) := rfl
              first
                | (have z := c123; rw [c113, c123, decide_eq_true c103] at hpu)
                | (have z := c113; rw [c113, Bool.false_and, Bool.and_false] at hpu)
                | (rw [decide_eq_false c103, Bool.false_and] at hpu)
              first
                | exact absurd c135 (by decide)
                | (refine qx_less (lv1 := [_, _, _, _, _, _, _, _, qdead]) ⟨Or.inr rfl, Or.inr rfl, Or.inr rfl, Or.inr rfl, Or.inr rfl, Or.inr rfl, Or.inr rfl, Or.inr rfl, Or.inl rfl, trivial⟩ ?_
                   refine ih (c + 1) q cnt _ hv hb _ _ (by omega) hq hcn ?_ hrw nxt
                   rw [hst, ← hok, c73, hpu]
                   first
                     | (rw [← hag hpu, c144]; rfl)
                     | rfl)
        · refine qx_aload_n d_QM_scanRows_106 rfl rfl ?_
          refine qx_iload d_QM_scanRows_107 rfl ?_
          refine qx_iconstN (v := 1) d_QM_scanRows_109 rfl ?_
          refine qx_callV (As := [_, _]) (rest := _) d_QM_scanRows_110 lk_QM_251 y_QM_names v_QM_names rfl rfl rfl (by decide) rfl rfl rfl rfl (by decide) (by decide) (ct_QM_names (h := (eR (fR h hv hb kv kb kp) wk wn)) hR c (by omega) 1 (by omega) (CE c) (hce c (by omega)).1 (hce c (by omega)).2.1 (hce c (by omega)).2.2.1) ?_
          rintro _ _ _ ⟨rfl, rfl, rfl⟩
          refine qx_if_eqB (t := 130) d_QM_scanRows_113 rfl (fun c113 => ?_) (fun c113 => ?_)
          · refine qx_iconst (v := b2i false) d_QM_scanRows_130 rfl ?_
            refine qx_istore (lv1 := [_, _, _, _, _, _, _, _, _]) d_QM_scanRows_131 (by decide) rfl ?_
            refine qx_iload d_QM_scanRows_133 rfl ?_
            refine qx_if_eqB (t := 147) d_QM_scanRows_135 rfl (fun c135 => ?_) (fun c135 => ?_)
            · refine qx_iconst (v := b2i true) d_QM_scanRows_147 rfl ?_
              refine qx_goto (t := 152) d_QM_scanRows_148 rfl ?_
              refine qx_istore (lv1 := [_, _, _, _, _, _, _, _, _]) d_QM_scanRows_152 (by decide) rfl ?_
              refine qx_iincN (w := 1) (lv1 := [_, _, _, _, _, _, _, _, _]) d_QM_scanRows_154 rfl rfl (by decide) rfl ?_
              refine qx_goto (t := 62) d_QM_scanRows_157 rfl ?_
              have hpu : pu kd 1 (CE c) = (decide (kd = 1) && (nms 1 (CE c) && !nms 0 (CE c))) := rfl
              first
                | (have z := c123; rw [c113, c123, decide_eq_true c103] at hpu)
                | (have z := c113; rw [c113, Bool.false_and, Bool.and_false] at hpu)
                | (rw [decide_eq_false c103, Bool.false_and] at hpu)
              first
                | exact absurd c135 (by decide)
                | (refine qx_less (lv1 := [_, _, _, _, _, _, _, _, qdead]) ⟨Or.inr rfl, Or.inr rfl, Or.inr rfl, Or.inr rfl, Or.inr rfl, Or.inr rfl, Or.inr rfl, Or.inr rfl, Or.inl rfl, trivial⟩ ?_
                   refine ih (c + 1) q cnt _ hv hb _ _ (by omega) hq hcn ?_ hrw nxt
                   rw [hst, ← hok, c73, hpu]
                   first
                     | (rw [← hag hpu, c144]; rfl)
                     | rfl)
            · refine qx_aload_n d_QM_scanRows_138 rfl rfl ?_
              refine qx_iload d_QM_scanRows_139 rfl ?_
              refine qx_callV (As := [_]) (rest := _) d_QM_scanRows_141 lk_QM_185 y_QM_isTrue v_QM_isTrue rfl rfl rfl (by decide) rfl rfl rfl rfl (by decide) (by decide) (ct_QM_isTrue hR hv hb kv kb kp wk wn nc hnc6 hnc CE hce (fun c => if hb c = true then none else some (hv c)) (fun _ _ => rfl) c (by omega)) ?_
              rintro _ _ _ ⟨rfl, ⟨wk1, wn1, rfl⟩, rfl⟩
              refine qx_if_eqB (t := 151) d_QM_scanRows_144 rfl (fun c144 => ?_) (fun c144 => ?_)
              · refine qx_iconst (v := b2i false) d_QM_scanRows_151 rfl ?_
                refine qx_istore (lv1 := [_, _, _, _, _, _, _, _, _]) d_QM_scanRows_152 (by decide) rfl ?_
                refine qx_iincN (w := 1) (lv1 := [_, _, _, _, _, _, _, _, _]) d_QM_scanRows_154 rfl rfl (by decide) rfl ?_
                refine qx_goto (t := 62) d_QM_scanRows_157 rfl ?_
                have hpu : pu kd 1 (CE c) = (decide (kd = 1) && (nms 1 (CE c) && !nms 0 (CE c))) := rfl
                first
                  | (have z := c123; rw [c113, c123, decide_eq_true c103] at hpu)
                  | (have z := c113; rw [c113, Bool.false_and, Bool.and_false] at hpu)
                  | (rw [decide_eq_false c103, Bool.false_and] at hpu)
                first
                  | exact absurd c135 (by decide)
                  | (refine qx_less (lv1 := [_, _, _, _, _, _, _, _, qdead]) ⟨Or.inr rfl, Or.inr rfl, Or.inr rfl, Or.inr rfl, Or.inr rfl, Or.inr rfl, Or.inr rfl, Or.inr rfl, Or.inl rfl, trivial⟩ ?_
                     refine ih (c + 1) q cnt _ hv hb _ _ (by omega) hq hcn ?_ hrw nxt
                     rw [hst, ← hok, c73, hpu]
                     first
                       | (rw [← hag hpu, c144]; rfl)
                       | rfl)
              · refine qx_iconst (v := b2i true) d_QM_scanRows_147 rfl ?_
                refine qx_goto (t := 152) d_QM_scanRows_148 rfl ?_
                refine qx_istore (lv1 := [_, _, _, _, _, _, _, _, _]) d_QM_scanRows_152 (by decide) rfl ?_
                refine qx_iincN (w := 1) (lv1 := [_, _, _, _, _, _, _, _, _]) d_QM_scanRows_154 rfl rfl (by decide) rfl ?_
                refine qx_goto (t := 62) d_QM_scanRows_157 rfl ?_
                have hpu : pu kd 1 (CE c) = (decide (kd = 1) && (nms 1 (CE c) && !nms 0 (CE c))) := rfl
                first
                  | (have z := c123; rw [c113, c123, decide_eq_true c103] at hpu)
                  | (have z := c113; rw [c113, Bool.false_and, Bool.and_false] at hpu)
                  | (rw [decide_eq_false c103, Bool.false_and] at hpu)
                first
                  | exact absurd c135 (by decide)
                  | (refine qx_less (lv1 := [_, _, _, _, _, _, _, _, qdead]) ⟨Or.inr rfl, Or.inr rfl, Or.inr rfl, Or.inr rfl, Or.inr rfl, Or.inr rfl, Or.inr rfl, Or.inr rfl, Or.inl rfl, trivial⟩ ?_
                     refine ih (c + 1) q cnt _ hv hb _ _ (by omega) hq hcn ?_ hrw nxt
                     rw [hst, ← hok, c73, hpu]
                     first
                       | (rw [← hag hpu, c144]; rfl)
                       | rfl)
          · refine qx_aload_n d_QM_scanRows_116 rfl rfl ?_
            refine qx_iload d_QM_scanRows_117 rfl ?_
            refine qx_iconstN (v := 0) d_QM_scanRows_119 rfl ?_
            refine qx_callV (As := [_, _]) (rest := _) d_QM_scanRows_120 lk_QM_251 y_QM_names v_QM_names rfl rfl rfl (by decide) rfl rfl rfl rfl (by decide) (by decide) (ct_QM_names (h := (eR (fR h hv hb kv kb kp) wk wn)) hR c (by omega) 0 (by omega) (CE c) (hce c (by omega)).1 (hce c (by omega)).2.1 (hce c (by omega)).2.2.1) ?_
            rintro _ _ _ ⟨rfl, rfl, rfl⟩
            refine qx_if_neB (t := 130) d_QM_scanRows_123 rfl (fun c123 => ?_) (fun c123 => ?_)
            · refine qx_iconst (v := b2i false) d_QM_scanRows_130 rfl ?_
              refine qx_istore (lv1 := [_, _, _, _, _, _, _, _, _]) d_QM_scanRows_131 (by decide) rfl ?_
              refine qx_iload d_QM_scanRows_133 rfl ?_
              refine qx_if_eqB (t := 147) d_QM_scanRows_135 rfl (fun c135 => ?_) (fun c135 => ?_)
              · refine qx_iconst (v := b2i true) d_QM_scanRows_147 rfl ?_
                refine qx_goto (t := 152) d_QM_scanRows_148 rfl ?_
                refine qx_istore (lv1 := [_, _, _, _, _, _, _, _, _]) d_QM_scanRows_152 (by decide) rfl ?_
                refine qx_iincN (w := 1) (lv1 := [_, _, _, _, _, _, _, _, _]) d_QM_scanRows_154 rfl rfl (by decide) rfl ?_
                refine qx_goto (t := 62) d_QM_scanRows_157 rfl ?_
                have hpu : pu kd 1 (CE c) = (decide (kd = 1) && (nms 1 (CE c) && !nms 0 (CE c))) := rfl
                first
                  | (have z := c123; rw [c113, c123, decide_eq_true c103] at hpu)
                  | (have z := c113; rw [c113, Bool.false_and, Bool.and_false] at hpu)
                  | (rw [decide_eq_false c103, Bool.false_and] at hpu)
                first
                  | exact absurd c135 (by decide)
                  | (refine qx_less (lv1 := [_, _, _, _, _, _, _, _, qdead]) ⟨Or.inr rfl, Or.inr rfl, Or.inr rfl, Or.inr rfl, Or.inr rfl, Or.inr rfl, Or.inr rfl, Or.inr rfl, Or.inl rfl, trivial⟩ ?_
                     refine ih (c + 1) q cnt _ hv hb _ _ (by omega) hq hcn ?_ hrw nxt
                     rw [hst, ← hok, c73, hpu]
                     first
                       | (rw [← hag hpu, c144]; rfl)
                       | rfl)
              · refine qx_aload_n d_QM_scanRows_138 rfl rfl ?_
                refine qx_iload d_QM_scanRows_139 rfl ?_
                refine qx_callV (As := [_]) (rest := _) d_QM_scanRows_141 lk_QM_185 y_QM_isTrue v_QM_isTrue rfl rfl rfl (by decide) rfl rfl rfl rfl (by decide) (by decide) (ct_QM_isTrue hR hv hb kv kb kp wk wn nc hnc6 hnc CE hce (fun c => if hb c = true then none else some (hv c)) (fun _ _ => rfl) c (by omega)) ?_
                rintro _ _ _ ⟨rfl, ⟨wk1, wn1, rfl⟩, rfl⟩
                refine qx_if_eqB (t := 151) d_QM_scanRows_144 rfl (fun c144 => ?_) (fun c144 => ?_)
                · refine qx_iconst (v := b2i false) d_QM_scanRows_151 rfl ?_
                  refine qx_istore (lv1 := [_, _, _, _, _, _, _, _, _]) d_QM_scanRows_152 (by decide) rfl ?_
                  refine qx_iincN (w := 1) (lv1 := [_, _, _, _, _, _, _, _, _]) d_QM_scanRows_154 rfl rfl (by decide) rfl ?_
                  refine qx_goto (t := 62) d_QM_scanRows_157 rfl ?_
                  have hpu : pu kd 1 (CE c) = (decide (kd = 1) && (nms 1 (CE c) && !nms 0 (CE c))) := rfl
                  first
                    | (have z := c123; rw [c113, c123, decide_eq_true c103] at hpu)
                    | (have z := c113; rw [c113, Bool.false_and, Bool.and_false] at hpu)
                    | (rw [decide_eq_false c103, Bool.false_and] at hpu)
                  first
                    | exact absurd c135 (by decide)
                    | (refine qx_less (lv1 := [_, _, _, _, _, _, _, _, qdead]) ⟨Or.inr rfl, Or.inr rfl, Or.inr rfl, Or.inr rfl, Or.inr rfl, Or.inr rfl, Or.inr rfl, Or.inr rfl, Or.inl rfl, trivial⟩ ?_
                       refine ih (c + 1) q cnt _ hv hb _ _ (by omega) hq hcn ?_ hrw nxt
                       rw [hst, ← hok, c73, hpu]
                       first
                         | (rw [← hag hpu, c144]; rfl)
                         | rfl)
                · refine qx_iconst (v := b2i true) d_QM_scanRows_147 rfl ?_
                  refine qx_goto (t := 152) d_QM_scanRows_148 rfl ?_
                  refine qx_istore (lv1 := [_, _, _, _, _, _, _, _, _]) d_QM_scanRows_152 (by decide) rfl ?_
                  refine qx_iincN (w := 1) (lv1 := [_, _, _, _, _, _, _, _, _]) d_QM_scanRows_154 rfl rfl (by decide) rfl ?_
                  refine qx_goto (t := 62) d_QM_scanRows_157 rfl ?_
                  have hpu : pu kd 1 (CE c) = (decide (kd = 1) && (nms 1 (CE c) && !nms 0 (CE c))) := rfl
                  first
                    | (have z := c123; rw [c113, c123, decide_eq_true c103] at hpu)
                    | (have z := c113; rw [c113, Bool.false_and, Bool.and_false] at hpu)
                    | (rw [decide_eq_false c103, Bool.false_and] at hpu)
                  first
                    | exact absurd c135 (by decide)
                    | (refine qx_less (lv1 := [_, _, _, _, _, _, _, _, qdead]) ⟨Or.inr rfl, Or.inr rfl, Or.inr rfl, Or.inr rfl, Or.inr rfl, Or.inr rfl, Or.inr rfl, Or.inr rfl, Or.inl rfl, trivial⟩ ?_
                       refine ih (c + 1) q cnt _ hv hb _ _ (by omega) hq hcn ?_ hrw nxt
                       rw [hst, ← hok, c73, hpu]
                       first
                         | (rw [← hag hpu, c144]; rfl)
                         | rfl)
            · refine qx_iconst (v := b2i true) d_QM_scanRows_126 rfl ?_
              refine qx_goto (t := 131) d_QM_scanRows_127 rfl ?_
              refine qx_istore (lv1 := [_, _, _, _, _, _, _, _, _]) d_QM_scanRows_131 (by decide) rfl ?_
              refine qx_iload d_QM_scanRows_133 rfl ?_
              refine qx_if_eqB (t := 147) d_QM_scanRows_135 rfl (fun c135 => ?_) (fun c135 => ?_)
              · refine qx_iconst (v := b2i true) d_QM_scanRows_147 rfl ?_
                refine qx_goto (t := 152) d_QM_scanRows_148 rfl ?_
                refine qx_istore (lv1 := [_, _, _, _, _, _, _, _, _]) d_QM_scanRows_152 (by decide) rfl ?_
                refine qx_iincN (w := 1) (lv1 := [_, _, _, _, _, _, _, _, _]) d_QM_scanRows_154 rfl rfl (by decide) rfl ?_
                refine qx_goto (t := 62) d_QM_scanRows_157 rfl ?_
                have hpu : pu kd 1 (CE c) = (decide (kd = 1) && (nms 1 (CE c) && !nms 0 (CE c))) := rfl
                first
                  | (have z := c123; rw [c113, c123, decide_eq_true c103] at hpu)
                  | (have z := c113; rw [c113, Bool.false_and, Bool.and_false] at hpu)
                  | (rw [decide_eq_false c103, Bool.false_and] at hpu)
                first
                  | exact absurd c135 (by decide)
                  | (refine qx_less (lv1 := [_, _, _, _, _, _, _, _, qdead]) ⟨Or.inr rfl, Or.inr rfl, Or.inr rfl, Or.inr rfl, Or.inr rfl, Or.inr rfl, Or.inr rfl, Or.inr rfl, Or.inl rfl, trivial⟩ ?_
                     refine ih (c + 1) q cnt _ hv hb _ _ (by omega) hq hcn ?_ hrw nxt
                     rw [hst, ← hok, c73, hpu]
                     first
                       | (rw [← hag hpu, c144]; rfl)
                       | rfl)
              · refine qx_aload_n d_QM_scanRows_138 rfl rfl ?_
                refine qx_iload d_QM_scanRows_139 rfl ?_
                refine qx_callV (As := [_]) (rest := _) d_QM_scanRows_141 lk_QM_185 y_QM_isTrue v_QM_isTrue rfl rfl rfl (by decide) rfl rfl rfl rfl (by decide) (by decide) (ct_QM_isTrue hR hv hb kv kb kp wk wn nc hnc6 hnc CE hce (fun c => if hb c = true then none else some (hv c)) (fun _ _ => rfl) c (by omega)) ?_
                rintro _ _ _ ⟨rfl, ⟨wk1, wn1, rfl⟩, rfl⟩
                refine qx_if_eqB (t := 151) d_QM_scanRows_144 rfl (fun c144 => ?_) (fun c144 => ?_)
                · refine qx_iconst (v := b2i false) d_QM_scanRows_151 rfl ?_
                  refine qx_istore (lv1 := [_, _, _, _, _, _, _, _, _]) d_QM_scanRows_152 (by decide) rfl ?_
                  refine qx_iincN (w := 1) (lv1 := [_, _, _, _, _, _, _, _, _]) d_QM_scanRows_154 rfl rfl (by decide) rfl ?_
                  refine qx_goto (t := 62) d_QM_scanRows_157 rfl ?_
                  have hpu : pu kd 1 (CE c) = (decide (kd = 1) && (nms 1 (CE c) && !nms 0 (CE c))) := rfl
                  first
                    | (have z := c123; rw [c113, c123, decide_eq_true c103] at hpu)
                    | (have z := c113; rw [c113, Bool.false_and, Bool.and_false] at hpu)
                    | (rw [decide_eq_false c103, Bool.false_and] at hpu)
                  first
                    | exact absurd c135 (by decide)
                    | (refine qx_less (lv1 := [_, _, _, _, _, _, _, _, qdead]) ⟨Or.inr rfl, Or.inr rfl, Or.inr rfl, Or.inr rfl, Or.inr rfl, Or.inr rfl, Or.inr rfl, Or.inr rfl, Or.inl rfl, trivial⟩ ?_
                       refine ih (c + 1) q cnt _ hv hb _ _ (by omega) hq hcn ?_ hrw nxt
                       rw [hst, ← hok, c73, hpu]
                       first
                         | (rw [← hag hpu, c144]; rfl)
                         | rfl)
                · refine qx_iconst (v := b2i true) d_QM_scanRows_147 rfl ?_
                  refine qx_goto (t := 152) d_QM_scanRows_148 rfl ?_
                  refine qx_istore (lv1 := [_, _, _, _, _, _, _, _, _]) d_QM_scanRows_152 (by decide) rfl ?_
                  refine qx_iincN (w := 1) (lv1 := [_, _, _, _, _, _, _, _, _]) d_QM_scanRows_154 rfl rfl (by decide) rfl ?_
                  refine qx_goto (t := 62) d_QM_scanRows_157 rfl ?_
                  have hpu : pu kd 1 (CE c) = (decide (kd = 1) && (nms 1 (CE c) && !nms 0 (CE c))) := rfl
                  first
                    | (have z := c123; rw [c113, c123, decide_eq_true c103] at hpu)
                    | (have z := c113; rw [c113, Bool.false_and, Bool.and_false] at hpu)
                    | (rw [decide_eq_false c103, Bool.false_and] at hpu)
                  first
                    | exact absurd c135 (by decide)
                    | (refine qx_less (lv1 := [_, _, _, _, _, _, _, _, qdead]) ⟨Or.inr rfl, Or.inr rfl, Or.inr rfl, Or.inr rfl, Or.inr rfl, Or.inr rfl, Or.inr rfl, Or.inr rfl, Or.inl rfl, trivial⟩ ?_
                       refine ih (c + 1) q cnt _ hv hb _ _ (by omega) hq hcn ?_ hrw nxt
                       rw [hst, ← hok, c73, hpu]
                       first
                         | (rw [← hag hpu, c144]; rfl)
                         | rfl)
  have outer : ∀ (m q : Nat) (hv : Nat → Int64) (hb : Nat → Bool) (wk : Nat → Int64) (wn : Nat → Int32), q + m = nr → qX mi_QM_scanRows 4 none 0 0 22 [.ref 122, .int (nI 1), .int (nI p), .int (nI (cntB (fun q => (aB (decide (q % wc = p)) (fun c => !pu kd 1 (CE c) || xTru (scR tv tn t 1 q) (CE c)) nc)) q)), .int (nI t), .int (nI q), qdead, qdead, qdead] [] (eR (fR h hv hb kv kb kp) wk wn) NN 0 0 (fun v1 h1 n1 => v1 = some (.int (nI (cntB (fun q => (aB (decide (q % wc = p)) (fun c => !pu kd 1 (CE c) || xTru (scR tv tn t 1 q) (CE c)) nc)) nr))) ∧ (∃ hv1 hb1 wk1 wn1, h1 = eR (fR h hv1 hb1 kv kb kp) wk1 wn1) ∧ n1 = NN) := by
    intro m
    induction m with
    | zero =>
      intro q hv hb wk wn hq
      have e : q = nr := by omega
      subst e
      refine qx_iload d_QM_scanRows_22 rfl ?_
      refine qx_aload_n d_QM_scanRows_24 rfl rfl ?_
      refine qx_getR d_QM_scanRows_25 fR_QM_7 rfl rfl (congrFun hR 0) ?_
      refine qx_iload d_QM_scanRows_28 rfl ?_
      refine qx_iald d_QM_scanRows_30 rfl rfl rfl rfl (by omega) hr ?_
      refine qx_icmp_geN (t := 179) d_QM_scanRows_31 rfl (by omega) (by omega) (fun c31 => ?_) (fun c31 => absurd c31 (by omega))
      refine qx_iload_n d_QM_scanRows_179 rfl rfl ?_
      exact qx_iret d_QM_scanRows_180 rfl rfl (by omega) (by omega) ⟨rfl, ⟨hv, hb, wk, wn, rfl⟩, rfl⟩
    | succ m ih =>
      intro q hv hb wk wn hq
      have hle := cntB_le (fun q => (aB (decide (q % wc = p)) (fun c => !pu kd 1 (CE c) || xTru (scR tv tn t 1 q) (CE c)) nc)) q
      have hst : cntB (fun q => (aB (decide (q % wc = p)) (fun c => !pu kd 1 (CE c) || xTru (scR tv tn t 1 q) (CE c)) nc)) (q + 1) = if (aB (decide (q % wc = p)) (fun c => !pu kd 1 (CE c) || xTru (scR tv tn t 1 q) (CE c)) nc) = true then cntB (fun q => (aB (decide (q % wc = p)) (fun c => !pu kd 1 (CE c) || xTru (scR tv tn t 1 q) (CE c)) nc)) q + 1 else cntB (fun q => (aB (decide (q % wc = p)) (fun c => !pu kd 1 (CE c) || xTru (scR tv tn t 1 q) (CE c)) nc)) q := rfl
      refine qx_iload d_QM_scanRows_22 rfl ?_
      refine qx_aload_n d_QM_scanRows_24 rfl rfl ?_
      refine qx_getR d_QM_scanRows_25 fR_QM_7 rfl rfl (congrFun hR 0) ?_
      refine qx_iload d_QM_scanRows_28 rfl ?_
      refine qx_iald d_QM_scanRows_30 rfl rfl rfl rfl (by omega) hr ?_
      refine qx_icmp_geN (t := 179) d_QM_scanRows_31 rfl (by omega) (by omega) (fun c31 => absurd c31 (by omega)) (fun c31 => ?_)
      refine qx_aload_n d_QM_scanRows_34 rfl rfl ?_
      refine qx_iload_n d_QM_scanRows_35 rfl rfl ?_
      refine qx_iload d_QM_scanRows_36 rfl ?_
      refine qx_callV (As := [_, _]) (rest := _) d_QM_scanRows_38 lk_QM_194 y_QM_bring v_QM_bring rfl rfl rfl (by decide) rfl rfl rfl rfl (by decide) (by decide) (ct_QM_bring_1 hR hv hb kv kb kp wk wn tv tn htv t ht3 ht q (by omega)) ?_
      rintro _ _ _ ⟨rfl, rfl, rfl⟩
      refine qx_iload d_QM_scanRows_41 rfl ?_
      refine qx_aload_n d_QM_scanRows_43 rfl rfl ?_
      refine qx_getI d_QM_scanRows_44 fI_QM_248 rfl rfl hwk ?_
      refine qx_iremN d_QM_scanRows_47 (by omega) (by omega) (by omega) ?_
      refine qx_iload_n d_QM_scanRows_48 rfl rfl ?_
      refine qx_icmp_neN (t := 56) d_QM_scanRows_49 rfl (by have := Nat.mod_lt q (show 0 < wc by omega); omega) (by omega) (fun c49 => ?_) (fun c49 => ?_)
      · refine qx_iconst (v := b2i false) d_QM_scanRows_56 rfl ?_
        refine qx_istore (lv1 := [_, _, _, _, _, _, _, _, _]) d_QM_scanRows_57 (by decide) rfl ?_
        refine qx_iconstN (v := 0) d_QM_scanRows_59 rfl ?_
        refine qx_istore (lv1 := [_, _, _, _, _, _, _, _, _]) d_QM_scanRows_60 (by decide) rfl ?_
        refine inner nc 0 q _ _ _ _ _ _ (by omega) (by omega) hle ?_ (fun c h4 h2 => (by
          have hc : c = 2 ∨ c = 3 := by omega
          rcases hc with rfl | rfl <;> rfl)) (fun hv hb wk wn c2 e => ?_)
        · first
            | exact (decide_eq_true c49).symm
            | exact (decide_eq_false c49).symm
        · rw [e, ← hst]
          exact ih (q + 1) hv hb wk wn (by omega)
      · refine qx_iconst (v := b2i true) d_QM_scanRows_52 rfl ?_
        refine qx_goto (t := 57) d_QM_scanRows_53 rfl ?_
        refine qx_istore (lv1 := [_, _, _, _, _, _, _, _, _]) d_QM_scanRows_57 (by decide) rfl ?_
        refine qx_iconstN (v := 0) d_QM_scanRows_59 rfl ?_
        refine qx_istore (lv1 := [_, _, _, _, _, _, _, _, _]) d_QM_scanRows_60 (by decide) rfl ?_
        refine inner nc 0 q _ _ _ _ _ _ (by omega) (by omega) hle ?_ (fun c h4 h2 => (by
          have hc : c = 2 ∨ c = 3 := by omega
          rcases hc with rfl | rfl <;> rfl)) (fun hv hb wk wn c2 e => ?_)
        · first
            | exact (decide_eq_true c49).symm
            | exact (decide_eq_false c49).symm
        · rw [e, ← hst]
          exact ih (q + 1) hv hb wk wn (by omega)
  refine qx_iconstN (v := 0) d_QM_scanRows_0 rfl ?_
  refine qx_istore_n (lv1 := [_, _, _, _, _, _, _, _, _]) d_QM_scanRows_1 rfl (by decide) rfl ?_
  refine qx_iload_n d_QM_scanRows_2 rfl rfl ?_
  refine qx_if_neN (t := 13) d_QM_scanRows_3 rfl (by omega) (fun c3 => ?_) (fun c3 => absurd c3 (by decide))
  refine qx_aload_n d_QM_scanRows_13 rfl rfl ?_
  refine qx_getI d_QM_scanRows_14 fI_QM_117 rfl rfl ht ?_
  refine qx_istore (lv1 := [_, _, _, _, _, _, _, _, _]) d_QM_scanRows_17 (by decide) rfl ?_
  refine qx_iconstN (v := 0) d_QM_scanRows_19 rfl ?_
  refine qx_istore (lv1 := [_, _, _, _, _, _, _, _, _]) d_QM_scanRows_20 (by decide) rfl ?_
  exact outer nr 0 hv hb wk wn (by omega)
