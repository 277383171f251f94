def allK (a : Bool) (ok : Nat → Nat) : Nat → Bool
  | 0 => true
  | i + 1 => allK a ok i && decide (decide (ok i ≠ 0) = a)
theorem allK_mono {a : Bool} {ok : Nat → Nat} {i : Nat} (h : allK a ok i = false) : ∀ m, allK a ok (i + m) = false
  | 0 => h
  | m + 1 => by
    show (allK a ok (i + m) && _) = false
    rw [allK_mono h m]
    rfl
/-- is the query whole? -/
def cWh (gr : Option Nat) (ok : Nat → Nat) (no : Nat) : Bool := if no = 0 then gr.isSome else allK (cAgg gr ok no) ok no
set_option maxRecDepth 100000 in
set_option maxHeartbeats 4000000 in
theorem ct_Qu_isWhole {h : qH} (hU : h.2.2 3 = qRQu) (gr : Option Nat) (hgr4 : ∀ g, gr = some g → g < 4) (hgr : h.1 3 13 = grI gr) (no : Nat) (hno3 : no ≤ 3) (hno : h.1 3 12 = nI no) (ok : Nat → Nat) (hok : ∀ o, o < no → h.1 58 o = nI (ok o) ∧ ok o < 6) : qT mi_Qu_isWhole 2 0 0 [.ref 3] h NN (fun v1 h1 n1 => v1 = some (.int (b2i (cWh gr ok no))) ∧ h = h1 ∧ n1 = NN) := by
  refine qT.of (lv0 := [_, _, _]) (by decide +kernel) (fun _ _ => Nat.le_of_ble_eq_true rfl) rfl ?_
  have key : ∀ (m i : Nat), i + m = no → no ≠ 0 → allK (cAgg gr ok no) ok i = true → qX mi_Qu_isWhole 2 none 0 0 19 [.ref 3, .int (b2i (cAgg gr ok no)), .int (nI i)] [] h NN 0 0 (fun v1 h1 n1 => v1 = some (.int (b2i (cWh gr ok no))) ∧ h = h1 ∧ n1 = NN) := by
    intro m
    induction m with
    | zero =>
      intro i hi h0 hA
      have e : i = no := by omega
      subst e
      refine qx_iload_n d_Qu_isWhole_19 rfl rfl ?_
      refine qx_aload_n d_Qu_isWhole_20 rfl rfl ?_
      refine qx_getI d_Qu_isWhole_21 fI_Qu_64 rfl rfl hno ?_
      refine qx_icmp_geN (t := 53) d_Qu_isWhole_24 rfl (by omega) (by omega) (fun c24 => ?_) (fun c24 => absurd c24 (by omega))
      refine qx_iconstN (v := 1) d_Qu_isWhole_53 rfl ?_
      exact qx_iret d_Qu_isWhole_54 rfl rfl (by omega) (by omega) ⟨by unfold cWh; rw [if_neg h0, hA]; rfl, rfl, rfl⟩
    | succ m ih =>
      intro i hi h0 hA
      have hs : allK (cAgg gr ok no) ok (i + 1) = (allK (cAgg gr ok no) ok i && decide (decide (ok i ≠ 0) = (cAgg gr ok no))) := rfl
      rw [hA, Bool.true_and] at hs
      have hb := hok i (by omega)
      refine qx_iload_n d_Qu_isWhole_19 rfl rfl ?_
      refine qx_aload_n d_Qu_isWhole_20 rfl rfl ?_
      refine qx_getI d_Qu_isWhole_21 fI_Qu_64 rfl rfl hno ?_
      refine qx_icmp_geN (t := 53) d_Qu_isWhole_24 rfl (by omega) (by omega) (fun c24 => absurd c24 (by omega)) (fun c24 => ?_)
      refine qx_aload_n d_Qu_isWhole_27 rfl rfl ?_
      refine qx_getR d_Qu_isWhole_28 fR_Qu_25 rfl rfl (congrFun hU 11) ?_
      refine qx_iload_n d_Qu_isWhole_31 rfl rfl ?_
      refine qx_iald d_Qu_isWhole_32 rfl rfl rfl rfl (by omega) hb.1 ?_
      refine qx_if_eqN (t := 40) d_Qu_isWhole_33 rfl (by omega) (fun c33 => ?_) (fun c33 => ?_)
      · refine qx_iconst (v := b2i false) d_Qu_isWhole_40 rfl ?_
        refine qx_iload_n d_Qu_isWhole_41 rfl rfl ?_
        refine qx_icmp_eqE (t := 47) d_Qu_isWhole_42 rfl (fun c42 => ?_) (fun c42 => ?_)
        · refine qx_iincN (w := 1) (lv1 := [_, _, _]) d_Qu_isWhole_47 rfl rfl (by decide) rfl ?_
          refine qx_goto (t := 19) d_Qu_isWhole_50 rfl ?_
          first | (have z : decide (ok i ≠ 0) = true := decide_eq_true (by omega); rw [z] at hs) | (have z : decide (ok i ≠ 0) = false := decide_eq_false (by omega); rw [z] at hs)
          rw [decide_eq_true c42] at hs
          exact ih (i + 1) (by omega) h0 hs
        · first | (have z : decide (ok i ≠ 0) = true := decide_eq_true (by omega); rw [z] at hs) | (have z : decide (ok i ≠ 0) = false := decide_eq_false (by omega); rw [z] at hs)
          rw [decide_eq_false c42] at hs
          have hz := allK_mono hs m
          rw [show i + 1 + m = no by omega] at hz
          refine qx_iconstN (v := 0) d_Qu_isWhole_45 rfl ?_
          exact qx_iret d_Qu_isWhole_46 rfl rfl (by omega) (by omega) ⟨by unfold cWh; rw [if_neg h0, hz]; rfl, rfl, rfl⟩
      · refine qx_iconst (v := b2i true) d_Qu_isWhole_36 rfl ?_
        refine qx_goto (t := 41) d_Qu_isWhole_37 rfl ?_
        refine qx_iload_n d_Qu_isWhole_41 rfl rfl ?_
        refine qx_icmp_eqE (t := 47) d_Qu_isWhole_42 rfl (fun c42 => ?_) (fun c42 => ?_)
        · refine qx_iincN (w := 1) (lv1 := [_, _, _]) d_Qu_isWhole_47 rfl rfl (by decide) rfl ?_
          refine qx_goto (t := 19) d_Qu_isWhole_50 rfl ?_
          first | (have z : decide (ok i ≠ 0) = true := decide_eq_true (by omega); rw [z] at hs) | (have z : decide (ok i ≠ 0) = false := decide_eq_false (by omega); rw [z] at hs)
          rw [decide_eq_true c42] at hs
          exact ih (i + 1) (by omega) h0 hs
        · first | (have z : decide (ok i ≠ 0) = true := decide_eq_true (by omega); rw [z] at hs) | (have z : decide (ok i ≠ 0) = false := decide_eq_false (by omega); rw [z] at hs)
          rw [decide_eq_false c42] at hs
          have hz := allK_mono hs m
          rw [show i + 1 + m = no by omega] at hz
          refine qx_iconstN (v := 0) d_Qu_isWhole_45 rfl ?_
          exact qx_iret d_Qu_isWhole_46 rfl rfl (by omega) (by omega) ⟨by unfold cWh; rw [if_neg h0, hz]; rfl, rfl, rfl⟩
  refine qx_aload_n d_Qu_isWhole_0 rfl rfl ?_
  refine qx_getI d_Qu_isWhole_1 fI_Qu_64 rfl rfl hno ?_
  refine qx_if_neN (t := 12) d_Qu_isWhole_4 rfl (by omega) (fun c4 => ?_) (fun c4 => ?_)
  · refine qx_aload_n d_Qu_isWhole_12 rfl rfl ?_
    refine qx_callV (As := []) (rest := _) d_Qu_isWhole_13 lk_Qu_80 y_Qu_isAggregate v_Qu_isAggregate rfl rfl rfl (by decide) rfl rfl rfl rfl (by decide) (by decide) (ct_Qu_isAggregate hU gr hgr4 hgr no hno3 hno ok hok) ?_
    rintro _ _ _ ⟨rfl, rfl, rfl⟩
    refine qx_istore_n (lv1 := [_, _, _]) d_Qu_isWhole_16 rfl (by decide) rfl ?_
    refine qx_iconstN (v := 0) d_Qu_isWhole_17 rfl ?_
    refine qx_istore_n (lv1 := [_, _, _]) d_Qu_isWhole_18 rfl (by decide) rfl ?_
    exact key no 0 (by omega) (by omega) rfl
  · refine qx_aload_n d_Qu_isWhole_7 rfl rfl ?_
    refine qx_callV (As := []) (rest := _) d_Qu_isWhole_8 lk_Qu_77 y_Qu_isGrouped v_Qu_isGrouped rfl rfl rfl (by decide) rfl rfl rfl rfl (by decide) (by decide) (ct_Qu_isGrouped gr hgr4 hgr) ?_
    rintro _ _ _ ⟨rfl, rfl, rfl⟩
    exact qx_iret d_Qu_isWhole_11 rfl (b2i_nar _) (by omega) (by omega) ⟨by unfold cWh; rw [if_pos (by omega)], rfl, rfl⟩
