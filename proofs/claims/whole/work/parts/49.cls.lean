theorem fm_eq {v : Int64} {wc : Nat} (h1w : 1 ≤ wc) (hw4 : wc ≤ 4) : (v ^^^ lN wc < 0 → ¬ (v - v / lN wc * lN wc) = 0 → (v - v / lN wc * lN wc + lN wc).toInt32 = nI (pOf wc (some v))) ∧ (v ^^^ lN wc < 0 → (v - v / lN wc * lN wc) = 0 → (v - v / lN wc * lN wc).toInt32 = nI (pOf wc (some v))) ∧ (0 ≤ v ^^^ lN wc → (v - v / lN wc * lN wc).toInt32 = nI (pOf wc (some v))) := by
  have hw : (0 : Int) ≤ (lN wc).toInt := by rw [lN_toInt (by omega)]; omega
  refine ⟨fun a b => ?_, fun a b => ?_, fun a => ?_⟩
  · exact pn_part2 h1w hw4 (rem_hi h1w hw4 ((xr_J hw).mp (Int64.lt_iff_toInt_lt.mp a)) b)
  · exact pn_part1 h1w hw4 (Int64.le_of_eq b.symm)
  · refine pn_part1 h1w hw4 (rem_lo h1w hw4 (Int.not_lt.mp (fun e => ?_)))
    have := (xr_J hw).mpr e
    have h2 : (0 : Int) ≤ (v ^^^ lN wc).toInt := Int64.le_iff_toInt_le.mp a
    omega
def fmJ (v w : Int64) : Int64 := if v ^^^ w < 0 ∧ ¬ (v - v / w * w) = 0 then v - v / w * w + w else v - v / w * w
theorem fmJ_p {v : Int64} {wc : Nat} (h1w : 1 ≤ wc) (hw4 : wc ≤ 4) : (fmJ v (lN wc)).toInt32 = nI (pOf wc (some v)) := by
  obtain ⟨e1, e2, e3⟩ := fm_eq (v := v) h1w hw4
  unfold fmJ
  by_cases h1 : v ^^^ lN wc < 0
  · by_cases h2 : (v - v / lN wc * lN wc) = 0
    · rw [if_neg (fun q => q.2 h2)]; exact e2 h1 h2
    · rw [if_pos ⟨h1, h2⟩]; exact e1 h1 h2
  · rw [if_neg (fun q => h1 q.1)]; exact e3 (Int64.not_lt.mp h1)
set_option maxRecDepth 100000 in
set_option maxHeartbeats 4000000 in
theorem ct_JM_floorModJ {h : qH} {n : Nat} (v w : Int64) (hw : ¬ w = 0) : qT mi_JM_floorModJ 0 0 0 [.long v, .long w] h n (fun v1 h1 n1 => v1 = some (.long (fmJ v w)) ∧ h = h1 ∧ n1 = n) := by
  refine qT.of (lv0 := [_, _, _, _, _, _]) (by decide +kernel) (fun _ _ => Nat.le_of_ble_eq_true rfl) rfl ?_
  refine qx_lload_n d_JM_floorModJ_0 rfl rfl ?_
  refine qx_lload_n d_JM_floorModJ_1 rfl rfl ?_
  refine qx_lrem d_JM_floorModJ_2 hw ?_
  refine qx_lstore (lv1 := [_, _, _, _, _, _]) d_JM_floorModJ_3 (by decide) rfl ?_
  refine qx_lload_n d_JM_floorModJ_5 rfl rfl ?_
  refine qx_lload_n d_JM_floorModJ_6 rfl rfl ?_
  refine qx_lxor d_JM_floorModJ_7 ?_
  refine qx_lconst (v := 0) d_JM_floorModJ_8 rfl ?_
  refine qx_lcmp d_JM_floorModJ_9 ?_
  refine qx_if_geC (t := 25) d_JM_floorModJ_10 rfl (fun c10 => ?_) (fun c10 => ?_)
  · refine qx_lload d_JM_floorModJ_25 rfl ?_
    exact qx_lret d_JM_floorModJ_27 rfl (by omega) (by omega) (by unfold fmJ; first | (have z := c17; first | (rw [if_pos ⟨c10, c17⟩]; exact ⟨rfl, rfl, rfl⟩) | (rw [if_neg (fun q => q.2 c17)]; exact ⟨rfl, rfl, rfl⟩)) | (rw [if_neg (fun q => absurd q.1 (Int64.not_lt.mpr c10))]; exact ⟨rfl, rfl, rfl⟩))
  · refine qx_lload d_JM_floorModJ_13 rfl ?_
    refine qx_lconst (v := 0) d_JM_floorModJ_15 rfl ?_
    refine qx_lcmp d_JM_floorModJ_16 ?_
    refine qx_if_eqC (t := 25) d_JM_floorModJ_17 rfl (fun c17 => ?_) (fun c17 => ?_)
    · refine qx_lload d_JM_floorModJ_25 rfl ?_
      exact qx_lret d_JM_floorModJ_27 rfl (by omega) (by omega) (by unfold fmJ; first | (have z := c17; first | (rw [if_pos ⟨c10, c17⟩]; exact ⟨rfl, rfl, rfl⟩) | (rw [if_neg (fun q => q.2 c17)]; exact ⟨rfl, rfl, rfl⟩)) | (rw [if_neg (fun q => absurd q.1 (Int64.not_lt.mpr c10))]; exact ⟨rfl, rfl, rfl⟩))
    · refine qx_lload d_JM_floorModJ_20 rfl ?_
      refine qx_lload_n d_JM_floorModJ_22 rfl rfl ?_
      refine qx_ladd d_JM_floorModJ_23 ?_
      exact qx_lret d_JM_floorModJ_24 rfl (by omega) (by omega) (by unfold fmJ; first | (have z := c17; first | (rw [if_pos ⟨c10, c17⟩]; exact ⟨rfl, rfl, rfl⟩) | (rw [if_neg (fun q => q.2 c17)]; exact ⟨rfl, rfl, rfl⟩)) | (rw [if_neg (fun q => absurd q.1 (Int64.not_lt.mpr c10))]; exact ⟨rfl, rfl, rfl⟩))
