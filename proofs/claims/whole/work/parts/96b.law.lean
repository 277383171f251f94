/-! the law's walk -/
def LH : qH := (qpR (qpR (qpR (qpR (qpR (qpR (qpR (qpR (qpR (qpR (qpR (qpR (qpR (qpR (qpR (qpR (qpR (qpR (qpR (qpR (qpR (qpR (qpR (qpR (qpR (qpR (qpR (qpR (qpR (qpR (qpR (qpR (qpR (qpR (qpR (qpR (qpR (qpR (qpR (qpR (qpR (qpR (qpR (qpR (qpR (qpR (qpR (qpR (qpR (qpR (qpR (qpR (qpR (qpR (qpR (qpR (qpR (qpR (qpR (qpR (qpR (qpR (qpR (qpR (qpR (qpR (qpR (qpI (qpI (qpR (qpR (qpR (qpR (qpR (qpR (qpR (qpR (qpR (qpR (qpR (qpR (qpR (qpR (qpR (qpR (qpR (qpR (qpR (qpR (qpR (qpR (qpR (qpR (qpR (qpR (qpR (qpR (qpR (qpR (qpR (qpR (qpR (qpR (qpR (qpR (qpR (qpR (qpR (qpR (qpR (qpR (qpR (qpR (qpR (qpR (qpR (qpR (qpR (qpR (qpR (qpR (qpR (qpR (qpR (qpR zH 1 0 (some 2)) 5 0 (some 6)) 5 1 (some 7)) 4 0 (some 5)) 8 0 (some 9)) 8 1 (some 10)) 4 1 (some 8)) 11 0 (some 12)) 11 1 (some 13)) 4 2 (some 11)) 14 0 (some 15)) 14 1 (some 16)) 4 3 (some 14)) 17 0 (some 18)) 17 1 (some 19)) 4 4 (some 17)) 20 0 (some 21)) 20 1 (some 22)) 4 5 (some 20)) 23 0 (some 24)) 23 1 (some 25)) 4 6 (some 23)) 26 0 (some 27)) 26 1 (some 28)) 4 7 (some 26)) 3 6 (some 4)) 30 0 (some 31)) 30 1 (some 32)) 29 0 (some 30)) 33 0 (some 34)) 33 1 (some 35)) 29 1 (some 33)) 36 0 (some 37)) 36 1 (some 38)) 29 2 (some 36)) 39 0 (some 40)) 39 1 (some 41)) 29 3 (some 39)) 42 0 (some 43)) 42 1 (some 44)) 29 4 (some 42)) 45 0 (some 46)) 45 1 (some 47)) 29 5 (some 45)) 3 8 (some 29)) 49 0 (some 50)) 49 1 (some 51)) 48 0 (some 49)) 52 0 (some 53)) 52 1 (some 54)) 48 1 (some 52)) 55 0 (some 56)) 55 1 (some 57)) 48 2 (some 55)) 3 10 (some 48)) 3 11 (some 58)) 3 13 (-1)) 3 16 (-1)) 1 1 (some 3)) 59 0 (some 60)) 59 1 (some 61)) 59 2 (some 62)) 59 3 (some 63)) 1 2 (some 59)) 1 3 (some 64)) 1 4 (some 65)) 1 5 (some 66)) 1 7 (some 67)) 1 8 (some 68)) 1 9 (some 69)) 70 0 (some 71)) 70 1 (some 72)) 2 0 (some 70)) 73 0 (some 74)) 73 1 (some 75)) 2 1 (some 73)) 76 0 (some 77)) 76 1 (some 78)) 2 2 (some 76)) 0 0 (some 1)) 0 1 (some 2)) 0 2 (some 3)) 79 0 (some 80)) 79 1 (some 81)) 79 2 (some 82)) 0 3 (some 79)) 83 2 (some 84)) 85 0 (some 86)) 85 1 (some 87)) 85 2 (some 88)) 83 7 (some 85)) 83 8 (some 89)) 84 0 (some 90)) 84 1 (some 91)) 84 2 (some 92)) 84 3 (some 93)) 84 4 (some 94)) 84 5 (some 95)) 84 6 (some 96)) 84 7 (some 97)) 84 8 (some 98)) 84 9 (some 99)) 84 10 (some 100)) 84 11 (some 101)) 84 12 (some 102)) 84 13 (some 103)) 84 14 (some 104)) 84 15 (some 105)) 106 0 (some 107)) 106 1 (some 108)) 106 2 (some 109)) 89 0 (some 106)) 110 0 (some 111)) 110 1 (some 112)) 110 2 (some 113)) 89 1 (some 110)) 114 0 (some 115)) 114 1 (some 116)) 114 2 (some 117)) 89 2 (some 114)) 118 0 (some 119)) 118 1 (some 120)) 118 2 (some 121)) 89 3 (some 118)) 0 4 (some 83))
set_option maxRecDepth 100000 in
set_option maxHeartbeats 4000000 in
theorem LH_zr {n : Nat} (hn : 122 ≤ n) : zr LH n := zr_m hn (show zr (qpR (qpR (qpR (qpR (qpR (qpR (qpR (qpR (qpR (qpR (qpR (qpR (qpR (qpR (qpR (qpR (qpR (qpR (qpR (qpR (qpR (qpR (qpR (qpR (qpR (qpR (qpR (qpR (qpR (qpR (qpR (qpR (qpR (qpR (qpR (qpR (qpR (qpR (qpR (qpR (qpR (qpR (qpR (qpR (qpR (qpR (qpR (qpR (qpR (qpR (qpR (qpR (qpR (qpR (qpR (qpR (qpR (qpR (qpR (qpR (qpR (qpR (qpR (qpR (qpR (qpR (qpR (qpI (qpI (qpR (qpR (qpR (qpR (qpR (qpR (qpR (qpR (qpR (qpR (qpR (qpR (qpR (qpR (qpR (qpR (qpR (qpR (qpR (qpR (qpR (qpR (qpR (qpR (qpR (qpR (qpR (qpR (qpR (qpR (qpR (qpR (qpR (qpR (qpR (qpR (qpR (qpR (qpR (qpR (qpR (qpR (qpR (qpR (qpR (qpR (qpR (qpR (qpR (qpR (qpR (qpR (qpR (qpR (qpR (qpR zH 1 0 (some 2)) 5 0 (some 6)) 5 1 (some 7)) 4 0 (some 5)) 8 0 (some 9)) 8 1 (some 10)) 4 1 (some 8)) 11 0 (some 12)) 11 1 (some 13)) 4 2 (some 11)) 14 0 (some 15)) 14 1 (some 16)) 4 3 (some 14)) 17 0 (some 18)) 17 1 (some 19)) 4 4 (some 17)) 20 0 (some 21)) 20 1 (some 22)) 4 5 (some 20)) 23 0 (some 24)) 23 1 (some 25)) 4 6 (some 23)) 26 0 (some 27)) 26 1 (some 28)) 4 7 (some 26)) 3 6 (some 4)) 30 0 (some 31)) 30 1 (some 32)) 29 0 (some 30)) 33 0 (some 34)) 33 1 (some 35)) 29 1 (some 33)) 36 0 (some 37)) 36 1 (some 38)) 29 2 (some 36)) 39 0 (some 40)) 39 1 (some 41)) 29 3 (some 39)) 42 0 (some 43)) 42 1 (some 44)) 29 4 (some 42)) 45 0 (some 46)) 45 1 (some 47)) 29 5 (some 45)) 3 8 (some 29)) 49 0 (some 50)) 49 1 (some 51)) 48 0 (some 49)) 52 0 (some 53)) 52 1 (some 54)) 48 1 (some 52)) 55 0 (some 56)) 55 1 (some 57)) 48 2 (some 55)) 3 10 (some 48)) 3 11 (some 58)) 3 13 (-1)) 3 16 (-1)) 1 1 (some 3)) 59 0 (some 60)) 59 1 (some 61)) 59 2 (some 62)) 59 3 (some 63)) 1 2 (some 59)) 1 3 (some 64)) 1 4 (some 65)) 1 5 (some 66)) 1 7 (some 67)) 1 8 (some 68)) 1 9 (some 69)) 70 0 (some 71)) 70 1 (some 72)) 2 0 (some 70)) 73 0 (some 74)) 73 1 (some 75)) 2 1 (some 73)) 76 0 (some 77)) 76 1 (some 78)) 2 2 (some 76)) 0 0 (some 1)) 0 1 (some 2)) 0 2 (some 3)) 79 0 (some 80)) 79 1 (some 81)) 79 2 (some 82)) 0 3 (some 79)) 83 2 (some 84)) 85 0 (some 86)) 85 1 (some 87)) 85 2 (some 88)) 83 7 (some 85)) 83 8 (some 89)) 84 0 (some 90)) 84 1 (some 91)) 84 2 (some 92)) 84 3 (some 93)) 84 4 (some 94)) 84 5 (some 95)) 84 6 (some 96)) 84 7 (some 97)) 84 8 (some 98)) 84 9 (some 99)) 84 10 (some 100)) 84 11 (some 101)) 84 12 (some 102)) 84 13 (some 103)) 84 14 (some 104)) 84 15 (some 105)) 106 0 (some 107)) 106 1 (some 108)) 106 2 (some 109)) 89 0 (some 106)) 110 0 (some 111)) 110 1 (some 112)) 110 2 (some 113)) 89 1 (some 110)) 114 0 (some 115)) 114 1 (some 116)) 114 2 (some 117)) 89 2 (some 114)) 118 0 (some 119)) 118 1 (some 120)) 118 2 (some 121)) 89 3 (some 118)) 0 4 (some 83)) 122 from (zr_R (by omega) (zr_R (by omega) (zr_R (by omega) (zr_R (by omega) (zr_R (by omega) (zr_R (by omega) (zr_R (by omega) (zr_R (by omega) (zr_R (by omega) (zr_R (by omega) (zr_R (by omega) (zr_R (by omega) (zr_R (by omega) (zr_R (by omega) (zr_R (by omega) (zr_R (by omega) (zr_R (by omega) (zr_R (by omega) (zr_R (by omega) (zr_R (by omega) (zr_R (by omega) (zr_R (by omega) (zr_R (by omega) (zr_R (by omega) (zr_R (by omega) (zr_R (by omega) (zr_R (by omega) (zr_R (by omega) (zr_R (by omega) (zr_R (by omega) (zr_R (by omega) (zr_R (by omega) (zr_R (by omega) (zr_R (by omega) (zr_R (by omega) (zr_R (by omega) (zr_R (by omega) (zr_R (by omega) (zr_R (by omega) (zr_R (by omega) (zr_R (by omega) (zr_R (by omega) (zr_R (by omega) (zr_R (by omega) (zr_R (by omega) (zr_R (by omega) (zr_R (by omega) (zr_R (by omega) (zr_R (by omega) (zr_R (by omega) (zr_R (by omega) (zr_R (by omega) (zr_R (by omega) (zr_R (by omega) (zr_R (by omega) (zr_R (by omega) (zr_R (by omega) (zr_R (by omega) (zr_R (by omega) (zr_R (by omega) (zr_R (by omega) (zr_R (by omega) (zr_R (by omega) (zr_R (by omega) (zr_R (by omega) (zr_R (by omega) (zr_R (by omega) (zr_I (by omega) (zr_I (by omega) (zr_R (by omega) (zr_R (by omega) (zr_R (by omega) (zr_R (by omega) (zr_R (by omega) (zr_R (by omega) (zr_R (by omega) (zr_R (by omega) (zr_R (by omega) (zr_R (by omega) (zr_R (by omega) (zr_R (by omega) (zr_R (by omega) (zr_R (by omega) (zr_R (by omega) (zr_R (by omega) (zr_R (by omega) (zr_R (by omega) (zr_R (by omega) (zr_R (by omega) (zr_R (by omega) (zr_R (by omega) (zr_R (by omega) (zr_R (by omega) (zr_R (by omega) (zr_R (by omega) (zr_R (by omega) (zr_R (by omega) (zr_R (by omega) (zr_R (by omega) (zr_R (by omega) (zr_R (by omega) (zr_R (by omega) (zr_R (by omega) (zr_R (by omega) (zr_R (by omega) (zr_R (by omega) (zr_R (by omega) (zr_R (by omega) (zr_R (by omega) (zr_R (by omega) (zr_R (by omega) (zr_R (by omega) (zr_R (by omega) (zr_R (by omega) (zr_R (by omega) (zr_R (by omega) (zr_R (by omega) (zr_R (by omega) (zr_R (by omega) (zr_R (by omega) (zr_R (by omega) (zr_R (by omega) (zr_R (by omega) (zr_R (by omega) (zr_R (by omega) (zH_zr _)))))))))))))))))))))))))))))))))))))))))))))))))))))))))))))))))))))))))))))))))))))))))))))))))))))))))))))))))))))))))))))))
set_option maxRecDepth 100000 in
set_option maxHeartbeats 4000000 in
theorem ct_QF0 : qT mi_QF_init 5 121 3393 [.ref 0] zH 1 (fun v1 h1 n1 => v1 = none ∧ h1 = LH ∧ n1 = 122) := ct_QF_init (zH_zr 1)
set_option maxRecDepth 100000 in
set_option maxHeartbeats 4000000 in
theorem ct_QM0 : qT mi_QM_init 1 29 4000 [.ref 122] LH 123 (fun v1 h1 n1 => v1 = none ∧ h1 = FH ∧ n1 = 152) := ct_QM_init (LH_zr (by omega))
set_option maxRecDepth 100000 in
set_option maxHeartbeats 4000000 in
theorem q_sw18 (x : Int32) : x = nI 0 ∨ x = nI 1 ∨ x = nI 2 ∨ x = nI 3 ∨ x = nI 4 ∨ x = nI 5 ∨ x = nI 6 ∨ x = nI 7 ∨ x = nI 8 ∨ x = nI 9 ∨ x = nI 10 ∨ x = nI 11 ∨ x = nI 12 ∨ x = nI 13 ∨ x = nI 14 ∨ x = nI 15 ∨ x = nI 16 ∨ x = nI 17 ∨ x = nI 18 ∨ (x.toInt < 0 ∨ 18 < x.toInt) := by
  by_cases h : x.toInt < 0 ∨ 18 < x.toInt
  · exact Or.inr (Or.inr (Or.inr (Or.inr (Or.inr (Or.inr (Or.inr (Or.inr (Or.inr (Or.inr (Or.inr (Or.inr (Or.inr (Or.inr (Or.inr (Or.inr (Or.inr (Or.inr (Or.inr (h)))))))))))))))))))
  · have : x.toInt = 0 ∨ x.toInt = 1 ∨ x.toInt = 2 ∨ x.toInt = 3 ∨ x.toInt = 4 ∨ x.toInt = 5 ∨ x.toInt = 6 ∨ x.toInt = 7 ∨ x.toInt = 8 ∨ x.toInt = 9 ∨ x.toInt = 10 ∨ x.toInt = 11 ∨ x.toInt = 12 ∨ x.toInt = 13 ∨ x.toInt = 14 ∨ x.toInt = 15 ∨ x.toInt = 16 ∨ x.toInt = 17 ∨ x.toInt = 18 := by omega
    rcases this with e | e | e | e | e | e | e | e | e | e | e | e | e | e | e | e | e | e | e
    · exact Or.inl (Int32.toInt_inj.mp (by rw [e]; decide))
    · exact Or.inr (Or.inl (Int32.toInt_inj.mp (by rw [e]; decide)))
    · exact Or.inr (Or.inr (Or.inl (Int32.toInt_inj.mp (by rw [e]; decide))))
    · exact Or.inr (Or.inr (Or.inr (Or.inl (Int32.toInt_inj.mp (by rw [e]; decide)))))
    · exact Or.inr (Or.inr (Or.inr (Or.inr (Or.inl (Int32.toInt_inj.mp (by rw [e]; decide))))))
    · exact Or.inr (Or.inr (Or.inr (Or.inr (Or.inr (Or.inl (Int32.toInt_inj.mp (by rw [e]; decide)))))))
    · exact Or.inr (Or.inr (Or.inr (Or.inr (Or.inr (Or.inr (Or.inl (Int32.toInt_inj.mp (by rw [e]; decide))))))))
    · exact Or.inr (Or.inr (Or.inr (Or.inr (Or.inr (Or.inr (Or.inr (Or.inl (Int32.toInt_inj.mp (by rw [e]; decide)))))))))
    · exact Or.inr (Or.inr (Or.inr (Or.inr (Or.inr (Or.inr (Or.inr (Or.inr (Or.inl (Int32.toInt_inj.mp (by rw [e]; decide))))))))))
    · exact Or.inr (Or.inr (Or.inr (Or.inr (Or.inr (Or.inr (Or.inr (Or.inr (Or.inr (Or.inl (Int32.toInt_inj.mp (by rw [e]; decide)))))))))))
    · exact Or.inr (Or.inr (Or.inr (Or.inr (Or.inr (Or.inr (Or.inr (Or.inr (Or.inr (Or.inr (Or.inl (Int32.toInt_inj.mp (by rw [e]; decide))))))))))))
    · exact Or.inr (Or.inr (Or.inr (Or.inr (Or.inr (Or.inr (Or.inr (Or.inr (Or.inr (Or.inr (Or.inr (Or.inl (Int32.toInt_inj.mp (by rw [e]; decide)))))))))))))
    · exact Or.inr (Or.inr (Or.inr (Or.inr (Or.inr (Or.inr (Or.inr (Or.inr (Or.inr (Or.inr (Or.inr (Or.inr (Or.inl (Int32.toInt_inj.mp (by rw [e]; decide))))))))))))))
    · exact Or.inr (Or.inr (Or.inr (Or.inr (Or.inr (Or.inr (Or.inr (Or.inr (Or.inr (Or.inr (Or.inr (Or.inr (Or.inr (Or.inl (Int32.toInt_inj.mp (by rw [e]; decide)))))))))))))))
    · exact Or.inr (Or.inr (Or.inr (Or.inr (Or.inr (Or.inr (Or.inr (Or.inr (Or.inr (Or.inr (Or.inr (Or.inr (Or.inr (Or.inr (Or.inl (Int32.toInt_inj.mp (by rw [e]; decide))))))))))))))))
    · exact Or.inr (Or.inr (Or.inr (Or.inr (Or.inr (Or.inr (Or.inr (Or.inr (Or.inr (Or.inr (Or.inr (Or.inr (Or.inr (Or.inr (Or.inr (Or.inl (Int32.toInt_inj.mp (by rw [e]; decide)))))))))))))))))
    · exact Or.inr (Or.inr (Or.inr (Or.inr (Or.inr (Or.inr (Or.inr (Or.inr (Or.inr (Or.inr (Or.inr (Or.inr (Or.inr (Or.inr (Or.inr (Or.inr (Or.inl (Int32.toInt_inj.mp (by rw [e]; decide))))))))))))))))))
    · exact Or.inr (Or.inr (Or.inr (Or.inr (Or.inr (Or.inr (Or.inr (Or.inr (Or.inr (Or.inr (Or.inr (Or.inr (Or.inr (Or.inr (Or.inr (Or.inr (Or.inr (Or.inl (Int32.toInt_inj.mp (by rw [e]; decide)))))))))))))))))))
    · exact Or.inr (Or.inr (Or.inr (Or.inr (Or.inr (Or.inr (Or.inr (Or.inr (Or.inr (Or.inr (Or.inr (Or.inr (Or.inr (Or.inr (Or.inr (Or.inr (Or.inr (Or.inr (Or.inl (Int32.toInt_inj.mp (by rw [e]; decide))))))))))))))))))))
set_option maxRecDepth 100000 in
set_option maxHeartbeats 4000000 in
theorem la_row {N L : Nat} {xs : Nat → Int32} {h : qH} {ce sl : Nat} {Rp : Option Value → qH → Nat → Prop} (hL : L ≤ 3072) (hi : 6 * N + 6 ≤ L) (hce : ce ≤ 600000) (hsl : sl ≤ 7302250) (hI : Inv N h) (kk : ∀ h1, Inv (N + 1) h1 → qX mi_La_law 10 (some (L, xs)) 600000 7302250 708 [.retAddr 0, .ref 0, .ref 122, .int (nI (6 * N))] [] h1 NN ce sl Rp) : qX mi_La_law 10 (some (L, xs)) 600000 7302250 124 [.retAddr 0, .ref 0, .ref 122, .int (nI (6 * N))] [] h NN ce sl Rp := by
  obtain ⟨z, P, dx, dy, hx, hy, kx, ky⟩ := op_row (xs (6 * N + 1)) (xs (6 * N + 2)) (xs (6 * N + 3)) (xs (6 * N + 4)) N h (by omega) hI
  refine qx_aload_n d_La_law_124 rfl rfl ?_
  refine qx_aload_s (x := 0) d_La_law_125 rfl rfl ?_
  refine qx_iload_n d_La_law_126 rfl rfl ?_
  refine qx_iconstN (v := 1) d_La_law_127 rfl ?_
  refine qx_iaddN d_La_law_128 ?_
  refine qx_sld rfl d_La_law_129 (by omega) rfl (by omega) ?_
  refine qx_aload_s (x := 0) d_La_law_130 rfl rfl ?_
  refine qx_iload_n d_La_law_131 rfl rfl ?_
  refine qx_iconstN (v := 2) d_La_law_132 rfl ?_
  refine qx_iaddN d_La_law_133 ?_
  refine qx_sld rfl d_La_law_134 (by omega) rfl (by omega) ?_
  refine qx_aload_s (x := 0) d_La_law_135 rfl rfl ?_
  refine qx_iload_n d_La_law_136 rfl rfl ?_
  refine qx_iconstN (v := 3) d_La_law_137 rfl ?_
  refine qx_iaddN d_La_law_138 ?_
  refine qx_sld rfl d_La_law_139 (by omega) rfl (by omega) ?_
  refine qx_aload_s (x := 0) d_La_law_140 rfl rfl ?_
  refine qx_iload_n d_La_law_141 rfl rfl ?_
  refine qx_iconstN (v := 4) d_La_law_142 rfl ?_
  refine qx_iaddN d_La_law_143 ?_
  refine qx_sld rfl d_La_law_144 (by omega) rfl (by omega) ?_
  refine qx_callV (As := [_, _, _, _]) (rest := _) d_La_law_145 lk_La_13 y_QF_row v_QF_row rfl rfl rfl (by decide) rfl rfl rfl (Nat.ble_eq.mpr (by omega)) (by omega) (by omega) kx ?_
  rintro _ h1 _ ⟨rfl, hP, rfl⟩
  refine qx_aload_n d_La_law_148 rfl rfl ?_
  refine qx_aload_s (x := 0) d_La_law_149 rfl rfl ?_
  refine qx_iload_n d_La_law_150 rfl rfl ?_
  refine qx_iconstN (v := 1) d_La_law_151 rfl ?_
  refine qx_iaddN d_La_law_152 ?_
  refine qx_sld rfl d_La_law_153 (by omega) rfl (by omega) ?_
  refine qx_aload_s (x := 0) d_La_law_154 rfl rfl ?_
  refine qx_iload_n d_La_law_155 rfl rfl ?_
  refine qx_iconstN (v := 2) d_La_law_156 rfl ?_
  refine qx_iaddN d_La_law_157 ?_
  refine qx_sld rfl d_La_law_158 (by omega) rfl (by omega) ?_
  refine qx_aload_s (x := 0) d_La_law_159 rfl rfl ?_
  refine qx_iload_n d_La_law_160 rfl rfl ?_
  refine qx_iconstN (v := 3) d_La_law_161 rfl ?_
  refine qx_iaddN d_La_law_162 ?_
  refine qx_sld rfl d_La_law_163 (by omega) rfl (by omega) ?_
  refine qx_aload_s (x := 0) d_La_law_164 rfl rfl ?_
  refine qx_iload_n d_La_law_165 rfl rfl ?_
  refine qx_iconstN (v := 4) d_La_law_166 rfl ?_
  refine qx_iaddN d_La_law_167 ?_
  refine qx_sld rfl d_La_law_168 (by omega) rfl (by omega) ?_
  refine qx_callV (As := [_, _, _, _]) (rest := _) d_La_law_169 lk_La_17 y_QM_row v_QM_row rfl rfl rfl (by decide) rfl rfl rfl (Nat.ble_eq.mpr (by omega)) (by omega) (by omega) (ky h1 hP) ?_
  rintro _ h2 _ ⟨rfl, hI2, rfl⟩
  refine qx_icmp_eq (t := 708) d_La_law_172 rfl (fun c172 => ?_) (fun c172 => absurd rfl c172)
  exact kk _ hI2
set_option maxRecDepth 100000 in
set_option maxHeartbeats 4000000 in
theorem la_from {N L : Nat} {xs : Nat → Int32} {h : qH} {ce sl : Nat} {Rp : Option Value → qH → Nat → Prop} (hL : L ≤ 3072) (hi : 6 * N + 6 ≤ L) (hce : ce ≤ 600000) (hsl : sl ≤ 7302250) (hI : Inv N h) (kk : ∀ h1, Inv (N + 1) h1 → qX mi_La_law 10 (some (L, xs)) 600000 7302250 708 [.retAddr 0, .ref 0, .ref 122, .int (nI (6 * N))] [] h1 NN ce sl Rp) : qX mi_La_law 10 (some (L, xs)) 600000 7302250 177 [.retAddr 0, .ref 0, .ref 122, .int (nI (6 * N))] [] h NN ce sl Rp := by
  obtain ⟨z, P, dx, dy, hx, hy, kx, ky⟩ := op_from (xs (6 * N + 1)) (xs (6 * N + 2)) (xs (6 * N + 3)) (xs (6 * N + 4)) (xs (6 * N + 5)) N h (by omega) hI
  refine qx_aload_n d_La_law_177 rfl rfl ?_
  refine qx_aload_s (x := 0) d_La_law_178 rfl rfl ?_
  refine qx_iload_n d_La_law_179 rfl rfl ?_
  refine qx_iconstN (v := 1) d_La_law_180 rfl ?_
  refine qx_iaddN d_La_law_181 ?_
  refine qx_sld rfl d_La_law_182 (by omega) rfl (by omega) ?_
  refine qx_aload_s (x := 0) d_La_law_183 rfl rfl ?_
  refine qx_iload_n d_La_law_184 rfl rfl ?_
  refine qx_iconstN (v := 2) d_La_law_185 rfl ?_
  refine qx_iaddN d_La_law_186 ?_
  refine qx_sld rfl d_La_law_187 (by omega) rfl (by omega) ?_
  refine qx_aload_s (x := 0) d_La_law_188 rfl rfl ?_
  refine qx_iload_n d_La_law_189 rfl rfl ?_
  refine qx_iconstN (v := 3) d_La_law_190 rfl ?_
  refine qx_iaddN d_La_law_191 ?_
  refine qx_sld rfl d_La_law_192 (by omega) rfl (by omega) ?_
  refine qx_aload_s (x := 0) d_La_law_193 rfl rfl ?_
  refine qx_iload_n d_La_law_194 rfl rfl ?_
  refine qx_iconstN (v := 4) d_La_law_195 rfl ?_
  refine qx_iaddN d_La_law_196 ?_
  refine qx_sld rfl d_La_law_197 (by omega) rfl (by omega) ?_
  refine qx_aload_s (x := 0) d_La_law_198 rfl rfl ?_
  refine qx_iload_n d_La_law_199 rfl rfl ?_
  refine qx_iconstN (v := 5) d_La_law_200 rfl ?_
  refine qx_iaddN d_La_law_201 ?_
  refine qx_sld rfl d_La_law_202 (by omega) rfl (by omega) ?_
  refine qx_callV (As := [_, _, _, _, _]) (rest := _) d_La_law_203 lk_La_18 y_QF_from v_QF_from rfl rfl rfl (by decide) rfl rfl rfl (Nat.ble_eq.mpr (by omega)) (by omega) (by omega) kx ?_
  rintro _ h1 _ ⟨rfl, hP, rfl⟩
  refine qx_aload_n d_La_law_206 rfl rfl ?_
  refine qx_aload_s (x := 0) d_La_law_207 rfl rfl ?_
  refine qx_iload_n d_La_law_208 rfl rfl ?_
  refine qx_iconstN (v := 1) d_La_law_209 rfl ?_
  refine qx_iaddN d_La_law_210 ?_
  refine qx_sld rfl d_La_law_211 (by omega) rfl (by omega) ?_
  refine qx_aload_s (x := 0) d_La_law_212 rfl rfl ?_
  refine qx_iload_n d_La_law_213 rfl rfl ?_
  refine qx_iconstN (v := 2) d_La_law_214 rfl ?_
  refine qx_iaddN d_La_law_215 ?_
  refine qx_sld rfl d_La_law_216 (by omega) rfl (by omega) ?_
  refine qx_aload_s (x := 0) d_La_law_217 rfl rfl ?_
  refine qx_iload_n d_La_law_218 rfl rfl ?_
  refine qx_iconstN (v := 3) d_La_law_219 rfl ?_
  refine qx_iaddN d_La_law_220 ?_
  refine qx_sld rfl d_La_law_221 (by omega) rfl (by omega) ?_
  refine qx_aload_s (x := 0) d_La_law_222 rfl rfl ?_
  refine qx_iload_n d_La_law_223 rfl rfl ?_
  refine qx_iconstN (v := 4) d_La_law_224 rfl ?_
  refine qx_iaddN d_La_law_225 ?_
  refine qx_sld rfl d_La_law_226 (by omega) rfl (by omega) ?_
  refine qx_aload_s (x := 0) d_La_law_227 rfl rfl ?_
  refine qx_iload_n d_La_law_228 rfl rfl ?_
  refine qx_iconstN (v := 5) d_La_law_229 rfl ?_
  refine qx_iaddN d_La_law_230 ?_
  refine qx_sld rfl d_La_law_231 (by omega) rfl (by omega) ?_
  refine qx_callV (As := [_, _, _, _, _]) (rest := _) d_La_law_232 lk_La_22 y_QM_from v_QM_from rfl rfl rfl (by decide) rfl rfl rfl (Nat.ble_eq.mpr (by omega)) (by omega) (by omega) (ky h1 hP) ?_
  rintro _ h2 _ ⟨rfl, hI2, rfl⟩
  refine qx_icmp_eq (t := 708) d_La_law_235 rfl (fun c235 => ?_) (fun c235 => absurd rfl c235)
  exact kk _ hI2
set_option maxRecDepth 100000 in
set_option maxHeartbeats 4000000 in
theorem la_column {N L : Nat} {xs : Nat → Int32} {h : qH} {ce sl : Nat} {Rp : Option Value → qH → Nat → Prop} (hL : L ≤ 3072) (hi : 6 * N + 6 ≤ L) (hce : ce ≤ 600000) (hsl : sl ≤ 7302250) (hI : Inv N h) (kk : ∀ h1, Inv (N + 1) h1 → qX mi_La_law 10 (some (L, xs)) 600000 7302250 708 [.retAddr 0, .ref 0, .ref 122, .int (nI (6 * N))] [] h1 NN ce sl Rp) : qX mi_La_law 10 (some (L, xs)) 600000 7302250 240 [.retAddr 0, .ref 0, .ref 122, .int (nI (6 * N))] [] h NN ce sl Rp := by
  obtain ⟨z, P, dx, dy, hx, hy, kx, ky⟩ := op_column (xs (6 * N + 1)) N h (by omega) hI
  refine qx_aload_n d_La_law_240 rfl rfl ?_
  refine qx_aload_s (x := 0) d_La_law_241 rfl rfl ?_
  refine qx_iload_n d_La_law_242 rfl rfl ?_
  refine qx_iconstN (v := 1) d_La_law_243 rfl ?_
  refine qx_iaddN d_La_law_244 ?_
  refine qx_sld rfl d_La_law_245 (by omega) rfl (by omega) ?_
  refine qx_callV (As := [_]) (rest := _) d_La_law_246 lk_La_23 y_QF_column v_QF_column rfl rfl rfl (by decide) rfl rfl rfl (Nat.ble_eq.mpr (by omega)) (by omega) (by omega) kx ?_
  rintro _ h1 _ ⟨rfl, hP, rfl⟩
  refine qx_aload_n d_La_law_249 rfl rfl ?_
  refine qx_aload_s (x := 0) d_La_law_250 rfl rfl ?_
  refine qx_iload_n d_La_law_251 rfl rfl ?_
  refine qx_iconstN (v := 1) d_La_law_252 rfl ?_
  refine qx_iaddN d_La_law_253 ?_
  refine qx_sld rfl d_La_law_254 (by omega) rfl (by omega) ?_
  refine qx_callV (As := [_]) (rest := _) d_La_law_255 lk_La_27 y_QM_column v_QM_column rfl rfl rfl (by decide) rfl rfl rfl (Nat.ble_eq.mpr (by omega)) (by omega) (by omega) (ky h1 hP) ?_
  rintro _ h2 _ ⟨rfl, hI2, rfl⟩
  refine qx_icmp_eq (t := 708) d_La_law_258 rfl (fun c258 => ?_) (fun c258 => absurd rfl c258)
  exact kk _ hI2
set_option maxRecDepth 100000 in
set_option maxHeartbeats 4000000 in
theorem la_number {N L : Nat} {xs : Nat → Int32} {h : qH} {ce sl : Nat} {Rp : Option Value → qH → Nat → Prop} (hL : L ≤ 3072) (hi : 6 * N + 6 ≤ L) (hce : ce ≤ 600000) (hsl : sl ≤ 7302250) (hI : Inv N h) (kk : ∀ h1, Inv (N + 1) h1 → qX mi_La_law 10 (some (L, xs)) 600000 7302250 708 [.retAddr 0, .ref 0, .ref 122, .int (nI (6 * N))] [] h1 NN ce sl Rp) : qX mi_La_law 10 (some (L, xs)) 600000 7302250 263 [.retAddr 0, .ref 0, .ref 122, .int (nI (6 * N))] [] h NN ce sl Rp := by
  obtain ⟨z, P, dx, dy, hx, hy, kx, ky⟩ := op_number (xs (6 * N + 1)) N h (by omega) hI
  refine qx_aload_n d_La_law_263 rfl rfl ?_
  refine qx_aload_s (x := 0) d_La_law_264 rfl rfl ?_
  refine qx_iload_n d_La_law_265 rfl rfl ?_
  refine qx_iconstN (v := 1) d_La_law_266 rfl ?_
  refine qx_iaddN d_La_law_267 ?_
  refine qx_sld rfl d_La_law_268 (by omega) rfl (by omega) ?_
  refine qx_callV (As := [_]) (rest := _) d_La_law_269 lk_La_28 y_QF_number v_QF_number rfl rfl rfl (by decide) rfl rfl rfl (Nat.ble_eq.mpr (by omega)) (by omega) (by omega) kx ?_
  rintro _ h1 _ ⟨rfl, hP, rfl⟩
  refine qx_aload_n d_La_law_272 rfl rfl ?_
  refine qx_aload_s (x := 0) d_La_law_273 rfl rfl ?_
  refine qx_iload_n d_La_law_274 rfl rfl ?_
  refine qx_iconstN (v := 1) d_La_law_275 rfl ?_
  refine qx_iaddN d_La_law_276 ?_
  refine qx_sld rfl d_La_law_277 (by omega) rfl (by omega) ?_
  refine qx_callV (As := [_]) (rest := _) d_La_law_278 lk_La_31 y_QM_number v_QM_number rfl rfl rfl (by decide) rfl rfl rfl (Nat.ble_eq.mpr (by omega)) (by omega) (by omega) (ky h1 hP) ?_
  rintro _ h2 _ ⟨rfl, hI2, rfl⟩
  refine qx_icmp_eq (t := 708) d_La_law_281 rfl (fun c281 => ?_) (fun c281 => absurd rfl c281)
  exact kk _ hI2
set_option maxRecDepth 100000 in
set_option maxHeartbeats 4000000 in
theorem la_operate {N L : Nat} {xs : Nat → Int32} {h : qH} {ce sl : Nat} {Rp : Option Value → qH → Nat → Prop} (hL : L ≤ 3072) (hi : 6 * N + 6 ≤ L) (hce : ce ≤ 600000) (hsl : sl ≤ 7302250) (hI : Inv N h) (kk : ∀ h1, Inv (N + 1) h1 → qX mi_La_law 10 (some (L, xs)) 600000 7302250 708 [.retAddr 0, .ref 0, .ref 122, .int (nI (6 * N))] [] h1 NN ce sl Rp) : qX mi_La_law 10 (some (L, xs)) 600000 7302250 286 [.retAddr 0, .ref 0, .ref 122, .int (nI (6 * N))] [] h NN ce sl Rp := by
  obtain ⟨z, P, dx, dy, hx, hy, kx, ky⟩ := op_operate (xs (6 * N + 1)) N h (by omega) hI
  refine qx_aload_n d_La_law_286 rfl rfl ?_
  refine qx_aload_s (x := 0) d_La_law_287 rfl rfl ?_
  refine qx_iload_n d_La_law_288 rfl rfl ?_
  refine qx_iconstN (v := 1) d_La_law_289 rfl ?_
  refine qx_iaddN d_La_law_290 ?_
  refine qx_sld rfl d_La_law_291 (by omega) rfl (by omega) ?_
  refine qx_callV (As := [_]) (rest := _) d_La_law_292 lk_La_32 y_QF_operate v_QF_operate rfl rfl rfl (by decide) rfl rfl rfl (Nat.ble_eq.mpr (by omega)) (by omega) (by omega) kx ?_
  rintro _ h1 _ ⟨rfl, hP, rfl⟩
  refine qx_aload_n d_La_law_295 rfl rfl ?_
  refine qx_aload_s (x := 0) d_La_law_296 rfl rfl ?_
  refine qx_iload_n d_La_law_297 rfl rfl ?_
  refine qx_iconstN (v := 1) d_La_law_298 rfl ?_
  refine qx_iaddN d_La_law_299 ?_
  refine qx_sld rfl d_La_law_300 (by omega) rfl (by omega) ?_
  refine qx_callV (As := [_]) (rest := _) d_La_law_301 lk_La_35 y_QM_operate v_QM_operate rfl rfl rfl (by decide) rfl rfl rfl (Nat.ble_eq.mpr (by omega)) (by omega) (by omega) (ky h1 hP) ?_
  rintro _ h2 _ ⟨rfl, hI2, rfl⟩
  refine qx_icmp_eq (t := 708) d_La_law_304 rfl (fun c304 => ?_) (fun c304 => absurd rfl c304)
  exact kk _ hI2
set_option maxRecDepth 100000 in
set_option maxHeartbeats 4000000 in
theorem la_where {N L : Nat} {xs : Nat → Int32} {h : qH} {ce sl : Nat} {Rp : Option Value → qH → Nat → Prop} (hL : L ≤ 3072) (hi : 6 * N + 6 ≤ L) (hce : ce ≤ 600000) (hsl : sl ≤ 7302250) (hI : Inv N h) (kk : ∀ h1, Inv (N + 1) h1 → qX mi_La_law 10 (some (L, xs)) 600000 7302250 708 [.retAddr 0, .ref 0, .ref 122, .int (nI (6 * N))] [] h1 NN ce sl Rp) : qX mi_La_law 10 (some (L, xs)) 600000 7302250 309 [.retAddr 0, .ref 0, .ref 122, .int (nI (6 * N))] [] h NN ce sl Rp := by
  obtain ⟨z, P, dx, dy, hx, hy, kx, ky⟩ := op_where  N h (by omega) hI
  refine qx_aload_n d_La_law_309 rfl rfl ?_
  refine qx_callV (As := []) (rest := _) d_La_law_310 lk_La_36 y_QF_where v_QF_where rfl rfl rfl (by decide) rfl rfl rfl (Nat.ble_eq.mpr (by omega)) (by omega) (by omega) kx ?_
  rintro _ h1 _ ⟨rfl, hP, rfl⟩
  refine qx_aload_n d_La_law_313 rfl rfl ?_
  refine qx_callV (As := []) (rest := _) d_La_law_314 lk_La_40 y_QM_where v_QM_where rfl rfl rfl (by decide) rfl rfl rfl (Nat.ble_eq.mpr (by omega)) (by omega) (by omega) (ky h1 hP) ?_
  rintro _ h2 _ ⟨rfl, hI2, rfl⟩
  refine qx_icmp_eq (t := 708) d_La_law_317 rfl (fun c317 => ?_) (fun c317 => absurd rfl c317)
  exact kk _ hI2
set_option maxRecDepth 100000 in
set_option maxHeartbeats 4000000 in
theorem la_output {N L : Nat} {xs : Nat → Int32} {h : qH} {ce sl : Nat} {Rp : Option Value → qH → Nat → Prop} (hL : L ≤ 3072) (hi : 6 * N + 6 ≤ L) (hce : ce ≤ 600000) (hsl : sl ≤ 7302250) (hI : Inv N h) (kk : ∀ h1, Inv (N + 1) h1 → qX mi_La_law 10 (some (L, xs)) 600000 7302250 708 [.retAddr 0, .ref 0, .ref 122, .int (nI (6 * N))] [] h1 NN ce sl Rp) : qX mi_La_law 10 (some (L, xs)) 600000 7302250 322 [.retAddr 0, .ref 0, .ref 122, .int (nI (6 * N))] [] h NN ce sl Rp := by
  obtain ⟨z, P, dx, dy, hx, hy, kx, ky⟩ := op_output (xs (6 * N + 1)) N h (by omega) hI
  refine qx_aload_n d_La_law_322 rfl rfl ?_
  refine qx_aload_s (x := 0) d_La_law_323 rfl rfl ?_
  refine qx_iload_n d_La_law_324 rfl rfl ?_
  refine qx_iconstN (v := 1) d_La_law_325 rfl ?_
  refine qx_iaddN d_La_law_326 ?_
  refine qx_sld rfl d_La_law_327 (by omega) rfl (by omega) ?_
  refine qx_callV (As := [_]) (rest := _) d_La_law_328 lk_La_41 y_QF_output v_QF_output rfl rfl rfl (by decide) rfl rfl rfl (Nat.ble_eq.mpr (by omega)) (by omega) (by omega) kx ?_
  rintro _ h1 _ ⟨rfl, hP, rfl⟩
  refine qx_aload_n d_La_law_331 rfl rfl ?_
  refine qx_aload_s (x := 0) d_La_law_332 rfl rfl ?_
  refine qx_iload_n d_La_law_333 rfl rfl ?_
  refine qx_iconstN (v := 1) d_La_law_334 rfl ?_
  refine qx_iaddN d_La_law_335 ?_
  refine qx_sld rfl d_La_law_336 (by omega) rfl (by omega) ?_
  refine qx_callV (As := [_]) (rest := _) d_La_law_337 lk_La_44 y_QM_output v_QM_output rfl rfl rfl (by decide) rfl rfl rfl (Nat.ble_eq.mpr (by omega)) (by omega) (by omega) (ky h1 hP) ?_
  rintro _ h2 _ ⟨rfl, hI2, rfl⟩
  refine qx_icmp_eq (t := 708) d_La_law_340 rfl (fun c340 => ?_) (fun c340 => absurd rfl c340)
  exact kk _ hI2
set_option maxRecDepth 100000 in
set_option maxHeartbeats 4000000 in
theorem la_group {N L : Nat} {xs : Nat → Int32} {h : qH} {ce sl : Nat} {Rp : Option Value → qH → Nat → Prop} (hL : L ≤ 3072) (hi : 6 * N + 6 ≤ L) (hce : ce ≤ 600000) (hsl : sl ≤ 7302250) (hI : Inv N h) (kk : ∀ h1, Inv (N + 1) h1 → qX mi_La_law 10 (some (L, xs)) 600000 7302250 708 [.retAddr 0, .ref 0, .ref 122, .int (nI (6 * N))] [] h1 NN ce sl Rp) : qX mi_La_law 10 (some (L, xs)) 600000 7302250 345 [.retAddr 0, .ref 0, .ref 122, .int (nI (6 * N))] [] h NN ce sl Rp := by
  obtain ⟨z, P, dx, dy, hx, hy, kx, ky⟩ := op_group (xs (6 * N + 1)) N h (by omega) hI
  refine qx_aload_n d_La_law_345 rfl rfl ?_
  refine qx_aload_s (x := 0) d_La_law_346 rfl rfl ?_
  refine qx_iload_n d_La_law_347 rfl rfl ?_
  refine qx_iconstN (v := 1) d_La_law_348 rfl ?_
  refine qx_iaddN d_La_law_349 ?_
  refine qx_sld rfl d_La_law_350 (by omega) rfl (by omega) ?_
  refine qx_callV (As := [_]) (rest := _) d_La_law_351 lk_La_45 y_QF_group v_QF_group rfl rfl rfl (by decide) rfl rfl rfl (Nat.ble_eq.mpr (by omega)) (by omega) (by omega) kx ?_
  rintro _ h1 _ ⟨rfl, hP, rfl⟩
  refine qx_aload_n d_La_law_354 rfl rfl ?_
  refine qx_aload_s (x := 0) d_La_law_355 rfl rfl ?_
  refine qx_iload_n d_La_law_356 rfl rfl ?_
  refine qx_iconstN (v := 1) d_La_law_357 rfl ?_
  refine qx_iaddN d_La_law_358 ?_
  refine qx_sld rfl d_La_law_359 (by omega) rfl (by omega) ?_
  refine qx_callV (As := [_]) (rest := _) d_La_law_360 lk_La_48 y_QM_group v_QM_group rfl rfl rfl (by decide) rfl rfl rfl (Nat.ble_eq.mpr (by omega)) (by omega) (by omega) (ky h1 hP) ?_
  rintro _ h2 _ ⟨rfl, hI2, rfl⟩
  refine qx_icmp_eq (t := 708) d_La_law_363 rfl (fun c363 => ?_) (fun c363 => absurd rfl c363)
  exact kk _ hI2
set_option maxRecDepth 100000 in
set_option maxHeartbeats 4000000 in
theorem la_order {N L : Nat} {xs : Nat → Int32} {h : qH} {ce sl : Nat} {Rp : Option Value → qH → Nat → Prop} (hL : L ≤ 3072) (hi : 6 * N + 6 ≤ L) (hce : ce ≤ 600000) (hsl : sl ≤ 7302250) (hI : Inv N h) (kk : ∀ h1, Inv (N + 1) h1 → qX mi_La_law 10 (some (L, xs)) 600000 7302250 708 [.retAddr 0, .ref 0, .ref 122, .int (nI (6 * N))] [] h1 NN ce sl Rp) : qX mi_La_law 10 (some (L, xs)) 600000 7302250 368 [.retAddr 0, .ref 0, .ref 122, .int (nI (6 * N))] [] h NN ce sl Rp := by
  by_cases h0 : xs (6 * N + 2) = 0
  · obtain ⟨z, P, dx, dy, hx, hy, kx, ky⟩ := op_order (xs (6 * N + 1)) (xs (6 * N + 3)) false N h (by omega) hI
    refine qx_aload_n d_La_law_368 rfl rfl ?_
    refine qx_aload_s (x := 0) d_La_law_369 rfl rfl ?_
    refine qx_iload_n d_La_law_370 rfl rfl ?_
    refine qx_iconstN (v := 1) d_La_law_371 rfl ?_
    refine qx_iaddN d_La_law_372 ?_
    refine qx_sld rfl d_La_law_373 (by omega) rfl (by omega) ?_
    refine qx_aload_s (x := 0) d_La_law_374 rfl rfl ?_
    refine qx_iload_n d_La_law_375 rfl rfl ?_
    refine qx_iconstN (v := 2) d_La_law_376 rfl ?_
    refine qx_iaddN d_La_law_377 ?_
    refine qx_sld rfl d_La_law_378 (by omega) rfl (by omega) ?_
    refine qx_if_eq (t := 386) d_La_law_379 rfl (fun c379 => ?_) (fun c379 => absurd h0 c379)
    refine qx_iconst (v := (b2i false)) d_La_law_386 rfl ?_
    refine qx_aload_s (x := 0) d_La_law_387 rfl rfl ?_
    refine qx_iload_n d_La_law_388 rfl rfl ?_
    refine qx_iconstN (v := 3) d_La_law_389 rfl ?_
    refine qx_iaddN d_La_law_390 ?_
    refine qx_sld rfl d_La_law_391 (by omega) rfl (by omega) ?_
    refine qx_callV (As := [_, _, _]) (rest := _) d_La_law_392 lk_La_49 y_QF_order v_QF_order rfl rfl rfl (by decide) rfl rfl rfl (Nat.ble_eq.mpr (by omega)) (by omega) (by omega) kx ?_
    rintro _ h1 _ ⟨rfl, hP, rfl⟩
    refine qx_aload_n d_La_law_395 rfl rfl ?_
    refine qx_aload_s (x := 0) d_La_law_396 rfl rfl ?_
    refine qx_iload_n d_La_law_397 rfl rfl ?_
    refine qx_iconstN (v := 1) d_La_law_398 rfl ?_
    refine qx_iaddN d_La_law_399 ?_
    refine qx_sld rfl d_La_law_400 (by omega) rfl (by omega) ?_
    refine qx_aload_s (x := 0) d_La_law_401 rfl rfl ?_
    refine qx_iload_n d_La_law_402 rfl rfl ?_
    refine qx_iconstN (v := 2) d_La_law_403 rfl ?_
    refine qx_iaddN d_La_law_404 ?_
    refine qx_sld rfl d_La_law_405 (by omega) rfl (by omega) ?_
    refine qx_if_eq (t := 413) d_La_law_406 rfl (fun c406 => ?_) (fun c406 => absurd h0 c406)
    refine qx_iconst (v := (b2i false)) d_La_law_413 rfl ?_
    refine qx_aload_s (x := 0) d_La_law_414 rfl rfl ?_
    refine qx_iload_n d_La_law_415 rfl rfl ?_
    refine qx_iconstN (v := 3) d_La_law_416 rfl ?_
    refine qx_iaddN d_La_law_417 ?_
    refine qx_sld rfl d_La_law_418 (by omega) rfl (by omega) ?_
    refine qx_callV (As := [_, _, _]) (rest := _) d_La_law_419 lk_La_53 y_QM_order v_QM_order rfl rfl rfl (by decide) rfl rfl rfl (Nat.ble_eq.mpr (by omega)) (by omega) (by omega) (ky h1 hP) ?_
    rintro _ h2 _ ⟨rfl, hI2, rfl⟩
    refine qx_icmp_eq (t := 708) d_La_law_422 rfl (fun c422 => ?_) (fun c422 => absurd rfl c422)
    exact kk _ hI2
  · obtain ⟨z, P, dx, dy, hx, hy, kx, ky⟩ := op_order (xs (6 * N + 1)) (xs (6 * N + 3)) true N h (by omega) hI
    refine qx_aload_n d_La_law_368 rfl rfl ?_
    refine qx_aload_s (x := 0) d_La_law_369 rfl rfl ?_
    refine qx_iload_n d_La_law_370 rfl rfl ?_
    refine qx_iconstN (v := 1) d_La_law_371 rfl ?_
    refine qx_iaddN d_La_law_372 ?_
    refine qx_sld rfl d_La_law_373 (by omega) rfl (by omega) ?_
    refine qx_aload_s (x := 0) d_La_law_374 rfl rfl ?_
    refine qx_iload_n d_La_law_375 rfl rfl ?_
    refine qx_iconstN (v := 2) d_La_law_376 rfl ?_
    refine qx_iaddN d_La_law_377 ?_
    refine qx_sld rfl d_La_law_378 (by omega) rfl (by omega) ?_
    refine qx_if_eq (t := 386) d_La_law_379 rfl (fun c379 => absurd c379 h0) (fun c379 => ?_)
    refine qx_iconst (v := (b2i true)) d_La_law_382 rfl ?_
    refine qx_goto (t := 387) d_La_law_383 rfl ?_
    refine qx_aload_s (x := 0) d_La_law_387 rfl rfl ?_
    refine qx_iload_n d_La_law_388 rfl rfl ?_
    refine qx_iconstN (v := 3) d_La_law_389 rfl ?_
    refine qx_iaddN d_La_law_390 ?_
    refine qx_sld rfl d_La_law_391 (by omega) rfl (by omega) ?_
    refine qx_callV (As := [_, _, _]) (rest := _) d_La_law_392 lk_La_49 y_QF_order v_QF_order rfl rfl rfl (by decide) rfl rfl rfl (Nat.ble_eq.mpr (by omega)) (by omega) (by omega) kx ?_
    rintro _ h1 _ ⟨rfl, hP, rfl⟩
    refine qx_aload_n d_La_law_395 rfl rfl ?_
    refine qx_aload_s (x := 0) d_La_law_396 rfl rfl ?_
    refine qx_iload_n d_La_law_397 rfl rfl ?_
    refine qx_iconstN (v := 1) d_La_law_398 rfl ?_
    refine qx_iaddN d_La_law_399 ?_
    refine qx_sld rfl d_La_law_400 (by omega) rfl (by omega) ?_
    refine qx_aload_s (x := 0) d_La_law_401 rfl rfl ?_
    refine qx_iload_n d_La_law_402 rfl rfl ?_
    refine qx_iconstN (v := 2) d_La_law_403 rfl ?_
    refine qx_iaddN d_La_law_404 ?_
    refine qx_sld rfl d_La_law_405 (by omega) rfl (by omega) ?_
    refine qx_if_eq (t := 413) d_La_law_406 rfl (fun c406 => absurd c406 h0) (fun c406 => ?_)
    refine qx_iconst (v := (b2i true)) d_La_law_409 rfl ?_
    refine qx_goto (t := 414) d_La_law_410 rfl ?_
    refine qx_aload_s (x := 0) d_La_law_414 rfl rfl ?_
    refine qx_iload_n d_La_law_415 rfl rfl ?_
    refine qx_iconstN (v := 3) d_La_law_416 rfl ?_
    refine qx_iaddN d_La_law_417 ?_
    refine qx_sld rfl d_La_law_418 (by omega) rfl (by omega) ?_
    refine qx_callV (As := [_, _, _]) (rest := _) d_La_law_419 lk_La_53 y_QM_order v_QM_order rfl rfl rfl (by decide) rfl rfl rfl (Nat.ble_eq.mpr (by omega)) (by omega) (by omega) (ky h1 hP) ?_
    rintro _ h2 _ ⟨rfl, hI2, rfl⟩
    refine qx_icmp_eq (t := 708) d_La_law_422 rfl (fun c422 => ?_) (fun c422 => absurd rfl c422)
    exact kk _ hI2
set_option maxRecDepth 100000 in
set_option maxHeartbeats 4000000 in
theorem la_start {N L : Nat} {xs : Nat → Int32} {h : qH} {ce sl : Nat} {Rp : Option Value → qH → Nat → Prop} (hL : L ≤ 3072) (hi : 6 * N + 6 ≤ L) (hce : ce ≤ 600000) (hsl : sl ≤ 7302250) (hI : Inv N h) (kk : ∀ h1, Inv (N + 1) h1 → qX mi_La_law 10 (some (L, xs)) 600000 7302250 708 [.retAddr 0, .ref 0, .ref 122, .int (nI (6 * N))] [] h1 NN ce sl Rp) : qX mi_La_law 10 (some (L, xs)) 600000 7302250 427 [.retAddr 0, .ref 0, .ref 122, .int (nI (6 * N))] [] h NN ce sl Rp := by
  obtain ⟨z, P, dx, dy, hx, hy, kx, ky⟩ := op_start (xs (6 * N + 1)) (xs (6 * N + 2)) N h (by omega) hI
  refine qx_aload_n d_La_law_427 rfl rfl ?_
  refine qx_aload_s (x := 0) d_La_law_428 rfl rfl ?_
  refine qx_iload_n d_La_law_429 rfl rfl ?_
  refine qx_iconstN (v := 1) d_La_law_430 rfl ?_
  refine qx_iaddN d_La_law_431 ?_
  refine qx_sld rfl d_La_law_432 (by omega) rfl (by omega) ?_
  refine qx_aload_s (x := 0) d_La_law_433 rfl rfl ?_
  refine qx_iload_n d_La_law_434 rfl rfl ?_
  refine qx_iconstN (v := 2) d_La_law_435 rfl ?_
  refine qx_iaddN d_La_law_436 ?_
  refine qx_sld rfl d_La_law_437 (by omega) rfl (by omega) ?_
  refine qx_callV (As := [_, _]) (rest := _) d_La_law_438 lk_La_54 y_QF_start v_QF_start rfl rfl rfl (by decide) rfl rfl rfl (Nat.ble_eq.mpr (by omega)) (by omega) (by omega) kx ?_
  rintro _ h1 _ ⟨rfl, hP, rfl⟩
  refine qx_aload_n d_La_law_441 rfl rfl ?_
  refine qx_aload_s (x := 0) d_La_law_442 rfl rfl ?_
  refine qx_iload_n d_La_law_443 rfl rfl ?_
  refine qx_iconstN (v := 1) d_La_law_444 rfl ?_
  refine qx_iaddN d_La_law_445 ?_
  refine qx_sld rfl d_La_law_446 (by omega) rfl (by omega) ?_
  refine qx_aload_s (x := 0) d_La_law_447 rfl rfl ?_
  refine qx_iload_n d_La_law_448 rfl rfl ?_
  refine qx_iconstN (v := 2) d_La_law_449 rfl ?_
  refine qx_iaddN d_La_law_450 ?_
  refine qx_sld rfl d_La_law_451 (by omega) rfl (by omega) ?_
  refine qx_callV (As := [_, _]) (rest := _) d_La_law_452 lk_La_58 y_QM_start v_QM_start rfl rfl rfl (by decide) rfl rfl rfl (Nat.ble_eq.mpr (by omega)) (by omega) (by omega) (ky h1 hP) ?_
  rintro _ h2 _ ⟨rfl, hI2, rfl⟩
  refine qx_icmp_eq (t := 708) d_La_law_455 rfl (fun c455 => ?_) (fun c455 => absurd rfl c455)
  exact kk _ hI2
set_option maxRecDepth 100000 in
set_option maxHeartbeats 4000000 in
theorem la_pass {N L : Nat} {xs : Nat → Int32} {h : qH} {ce sl : Nat} {Rp : Option Value → qH → Nat → Prop} (hL : L ≤ 3072) (hi : 6 * N + 6 ≤ L) (hce : ce ≤ 600000) (hsl : sl ≤ 7302250) (hI : Inv N h) (kk : ∀ h1, Inv (N + 1) h1 → qX mi_La_law 10 (some (L, xs)) 600000 7302250 708 [.retAddr 0, .ref 0, .ref 122, .int (nI (6 * N))] [] h1 NN ce sl Rp) : qX mi_La_law 10 (some (L, xs)) 600000 7302250 460 [.retAddr 0, .ref 0, .ref 122, .int (nI (6 * N))] [] h NN ce sl Rp := by
  obtain ⟨z, P, dx, dy, hx, hy, kx, ky⟩ := op_pass (xs (6 * N + 1)) (xs (6 * N + 2)) N h (by omega) hI
  refine qx_aload_n d_La_law_460 rfl rfl ?_
  refine qx_aload_s (x := 0) d_La_law_461 rfl rfl ?_
  refine qx_iload_n d_La_law_462 rfl rfl ?_
  refine qx_iconstN (v := 1) d_La_law_463 rfl ?_
  refine qx_iaddN d_La_law_464 ?_
  refine qx_sld rfl d_La_law_465 (by omega) rfl (by omega) ?_
  refine qx_aload_s (x := 0) d_La_law_466 rfl rfl ?_
  refine qx_iload_n d_La_law_467 rfl rfl ?_
  refine qx_iconstN (v := 2) d_La_law_468 rfl ?_
  refine qx_iaddN d_La_law_469 ?_
  refine qx_sld rfl d_La_law_470 (by omega) rfl (by omega) ?_
  refine qx_callV (As := [_, _]) (rest := _) d_La_law_471 lk_La_59 y_QF_pass v_QF_pass rfl rfl rfl (by decide) rfl rfl rfl (Nat.ble_eq.mpr (by omega)) (by omega) (by omega) kx ?_
  rintro _ h1 _ ⟨rfl, hP, rfl⟩
  refine qx_aload_n d_La_law_474 rfl rfl ?_
  refine qx_aload_s (x := 0) d_La_law_475 rfl rfl ?_
  refine qx_iload_n d_La_law_476 rfl rfl ?_
  refine qx_iconstN (v := 1) d_La_law_477 rfl ?_
  refine qx_iaddN d_La_law_478 ?_
  refine qx_sld rfl d_La_law_479 (by omega) rfl (by omega) ?_
  refine qx_aload_s (x := 0) d_La_law_480 rfl rfl ?_
  refine qx_iload_n d_La_law_481 rfl rfl ?_
  refine qx_iconstN (v := 2) d_La_law_482 rfl ?_
  refine qx_iaddN d_La_law_483 ?_
  refine qx_sld rfl d_La_law_484 (by omega) rfl (by omega) ?_
  refine qx_callV (As := [_, _]) (rest := _) d_La_law_485 lk_La_62 y_QM_pass v_QM_pass rfl rfl rfl (by decide) rfl rfl rfl (Nat.ble_eq.mpr (by omega)) (by omega) (by omega) (ky h1 hP) ?_
  rintro _ h2 _ ⟨rfl, hI2, rfl⟩
  refine qx_icmp_eq (t := 708) d_La_law_488 rfl (fun c488 => ?_) (fun c488 => absurd rfl c488)
  exact kk _ hI2
set_option maxRecDepth 100000 in
set_option maxHeartbeats 4000000 in
theorem la_work {N L : Nat} {xs : Nat → Int32} {h : qH} {ce sl : Nat} {Rp : Option Value → qH → Nat → Prop} (hL : L ≤ 3072) (hi : 6 * N + 6 ≤ L) (hce : ce ≤ 600000) (hsl : sl ≤ 7302250) (hI : Inv N h) (kk : ∀ h1, Inv (N + 1) h1 → qX mi_La_law 10 (some (L, xs)) 600000 7302250 708 [.retAddr 0, .ref 0, .ref 122, .int (nI (6 * N))] [] h1 NN ce sl Rp) : qX mi_La_law 10 (some (L, xs)) 600000 7302250 493 [.retAddr 0, .ref 0, .ref 122, .int (nI (6 * N))] [] h NN ce sl Rp := by
  obtain ⟨z, P, dx, dy, hx, hy, kx, ky⟩ := op_work (xs (6 * N + 1)) N h (by omega) hI
  refine qx_aload_n d_La_law_493 rfl rfl ?_
  refine qx_aload_s (x := 0) d_La_law_494 rfl rfl ?_
  refine qx_iload_n d_La_law_495 rfl rfl ?_
  refine qx_iconstN (v := 1) d_La_law_496 rfl ?_
  refine qx_iaddN d_La_law_497 ?_
  refine qx_sld rfl d_La_law_498 (by omega) rfl (by omega) ?_
  refine qx_callV (As := [_]) (rest := _) d_La_law_499 lk_La_63 y_QF_work v_QF_work rfl rfl rfl (by decide) rfl rfl rfl (Nat.ble_eq.mpr (by omega)) (by omega) (by omega) kx ?_
  rintro _ h1 _ ⟨rfl, hP, rfl⟩
  refine qx_aload_n d_La_law_502 rfl rfl ?_
  refine qx_aload_s (x := 0) d_La_law_503 rfl rfl ?_
  refine qx_iload_n d_La_law_504 rfl rfl ?_
  refine qx_iconstN (v := 1) d_La_law_505 rfl ?_
  refine qx_iaddN d_La_law_506 ?_
  refine qx_sld rfl d_La_law_507 (by omega) rfl (by omega) ?_
  refine qx_callV (As := [_]) (rest := _) d_La_law_508 lk_La_67 y_QM_work v_QM_work rfl rfl rfl (by decide) rfl rfl rfl (Nat.ble_eq.mpr (by omega)) (by omega) (by omega) (ky h1 hP) ?_
  rintro _ h2 _ ⟨rfl, hI2, rfl⟩
  refine qx_icmp_eq (t := 708) d_La_law_511 rfl (fun c511 => ?_) (fun c511 => absurd rfl c511)
  exact kk _ hI2
set_option maxRecDepth 100000 in
set_option maxHeartbeats 4000000 in
theorem la_crash {N L : Nat} {xs : Nat → Int32} {h : qH} {ce sl : Nat} {Rp : Option Value → qH → Nat → Prop} (hL : L ≤ 3072) (hi : 6 * N + 6 ≤ L) (hce : ce ≤ 600000) (hsl : sl ≤ 7302250) (hI : Inv N h) (kk : ∀ h1, Inv (N + 1) h1 → qX mi_La_law 10 (some (L, xs)) 600000 7302250 708 [.retAddr 0, .ref 0, .ref 122, .int (nI (6 * N))] [] h1 NN ce sl Rp) : qX mi_La_law 10 (some (L, xs)) 600000 7302250 516 [.retAddr 0, .ref 0, .ref 122, .int (nI (6 * N))] [] h NN ce sl Rp := by
  obtain ⟨z, P, dx, dy, hx, hy, kx, ky⟩ := op_crash (xs (6 * N + 1)) N h (by omega) hI
  refine qx_aload_n d_La_law_516 rfl rfl ?_
  refine qx_aload_s (x := 0) d_La_law_517 rfl rfl ?_
  refine qx_iload_n d_La_law_518 rfl rfl ?_
  refine qx_iconstN (v := 1) d_La_law_519 rfl ?_
  refine qx_iaddN d_La_law_520 ?_
  refine qx_sld rfl d_La_law_521 (by omega) rfl (by omega) ?_
  refine qx_callV (As := [_]) (rest := _) d_La_law_522 lk_La_68 y_QF_crash v_QF_crash rfl rfl rfl (by decide) rfl rfl rfl (Nat.ble_eq.mpr (by omega)) (by omega) (by omega) kx ?_
  rintro _ h1 _ ⟨rfl, hP, rfl⟩
  refine qx_aload_n d_La_law_525 rfl rfl ?_
  refine qx_aload_s (x := 0) d_La_law_526 rfl rfl ?_
  refine qx_iload_n d_La_law_527 rfl rfl ?_
  refine qx_iconstN (v := 1) d_La_law_528 rfl ?_
  refine qx_iaddN d_La_law_529 ?_
  refine qx_sld rfl d_La_law_530 (by omega) rfl (by omega) ?_
  refine qx_callV (As := [_]) (rest := _) d_La_law_531 lk_La_71 y_QM_crash v_QM_crash rfl rfl rfl (by decide) rfl rfl rfl (Nat.ble_eq.mpr (by omega)) (by omega) (by omega) (ky h1 hP) ?_
  rintro _ h2 _ ⟨rfl, hI2, rfl⟩
  refine qx_icmp_eq (t := 708) d_La_law_534 rfl (fun c534 => ?_) (fun c534 => absurd rfl c534)
  exact kk _ hI2
set_option maxRecDepth 100000 in
set_option maxHeartbeats 4000000 in
theorem la_tick {N L : Nat} {xs : Nat → Int32} {h : qH} {ce sl : Nat} {Rp : Option Value → qH → Nat → Prop} (hL : L ≤ 3072) (hi : 6 * N + 6 ≤ L) (hce : ce ≤ 600000) (hsl : sl ≤ 7302250) (hI : Inv N h) (kk : ∀ h1, Inv (N + 1) h1 → qX mi_La_law 10 (some (L, xs)) 600000 7302250 708 [.retAddr 0, .ref 0, .ref 122, .int (nI (6 * N))] [] h1 NN ce sl Rp) : qX mi_La_law 10 (some (L, xs)) 600000 7302250 539 [.retAddr 0, .ref 0, .ref 122, .int (nI (6 * N))] [] h NN ce sl Rp := by
  obtain ⟨z, P, dx, dy, hx, hy, kx, ky⟩ := op_tick  N h (by omega) hI
  refine qx_aload_n d_La_law_539 rfl rfl ?_
  refine qx_callV (As := []) (rest := _) d_La_law_540 lk_La_72 y_QF_tick v_QF_tick rfl rfl rfl (by decide) rfl rfl rfl (Nat.ble_eq.mpr (by omega)) (by omega) (by omega) kx ?_
  rintro _ h1 _ ⟨rfl, hP, rfl⟩
  refine qx_aload_n d_La_law_543 rfl rfl ?_
  refine qx_callV (As := []) (rest := _) d_La_law_544 lk_La_76 y_QM_tick v_QM_tick rfl rfl rfl (by decide) rfl rfl rfl (Nat.ble_eq.mpr (by omega)) (by omega) (by omega) (ky h1 hP) ?_
  rintro _ h2 _ ⟨rfl, hI2, rfl⟩
  refine qx_icmp_eq (t := 708) d_La_law_547 rfl (fun c547 => ?_) (fun c547 => absurd rfl c547)
  exact kk _ hI2
set_option maxRecDepth 100000 in
set_option maxHeartbeats 4000000 in
theorem la_message {N L : Nat} {xs : Nat → Int32} {h : qH} {ce sl : Nat} {Rp : Option Value → qH → Nat → Prop} (hL : L ≤ 3072) (hi : 6 * N + 6 ≤ L) (hce : ce ≤ 600000) (hsl : sl ≤ 7302250) (hI : Inv N h) (kk : ∀ h1, Inv (N + 1) h1 → qX mi_La_law 10 (some (L, xs)) 600000 7302250 708 [.retAddr 0, .ref 0, .ref 122, .int (nI (6 * N))] [] h1 NN ce sl Rp) : qX mi_La_law 10 (some (L, xs)) 600000 7302250 552 [.retAddr 0, .ref 0, .ref 122, .int (nI (6 * N))] [] h NN ce sl Rp := by
  obtain ⟨z, P, dx, dy, hx, hy, kx, ky⟩ := op_message (xs (6 * N + 1)) (xs (6 * N + 2)) N h (by omega) hI
  refine qx_aload_n d_La_law_552 rfl rfl ?_
  refine qx_aload_s (x := 0) d_La_law_553 rfl rfl ?_
  refine qx_iload_n d_La_law_554 rfl rfl ?_
  refine qx_iconstN (v := 1) d_La_law_555 rfl ?_
  refine qx_iaddN d_La_law_556 ?_
  refine qx_sld rfl d_La_law_557 (by omega) rfl (by omega) ?_
  refine qx_aload_s (x := 0) d_La_law_558 rfl rfl ?_
  refine qx_iload_n d_La_law_559 rfl rfl ?_
  refine qx_iconstN (v := 2) d_La_law_560 rfl ?_
  refine qx_iaddN d_La_law_561 ?_
  refine qx_sld rfl d_La_law_562 (by omega) rfl (by omega) ?_
  refine qx_callV (As := [_, _]) (rest := _) d_La_law_563 lk_La_77 y_QF_message v_QF_message rfl rfl rfl (by decide) rfl rfl rfl (Nat.ble_eq.mpr (by omega)) (by omega) (by omega) kx ?_
  rintro _ h1 _ ⟨rfl, hP, rfl⟩
  refine qx_aload_n d_La_law_566 rfl rfl ?_
  refine qx_aload_s (x := 0) d_La_law_567 rfl rfl ?_
  refine qx_iload_n d_La_law_568 rfl rfl ?_
  refine qx_iconstN (v := 1) d_La_law_569 rfl ?_
  refine qx_iaddN d_La_law_570 ?_
  refine qx_sld rfl d_La_law_571 (by omega) rfl (by omega) ?_
  refine qx_aload_s (x := 0) d_La_law_572 rfl rfl ?_
  refine qx_iload_n d_La_law_573 rfl rfl ?_
  refine qx_iconstN (v := 2) d_La_law_574 rfl ?_
  refine qx_iaddN d_La_law_575 ?_
  refine qx_sld rfl d_La_law_576 (by omega) rfl (by omega) ?_
  refine qx_callV (As := [_, _]) (rest := _) d_La_law_577 lk_La_80 y_QM_message v_QM_message rfl rfl rfl (by decide) rfl rfl rfl (Nat.ble_eq.mpr (by omega)) (by omega) (by omega) (ky h1 hP) ?_
  rintro _ h2 _ ⟨rfl, hI2, rfl⟩
  refine qx_icmp_eq (t := 708) d_La_law_580 rfl (fun c580 => ?_) (fun c580 => absurd rfl c580)
  exact kk _ hI2
set_option maxRecDepth 100000 in
set_option maxHeartbeats 4000000 in
theorem la_task {N L : Nat} {xs : Nat → Int32} {h : qH} {ce sl : Nat} {Rp : Option Value → qH → Nat → Prop} (hL : L ≤ 3072) (hi : 6 * N + 6 ≤ L) (hce : ce ≤ 600000) (hsl : sl ≤ 7302250) (hI : Inv N h) (kk : ∀ h1, Inv (N + 1) h1 → qX mi_La_law 10 (some (L, xs)) 600000 7302250 708 [.retAddr 0, .ref 0, .ref 122, .int (nI (6 * N))] [] h1 NN ce sl Rp) : qX mi_La_law 10 (some (L, xs)) 600000 7302250 585 [.retAddr 0, .ref 0, .ref 122, .int (nI (6 * N))] [] h NN ce sl Rp := by
  obtain ⟨z, P, dx, dy, hx, hy, kx, ky⟩ := op_task (xs (6 * N + 1)) (xs (6 * N + 2)) N h (by omega) hI
  refine qx_aload_n d_La_law_585 rfl rfl ?_
  refine qx_aload_s (x := 0) d_La_law_586 rfl rfl ?_
  refine qx_iload_n d_La_law_587 rfl rfl ?_
  refine qx_iconstN (v := 1) d_La_law_588 rfl ?_
  refine qx_iaddN d_La_law_589 ?_
  refine qx_sld rfl d_La_law_590 (by omega) rfl (by omega) ?_
  refine qx_aload_s (x := 0) d_La_law_591 rfl rfl ?_
  refine qx_iload_n d_La_law_592 rfl rfl ?_
  refine qx_iconstN (v := 2) d_La_law_593 rfl ?_
  refine qx_iaddN d_La_law_594 ?_
  refine qx_sld rfl d_La_law_595 (by omega) rfl (by omega) ?_
  refine qx_callV (As := [_, _]) (rest := _) d_La_law_596 lk_La_81 y_QF_task v_QF_task rfl rfl rfl (by decide) rfl rfl rfl (Nat.ble_eq.mpr (by omega)) (by omega) (by omega) kx ?_
  rintro _ h1 _ ⟨rfl, hP, rfl⟩
  refine qx_aload_n d_La_law_599 rfl rfl ?_
  refine qx_aload_s (x := 0) d_La_law_600 rfl rfl ?_
  refine qx_iload_n d_La_law_601 rfl rfl ?_
  refine qx_iconstN (v := 1) d_La_law_602 rfl ?_
  refine qx_iaddN d_La_law_603 ?_
  refine qx_sld rfl d_La_law_604 (by omega) rfl (by omega) ?_
  refine qx_aload_s (x := 0) d_La_law_605 rfl rfl ?_
  refine qx_iload_n d_La_law_606 rfl rfl ?_
  refine qx_iconstN (v := 2) d_La_law_607 rfl ?_
  refine qx_iaddN d_La_law_608 ?_
  refine qx_sld rfl d_La_law_609 (by omega) rfl (by omega) ?_
  refine qx_callV (As := [_, _]) (rest := _) d_La_law_610 lk_La_84 y_QM_task v_QM_task rfl rfl rfl (by decide) rfl rfl rfl (Nat.ble_eq.mpr (by omega)) (by omega) (by omega) (ky h1 hP) ?_
  rintro _ h2 _ ⟨rfl, hI2, rfl⟩
  refine qx_icmp_eq (t := 708) d_La_law_613 rfl (fun c613 => ?_) (fun c613 => absurd rfl c613)
  exact kk _ hI2
set_option maxRecDepth 100000 in
set_option maxHeartbeats 4000000 in
theorem la_ended {N L : Nat} {xs : Nat → Int32} {h : qH} {ce sl : Nat} {Rp : Option Value → qH → Nat → Prop} (hL : L ≤ 3072) (hi : 6 * N + 6 ≤ L) (hce : ce ≤ 600000) (hsl : sl ≤ 7302250) (hI : Inv N h) (kk : ∀ h1, Inv (N + 1) h1 → qX mi_La_law 10 (some (L, xs)) 600000 7302250 708 [.retAddr 0, .ref 0, .ref 122, .int (nI (6 * N))] [] h1 NN ce sl Rp) : qX mi_La_law 10 (some (L, xs)) 600000 7302250 618 [.retAddr 0, .ref 0, .ref 122, .int (nI (6 * N))] [] h NN ce sl Rp := by
  obtain ⟨z, P, dx, dy, hx, hy, kx, ky⟩ := op_ended (xs (6 * N + 1)) N h (by omega) hI
  refine qx_aload_n d_La_law_618 rfl rfl ?_
  refine qx_aload_s (x := 0) d_La_law_619 rfl rfl ?_
  refine qx_iload_n d_La_law_620 rfl rfl ?_
  refine qx_iconstN (v := 1) d_La_law_621 rfl ?_
  refine qx_iaddN d_La_law_622 ?_
  refine qx_sld rfl d_La_law_623 (by omega) rfl (by omega) ?_
  refine qx_callV (As := [_]) (rest := _) d_La_law_624 lk_La_85 y_QF_ended v_QF_ended rfl rfl rfl (by decide) rfl rfl rfl (Nat.ble_eq.mpr (by omega)) (by omega) (by omega) kx ?_
  rintro _ h1 _ ⟨rfl, hP, rfl⟩
  refine qx_aload_n d_La_law_627 rfl rfl ?_
  refine qx_aload_s (x := 0) d_La_law_628 rfl rfl ?_
  refine qx_iload_n d_La_law_629 rfl rfl ?_
  refine qx_iconstN (v := 1) d_La_law_630 rfl ?_
  refine qx_iaddN d_La_law_631 ?_
  refine qx_sld rfl d_La_law_632 (by omega) rfl (by omega) ?_
  refine qx_callV (As := [_]) (rest := _) d_La_law_633 lk_La_88 y_QM_ended v_QM_ended rfl rfl rfl (by decide) rfl rfl rfl (Nat.ble_eq.mpr (by omega)) (by omega) (by omega) (ky h1 hP) ?_
  rintro _ h2 _ ⟨rfl, hI2, rfl⟩
  refine qx_icmp_eq (t := 708) d_La_law_636 rfl (fun c636 => ?_) (fun c636 => absurd rfl c636)
  exact kk _ hI2
set_option maxRecDepth 100000 in
set_option maxHeartbeats 4000000 in
theorem la_cell {N L : Nat} {xs : Nat → Int32} {h : qH} {ce sl : Nat} {Rp : Option Value → qH → Nat → Prop} (hL : L ≤ 3072) (hi : 6 * N + 6 ≤ L) (hce : ce ≤ 600000) (hsl : sl ≤ 7302250) (hI : Inv N h) (kk : ∀ h1, Inv (N + 1) h1 → qX mi_La_law 10 (some (L, xs)) 600000 7302250 708 [.retAddr 0, .ref 0, .ref 122, .int (nI (6 * N))] [] h1 NN ce sl Rp) : qX mi_La_law 10 (some (L, xs)) 600000 7302250 641 [.retAddr 0, .ref 0, .ref 122, .int (nI (6 * N))] [] h NN ce sl Rp := by
  obtain ⟨z, dx, dy, hx, hy, kx, ky⟩ := op_cell (xs (6 * N + 1)) (xs (6 * N + 2)) N h (by omega) hI
  refine qx_aload_n d_La_law_641 rfl rfl ?_
  refine qx_aload_s (x := 0) d_La_law_642 rfl rfl ?_
  refine qx_iload_n d_La_law_643 rfl rfl ?_
  refine qx_iconstN (v := 1) d_La_law_644 rfl ?_
  refine qx_iaddN d_La_law_645 ?_
  refine qx_sld rfl d_La_law_646 (by omega) rfl (by omega) ?_
  refine qx_aload_s (x := 0) d_La_law_647 rfl rfl ?_
  refine qx_iload_n d_La_law_648 rfl rfl ?_
  refine qx_iconstN (v := 2) d_La_law_649 rfl ?_
  refine qx_iaddN d_La_law_650 ?_
  refine qx_sld rfl d_La_law_651 (by omega) rfl (by omega) ?_
  refine qx_callV (As := [_, _]) (rest := _) d_La_law_652 lk_La_89 y_QF_cell v_QF_cell rfl rfl rfl (by decide) rfl rfl rfl (Nat.ble_eq.mpr (by omega)) (by omega) (by omega) kx ?_
  rintro _ _ _ ⟨rfl, rfl, rfl⟩
  refine qx_aload_n d_La_law_655 rfl rfl ?_
  refine qx_aload_s (x := 0) d_La_law_656 rfl rfl ?_
  refine qx_iload_n d_La_law_657 rfl rfl ?_
  refine qx_iconstN (v := 1) d_La_law_658 rfl ?_
  refine qx_iaddN d_La_law_659 ?_
  refine qx_sld rfl d_La_law_660 (by omega) rfl (by omega) ?_
  refine qx_aload_s (x := 0) d_La_law_661 rfl rfl ?_
  refine qx_iload_n d_La_law_662 rfl rfl ?_
  refine qx_iconstN (v := 2) d_La_law_663 rfl ?_
  refine qx_iaddN d_La_law_664 ?_
  refine qx_sld rfl d_La_law_665 (by omega) rfl (by omega) ?_
  refine qx_callV (As := [_, _]) (rest := _) d_La_law_666 lk_La_93 y_QM_cell v_QM_cell rfl rfl rfl (by decide) rfl rfl rfl (Nat.ble_eq.mpr (by omega)) (by omega) (by omega) ky ?_
  rintro _ _ _ ⟨rfl, rfl, rfl⟩
  refine qx_lcmp d_La_law_669 ?_
  refine qx_if_eqC (t := 708) d_La_law_670 rfl (fun c670 => ?_) (fun c670 => absurd rfl c670)
  exact kk _ (Inv_up hI)
set_option maxRecDepth 100000 in
set_option maxHeartbeats 4000000 in
theorem la_missing {N L : Nat} {xs : Nat → Int32} {h : qH} {ce sl : Nat} {Rp : Option Value → qH → Nat → Prop} (hL : L ≤ 3072) (hi : 6 * N + 6 ≤ L) (hce : ce ≤ 600000) (hsl : sl ≤ 7302250) (hI : Inv N h) (kk : ∀ h1, Inv (N + 1) h1 → qX mi_La_law 10 (some (L, xs)) 600000 7302250 708 [.retAddr 0, .ref 0, .ref 122, .int (nI (6 * N))] [] h1 NN ce sl Rp) : qX mi_La_law 10 (some (L, xs)) 600000 7302250 675 [.retAddr 0, .ref 0, .ref 122, .int (nI (6 * N))] [] h NN ce sl Rp := by
  obtain ⟨z, P, dx, dy, hx, hy, kx, ky⟩ := op_missing (xs (6 * N + 1)) (xs (6 * N + 2)) N h (by omega) hI
  refine qx_aload_n d_La_law_675 rfl rfl ?_
  refine qx_aload_s (x := 0) d_La_law_676 rfl rfl ?_
  refine qx_iload_n d_La_law_677 rfl rfl ?_
  refine qx_iconstN (v := 1) d_La_law_678 rfl ?_
  refine qx_iaddN d_La_law_679 ?_
  refine qx_sld rfl d_La_law_680 (by omega) rfl (by omega) ?_
  refine qx_aload_s (x := 0) d_La_law_681 rfl rfl ?_
  refine qx_iload_n d_La_law_682 rfl rfl ?_
  refine qx_iconstN (v := 2) d_La_law_683 rfl ?_
  refine qx_iaddN d_La_law_684 ?_
  refine qx_sld rfl d_La_law_685 (by omega) rfl (by omega) ?_
  refine qx_callV (As := [_, _]) (rest := _) d_La_law_686 lk_La_94 y_QF_missing v_QF_missing rfl rfl rfl (by decide) rfl rfl rfl (Nat.ble_eq.mpr (by omega)) (by omega) (by omega) kx ?_
  rintro _ h1 _ ⟨rfl, hP, rfl⟩
  refine qx_aload_n d_La_law_689 rfl rfl ?_
  refine qx_aload_s (x := 0) d_La_law_690 rfl rfl ?_
  refine qx_iload_n d_La_law_691 rfl rfl ?_
  refine qx_iconstN (v := 1) d_La_law_692 rfl ?_
  refine qx_iaddN d_La_law_693 ?_
  refine qx_sld rfl d_La_law_694 (by omega) rfl (by omega) ?_
  refine qx_aload_s (x := 0) d_La_law_695 rfl rfl ?_
  refine qx_iload_n d_La_law_696 rfl rfl ?_
  refine qx_iconstN (v := 2) d_La_law_697 rfl ?_
  refine qx_iaddN d_La_law_698 ?_
  refine qx_sld rfl d_La_law_699 (by omega) rfl (by omega) ?_
  refine qx_callV (As := [_, _]) (rest := _) d_La_law_700 lk_La_98 y_QM_missing v_QM_missing rfl rfl rfl (by decide) rfl rfl rfl (Nat.ble_eq.mpr (by omega)) (by omega) (by omega) (ky h1 hP) ?_
  rintro _ h2 _ ⟨rfl, hI2, rfl⟩
  refine qx_icmp_eq (t := 708) d_La_law_703 rfl (fun c703 => ?_) (fun c703 => absurd rfl c703)
  exact kk _ hI2
set_option maxRecDepth 100000 in
set_option maxHeartbeats 4000000 in
theorem la_exit {N L : Nat} {xs : Nat → Int32} {h : qH} {ce sl : Nat} (hL : L ≤ 3072) (hi : ¬ 6 * N + 6 ≤ L) (hN : 6 * N ≤ 3078) (hce : ce ≤ 600000) (hsl : sl ≤ 7302250) : qX mi_La_law 10 (some (L, xs)) 600000 7302250 18 [.retAddr 0, .ref 0, .ref 122, .int (nI (6 * N))] [] h NN ce sl (fun v _ _ => v = some (.int 1)) := by
  refine qx_iload_n d_La_law_18 rfl rfl ?_
  refine qx_aload_s (x := 0) d_La_law_19 rfl rfl ?_
  refine qx_slen rfl d_La_law_20 ?_
  refine qx_bipushN (v := 6) d_La_law_21 rfl ?_
  by_cases h6 : 6 ≤ L
  · refine qx_isubN d_La_law_23 h6 ?_
    refine qx_icmp_gtN (t := 714) d_La_law_24 rfl (by omega) (by omega) (fun c => ?_) (fun c => absurd c (by omega))
    refine qx_iconst (v := 1) d_La_law_714 rfl ?_
    exact qx_iret d_La_law_715 rfl rfl hce hsl rfl
  · refine qx_isub d_La_law_23 ?_
    have hneg : nI L - nI 6 < nI (6 * N) := by
      have e : L = 0 ∨ L = 1 ∨ L = 2 ∨ L = 3 ∨ L = 4 ∨ L = 5 := by omega
      have g : (0 : Int32) ≤ nI (6 * N) := nI_pos' (by omega)
      rcases e with rfl | rfl | rfl | rfl | rfl | rfl <;> exact Int32.lt_of_lt_of_le (by decide) g
    refine qx_icmp_gt (t := 714) d_La_law_24 rfl (fun c => ?_) (fun c => absurd hneg c)
    refine qx_iconst (v := 1) d_La_law_714 rfl ?_
    exact qx_iret d_La_law_715 rfl rfl hce hsl rfl
set_option maxRecDepth 100000 in
set_option maxHeartbeats 4000000 in
theorem la_step {N L : Nat} {xs : Nat → Int32} {h : qH} {ce sl : Nat} {Rp : Option Value → qH → Nat → Prop} (hL : L ≤ 3072) (hi : 6 * N + 6 ≤ L) (hce : ce ≤ 600000) (hsl : sl ≤ 7302250) (hI : Inv N h) (hb : ∀ h1, Inv (N + 1) h1 → qX mi_La_law 10 (some (L, xs)) 600000 7302250 18 [.retAddr 0, .ref 0, .ref 122, .int (nI (6 * (N + 1)))] [] h1 NN ce sl Rp) : qX mi_La_law 10 (some (L, xs)) 600000 7302250 18 [.retAddr 0, .ref 0, .ref 122, .int (nI (6 * N))] [] h NN ce sl Rp := by
  have kk : ∀ h1, Inv (N + 1) h1 → qX mi_La_law 10 (some (L, xs)) 600000 7302250 708 [.retAddr 0, .ref 0, .ref 122, .int (nI (6 * N))] [] h1 NN ce sl Rp := fun h1 h2 => by
    refine qx_iincN (w := 6) (lv1 := [_, _, _, _]) d_La_law_708 rfl rfl (by decide) rfl ?_
    refine qx_goto (t := 18) d_La_law_711 rfl ?_
    exact hb h1 h2
  refine qx_iload_n d_La_law_18 rfl rfl ?_
  refine qx_aload_s (x := 0) d_La_law_19 rfl rfl ?_
  refine qx_slen rfl d_La_law_20 ?_
  refine qx_bipushN (v := 6) d_La_law_21 rfl ?_
  refine qx_isubN d_La_law_23 (by omega) ?_
  refine qx_icmp_gtN (t := 714) d_La_law_24 rfl (by omega) (by omega) (fun c => absurd c (by omega)) (fun c => ?_)
  refine qx_aload_s (x := 0) d_La_law_27 rfl rfl ?_
  refine qx_iload_n d_La_law_28 rfl rfl ?_
  refine qx_sld rfl d_La_law_29 (by omega) rfl (by omega) ?_
  refine qx_bipushN (v := 31) d_La_law_30 rfl ?_
  refine qx_iand d_La_law_32 ?_
  generalize xs (6 * N) &&& nI 31 = x
  rcases q_sw18 x with rfl | rfl | rfl | rfl | rfl | rfl | rfl | rfl | rfl | rfl | rfl | rfl | rfl | rfl | rfl | rfl | rfl | rfl | rfl | hx
  · refine qx_tabIn (t := 124) d_La_law_33 (by decide) (by decide) rfl rfl ?_
    exact la_row hL hi hce hsl hI kk
  · refine qx_tabIn (t := 177) d_La_law_33 (by decide) (by decide) rfl rfl ?_
    exact la_from hL hi hce hsl hI kk
  · refine qx_tabIn (t := 240) d_La_law_33 (by decide) (by decide) rfl rfl ?_
    exact la_column hL hi hce hsl hI kk
  · refine qx_tabIn (t := 263) d_La_law_33 (by decide) (by decide) rfl rfl ?_
    exact la_number hL hi hce hsl hI kk
  · refine qx_tabIn (t := 286) d_La_law_33 (by decide) (by decide) rfl rfl ?_
    exact la_operate hL hi hce hsl hI kk
  · refine qx_tabIn (t := 309) d_La_law_33 (by decide) (by decide) rfl rfl ?_
    exact la_where hL hi hce hsl hI kk
  · refine qx_tabIn (t := 322) d_La_law_33 (by decide) (by decide) rfl rfl ?_
    exact la_output hL hi hce hsl hI kk
  · refine qx_tabIn (t := 345) d_La_law_33 (by decide) (by decide) rfl rfl ?_
    exact la_group hL hi hce hsl hI kk
  · refine qx_tabIn (t := 368) d_La_law_33 (by decide) (by decide) rfl rfl ?_
    exact la_order hL hi hce hsl hI kk
  · refine qx_tabIn (t := 427) d_La_law_33 (by decide) (by decide) rfl rfl ?_
    exact la_start hL hi hce hsl hI kk
  · refine qx_tabIn (t := 460) d_La_law_33 (by decide) (by decide) rfl rfl ?_
    exact la_pass hL hi hce hsl hI kk
  · refine qx_tabIn (t := 493) d_La_law_33 (by decide) (by decide) rfl rfl ?_
    exact la_work hL hi hce hsl hI kk
  · refine qx_tabIn (t := 516) d_La_law_33 (by decide) (by decide) rfl rfl ?_
    exact la_crash hL hi hce hsl hI kk
  · refine qx_tabIn (t := 539) d_La_law_33 (by decide) (by decide) rfl rfl ?_
    exact la_tick hL hi hce hsl hI kk
  · refine qx_tabIn (t := 552) d_La_law_33 (by decide) (by decide) rfl rfl ?_
    exact la_message hL hi hce hsl hI kk
  · refine qx_tabIn (t := 585) d_La_law_33 (by decide) (by decide) rfl rfl ?_
    exact la_task hL hi hce hsl hI kk
  · refine qx_tabIn (t := 618) d_La_law_33 (by decide) (by decide) rfl rfl ?_
    exact la_ended hL hi hce hsl hI kk
  · refine qx_tabIn (t := 641) d_La_law_33 (by decide) (by decide) rfl rfl ?_
    exact la_cell hL hi hce hsl hI kk
  · refine qx_tabIn (t := 675) d_La_law_33 (by decide) (by decide) rfl rfl ?_
    exact la_missing hL hi hce hsl hI kk
  · refine qx_tabOut (t := 708) d_La_law_33 hx rfl ?_
    exact kk _ (Inv_up hI)
set_option maxRecDepth 100000 in
set_option maxHeartbeats 4000000 in
theorem la_loop {L : Nat} {xs : Nat → Int32} {ce sl : Nat} (hL : L ≤ 3072) (hce : ce ≤ 600000) (hsl : sl ≤ 7302250) (k : Nat) : ∀ (N : Nat) (h : qH), L < 6 * (N + k) + 6 → 6 * N ≤ 3078 → Inv N h → qX mi_La_law 10 (some (L, xs)) 600000 7302250 18 [.retAddr 0, .ref 0, .ref 122, .int (nI (6 * N))] [] h NN ce sl (fun v _ _ => v = some (.int 1)) := by
  induction k with
  | zero => exact fun N h hk hN hI => la_exit hL (by omega) hN hce hsl
  | succ k ih =>
    intro N h hk hN hI
    by_cases hi : 6 * N + 6 ≤ L
    · exact la_step hL hi hce hsl hI (fun h1 h2 => ih (N + 1) h1 (by omega) (by omega) h2)
    · exact la_exit hL hi hN hce hsl
set_option maxRecDepth 100000 in
set_option maxHeartbeats 4000000 in
theorem la_law {L : Nat} {xs : Nat → Int32} (hL : L ≤ 3072) : qX mi_La_law 10 (some (L, xs)) 600000 7302250 0 [.retAddr 0, qdead, qdead, qdead] [] zH 0 0 0 (fun v _ _ => v = some (.int 1)) := by
  refine qx_new d_La_law_0 nw_La_7 rfl (fun _ => ⟨rfl, rfl, rfl⟩) (by decide) (by decide) ?_
  refine qx_dup d_La_law_3 rfl ?_
  refine qx_callI (As := []) (rest := _) d_La_law_4 lk_La_9 y_QF_init i_QF_init rfl rfl rfl rfl (by decide) (by decide) ct_QF0 ?_
  rintro _ _ _ ⟨rfl, rfl, rfl⟩
  refine qx_astore_n (lv1 := [_, _, _, _]) d_La_law_7 rfl (by decide) rfl ?_
  refine qx_new d_La_law_8 nw_La_10 rfl (LH_zr (n := 122) (by omega) 122 (by omega)) (by decide) (by decide) ?_
  refine qx_dup d_La_law_11 rfl ?_
  refine qx_callI (As := []) (rest := _) d_La_law_12 lk_La_12 y_QM_init i_QM_init rfl rfl rfl rfl (by decide) (by decide) ct_QM0 ?_
  rintro _ _ _ ⟨rfl, rfl, rfl⟩
  refine qx_astore_n (lv1 := [_, _, _, _]) d_La_law_15 rfl (by decide) rfl ?_
  refine qx_iconstN (v := 0) d_La_law_16 rfl ?_
  refine qx_istore_n (lv1 := [_, _, _, _]) d_La_law_17 rfl (by decide) rfl ?_
  exact la_loop hL (by decide) (by decide) 600 0 FH (by omega) (by omega) Inv_0
