/-! the beginning -/
def zH : qH := (fun _ _ => 0, fun _ _ => 0, fun _ _ => none)
set_option maxRecDepth 100000 in
set_option maxHeartbeats 4000000 in
theorem zH_zr (a : Nat) : zr zH a := fun _ _ _ => ⟨rfl, rfl, rfl⟩
def FH : qH := (qpR (qpR (qpR (qpR (qpR (qpR (qpR (qpR (qpR (qpR (qpR (qpR (qpR (qpR (qpR (qpR (qpR (qpR (qpR (qpR (qpR (qpR (qpR (qpR (qpR (qpR (qpR (qpR (qpR (qpR (qpR (qpR (qpR (qpR (qpR (qpR (qpR (qpR (qpR (qpR (qpR (qpR (qpR (qpR (qpR (qpR (qpR (qpR (qpR (qpR (qpR (qpR (qpR (qpR (qpR (qpR (qpR (qpR (qpR (qpR (qpR (qpR (qpR (qpR (qpR (qpR (qpR (qpR (qpR (qpR (qpR (qpR (qpR (qpR (qpR (qpR (qpR (qpR (qpR (qpR (qpR (qpR (qpR (qpR (qpR (qpR (qpR (qpR (qpR (qpR (qpR (qpR (qpR (qpR (qpR (qpR (qpI (qpI (qpR (qpR (qpR (qpR (qpR (qpR (qpR (qpR (qpR (qpR (qpR (qpR (qpR (qpR (qpR (qpR (qpR (qpR (qpR (qpR (qpR (qpR (qpR (qpR (qpR (qpR (qpR (qpR (qpR (qpR (qpR (qpR (qpR (qpR (qpR (qpR (qpR (qpR (qpR (qpR (qpR (qpR (qpR (qpR (qpR (qpR (qpR (qpR (qpR (qpR (qpR (qpR (qpR (qpR (qpR (qpR zH 1 0 (some 2)) 5 0 (some 6)) 5 1 (some 7)) 4 0 (some 5)) 8 0 (some 9)) 8 1 (some 10)) 4 1 (some 8)) 11 0 (some 12)) 11 1 (some 13)) 4 2 (some 11)) 14 0 (some 15)) 14 1 (some 16)) 4 3 (some 14)) 17 0 (some 18)) 17 1 (some 19)) 4 4 (some 17)) 20 0 (some 21)) 20 1 (some 22)) 4 5 (some 20)) 23 0 (some 24)) 23 1 (some 25)) 4 6 (some 23)) 26 0 (some 27)) 26 1 (some 28)) 4 7 (some 26)) 3 6 (some 4)) 30 0 (some 31)) 30 1 (some 32)) 29 0 (some 30)) 33 0 (some 34)) 33 1 (some 35)) 29 1 (some 33)) 36 0 (some 37)) 36 1 (some 38)) 29 2 (some 36)) 39 0 (some 40)) 39 1 (some 41)) 29 3 (some 39)) 42 0 (some 43)) 42 1 (some 44)) 29 4 (some 42)) 45 0 (some 46)) 45 1 (some 47)) 29 5 (some 45)) 3 8 (some 29)) 49 0 (some 50)) 49 1 (some 51)) 48 0 (some 49)) 52 0 (some 53)) 52 1 (some 54)) 48 1 (some 52)) 55 0 (some 56)) 55 1 (some 57)) 48 2 (some 55)) 3 10 (some 48)) 3 11 (some 58)) 3 13 (-1)) 3 16 (-1)) 1 1 (some 3)) 59 0 (some 60)) 59 1 (some 61)) 59 2 (some 62)) 59 3 (some 63)) 1 2 (some 59)) 1 3 (some 64)) 1 4 (some 65)) 1 5 (some 66)) 1 7 (some 67)) 1 8 (some 68)) 1 9 (some 69)) 70 0 (some 71)) 70 1 (some 72)) 2 0 (some 70)) 73 0 (some 74)) 73 1 (some 75)) 2 1 (some 73)) 76 0 (some 77)) 76 1 (some 78)) 2 2 (some 76)) 0 0 (some 1)) 0 1 (some 2)) 0 2 (some 3)) 79 0 (some 80)) 79 1 (some 81)) 79 2 (some 82)) 0 3 (some 79)) 83 2 (some 84)) 85 0 (some 86)) 85 1 (some 87)) 85 2 (some 88)) 83 7 (some 85)) 83 8 (some 89)) 84 0 (some 90)) 84 1 (some 91)) 84 2 (some 92)) 84 3 (some 93)) 84 4 (some 94)) 84 5 (some 95)) 84 6 (some 96)) 84 7 (some 97)) 84 8 (some 98)) 84 9 (some 99)) 84 10 (some 100)) 84 11 (some 101)) 84 12 (some 102)) 84 13 (some 103)) 84 14 (some 104)) 84 15 (some 105)) 106 0 (some 107)) 106 1 (some 108)) 106 2 (some 109)) 89 0 (some 106)) 110 0 (some 111)) 110 1 (some 112)) 110 2 (some 113)) 89 1 (some 110)) 114 0 (some 115)) 114 1 (some 116)) 114 2 (some 117)) 89 2 (some 114)) 118 0 (some 119)) 118 1 (some 120)) 118 2 (some 121)) 89 3 (some 118)) 0 4 (some 83)) 122 0 (some 123)) 122 1 (some 124)) 122 2 (some 125)) 122 16 (some 126)) 122 17 (some 127)) 122 18 (some 128)) 122 19 (some 129)) 122 20 (some 130)) 122 21 (some 131)) 122 22 (some 132)) 122 23 (some 133)) 122 24 (some 134)) 122 26 (some 135)) 122 27 (some 136)) 122 30 (some 137)) 122 31 (some 138)) 122 32 (some 139)) 122 41 (some 140)) 122 42 (some 141)) 122 43 (some 142)) 122 44 (some 143)) 122 45 (some 144)) 122 46 (some 145)) 122 50 (some 146)) 122 51 (some 147)) 122 52 (some 148)) 122 53 (some 149)) 122 54 (some 150)) 122 55 (some 151))
def rowL (l : List (Option Nat)) : Nat → Option Nat := fun f => (l[f]?).getD none
set_option maxRecDepth 100000 in
set_option maxHeartbeats 4000000 in
theorem rowL_up {l : List (Option Nat)} {i : Nat} {v : Option Nat} (hi : i < l.length) : va_up (rowL l) i v = rowL (l.set i v) := by
  funext f
  unfold rowL
  by_cases e : f = i
  · subst e; rw [qus, List.getElem?_set_self hi]; rfl
  · rw [qun e, List.getElem?_set_ne (fun q => e q.symm)]
set_option maxRecDepth 100000 in
set_option maxHeartbeats 4000000 in
theorem rowN (n : Nat) : (fun _ => none : Nat → Option Nat) = rowL (List.replicate n none) := by
  funext f
  unfold rowL
  rw [List.getElem?_replicate]
  split <;> rfl
set_option maxRecDepth 100000 in
set_option maxHeartbeats 4000000 in
theorem FH_1 : FH.1 = (qpI (qpI zH 3 13 (-1)) 3 16 (-1)).1 := rfl
set_option maxRecDepth 100000 in
set_option maxHeartbeats 4000000 in
theorem FH_2 : FH.2.1 = fun _ _ => 0 := rfl
set_option maxRecDepth 100000 in
set_option maxHeartbeats 4000000 in
theorem FH_z {a : Nat} (ha : a ≠ 3) : FH.1 a = fun _ => 0 := by
  rw [FH_1]
  exact (qpI_o _ 3 16 _ a ha).1.trans (qpI_o _ 3 13 _ a ha).1
set_option maxRecDepth 100000 in
set_option maxHeartbeats 4000000 in
theorem FH_r0 : FH.2.2 0 = qRQF := by
  show ((va_up (va_up (va_up (va_up (va_up (fun _ => none) 0 (some 1)) 1 (some 2)) 2 (some 3)) 3 (some 79)) 4 (some 83)) : Nat → Option Nat) = qRQF
  rw [rowN 5, rowL_up (by decide), rowL_up (by decide), rowL_up (by decide), rowL_up (by decide), rowL_up (by decide)]
  rfl
set_option maxRecDepth 100000 in
set_option maxHeartbeats 4000000 in
theorem FH_r1 : FH.2.2 1 = qRPl := by
  show ((va_up (va_up (va_up (va_up (va_up (va_up (va_up (va_up (va_up (fun _ => none) 0 (some 2)) 1 (some 3)) 2 (some 59)) 3 (some 64)) 4 (some 65)) 5 (some 66)) 7 (some 67)) 8 (some 68)) 9 (some 69)) : Nat → Option Nat) = qRPl
  rw [rowN 11, rowL_up (by decide), rowL_up (by decide), rowL_up (by decide), rowL_up (by decide), rowL_up (by decide), rowL_up (by decide), rowL_up (by decide), rowL_up (by decide), rowL_up (by decide)]
  rfl
set_option maxRecDepth 100000 in
set_option maxHeartbeats 4000000 in
theorem FH_r3 : FH.2.2 3 = qRQu := by
  show ((va_up (va_up (va_up (va_up (fun _ => none) 6 (some 4)) 8 (some 29)) 10 (some 48)) 11 (some 58)) : Nat → Option Nat) = qRQu
  rw [rowN 12, rowL_up (by decide), rowL_up (by decide), rowL_up (by decide), rowL_up (by decide)]
  rfl
set_option maxRecDepth 100000 in
set_option maxHeartbeats 4000000 in
theorem FH_r59 : FH.2.2 59 = qRMa := by
  show ((va_up (va_up (va_up (va_up (fun _ => none) 0 (some 60)) 1 (some 61)) 2 (some 62)) 3 (some 63)) : Nat → Option Nat) = qRMa
  rw [rowN 4, rowL_up (by decide), rowL_up (by decide), rowL_up (by decide), rowL_up (by decide)]
  rfl
set_option maxRecDepth 100000 in
set_option maxHeartbeats 4000000 in
theorem FH_r79 : FH.2.2 79 = qRRe := by
  show ((va_up (va_up (va_up (fun _ => none) 0 (some 80)) 1 (some 81)) 2 (some 82)) : Nat → Option Nat) = qRRe
  rw [rowN 3, rowL_up (by decide), rowL_up (by decide), rowL_up (by decide)]
  rfl
set_option maxRecDepth 100000 in
set_option maxHeartbeats 4000000 in
theorem FH_r83 : FH.2.2 83 = qRJo := by
  show ((va_up (va_up (va_up (fun _ => none) 2 (some 84)) 7 (some 85)) 8 (some 89)) : Nat → Option Nat) = qRJo
  rw [rowN 9, rowL_up (by decide), rowL_up (by decide), rowL_up (by decide)]
  rfl
set_option maxRecDepth 100000 in
set_option maxHeartbeats 4000000 in
theorem FH_r85 : FH.2.2 85 = (qRLi 85) := by
  show ((va_up (va_up (va_up (fun _ => none) 0 (some 86)) 1 (some 87)) 2 (some 88)) : Nat → Option Nat) = (qRLi 85)
  rw [rowN 3, rowL_up (by decide), rowL_up (by decide), rowL_up (by decide)]
  rfl
set_option maxRecDepth 100000 in
set_option maxHeartbeats 4000000 in
theorem FH_r122 : FH.2.2 122 = qRQM := by
  show ((va_up (va_up (va_up (va_up (va_up (va_up (va_up (va_up (va_up (va_up (va_up (va_up (va_up (va_up (va_up (va_up (va_up (va_up (va_up (va_up (va_up (va_up (va_up (va_up (va_up (va_up (va_up (va_up (va_up (fun _ => none) 0 (some 123)) 1 (some 124)) 2 (some 125)) 16 (some 126)) 17 (some 127)) 18 (some 128)) 19 (some 129)) 20 (some 130)) 21 (some 131)) 22 (some 132)) 23 (some 133)) 24 (some 134)) 26 (some 135)) 27 (some 136)) 30 (some 137)) 31 (some 138)) 32 (some 139)) 41 (some 140)) 42 (some 141)) 43 (some 142)) 44 (some 143)) 45 (some 144)) 46 (some 145)) 50 (some 146)) 51 (some 147)) 52 (some 148)) 53 (some 149)) 54 (some 150)) 55 (some 151)) : Nat → Option Nat) = qRQM
  rw [rowN 56, rowL_up (by decide), rowL_up (by decide), rowL_up (by decide), rowL_up (by decide), rowL_up (by decide), rowL_up (by decide), rowL_up (by decide), rowL_up (by decide), rowL_up (by decide), rowL_up (by decide), rowL_up (by decide), rowL_up (by decide), rowL_up (by decide), rowL_up (by decide), rowL_up (by decide), rowL_up (by decide), rowL_up (by decide), rowL_up (by decide), rowL_up (by decide), rowL_up (by decide), rowL_up (by decide), rowL_up (by decide), rowL_up (by decide), rowL_up (by decide), rowL_up (by decide), rowL_up (by decide), rowL_up (by decide), rowL_up (by decide), rowL_up (by decide)]
  rfl
set_option maxRecDepth 100000 in
set_option maxHeartbeats 4000000 in
theorem FH_r70 : FH.2.2 70 = (qRTb 0) := by
  show ((va_up (va_up (fun _ => none) 0 (some 71)) 1 (some 72)) : Nat → Option Nat) = (qRTb 0)
  rw [rowN 2, rowL_up (by decide), rowL_up (by decide)]
  rfl
set_option maxRecDepth 100000 in
set_option maxHeartbeats 4000000 in
theorem FH_r73 : FH.2.2 73 = (qRTb 1) := by
  show ((va_up (va_up (fun _ => none) 0 (some 74)) 1 (some 75)) : Nat → Option Nat) = (qRTb 1)
  rw [rowN 2, rowL_up (by decide), rowL_up (by decide)]
  rfl
set_option maxRecDepth 100000 in
set_option maxHeartbeats 4000000 in
theorem FH_r76 : FH.2.2 76 = (qRTb 2) := by
  show ((va_up (va_up (fun _ => none) 0 (some 77)) 1 (some 78)) : Nat → Option Nat) = (qRTb 2)
  rw [rowN 2, rowL_up (by decide), rowL_up (by decide)]
  rfl
set_option maxRecDepth 100000 in
set_option maxHeartbeats 4000000 in
theorem FH_r106 : FH.2.2 106 = (qRLi 106) := by
  show ((va_up (va_up (va_up (fun _ => none) 0 (some 107)) 1 (some 108)) 2 (some 109)) : Nat → Option Nat) = (qRLi 106)
  rw [rowN 3, rowL_up (by decide), rowL_up (by decide), rowL_up (by decide)]
  rfl
set_option maxRecDepth 100000 in
set_option maxHeartbeats 4000000 in
theorem FH_r110 : FH.2.2 110 = (qRLi 110) := by
  show ((va_up (va_up (va_up (fun _ => none) 0 (some 111)) 1 (some 112)) 2 (some 113)) : Nat → Option Nat) = (qRLi 110)
  rw [rowN 3, rowL_up (by decide), rowL_up (by decide), rowL_up (by decide)]
  rfl
set_option maxRecDepth 100000 in
set_option maxHeartbeats 4000000 in
theorem FH_r114 : FH.2.2 114 = (qRLi 114) := by
  show ((va_up (va_up (va_up (fun _ => none) 0 (some 115)) 1 (some 116)) 2 (some 117)) : Nat → Option Nat) = (qRLi 114)
  rw [rowN 3, rowL_up (by decide), rowL_up (by decide), rowL_up (by decide)]
  rfl
set_option maxRecDepth 100000 in
set_option maxHeartbeats 4000000 in
theorem FH_r118 : FH.2.2 118 = (qRLi 118) := by
  show ((va_up (va_up (va_up (fun _ => none) 0 (some 119)) 1 (some 120)) 2 (some 121)) : Nat → Option Nat) = (qRLi 118)
  rw [rowN 3, rowL_up (by decide), rowL_up (by decide), rowL_up (by decide)]
  rfl
set_option maxRecDepth 100000 in
set_option maxHeartbeats 4000000 in
theorem FH_r5 : FH.2.2 5 = (qREx 5) := by
  show ((va_up (va_up (fun _ => none) 0 (some 6)) 1 (some 7)) : Nat → Option Nat) = (qREx 5)
  rw [rowN 2, rowL_up (by decide), rowL_up (by decide)]
  rfl
set_option maxRecDepth 100000 in
set_option maxHeartbeats 4000000 in
theorem FH_r8 : FH.2.2 8 = (qREx 8) := by
  show ((va_up (va_up (fun _ => none) 0 (some 9)) 1 (some 10)) : Nat → Option Nat) = (qREx 8)
  rw [rowN 2, rowL_up (by decide), rowL_up (by decide)]
  rfl
set_option maxRecDepth 100000 in
set_option maxHeartbeats 4000000 in
theorem FH_r11 : FH.2.2 11 = (qREx 11) := by
  show ((va_up (va_up (fun _ => none) 0 (some 12)) 1 (some 13)) : Nat → Option Nat) = (qREx 11)
  rw [rowN 2, rowL_up (by decide), rowL_up (by decide)]
  rfl
set_option maxRecDepth 100000 in
set_option maxHeartbeats 4000000 in
theorem FH_r14 : FH.2.2 14 = (qREx 14) := by
  show ((va_up (va_up (fun _ => none) 0 (some 15)) 1 (some 16)) : Nat → Option Nat) = (qREx 14)
  rw [rowN 2, rowL_up (by decide), rowL_up (by decide)]
  rfl
set_option maxRecDepth 100000 in
set_option maxHeartbeats 4000000 in
theorem FH_r17 : FH.2.2 17 = (qREx 17) := by
  show ((va_up (va_up (fun _ => none) 0 (some 18)) 1 (some 19)) : Nat → Option Nat) = (qREx 17)
  rw [rowN 2, rowL_up (by decide), rowL_up (by decide)]
  rfl
set_option maxRecDepth 100000 in
set_option maxHeartbeats 4000000 in
theorem FH_r20 : FH.2.2 20 = (qREx 20) := by
  show ((va_up (va_up (fun _ => none) 0 (some 21)) 1 (some 22)) : Nat → Option Nat) = (qREx 20)
  rw [rowN 2, rowL_up (by decide), rowL_up (by decide)]
  rfl
set_option maxRecDepth 100000 in
set_option maxHeartbeats 4000000 in
theorem FH_r23 : FH.2.2 23 = (qREx 23) := by
  show ((va_up (va_up (fun _ => none) 0 (some 24)) 1 (some 25)) : Nat → Option Nat) = (qREx 23)
  rw [rowN 2, rowL_up (by decide), rowL_up (by decide)]
  rfl
set_option maxRecDepth 100000 in
set_option maxHeartbeats 4000000 in
theorem FH_r26 : FH.2.2 26 = (qREx 26) := by
  show ((va_up (va_up (fun _ => none) 0 (some 27)) 1 (some 28)) : Nat → Option Nat) = (qREx 26)
  rw [rowN 2, rowL_up (by decide), rowL_up (by decide)]
  rfl
set_option maxRecDepth 100000 in
set_option maxHeartbeats 4000000 in
theorem FH_r30 : FH.2.2 30 = (qREx 30) := by
  show ((va_up (va_up (fun _ => none) 0 (some 31)) 1 (some 32)) : Nat → Option Nat) = (qREx 30)
  rw [rowN 2, rowL_up (by decide), rowL_up (by decide)]
  rfl
set_option maxRecDepth 100000 in
set_option maxHeartbeats 4000000 in
theorem FH_r33 : FH.2.2 33 = (qREx 33) := by
  show ((va_up (va_up (fun _ => none) 0 (some 34)) 1 (some 35)) : Nat → Option Nat) = (qREx 33)
  rw [rowN 2, rowL_up (by decide), rowL_up (by decide)]
  rfl
set_option maxRecDepth 100000 in
set_option maxHeartbeats 4000000 in
theorem FH_r36 : FH.2.2 36 = (qREx 36) := by
  show ((va_up (va_up (fun _ => none) 0 (some 37)) 1 (some 38)) : Nat → Option Nat) = (qREx 36)
  rw [rowN 2, rowL_up (by decide), rowL_up (by decide)]
  rfl
set_option maxRecDepth 100000 in
set_option maxHeartbeats 4000000 in
theorem FH_r39 : FH.2.2 39 = (qREx 39) := by
  show ((va_up (va_up (fun _ => none) 0 (some 40)) 1 (some 41)) : Nat → Option Nat) = (qREx 39)
  rw [rowN 2, rowL_up (by decide), rowL_up (by decide)]
  rfl
set_option maxRecDepth 100000 in
set_option maxHeartbeats 4000000 in
theorem FH_r42 : FH.2.2 42 = (qREx 42) := by
  show ((va_up (va_up (fun _ => none) 0 (some 43)) 1 (some 44)) : Nat → Option Nat) = (qREx 42)
  rw [rowN 2, rowL_up (by decide), rowL_up (by decide)]
  rfl
set_option maxRecDepth 100000 in
set_option maxHeartbeats 4000000 in
theorem FH_r45 : FH.2.2 45 = (qREx 45) := by
  show ((va_up (va_up (fun _ => none) 0 (some 46)) 1 (some 47)) : Nat → Option Nat) = (qREx 45)
  rw [rowN 2, rowL_up (by decide), rowL_up (by decide)]
  rfl
set_option maxRecDepth 100000 in
set_option maxHeartbeats 4000000 in
theorem FH_r49 : FH.2.2 49 = (qREx 49) := by
  show ((va_up (va_up (fun _ => none) 0 (some 50)) 1 (some 51)) : Nat → Option Nat) = (qREx 49)
  rw [rowN 2, rowL_up (by decide), rowL_up (by decide)]
  rfl
set_option maxRecDepth 100000 in
set_option maxHeartbeats 4000000 in
theorem FH_r52 : FH.2.2 52 = (qREx 52) := by
  show ((va_up (va_up (fun _ => none) 0 (some 53)) 1 (some 54)) : Nat → Option Nat) = (qREx 52)
  rw [rowN 2, rowL_up (by decide), rowL_up (by decide)]
  rfl
set_option maxRecDepth 100000 in
set_option maxHeartbeats 4000000 in
theorem FH_r55 : FH.2.2 55 = (qREx 55) := by
  show ((va_up (va_up (fun _ => none) 0 (some 56)) 1 (some 57)) : Nat → Option Nat) = (qREx 55)
  rw [rowN 2, rowL_up (by decide), rowL_up (by decide)]
  rfl
set_option maxRecDepth 100000 in
set_option maxHeartbeats 4000000 in
theorem FH_ex : ∀ e, exOk e → FH.2.2 e = qREx e := by
  intro e he
  rcases he with ⟨i, hi, rfl⟩ | ⟨i, hi, rfl⟩ | ⟨i, hi, rfl⟩
  · have e : i = 0 ∨ i = 1 ∨ i = 2 ∨ i = 3 ∨ i = 4 ∨ i = 5 ∨ i = 6 ∨ i = 7 := by omega
    rcases e with rfl | rfl | rfl | rfl | rfl | rfl | rfl | rfl
    · exact FH_r5
    · exact FH_r8
    · exact FH_r11
    · exact FH_r14
    · exact FH_r17
    · exact FH_r20
    · exact FH_r23
    · exact FH_r26
  · have e : i = 0 ∨ i = 1 ∨ i = 2 ∨ i = 3 ∨ i = 4 ∨ i = 5 := by omega
    rcases e with rfl | rfl | rfl | rfl | rfl | rfl
    · exact FH_r30
    · exact FH_r33
    · exact FH_r36
    · exact FH_r39
    · exact FH_r42
    · exact FH_r45
  · have e : i = 0 ∨ i = 1 ∨ i = 2 := by omega
    rcases e with rfl | rfl | rfl
    · exact FH_r49
    · exact FH_r52
    · exact FH_r55
def pp0 (i : Nat) : Nat := if i < 8 then 5 + 3 * i else if i < 14 then 30 + 3 * (i - 8) else 49 + 3 * (i - 14)
set_option maxRecDepth 100000 in
set_option maxHeartbeats 4000000 in
theorem FH_P : plP FH pp0 := by
  refine ⟨fun i hi => ?_, fun i hi j hj e => ?_, fun i hi => ?_, fun i hi => ?_, fun i hi => ?_, FH_r3, FH_ex⟩
  · unfold pp0
    by_cases a : i < 8
    · rw [if_pos a]; exact Or.inl ⟨i, a, rfl⟩
    · rw [if_neg a]
      by_cases b : i < 14
      · rw [if_pos b]; exact Or.inr (Or.inl ⟨i - 8, by omega, rfl⟩)
      · rw [if_neg b]; exact Or.inr (Or.inr ⟨i - 14, by omega, rfl⟩)
  · unfold pp0 at e
    split at e <;> split at e <;> (try split at e) <;> (try split at e) <;> omega
  · have e : i = 0 ∨ i = 1 ∨ i = 2 ∨ i = 3 ∨ i = 4 ∨ i = 5 ∨ i = 6 ∨ i = 7 := by omega
    rcases e with rfl | rfl | rfl | rfl | rfl | rfl | rfl | rfl <;> rfl
  · have e : i = 0 ∨ i = 1 ∨ i = 2 ∨ i = 3 ∨ i = 4 ∨ i = 5 := by omega
    rcases e with rfl | rfl | rfl | rfl | rfl | rfl <;> rfl
  · have e : i = 0 ∨ i = 1 ∨ i = 2 := by omega
    rcases e with rfl | rfl | rfl <;> rfl
set_option maxRecDepth 100000 in
set_option maxHeartbeats 4000000 in
theorem FH_ref : plRef FH := by
  refine ⟨FH_r1, fun t ht => ?_, FH_r59, fun t ht => ?_, FH_r3, FH_ex, FH_r79⟩
  · have e : t = 0 ∨ t = 1 ∨ t = 2 := by omega
    rcases e with rfl | rfl | rfl <;> rfl
  · have e : t = 0 ∨ t = 1 ∨ t = 2 := by omega
    rcases e with rfl | rfl | rfl
    · exact FH_r70
    · exact FH_r73
    · exact FH_r76
set_option maxRecDepth 100000 in
set_option maxHeartbeats 4000000 in
theorem FH_job : jobOk FH := by
  refine ⟨FH_r83, fun t ht => ?_, FH_r85, fun w hw => ?_, fun w hw => ?_⟩
  · have e : t = 0 ∨ t = 1 ∨ t = 2 ∨ t = 3 ∨ t = 4 ∨ t = 5 ∨ t = 6 ∨ t = 7 ∨ t = 8 ∨ t = 9 ∨ t = 10 ∨ t = 11 ∨ t = 12 ∨ t = 13 ∨ t = 14 ∨ t = 15 := by omega
    rcases e with rfl | rfl | rfl | rfl | rfl | rfl | rfl | rfl | rfl | rfl | rfl | rfl | rfl | rfl | rfl | rfl <;> rfl
  · have e : w = 0 ∨ w = 1 ∨ w = 2 ∨ w = 3 := by omega
    rcases e with rfl | rfl | rfl | rfl <;> rfl
  · have e : w = 0 ∨ w = 1 ∨ w = 2 ∨ w = 3 := by omega
    rcases e with rfl | rfl | rfl | rfl
    · exact FH_r106
    · exact FH_r110
    · exact FH_r114
    · exact FH_r118
set_option maxRecDepth 100000 in
set_option maxHeartbeats 4000000 in
theorem FH_3 (f : Nat) : FH.1 3 f = va_up (va_up (fun _ => 0) 13 (-1)) 16 (-1) f := rfl
set_option maxRecDepth 100000 in
set_option maxHeartbeats 4000000 in
theorem Inv_0 : Inv 0 FH := by
  refine ⟨pp0, (fun _ => 0), (fun _ => false), (fun _ => 0), false, 0, 0, 0, 0, 0, 0, (fun _ => []), (fun _ => false), 0, 0, (fun _ => 0), none, 0, false, (-1), (fun _ _ => none), 0, 0, 0, 0, (fun _ => 0), false, 0, 0, (fun _ => 0), (fun _ => 0), (fun _ => 0), (fun _ => false), 0, 0, (fun _ => 0, fun _ => 0, fun _ => 0, fun _ => 0, fun _ => 0, 0), (fun _ _ => 0, fun _ _ => 0, fun _ _ => 0, fun _ => 0), 0, (fun _ => 0, fun _ => 0, fun _ => 0, fun _ => 0, fun _ => 0, 0), (fun _ => 0), (fun _ => 0), (fun _ => 0), ?_, ?_, ?_⟩
  · refine ⟨⟨FH_r0, FH_ref, FH_job⟩, fun t ht => ⟨fun k hk => (congrFun (FH_z (a := 70 + 3 * t + 1) (by omega)) k), fun k hk => (congrFun (FH_z (a := 70 + 3 * t + 2) (by omega)) k), (congrFun (FH_z (a := 70 + 3 * t) (by omega)) 2), Nat.zero_le _⟩, ⟨rfl, rfl, rfl, rfl, rfl, rfl, rfl, rfl, rfl, rfl, rfl, rfl, rfl⟩, ⟨FH_P, fun i hi => absurd hi (Nat.not_lt_zero _), fun i hi => absurd hi (Nat.not_lt_zero _), fun i hi => absurd hi (Nat.not_lt_zero _)⟩, ⟨fun _ => false, fun _ => false, (fun _ => 0, fun _ => some 0, 0), fun _ => false, fun _ => 0, 0, FH_z (by omega), FH_z (by omega), FH_z (by omega), FH_z (by omega), (congrFun (FH_z (a := 1) (by omega)) 6), FH_z (by omega), FH_z (by omega), (congrFun (FH_z (a := 1) (by omega)) 10)⟩, ⟨⟨fun _ => false, FH_z (by omega)⟩, FH_z (by omega), (congrFun (FH_z (a := 79) (by omega)) 4), (congrFun (FH_z (a := 79) (by omega)) 5), (congrFun (FH_z (a := 79) (by omega)) 6), fun i hi => absurd hi (Nat.not_lt_zero _)⟩, ⟨(congrFun (FH_z (a := 83) (by omega)) 0), (congrFun (FH_z (a := 83) (by omega)) 1), (congrFun (FH_z (a := 83) (by omega)) 3), fun e => (by cases e), (congrFun (FH_z (a := 83) (by omega)) 5), (congrFun (FH_z (a := 83) (by omega)) 6), fun t ht => ⟨(congrFun (FH_z (a := 90 + t) (by omega)) 0), (congrFun (FH_z (a := 90 + t) (by omega)) 1), (congrFun (FH_z (a := 90 + t) (by omega)) 2), (congrFun (FH_z (a := 90 + t) (by omega)) 3), (congrFun (FH_z (a := 90 + t) (by omega)) 4), (congrFun (FH_z (a := 90 + t) (by omega)) 5)⟩, FH_z (by omega), FH_z (by omega), FH_z (by omega), (congrFun (FH_z (a := 85) (by omega)) 3), fun w hw => ⟨(congrFun (FH_z (a := 106 + 4 * w) (by omega)) 3), FH_z (by omega), FH_z (by omega), FH_z (by omega)⟩⟩⟩
  · refine ⟨FH_r122, ⟨fun t ht => (congrFun (FH_z (a := 123) (by omega)) t), fun k hk => ⟨congrFun (congrFun FH_2 124) k, (congrFun (FH_z (a := 125) (by omega)) k)⟩⟩, ⟨(congrFun (FH_z (a := 122) (by omega)) 3), (congrFun (FH_z (a := 122) (by omega)) 4), (congrFun (FH_z (a := 122) (by omega)) 5), fun e => absurd rfl e, fun e => (by cases e), (congrFun (FH_z (a := 122) (by omega)) 10), (congrFun (FH_z (a := 122) (by omega)) 11), (congrFun (FH_z (a := 122) (by omega)) 13), (congrFun (FH_z (a := 122) (by omega)) 14), (congrFun (FH_z (a := 122) (by omega)) 15)⟩, ⟨fun i hi => absurd hi (Nat.not_lt_zero _), fun i hi => absurd hi (Nat.not_lt_zero _), fun i hi => absurd hi (Nat.not_lt_zero _)⟩, ⟨fun _ => false, fun _ => false, 0, 0, FH_z (by omega), FH_z (by omega), (congrFun (FH_z (a := 122) (by omega)) 25), (congrFun (FH_z (a := 122) (by omega)) 28)⟩, ⟨⟨fun _ => false, FH_z (by omega)⟩, FH_z (by omega), (congrFun (FH_z (a := 122) (by omega)) 34), (congrFun (FH_z (a := 122) (by omega)) 33), (congrFun (FH_z (a := 122) (by omega)) 35), fun i hi => absurd hi (Nat.not_lt_zero _)⟩, ⟨(congrFun (FH_z (a := 122) (by omega)) 37), (congrFun (FH_z (a := 122) (by omega)) 36), (congrFun (FH_z (a := 122) (by omega)) 38), (congrFun (FH_z (a := 122) (by omega)) 40), (congrFun (FH_z (a := 122) (by omega)) 47), (congrFun (FH_z (a := 122) (by omega)) 48), FH_z (by omega), FH_z (by omega), FH_z (by omega), FH_z (by omega), FH_z (by omega), FH_z (by omega), FH_z (by omega), FH_z (by omega), FH_z (by omega), (congrFun (FH_z (a := 122) (by omega)) 49), FH_z (by omega), FH_z (by omega), FH_z (by omega)⟩⟩
  · exact ⟨⟨by omega, by omega, by omega, by omega, by omega, by omega, by omega, by omega, by omega, (fun g e => by cases e), fun i hi => absurd hi (Nat.not_lt_zero _), fun i hi => absurd hi (Nat.not_lt_zero _), fun i hi => absurd hi (Nat.not_lt_zero _)⟩, ⟨by omega, by omega, by omega, fun i hi => absurd hi (Nat.not_lt_zero _)⟩, ⟨by omega, fun i hi => absurd hi (Nat.not_lt_zero _), ⟨rfl, rfl, rfl, rfl, fun t _ => rfl⟩, fun e => by cases e⟩⟩
