/-! an expression of the class over a heap: codes, operands, length, truth, named -/
abbrev sX : Type := (Nat → Int32) × (Nat → Int32) × Int32 × Int32 × Int32
def xRow (f : Nat → Int32) (s : sX) (i : Nat) : Int32 := if i = 2 then s.2.2.1 else if i = 3 then s.2.2.2.1 else if i = 4 then s.2.2.2.2 else f i
def xR (h : qH) (e : Nat) (s : sX) : qH := (fun a => if a = e then xRow (h.1 e) s else if a = e + 1 then s.1 else if a = e + 2 then s.2.1 else h.1 a, h.2.1, h.2.2)
theorem xR_0 {h : qH} {e : Nat} {s : sX} : (xR h e s).1 e = xRow (h.1 e) s := if_pos rfl
theorem xR_1 {h : qH} {e : Nat} {s : sX} : (xR h e s).1 (e + 1) = s.1 := by
  show (if e + 1 = e then _ else if e + 1 = e + 1 then s.1 else _) = s.1
  rw [if_neg (by omega), if_pos rfl]
theorem xR_2 {h : qH} {e : Nat} {s : sX} : (xR h e s).1 (e + 2) = s.2.1 := by
  show (if e + 2 = e then _ else if e + 2 = e + 1 then _ else if e + 2 = e + 2 then s.2.1 else _) = s.2.1
  rw [if_neg (by omega), if_neg (by omega), if_pos rfl]
theorem xR_o {h : qH} {e a : Nat} {s : sX} (h0 : a ≠ e) (h1 : a ≠ e + 1) (h2 : a ≠ e + 2) : (xR h e s).1 a = h.1 a := by
  show (if a = e then _ else if a = e + 1 then _ else if a = e + 2 then _ else h.1 a) = h.1 a
  rw [if_neg h0, if_neg h1, if_neg h2]
theorem xR_of {h : qH} {e : Nat} : xR h e (h.1 (e + 1), h.1 (e + 2), h.1 e 2, h.1 e 3, h.1 e 4) = h := by
  refine Prod.ext ?_ rfl
  funext a
  by_cases h0 : a = e
  · subst h0
    rw [xR_0]
    funext i
    unfold xRow
    dsimp only
    split
    · next q => rw [q]
    · split
      · next q => rw [q]
      · split
        · next q => rw [q]
        · rfl
  · by_cases h1 : a = e + 1
    · subst h1; rw [xR_1]
    · by_cases h2 : a = e + 2
      · subst h2; rw [xR_2]
      · exact xR_o h0 h1 h2
theorem xR_put {h : qH} {e a i : Nat} {v : Int32} {s s2 : sX} (h0 : va_up ((xR h e s).1) a (va_up ((xR h e s).1 a) i v) = (xR h e s2).1) : qpI (xR h e s) a i v = xR h e s2 := by
  unfold qpI
  rw [h0]
  rfl
