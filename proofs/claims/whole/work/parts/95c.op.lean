theorem CI_q {h h1 : qH} {pp pp1 : Nat → Nat} {ti : Nat → Int32} {tn : Nat → Bool} {rw : Nat → Nat} {bg : Bool} {kd fi se le ri dep : Nat} {EE : Nat → List xP} {tr : Nat → Bool} {nc no : Nat} {ok : Nat → Nat} {gr : Option Nat} {ob : Nat} {dw : Bool} {lm : Int32} {bg1 : Bool} {kd1 fi1 se1 le1 ri1 dep1 : Nat} {EE1 : Nat → List xP} {tr1 : Nat → Bool} {nc1 no1 : Nat} {ok1 : Nat → Nat} {gr1 : Option Nat} {ob1 : Nat} {dw1 : Bool} {lm1 : Int32} {RES : Nat → Nat → Option Int64} {rs wd cn : Nat} {ps : Int32} {p : Nat → Nat} {on : Bool} {wk nt : Nat} {kt pt tq : Nat → Nat} {dn : Nat → Bool} {tm ig : Int32} {s : sJ} {Q : sQ} {ud : Nat} (ha : ∀ a, a < 3 ∨ 58 < a → a < 122 → h1.1 a = h.1 a ∧ h1.2.1 a = h.2.1 a) (hr : ∀ a, a ≠ 4 → a ≠ 29 → a ≠ 48 → h1.2.2 a = h.2.2 a) (q3 : cQ3 (h1.1 3) bg1 kd1 fi1 se1 le1 ri1 dep1 nc1 no1 gr1 ob1 dw1 lm1) (qe : cQe h1 pp1 dep1 EE1 tr1 nc1 no1 ok1) (h0 : CI h pp ti tn rw bg kd fi se le ri dep EE tr nc no ok gr ob dw lm RES rs wd cn ps p on wk nt kt pt tq dn tm ig s Q ud) : CI h1 pp1 ti tn rw bg1 kd1 fi1 se1 le1 ri1 dep1 EE1 tr1 nc1 no1 ok1 gr1 ob1 dw1 lm1 RES rs wd cn ps p on wk nt kt pt tq dn tm ig s Q ud := by
  obtain ⟨c1, c2, c3, c4, c5, c6, c7⟩ := h0
  exact ⟨cSt_ag hr c1, cTb_ag (fun a _ _ => (ha a (by omega) (by omega)).1) c2, q3, qe, cScr_ag (fun a _ => (ha a (by omega) (by omega)).1) c5, cRs_ag (fun a _ _ => ha a (by omega) (by omega)) c6, cJb_ag (fun a _ _ => (ha a (by omega) (by omega)).1) c7⟩
theorem r3 {h : qH} {i : Nat} {v : Int32} : ∀ a, a ≠ 3 → (qpI h 3 i v).1 a = h.1 a ∧ (qpI h 3 i v).2.1 a = h.2.1 a := fun a ha => ⟨(qpI_o h 3 i v a ha).1, rfl⟩
theorem r122 {h : qH} {i : Nat} {v : Int32} : ∀ a, a < 122 → (qpI h 122 i v).1 a = h.1 a ∧ (qpI h 122 i v).2.1 a = h.2.1 a := fun a ha => ⟨(qpI_o h 122 i v a (by omega)).1, rfl⟩
theorem rtr {h1 h2 h3 : qH} {a : Nat} (x : h3.1 a = h2.1 a ∧ h3.2.1 a = h2.2.1 a) (y : h2.1 a = h1.1 a ∧ h2.2.1 a = h1.2.1 a) : h3.1 a = h1.1 a ∧ h3.2.1 a = h1.2.1 a := ⟨x.1.trans y.1, x.2.trans y.2⟩
set_option maxRecDepth 100000 in
set_option maxHeartbeats 4000000 in
theorem op_group (c : Int32) : OpI mi_QF_group mi_QM_group [.int c] := by
  intro N h hN hI
  have hI0 := hI
  obtain ⟨pp, ti, tn, rt, bg, kd, fi, se, le, ri, dep, EE, tr, nc, no, ok, gr, ob, dw, lm, RES, rs, wd, cn, ps, p, on, wk, nt, kt, pt, tq, dn, tm, ig, s, Q, ud, s2, qn, qt, qa, hC, hM, hP⟩ := hI
  obtain ⟨hS, hT, h3, hE, hX, hRs, hJ⟩ := hC
  obtain ⟨mR, mT, m1, mE, mX, mRs, mJ⟩ := hM
  obtain ⟨gQ, gR, gJ⟩ := hP
  have e1 := hJ.1
  have hkd := gQ.1
  have gQ0 := gQ
  obtain ⟨q1, q2, q3, q4, q5, q6, q7, q8, q9, q10, q11, q12, q13⟩ := gQ
  have hC0 : CI h pp ti tn rt bg kd fi se le ri dep EE tr nc no ok gr ob dw lm RES rs wd cn ps p on wk nt kt pt tq dn tm ig s Q ud := ⟨hS, hT, h3, hE, hX, hRs, hJ⟩
  have hM0 : MI h ti tn rt bg kd fi se le ri dep EE tr nc no ok gr ob dw lm RES rs wd cn ps p on wk nt kt pt tq dn tm ig s2 qn qt qa := ⟨mR, mT, m1, mE, mX, mRs, mJ⟩
  have kx := ct_QF_group hS.1 bg on h3.1 hJ.1 kd hkd h3.2.1 c
  have ky := fun (h1 : qH) (hM1 : MI h1 ti tn rt bg kd fi se le ri dep EE tr nc no ok gr ob dw lm RES rs wd cn ps p on wk nt kt pt tq dn tm ig s2 qn qt qa) => ct_QM_group (h := h1) c bg on hM1.2.2.1.1 hM1.2.2.2.2.2.2.1 kd hkd hM1.2.2.1.2.1
  rw [← in_k] at ky
  by_cases hg : ((bg && !on) && decide (0 ≤ c ∧ c < nI (if kd = 0 then 2 else 4))) = true
  · rw [hg] at kx ky
    rw [Bool.and_eq_true] at hg
    obtain ⟨k, hk, rfl⟩ := in_of (by split <;> omega) hg.2
    have hk4 : k < 4 := by split at hk <;> omega
    refine op_mo (z := b2i true) (dy := 2) (by omega) (by omega) kx (fun h1 => CI h1 pp ti tn rt bg kd fi se le ri dep EE tr nc no ok (some k) ob dw lm RES rs wd cn ps p on wk nt kt pt tq dn tm ig s Q ud ∧ MI h1 ti tn rt bg kd fi se le ri dep EE tr nc no ok gr ob dw lm RES rs wd cn ps p on wk nt kt pt tq dn tm ig s2 qn qt qa) ?_ ?_
    · rintro v h1 n ⟨e1, e2, e3⟩
      have e2 : h1 = qpI h 3 13 (nI k) := e2
      subst e2
      exact ⟨e1, ⟨CI_q (fun a ha _ => r3 a (by omega)) (fun a _ _ _ => rfl) ⟨h3.1, h3.2.1, h3.2.2.1, h3.2.2.2.1, h3.2.2.2.2.1, h3.2.2.2.2.2.1, h3.2.2.2.2.2.2.1, h3.2.2.2.2.2.2.2.1, h3.2.2.2.2.2.2.2.2.1, rfl, h3.2.2.2.2.2.2.2.2.2.2.1, h3.2.2.2.2.2.2.2.2.2.2.2.1, h3.2.2.2.2.2.2.2.2.2.2.2.2⟩ (cQe_ag q6 q7 q8 (fun a _ _ => (r3 a (by omega)).1) rfl hE) hC0, MI_ag (fun a ha => ⟨(r3 a (by omega)).1, rfl, rfl⟩) hM0⟩, e3⟩
    · rintro h1 ⟨hC1, hM1⟩
      refine qT.imp ?_ (ky h1 hM1)
      rintro v h2 n ⟨e1, e2, e3⟩
      have e2 : h2 = qpI h1 122 9 (nI k) := e2
      subst e2
      obtain ⟨mR, mT, m1, mE, mX, mRs, mJ⟩ := hM1
      exact ⟨e1, ⟨pp, ti, tn, rt, bg, kd, fi, se, le, ri, dep, EE, tr, nc, no, ok, some k, ob, dw, lm, RES, rs, wd, cn, ps, p, on, wk, nt, kt, pt, tq, dn, tm, ig, s, Q, ud, s2, qn, qt, qa, CI_ag ⟨q6, q7, q8⟩ r122 rfl hC1, ⟨mR, mT, ⟨m1.1, m1.2.1, m1.2.2.1, m1.2.2.2.1, fun z => ⟨rfl, (m1.2.2.2.2.1 z).2⟩, m1.2.2.2.2.2.1, m1.2.2.2.2.2.2.1, m1.2.2.2.2.2.2.2.1, m1.2.2.2.2.2.2.2.2.1, m1.2.2.2.2.2.2.2.2.2⟩, mE, mX, mRs, mJ⟩, ⟨q1, q2, q3, q4, q5, q6, q7, q8, q9, fun g e => by cases e; exact hk4, q11, q12, q13⟩, gR, gJb_up gJ⟩, e3⟩
  · rw [bf hg] at kx ky
    exact op_ro (by omega) (by omega) hI0 (qT.imp (fun v h1 n q => ⟨q.1, q.2.1.symm, q.2.2⟩) kx) (qT.imp (fun v h1 n q => ⟨q.1, q.2.1.symm, q.2.2⟩) (ky h hM0))
set_option maxRecDepth 100000 in
set_option maxHeartbeats 4000000 in
theorem op_order (c x : Int32) (d : Bool) : OpI mi_QF_order mi_QM_order [.int c, .int (b2i d), .int x] := by
  intro N h hN hI
  have hI0 := hI
  obtain ⟨pp, ti, tn, rt, bg, kd, fi, se, le, ri, dep, EE, tr, nc, no, ok, gr, ob, dw, lm, RES, rs, wd, cn, ps, p, on, wk, nt, kt, pt, tq, dn, tm, ig, s, Q, ud, s2, qn, qt, qa, hC, hM, hP⟩ := hI
  obtain ⟨hS, hT, h3, hE, hX, hRs, hJ⟩ := hC
  obtain ⟨mR, mT, m1, mE, mX, mRs, mJ⟩ := hM
  obtain ⟨gQ, gR, gJ⟩ := hP
  have e1 := hJ.1
  have hkd := gQ.1
  have gQ0 := gQ
  obtain ⟨q1, q2, q3, q4, q5, q6, q7, q8, q9, q10, q11, q12, q13⟩ := gQ
  have hC0 : CI h pp ti tn rt bg kd fi se le ri dep EE tr nc no ok gr ob dw lm RES rs wd cn ps p on wk nt kt pt tq dn tm ig s Q ud := ⟨hS, hT, h3, hE, hX, hRs, hJ⟩
  have hM0 : MI h ti tn rt bg kd fi se le ri dep EE tr nc no ok gr ob dw lm RES rs wd cn ps p on wk nt kt pt tq dn tm ig s2 qn qt qa := ⟨mR, mT, m1, mE, mX, mRs, mJ⟩
  have kx := ct_QF_order hS.1 bg on h3.1 hJ.1 c x d
  have ky := fun (h1 : qH) (hM1 : MI h1 ti tn rt bg kd fi se le ri dep EE tr nc no ok gr ob dw lm RES rs wd cn ps p on wk nt kt pt tq dn tm ig s2 qn qt qa) => ct_QM_order (h := h1) c x d bg on hM1.2.2.1.1 hM1.2.2.2.2.2.2.1
  rw [← in_4] at ky
  by_cases hg : ((bg && !on) && decide (0 ≤ c ∧ c < nI 4)) = true
  · rw [hg] at kx ky
    rw [Bool.and_eq_true] at hg
    obtain ⟨k, hk, rfl⟩ := in_of (by omega) hg.2
    have hk4 : k < 4 := hk
    refine op_mo (z := b2i true) (dy := 2) (by omega) (by omega) kx (fun h1 => CI h1 pp ti tn rt bg kd fi se le ri dep EE tr nc no ok gr k d x RES rs wd cn ps p on wk nt kt pt tq dn tm ig s Q ud ∧ MI h1 ti tn rt bg kd fi se le ri dep EE tr nc no ok gr ob dw lm RES rs wd cn ps p on wk nt kt pt tq dn tm ig s2 qn qt qa) ?_ ?_
    · rintro v h1 n ⟨e1, e2, e3⟩
      have e2 : h1 = qpI (qpI (qpI h 3 14 (nI k)) 3 15 (b2i d)) 3 16 x := e2
      subst e2
      exact ⟨e1, ⟨CI_q (fun a ha _ => rtr (r3 a (by omega)) (rtr (r3 a (by omega)) (r3 a (by omega)))) (fun a _ _ _ => rfl) ⟨h3.1, h3.2.1, h3.2.2.1, h3.2.2.2.1, h3.2.2.2.2.1, h3.2.2.2.2.2.1, h3.2.2.2.2.2.2.1, h3.2.2.2.2.2.2.2.1, h3.2.2.2.2.2.2.2.2.1, h3.2.2.2.2.2.2.2.2.2.1, rfl, rfl, rfl⟩ (cQe_ag q6 q7 q8 (fun a _ _ => (rtr (r3 a (by omega)) (rtr (r3 a (by omega)) (r3 a (by omega)))).1) rfl hE) hC0, MI_ag (fun a ha => ⟨(rtr (r3 a (by omega)) (rtr (r3 a (by omega)) (r3 a (by omega)))).1, rfl, rfl⟩) hM0⟩, e3⟩
    · rintro h1 ⟨hC1, hM1⟩
      refine qT.imp ?_ (ky h1 hM1)
      rintro v h2 n ⟨e1, e2, e3⟩
      have e2 : h2 = qpI (qpI (qpI h1 122 10 (nI k)) 122 11 (b2i d)) 122 12 x := e2
      subst e2
      obtain ⟨mR, mT, m1, mE, mX, mRs, mJ⟩ := hM1
      exact ⟨e1, ⟨pp, ti, tn, rt, bg, kd, fi, se, le, ri, dep, EE, tr, nc, no, ok, gr, k, d, x, RES, rs, wd, cn, ps, p, on, wk, nt, kt, pt, tq, dn, tm, ig, s, Q, ud, s2, qn, qt, qa, CI_ag ⟨q6, q7, q8⟩ (fun a ha => rtr (r122 a ha) (rtr (r122 a ha) (r122 a ha))) rfl hC1, ⟨mR, mT, ⟨m1.1, m1.2.1, m1.2.2.1, m1.2.2.2.1, fun z => ⟨(m1.2.2.2.2.1 z).1, rfl⟩, rfl, rfl, m1.2.2.2.2.2.2.2.1, m1.2.2.2.2.2.2.2.2.1, m1.2.2.2.2.2.2.2.2.2⟩, mE, mX, mRs, mJ⟩, ⟨q1, q2, q3, q4, q5, q6, q7, q8, hk4, q10, q11, q12, q13⟩, gR, gJb_up gJ⟩, e3⟩
  · rw [bf hg] at kx ky
    exact op_ro (by omega) (by omega) hI0 (qT.imp (fun v h1 n q => ⟨q.1, q.2.1.symm, q.2.2⟩) kx) (qT.imp (fun v h1 n q => ⟨q.1, q.2.1.symm, q.2.2⟩) (ky h hM0))
