/-! the results, pure, and the tasks of a plan -/
def rRn (fm : Nat) (gr : Option Nat) (kv : Nat → Int64) (kb : Nat → Bool) (kp : Nat) : Nat := if fm = 0 then kp else match gr with
  | none => 1
  | some g => (gIt (tog (some g) kv kb) kp).1
def rRv (fm : Nat) (gr : Option Nat) (OE : Nat → List xP) (ok : Nat → Nat) (kv : Nat → Int64) (kb : Nat → Bool) (kp : Nat) : Nat → Nat → Option Int64 := if fm = 0 then (fun k q => xVal (kCell kv kb k) (OE q)) else match gr with
  | none => fun _ => gRow none OE ok kv kb kp 0
  | some g => fun i => gRow (some g) OE ok kv kb kp ((gIt (tog (some g) kv kb) kp).2 i)
theorem rRn_le {fm : Nat} {gr : Option Nat} {kv : Nat → Int64} {kb : Nat → Bool} {kp : Nat} (h : kp ≤ 144) : rRn fm gr kv kb kp ≤ 144 := by
  unfold rRn
  split
  · exact h
  · cases gr with
    | none => show 1 ≤ 144; omega
    | some g => have := gIt_le (tog (some g) kv kb) kp; dsimp only; omega
theorem plc_all {ok : Nat → Int32} : ∀ {n : Nat}, plc ok n = n → ∀ k, k < n → ok k = 0
  | 0, _, k, hk => absurd hk (Nat.not_lt_zero _)
  | n + 1, h, k, hk => by
    have hl := plc_le ok n
    unfold plc at h
    split at h
    · next e =>
      by_cases hkn : k = n
      · rw [hkn]; exact e
      · exact plc_all (n := n) (by omega) k (by omega)
    · omega
theorem rform_0 {okr : Nat → Int32} {no : Nat} {gr : Option Nat} {ok : Nat → Nat} (hg : ∀ g, gr = some g → g < 4) (h : rform okr no (grI gr) = 0) (hok : ∀ o, o < no → okr o = nI (ok o) ∧ ok o < 6) : gr = none ∧ 1 ≤ no ∧ ∀ q, q < no → ok q = 0 := by
  unfold rform at h
  split at h
  · split at h <;> exact absurd h (by decide)
  · next hp =>
    split at h
    · next hc =>
      refine ⟨?_, ?_, fun q hq => ?_⟩
      · cases gr with
        | none => rfl
        | some g =>
          have := hg g rfl
          have h2 : ¬ (nI g < 0) := by
            have e : g = 0 ∨ g = 1 ∨ g = 2 ∨ g = 3 := by omega
            rcases e with rfl | rfl | rfl | rfl <;> decide
          exact absurd hc.2 h2
      · have := plc_le okr no
        omega
      · have e := plc_all hc.1 q hq
        have h3 := hok q hq
        rw [h3.1] at e
        have h4 := h3.2
        have e6 : ok q = 0 ∨ ok q = 1 ∨ ok q = 2 ∨ ok q = 3 ∨ ok q = 4 ∨ ok q = 5 := by omega
        rcases e6 with e6 | e6 | e6 | e6 | e6 | e6 <;> rw [e6] at e ⊢ <;> exact absurd e (by decide)
    · exact absurd h (by decide)
theorem rform_1 {okr : Nat → Int32} {no : Nat} {gr : Option Nat} (h : rform okr no (grI gr) = 1) : 1 ≤ grS gr + no := by
  unfold rform at h
  split at h
  · split at h
    · next hc =>
      cases gr with
      | none =>
        rcases hc with e | e
        · show 1 ≤ 0 + no
          omega
        · exact absurd e (by decide)
      | some g => show 1 ≤ 1 + no; omega
    · exact absurd h (by decide)
  · split at h <;> exact absurd h (by decide)
set_option maxRecDepth 100000 in
set_option maxHeartbeats 4000000 in
theorem ct_QM_makeResults {h : qH} (hR : h.2.2 122 = qRQM) (vv : Nat → Int64) (vb : Nat → Bool) (rs : Nat) (hv : Nat → Int64) (hb : Nat → Bool) (kv : Nat → Int64) (kb : Nat → Bool) (kp : Nat) (wk : Nat → Int64) (wn : Nat → Int32) (gr : Option Nat) (hgr4 : ∀ g, gr = some g → g < 4) (hgr : h.1 122 9 = grI gr) (OE : Nat → List xP) (ok : Nat → Nat) (no : Nat) (hno3 : no ≤ 3) (hno : h.1 122 15 = nI no) (hoe : ∀ o, o < no → h.1 130 o = nI (ok o) ∧ ok o < 6 ∧ (ok o ≠ 1 → (OE o).length ≤ 24 ∧ h.1 128 (14 + o) = nI (OE o).length ∧ rExp (h.1 126) (h.2.1 127) (24 * (14 + o)) (OE o) ∧ xT 8 [] (OE o) = some [false])) (hkp : kp ≤ 144) (fm : Nat) (hfm : fm < 2) (hform : rform (h.1 130) no (grI gr) = nI fm) : qT mi_QM_makeResults 5 0 0 [.ref 122] (eR (fR (vR h vv vb rs) hv hb kv kb kp) wk wn) NN (fun v1 h1 n1 => v1 = none ∧ (∃ vv1 vb1 hv1 hb1 wk1 wn1, h1 = eR (fR (vR (qpI h 122 29 (nI (grS gr + no))) vv1 vb1 (rRn fm gr kv kb kp)) hv1 hb1 kv kb kp) wk1 wn1 ∧ vRep (rRv fm gr OE ok kv kb kp) (grS gr + no) vv1 vb1 (rRn fm gr kv kb kp)) ∧ n1 = NN) := by
  have hf : fm = 0 ∨ fm = 1 := by omega
  rcases hf with rfl | rfl
  · obtain ⟨e, h1, hq⟩ := rform_0 hgr4 hform (fun q hq => ⟨(hoe q hq).1, (hoe q hq).2.1⟩)
    subst e
    exact ct_QM_makeResults_plain hR vv vb rs hv hb kv kb kp wk wn hgr OE ok no hno3 hno hoe (fun q h => by rw [hq q h]; decide) hkp hform
  · cases gr with
    | none => exact ct_QM_makeResults_one hR vv vb rs hv hb kv kb kp wk wn hgr OE ok no hno3 hno hoe hkp hform
    | some g => exact ct_QM_makeResults_groups hR vv vb rs hv hb kv kb kp wk wn g (hgr4 g rfl) hgr (some g) rfl OE ok no hno3 hno hoe hkp hform
def scQ (tv : Nat → Int64) (tn : Nat → Bool) (CE : Nat → List xP) (nc kd wc t w nr p : Nat) : Nat := cntB (fun q => aB (decide (q % wc = p)) (fun c => !pu kd w (CE c) || xTru (scR tv tn t w q) (CE c)) nc) nr
def joQ (wc : Nat) (kv : Nat → Int64) (kb : Nat → Bool) (kp le p : Nat) : Nat := cntB (fun k => decide (pOf wc (kCell kv kb k le) = p)) kp
def grQ (wc : Nat) (gr : Option Nat) (RES : Nat → Nat → Option Int64) (rs p : Nat) : Nat := match gr with
  | none => if p = 0 then 1 else 0
  | some _ => cntB (fun k => decide (pOf wc (RES k 0) = p)) rs
def tP2 (kd wc : Nat) (q0 q1 q2 : Nat → Nat) (s : sT) : sT := if kd = 0 then tAll 0 q0 s wc else tAll 2 q2 (tAll 1 q1 (tAll 0 q0 s wc) wc) wc
def tP3 (fm kd wc : Nat) (q0 q1 q2 q3 : Nat → Nat) (s : sT) : sT := if fm = 1 then tAll 3 q3 (tP2 kd wc q0 q1 q2 s) wc else tP2 kd wc q0 q1 q2 s
def tGood (s : sT) : Prop := ∀ t, t < tN s → tK s t < 4 ∧ tP s t < 4 ∧ tA s t = 0 ∧ tF s t = false
theorem tAll_good {k : Nat} {q : Nat → Nat} {s : sT} (hk : k < 4) (h : tGood s) : ∀ w, w ≤ 4 → tGood (tAll k q s w)
  | 0, _ => h
  | w + 1, hw => by
    have ih := tAll_good (q := q) hk h w (by omega)
    intro t ht
    have ht : t < tN (tAll k q s w) + 1 := ht
    show va_up _ _ _ t < 4 ∧ va_up _ _ _ t < 4 ∧ va_up _ _ _ t = 0 ∧ va_up _ _ _ t = false
    by_cases e : t = tN (tAll k q s w)
    · subst e
      rw [qus, qus, qus, qus]
      exact ⟨hk, by omega, rfl, rfl⟩
    · rw [qun e, qun e, qun e, qun e]
      exact ih t (by omega)
theorem tP3_good {fm kd wc : Nat} {q0 q1 q2 q3 : Nat → Nat} {s : sT} (h4 : wc ≤ 4) (h0 : tN s = 0) : tGood (tP3 fm kd wc q0 q1 q2 q3 s) := by
  have g0 : tGood s := fun t ht => by omega
  have g1 := tAll_good (q := q0) (show 0 < 4 by decide) g0 wc h4
  have g2 : tGood (tP2 kd wc q0 q1 q2 s) := by
    unfold tP2
    split
    · exact g1
    · exact tAll_good (by decide) (tAll_good (by decide) g1 wc h4) wc h4
  unfold tP3
  split
  · exact tAll_good (by decide) g2 wc h4
  · exact g2
theorem tP2_n {kd wc : Nat} {q0 q1 q2 : Nat → Nat} {s : sT} (h0 : tN s = 0) : tN (tP2 kd wc q0 q1 q2 s) = if kd = 0 then wc else 3 * wc := by
  unfold tP2
  split
  · rw [tAll_n]; omega
  · rw [tAll_n, tAll_n, tAll_n]; omega
theorem tP3_n {fm kd wc : Nat} {q0 q1 q2 q3 : Nat → Nat} {s : sT} (h4 : wc ≤ 4) (h0 : tN s = 0) : tN (tP3 fm kd wc q0 q1 q2 q3 s) ≤ 16 := by
  have e := tP2_n (kd := kd) (wc := wc) (q0 := q0) (q1 := q1) (q2 := q2) h0
  unfold tP3
  split
  · rw [tAll_n, e]; split <;> omega
  · rw [e]; split <;> omega
set_option maxRecDepth 100000 in
set_option maxHeartbeats 4000000 in
theorem st_tail {h : qH} (hR : h.2.2 122 = qRQM) (tv : Nat → Int64) (tn : Nat → Bool) (htv : ∀ k, k < 72 → h.2.1 124 k = tv k ∧ h.1 125 k = b2i (tn k)) (nc : Nat) (hnc6 : nc ≤ 6) (hnc : h.1 122 14 = nI nc) (CE : Nat → List xP) (hce : ∀ c, c < nc → (CE c).length ≤ 24 ∧ h.1 128 (8 + c) = nI (CE c).length ∧ rExp (h.1 126) (h.2.1 127) (24 * (8 + c)) (CE c) ∧ xT 8 [] (CE c) = some [true]) (kd fi se le ri : Nat) (hk3 : kd < 3) (hfi3 : fi < 3) (hkd : h.1 122 4 = nI kd) (hfi : h.1 122 5 = nI fi) (hse : kd ≠ 0 → h.1 122 6 = nI se ∧ se < 3 ∧ h.1 122 7 = nI le ∧ le < 2 ∧ h.1 122 8 = nI ri ∧ ri < 2) (n1r n2r : Nat) (hn1 : n1r ≤ 12) (hn2 : n2r ≤ 12) (hr1 : h.1 123 fi = nI n1r) (hr2 : kd ≠ 0 → h.1 123 se = nI n2r) (hr0 : kd = 0 → n2r = 0) (wc : Nat) (h1w : 1 ≤ wc) (hw4 : wc ≤ 4) (hwk : h.1 122 38 = nI wc) (gr : Option Nat) (hgr4 : ∀ g, gr = some g → g < 4) (hgr : h.1 122 9 = grI gr) (no : Nat) (hno3 : no ≤ 3) (hno : h.1 122 15 = nI no) (fm : Nat) (hfm : fm < 2) (hform : rform (h.1 130) no (grI gr) = nI fm) (tm : Int32) (htm : h.1 122 47 = tm) (sa : Nat → Int32) (mk mt ma : Nat → Nat) (hsa : h.1 143 = sa) (hmk : h.1 146 = iN mk) (hmt : h.1 147 = iN mt) (hma : h.1 148 = iN ma) (hwt : h.1 122 49 = nI 0) (hv : Nat → Int64) (hb : Nat → Bool) (kv : Nat → Int64) (kb : Nat → Bool) (kp : Nat) (wk : Nat → Int64) (wn : Nat → Int32) (hkp : kp ≤ 144) (rs : Nat) (hrs : rs ≤ 144) (hrsf : h.1 122 28 = nI rs) (RES : Nat → Nat → Option Int64) (hres : ∀ i, i < rs → h.2.1 137 (4 * i) = (RES i 0).getD 0 ∧ h.1 138 (4 * i) = b2i (RES i 0).isNone) (s : sT) (h0 : tN s = 0) (Rp : Option Value → qH → Nat → Prop) (a b x : Value)
    (hk : ∀ (hv : Nat → Int64) (hb : Nat → Bool) (wk : Nat → Int64) (wn : Nat → Int32), Rp (some (.int (nI (tN (tP3 fm kd wc (scQ tv tn CE nc kd wc fi 0 n1r) (scQ tv tn CE nc kd wc se 1 n2r) (joQ wc kv kb kp le) (grQ wc gr RES rs) s))))) (jR (eR (fR (tR h (tP3 fm kd wc (scQ tv tn CE nc kd wc fi 0 n1r) (scQ tv tn CE nc kd wc se 1 n2r) (joQ wc kv kb kp le) (grQ wc gr RES rs) s)) hv hb kv kb kp) wk wn) (sReady (tK (tP3 fm kd wc (scQ tv tn CE nc kd wc fi 0 n1r) (scQ tv tn CE nc kd wc se 1 n2r) (joQ wc kv kb kp le) (grQ wc gr RES rs) s)) (tF (tP3 fm kd wc (scQ tv tn CE nc kd wc fi 0 n1r) (scQ tv tn CE nc kd wc se 1 n2r) (joQ wc kv kb kp le) (grQ wc gr RES rs) s)) (tN (tP3 fm kd wc (scQ tv tn CE nc kd wc fi 0 n1r) (scQ tv tn CE nc kd wc se 1 n2r) (joQ wc kv kb kp le) (grQ wc gr RES rs) s)) tm (tA (tP3 fm kd wc (scQ tv tn CE nc kd wc fi 0 n1r) (scQ tv tn CE nc kd wc se 1 n2r) (joQ wc kv kb kp le) (grQ wc gr RES rs) s), sa, mk, mt, ma, 0) (tN (tP3 fm kd wc (scQ tv tn CE nc kd wc fi 0 n1r) (scQ tv tn CE nc kd wc se 1 n2r) (joQ wc kv kb kp le) (grQ wc gr RES rs) s)))) NN) : qX mi_QM_start 7 none 0 0 133 [.ref 122, a, b, x] [] (eR (fR (tR h s) hv hb kv kb kp) wk wn) NN 0 0 Rp := by
  have e168 : ∀ (hv : Nat → Int64) (hb : Nat → Bool) (wk : Nat → Int64) (wn : Nat → Int32), qX mi_QM_start 7 none 0 0 168 [.ref 122, a, b, x] [] (eR (fR (tR h (tP3 fm kd wc (scQ tv tn CE nc kd wc fi 0 n1r) (scQ tv tn CE nc kd wc se 1 n2r) (joQ wc kv kb kp le) (grQ wc gr RES rs) s)) hv hb kv kb kp) wk wn) NN 0 0 Rp := by
    intro hv hb wk wn
    have hg := tP3_good (fm := fm) (kd := kd) (q0 := (scQ tv tn CE nc kd wc fi 0 n1r)) (q1 := (scQ tv tn CE nc kd wc se 1 n2r)) (q2 := (joQ wc kv kb kp le)) (q3 := (grQ wc gr RES rs)) hw4 h0
    have hn := tP3_n (fm := fm) (kd := kd) (q0 := (scQ tv tn CE nc kd wc fi 0 n1r)) (q1 := (scQ tv tn CE nc kd wc se 1 n2r)) (q2 := (joQ wc kv kb kp le)) (q3 := (grQ wc gr RES rs)) hw4 h0
    have hk := hk hv hb wk wn
    generalize (tP3 fm kd wc (scQ tv tn CE nc kd wc fi 0 n1r) (scQ tv tn CE nc kd wc se 1 n2r) (joQ wc kv kb kp le) (grQ wc gr RES rs) s) = T at *
    refine qx_eq (h1 := jR (eR (fR (tR h T) hv hb kv kb kp) wk wn) (tA T, sa, mk, mt, ma, 0)) rfl rfl rfl (jR_of rfl hsa hmk hmt hma hwt) ?_
    refine qx_aload_n d_QM_start_168 rfl rfl ?_
    refine qx_callV (As := []) (rest := _) d_QM_start_169 lk_QM_311 y_QM_sendReady v_QM_sendReady rfl rfl rfl (by decide) rfl rfl rfl rfl (by decide) (by decide) (ct_QM_sendReady (h := (eR (fR (tR h T) hv hb kv kb kp) wk wn)) hR (tN T) hn rfl (tK T) (fun t ht => (hg t ht).1) (fun _ _ => rfl) (tF T) (fun _ _ => rfl) (tA T, sa, mk, mt, ma, 0) tm htm (by show 0 ≤ 80; omega) (fun t ht => by show tA T t < 100000; rw [(hg t ht).2.2.1]; omega)) ?_
    rintro _ _ _ ⟨rfl, rfl, rfl⟩
    refine qx_aload_n d_QM_start_172 rfl rfl ?_
    refine qx_getI d_QM_start_173 fI_QM_258 rfl rfl (show _ = nI (tN T) from rfl) ?_
    exact qx_iret d_QM_start_176 rfl rfl (by omega) (by omega) hk
  have e155 : ∀ (hv : Nat → Int64) (hb : Nat → Bool) (wk : Nat → Int64) (wn : Nat → Int32), qX mi_QM_start 7 none 0 0 155 [.ref 122, a, b, x] [] (eR (fR (tR h (tP2 kd wc (scQ tv tn CE nc kd wc fi 0 n1r) (scQ tv tn CE nc kd wc se 1 n2r) (joQ wc kv kb kp le) s)) hv hb kv kb kp) wk wn) NN 0 0 Rp := by
    intro hv hb wk wn
    have hT : (tP3 fm kd wc (scQ tv tn CE nc kd wc fi 0 n1r) (scQ tv tn CE nc kd wc se 1 n2r) (joQ wc kv kb kp le) (grQ wc gr RES rs) s) = if fm = 1 then tAll 3 (grQ wc gr RES rs) (tP2 kd wc (scQ tv tn CE nc kd wc fi 0 n1r) (scQ tv tn CE nc kd wc se 1 n2r) (joQ wc kv kb kp le) s) wc else (tP2 kd wc (scQ tv tn CE nc kd wc fi 0 n1r) (scQ tv tn CE nc kd wc se 1 n2r) (joQ wc kv kb kp le) s) := rfl
    have hn := tP2_n (kd := kd) (wc := wc) (q0 := (scQ tv tn CE nc kd wc fi 0 n1r)) (q1 := (scQ tv tn CE nc kd wc se 1 n2r)) (q2 := (joQ wc kv kb kp le)) h0
    have hn2 : tN (tP2 kd wc (scQ tv tn CE nc kd wc fi 0 n1r) (scQ tv tn CE nc kd wc se 1 n2r) (joQ wc kv kb kp le) s) + wc ≤ 16 := by rw [hn]; split <;> omega
    rw [hT] at e168
    clear hT hn hk
    generalize (tP2 kd wc (scQ tv tn CE nc kd wc fi 0 n1r) (scQ tv tn CE nc kd wc se 1 n2r) (joQ wc kv kb kp le) s) = T at *
    refine qx_aload_n d_QM_start_155 rfl rfl ?_
    refine qx_callV (As := []) (rest := _) d_QM_start_156 lk_QM_229 y_QM_form v_QM_form rfl rfl rfl (by decide) rfl rfl rfl rfl (by decide) (by decide) (ct_QM_form (h := (eR (fR (tR h T) hv hb kv kb kp) wk wn)) hR no hno3 hno (grI gr) hgr) ?_
    rintro _ _ _ ⟨rfl, rfl, rfl⟩
    rw [show rform ((eR (fR (tR h T) hv hb kv kb kp) wk wn).1 130) no (grI gr) = _ from hform]
    refine qx_iconstN (v := 1) d_QM_start_159 rfl ?_
    refine qx_icmp_neN (t := 168) d_QM_start_160 rfl (by omega) (by omega) (fun c160 => ?_) (fun c160 => ?_)
    · first
        | (rw [if_pos c160] at e168; exact e168 _ _ _ _)
        | (rw [if_neg c160] at e168; exact e168 _ _ _ _)
    · refine qx_aload_n d_QM_start_163 rfl rfl ?_
      refine qx_iconstN (v := 3) d_QM_start_164 rfl ?_
      refine qx_callV (As := [_]) (rest := _) d_QM_start_165 lk_QM_308 y_QM_addTasks v_QM_addTasks rfl rfl rfl (by decide) rfl rfl rfl rfl (by decide) (by decide) (show qT mi_QM_addTasks 5 0 0 [.ref 122, .int (nI 3)] (eR (fR (tR h T) hv hb kv kb kp) wk wn) NN (fun v1 h1 n1 => v1 = none ∧ (∃ hv1 hb1 wk1 wn1, h1 = eR (fR (tR h (tAll 3 (grQ wc gr RES rs) T wc)) hv1 hb1 kv kb kp) wk1 wn1) ∧ n1 = NN) from (match gr, hgr4, hgr with | none, _, hgr => ct_QM_addTasks_3n hR hv hb kv kb kp wk wn wc h1w hw4 hwk hgr T hn2 | some g, hgr4, hgr => ct_QM_addTasks_3s hR hv hb kv kb kp wk wn g (hgr4 g rfl) hgr wc h1w hw4 hwk rs hrs hrsf (fun i => RES i 0) hres T hn2)) ?_
      rintro _ _ _ ⟨rfl, ⟨hv, hb, wk, wn, rfl⟩, rfl⟩
      first
        | (rw [if_pos c160] at e168; exact e168 _ _ _ _)
        | (rw [if_neg c160] at e168; exact e168 _ _ _ _)
  have hT : (tP2 kd wc (scQ tv tn CE nc kd wc fi 0 n1r) (scQ tv tn CE nc kd wc se 1 n2r) (joQ wc kv kb kp le) s) = if kd = 0 then tAll 0 (scQ tv tn CE nc kd wc fi 0 n1r) s wc else tAll 2 (joQ wc kv kb kp le) (tAll 1 (scQ tv tn CE nc kd wc se 1 n2r) (tAll 0 (scQ tv tn CE nc kd wc fi 0 n1r) s wc) wc) wc := rfl
  rw [hT] at e155
  have hn1' := tAll_n 0 (scQ tv tn CE nc kd wc fi 0 n1r) s wc
  have hn2' := tAll_n 1 (scQ tv tn CE nc kd wc se 1 n2r) (tAll 0 (scQ tv tn CE nc kd wc fi 0 n1r) s wc) wc
  clear hT e168 hk
  refine qx_aload_n d_QM_start_133 rfl rfl ?_
  refine qx_iconstN (v := 0) d_QM_start_134 rfl ?_
  refine qx_callV (As := [_]) (rest := _) d_QM_start_135 lk_QM_308 y_QM_addTasks v_QM_addTasks rfl rfl rfl (by decide) rfl rfl rfl rfl (by decide) (by decide) (ct_QM_addTasks_0 hR hv hb kv kb kp wk wn tv tn htv nc hnc6 hnc CE hce wc h1w hw4 hwk kd hk3 hkd fi hfi3 hfi n1r hn1 hr1 s (by omega)) ?_
  rintro _ _ _ ⟨rfl, ⟨hv, hb, wk, wn, rfl⟩, rfl⟩
  refine qx_aload_n d_QM_start_138 rfl rfl ?_
  refine qx_getI d_QM_start_139 fI_QM_110 rfl rfl hkd ?_
  refine qx_if_leN (t := 155) d_QM_start_142 rfl (by omega) (fun c142 => ?_) (fun c142 => ?_)
  · first
      | (have z : kd = 0 := (by omega); rw [if_pos z] at e155; exact e155 _ _ _ _)
      | (have z : ¬ kd = 0 := (by omega); rw [if_neg z] at e155; exact e155 _ _ _ _)
  · refine qx_aload_n d_QM_start_145 rfl rfl ?_
    refine qx_iconstN (v := 1) d_QM_start_146 rfl ?_
    refine qx_callV (As := [_]) (rest := _) d_QM_start_147 lk_QM_308 y_QM_addTasks v_QM_addTasks rfl rfl rfl (by decide) rfl rfl rfl rfl (by decide) (by decide) (ct_QM_addTasks_1 hR hv hb kv kb kp wk wn tv tn htv nc hnc6 hnc CE hce wc h1w hw4 hwk kd hk3 hkd se (hse (by omega)).2.1 (hse (by omega)).1 n2r hn2 (hr2 (by omega)) (tAll 0 (scQ tv tn CE nc kd wc fi 0 n1r) s wc) (by omega)) ?_
    rintro _ _ _ ⟨rfl, ⟨hv, hb, wk, wn, rfl⟩, rfl⟩
    refine qx_aload_n d_QM_start_150 rfl rfl ?_
    refine qx_iconstN (v := 2) d_QM_start_151 rfl ?_
    refine qx_callV (As := [_]) (rest := _) d_QM_start_152 lk_QM_308 y_QM_addTasks v_QM_addTasks rfl rfl rfl (by decide) rfl rfl rfl rfl (by decide) (by decide) (ct_QM_addTasks_2 hR hv hb kv kb kp wk wn wc h1w hw4 hwk le (hse (by omega)).2.2.2.1 (hse (by omega)).2.2.1 hkp (tAll 1 (scQ tv tn CE nc kd wc se 1 n2r) (tAll 0 (scQ tv tn CE nc kd wc fi 0 n1r) s wc) wc) (by omega)) ?_
    rintro _ _ _ ⟨rfl, ⟨hv, hb, wk, wn, rfl⟩, rfl⟩
    first
      | (have z : kd = 0 := (by omega); rw [if_pos z] at e155; exact e155 _ _ _ _)
      | (have z : ¬ kd = 0 := (by omega); rw [if_neg z] at e155; exact e155 _ _ _ _)
