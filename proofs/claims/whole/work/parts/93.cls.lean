/-! whole queries on both sides; what hangs on the rows alone -/
theorem nI_z {k : Nat} (h : k < 6) : nI k = 0 ↔ k = 0 := by
  have e : k = 0 ∨ k = 1 ∨ k = 2 ∨ k = 3 ∨ k = 4 ∨ k = 5 := by omega
  rcases e with rfl | rfl | rfl | rfl | rfl | rfl <;> decide
theorem grI_s {gr : Option Nat} (h : ∀ g, gr = some g → g < 4) : (0 ≤ grI gr ↔ gr.isSome = true) ∧ (grI gr < 0 ↔ gr.isSome = false) := by
  cases gr with
  | none => exact ⟨by decide, by decide⟩
  | some g =>
    have h4 := h g rfl
    have e : g = 0 ∨ g = 1 ∨ g = 2 ∨ g = 3 := by omega
    rcases e with rfl | rfl | rfl | rfl <;> exact ⟨by decide, by decide⟩
/-- plain ones among the first so many, in naturals -/
def plN (ok : Nat → Nat) : Nat → Nat
  | 0 => 0
  | k + 1 => if ok k = 0 then plN ok k + 1 else plN ok k
theorem plc_N {okr : Nat → Int32} {ok : Nat → Nat} : ∀ n, (∀ o, o < n → okr o = nI (ok o) ∧ ok o < 6) → plc okr n = plN ok n
  | 0, _ => rfl
  | n + 1, h => by
    have h0 := h n (by omega)
    show (if okr n = 0 then plc okr n + 1 else plc okr n) = (if ok n = 0 then plN ok n + 1 else plN ok n)
    rw [plc_N n (fun o ho => h o (by omega)), h0.1]
    by_cases e : ok n = 0
    · rw [if_pos e, if_pos ((nI_z h0.2).mpr e)]
    · rw [if_neg e, if_neg (fun q => e ((nI_z h0.2).mp q))]
theorem plN_le (ok : Nat → Nat) : ∀ n, plN ok n ≤ n
  | 0 => Nat.le_refl _
  | n + 1 => by
    have := plN_le ok n
    unfold plN
    split <;> omega
theorem plN_0 {ok : Nat → Nat} : ∀ n, plN ok n = 0 ↔ ∀ o, o < n → ok o ≠ 0
  | 0 => ⟨fun _ o ho => absurd ho (Nat.not_lt_zero _), fun _ => rfl⟩
  | n + 1 => by
    have ih := plN_0 (ok := ok) n
    show (if ok n = 0 then plN ok n + 1 else plN ok n) = 0 ↔ _
    by_cases e : ok n = 0
    · rw [if_pos e]
      exact ⟨fun q => by omega, fun q => absurd e (q n (by omega))⟩
    · rw [if_neg e, ih]
      exact ⟨fun q o ho => by
        by_cases z : o = n
        · subst z; exact e
        · exact q o (by omega), fun q o ho => q o (by omega)⟩
theorem plN_n {ok : Nat → Nat} : ∀ n, plN ok n = n ↔ ∀ o, o < n → ok o = 0
  | 0 => ⟨fun _ o ho => absurd ho (Nat.not_lt_zero _), fun _ => rfl⟩
  | n + 1 => by
    have ih := plN_n (ok := ok) n
    have hl := plN_le ok n
    show (if ok n = 0 then plN ok n + 1 else plN ok n) = n + 1 ↔ _
    by_cases e : ok n = 0
    · rw [if_pos e]
      exact ⟨fun q o ho => by
        by_cases z : o = n
        · subst z; exact e
        · exact ih.mp (by omega) o (by omega), fun q => by rw [ih.mpr (fun o ho => q o (by omega))]⟩
    · rw [if_neg e]
      exact ⟨fun q => by omega, fun q => absurd (q n (by omega)) e⟩
theorem allK_t {a : Bool} {ok : Nat → Nat} : ∀ n, allK a ok n = true ↔ ∀ o, o < n → decide (ok o ≠ 0) = a
  | 0 => ⟨fun _ o ho => absurd ho (Nat.not_lt_zero _), fun _ => rfl⟩
  | n + 1 => by
    have ih := allK_t (a := a) (ok := ok) n
    show (allK a ok n && decide (decide (ok n ≠ 0) = a)) = true ↔ _
    rw [Bool.and_eq_true, ih, decide_eq_true_iff]
    exact ⟨fun q o ho => by
      by_cases z : o = n
      · subst z; exact q.2
      · exact q.1 o (by omega), fun q => ⟨fun o ho => q o (by omega), q n (by omega)⟩⟩
def qfm (gr : Option Nat) (ok : Nat → Nat) (no : Nat) : Nat := if cAgg gr ok no = true then 1 else 0
/-- the two ways to say what a whole query is -/
theorem form_w {okr : Nat → Int32} {ok : Nat → Nat} {no : Nat} {gr : Option Nat} (hg : ∀ g, gr = some g → g < 4) (hok : ∀ o, o < no → okr o = nI (ok o) ∧ ok o < 6) : (cWh gr ok no = true → rform okr no (grI gr) = nI (qfm gr ok no)) ∧ (cWh gr ok no = false → rform okr no (grI gr) = -1) := by
  obtain ⟨g1, g2⟩ := grI_s hg
  unfold rform qfm cWh
  rw [plc_N no hok]
  by_cases h0 : no = 0
  · subst h0
    rw [if_pos rfl, if_pos (show plN ok 0 = 0 from rfl)]
    cases hs : gr.isSome
    · refine ⟨fun q => (by cases q), fun _ => ?_⟩
      rw [if_neg (fun q => q.elim (by omega) (fun z => by rw [g1, hs] at z; cases z))]
    · refine ⟨fun _ => ?_, fun q => (by cases q)⟩
      rw [if_pos (Or.inr (g1.mpr hs)), if_pos (by unfold cAgg; rw [hs]; rfl)]
      rfl
  · rw [if_neg h0]
    have ea : cAgg gr ok no = (gr.isSome || decide (ok 0 ≠ 0)) := by unfold cAgg; rw [decide_eq_true (show 0 < no by omega), Bool.true_and]
    by_cases p0 : plN ok no = 0
    · rw [if_pos p0, if_pos (Or.inl (by omega))]
      have q := (plN_0 no).mp p0
      have e1 : cAgg gr ok no = true := by rw [ea, decide_eq_true (q 0 (by omega)), Bool.or_true]
      rw [e1]
      have e2 : allK true ok no = true := (allK_t no).mpr (fun o ho => decide_eq_true (q o ho))
      rw [e2]
      exact ⟨fun _ => rfl, fun z => by cases z⟩
    · rw [if_neg p0]
      by_cases pn : plN ok no = no ∧ grI gr < 0
      · rw [if_pos pn]
        have q := (plN_n no).mp pn.1
        have e1 : cAgg gr ok no = false := by rw [ea, g2.mp pn.2, decide_eq_false (fun z => z (q 0 (by omega)))]; rfl
        rw [e1]
        have e2 : allK false ok no = true := (allK_t no).mpr (fun o ho => decide_eq_false (fun z => z (q o ho)))
        rw [e2]
        exact ⟨fun _ => rfl, fun z => by cases z⟩
      · rw [if_neg pn]
        refine ⟨fun z => ?_, fun _ => rfl⟩
        exfalso
        have q := (allK_t no).mp z
        cases hc : cAgg gr ok no
        · rw [hc] at q
          rw [ea] at hc
          have hs : gr.isSome = false := by cases w : gr.isSome <;> rw [w] at hc <;> first | rfl | cases hc
          exact pn ⟨(plN_n no).mpr (fun o ho => by have := of_decide_eq_false (q o ho); omega), g2.mpr hs⟩
        · rw [hc] at q
          exact p0 ((plN_0 no).mpr (fun o ho => of_decide_eq_true (q o ho)))
theorem whole_0 {ok : Nat → Nat} {no : Nat} {gr : Option Nat} (hw : cWh gr ok no = true) (hf : qfm gr ok no = 0) : gr = none ∧ ∀ o, o < no → ok o = 0 := by
  unfold qfm at hf
  cases hc : cAgg gr ok no
  · have hs : gr.isSome = false := by
      unfold cAgg at hc
      cases w : gr.isSome <;> rw [w] at hc <;> first | rfl | cases hc
    have e0 : gr = none := by
      cases gr with
      | none => rfl
      | some g => cases hs
    refine ⟨e0, fun o ho => ?_⟩
    unfold cWh at hw
    rw [if_neg (show ¬ no = 0 by omega), hc] at hw
    have := of_decide_eq_false ((allK_t no).mp hw o ho)
    omega
  · rw [hc] at hf; cases hf
theorem whole_1 {ok : Nat → Nat} {no : Nat} {gr : Option Nat} (hw : cWh gr ok no = true) (hf : qfm gr ok no = 1) : ∀ o, o < no → ok o ≠ 0 := by
  unfold qfm at hf
  intro o ho
  cases hc : cAgg gr ok no
  · rw [hc] at hf; cases hf
  · unfold cWh at hw
    rw [if_neg (show ¬ no = 0 by omega), hc] at hw
    exact of_decide_eq_true ((allK_t no).mp hw o ho)
theorem whole_d {ok : Nat → Nat} {no : Nat} {gr : Option Nat} (hw : cWh gr ok no = true) : 1 ≤ grS gr + no := by
  unfold cWh at hw
  by_cases h0 : no = 0
  · rw [if_pos h0] at hw
    rw [gr_s hw]
    omega
  · omega
theorem fm_a {ok : Nat → Nat} {no : Nat} {gr : Option Nat} : cAgg gr ok no = decide (qfm gr ok no = 1) := by
  unfold qfm
  cases cAgg gr ok no <;> rfl
theorem fm_2 {ok : Nat → Nat} {no : Nat} {gr : Option Nat} : qfm gr ok no < 2 := by
  unfold qfm
  split <;> omega
theorem insL_c {lt lt2 : Nat → Nat → Bool} {B r : Nat} (hc : ∀ a b, a < B → b < B → lt a b = lt2 a b) (hr : r < B) : ∀ (k : Nat) (p : Nat → Nat), (∀ j, j < k → p j < B) → insL lt r k p = insL lt2 r k p
  | 0, p, _ => rfl
  | k + 1, p, hp => by
    show (if lt r (p k) = true then insL lt r k (va_up p (k + 1) (p k)) else va_up p (k + 1) r) = (if lt2 r (p k) = true then insL lt2 r k (va_up p (k + 1) (p k)) else va_up p (k + 1) r)
    rw [hc r (p k) hr (hp k (by omega)), insL_c hc hr k (va_up p (k + 1) (p k)) (fun j hj => by rw [qun (by omega)]; exact hp j (by omega))]
theorem srt_c {lt lt2 : Nat → Nat → Bool} {p0 : Nat → Nat} {B : Nat} (hc : ∀ a b, a < B → b < B → lt a b = lt2 a b) : ∀ i, i ≤ B → srt lt p0 i = srt lt2 p0 i
  | 0, _ => rfl
  | i + 1, hi => by
    show insL lt i i (srt lt p0 i) = insL lt2 i i (srt lt2 p0 i)
    rw [srt_c hc i (by omega)]
    exact insL_c hc (by omega) i _ (fun j hj => by have := srt_lt lt2 p0 i j hj; omega)
theorem cmpR_c {x y x2 y2 : Nat → Option Int64} : ∀ n, (∀ c, c < n → x c = x2 c ∧ y c = y2 c) → cmpR x y n = cmpR x2 y2 n
  | 0, _ => rfl
  | n + 1, h => by
    show (if cmpR x y n = 0 then cmpO (x n) (y n) else cmpR x y n) = (if cmpR x2 y2 n = 0 then cmpO (x2 n) (y2 n) else cmpR x2 y2 n)
    rw [cmpR_c n (fun c hc => h c (by omega)), (h n (by omega)).1, (h n (by omega)).2]
theorem bef_cg {ob wd : Nat} {dn : Bool} {x y x2 y2 : Nat → Option Int64} (h1 : 1 ≤ wd) (h : ∀ c, c < wd → x c = x2 c ∧ y c = y2 c) : bef ob wd dn x y = bef ob wd dn x2 y2 := by
  have ho : oBy ob wd < wd := by unfold oBy; split <;> omega
  unfold bef
  rw [cmpR_c wd h, (h _ ho).1, (h _ ho).2]
theorem fog_c {tg tg2 : Nat → Nat → Bool} {k : Nat} : ∀ a, (∀ i, i < a → tg i k = tg2 i k) → fog tg k a = fog tg2 k a
  | 0, _ => rfl
  | a + 1, h => by
    show (fog tg k a && !tg a k) = (fog tg2 k a && !tg2 a k)
    rw [fog_c a (fun i hi => h i (by omega)), h a (by omega)]
theorem gIt_c {tg tg2 : Nat → Nat → Bool} : ∀ k, (∀ i j, i < k → j < k → tg i j = tg2 i j) → gIt tg k = gIt tg2 k
  | 0, _ => rfl
  | k + 1, h => by
    rw [gIt_S, gIt_S, gIt_c k (fun i j hi hj => h i j (by omega) (by omega)), fog_c k (fun i hi => h i k (by omega) (by omega))]
theorem agL_c {w : Nat} {tg tg2 : Nat → Bool} {va vb : Nat → Option Int64} : ∀ n, (∀ i, i < n → tg i = tg2 i ∧ (w ≠ 1 → va i = vb i)) → agL w tg va n = agL w tg2 vb n
  | 0, _ => rfl
  | n + 1, h => by
    show (if tg n = true then agS w (agL w tg va n) (va n) else agL w tg va n) = (if tg2 n = true then agS w (agL w tg2 vb n) (vb n) else agL w tg2 vb n)
    rw [agL_c n (fun i hi => h i (by omega)), (h n (by omega)).1]
    by_cases e : w = 1
    · rw [agS_1 e, agS_1 e]
    · rw [(h n (by omega)).2 e]
theorem xVal_c {row row2 : Nat → Option Int64} {E : List xP} {ts : List Bool} (hE : xT 8 [] E = some ts) (hr : ∀ c, c < 4 → row c = row2 c) : xVal row E = xVal row2 E := by
  unfold xVal
  rw [xE_ag E [] (fun p hp h10 => hr _ (xT_col hE p hp h10))]
theorem rWn_c {fm : Nat} {gr : Option Nat} {row row2 : Nat → Nat → Option Int64} {kp : Nat} (hg : ∀ g, gr = some g → g < 4) (hr : ∀ k, k < kp → ∀ c, c < 4 → row k c = row2 k c) : rWn fm gr row kp = rWn fm gr row2 kp := by
  unfold rWn
  split
  · rfl
  · cases gr with
    | none => rfl
    | some g =>
      show (gIt (fun a b => decide (row a g = row b g)) kp).1 = (gIt (fun a b => decide (row2 a g = row2 b g)) kp).1
      rw [gIt_c kp (fun i j hi hj => by rw [hr i hi g (hg g rfl), hr j hj g (hg g rfl)])]
theorem gF_c {gr : Option Nat} {row row2 : Nat → Nat → Option Int64} {kp j : Nat} (hg : ∀ g, gr = some g → g < 4) (hr : ∀ k, k < kp → ∀ c, c < 4 → row k c = row2 k c) : gF gr row kp j = gF gr row2 kp j := by
  cases gr with
  | none => rfl
  | some g =>
    show (gIt (fun a b => decide (row a g = row b g)) kp).2 j = (gIt (fun a b => decide (row2 a g = row2 b g)) kp).2 j
    rw [gIt_c kp (fun i j hi hj => by rw [hr i hi g (hg g rfl), hr j hj g (hg g rfl)])]
theorem rWv_c {fm : Nat} {gr : Option Nat} {OE : Nat → List xP} {ok : Nat → Nat} {row row2 : Nat → Nat → Option Int64} {kp no : Nat} (hfm : fm < 2) (hg : ∀ g, gr = some g → g < 4) (h0 : fm = 0 → gr = none ∧ ∀ o, o < no → ok o = 0) (hO : ∀ o, o < no → ok o ≠ 1 → ∃ ts, xT 8 [] (OE o) = some ts) (hr : ∀ k, k < kp → ∀ c, c < 4 → row k c = row2 k c) : ∀ i, i < rWn fm gr row kp → ∀ c, c < grS gr + no → rWv fm gr OE ok row kp i c = rWv fm gr OE ok row2 kp i c := by
  intro i hi c hc
  have e : fm = 0 ∨ fm = 1 := by omega
  rcases e with rfl | rfl
  · obtain ⟨e1, e2⟩ := h0 rfl
    subst e1
    have hc : c < no := by have : grS none = 0 := rfl; omega
    obtain ⟨ts, hts⟩ := hO c hc (by rw [e2 c hc]; omega)
    show xVal (row i) (OE c) = xVal (row2 i) (OE c)
    exact xVal_c hts (hr i hi)
  · show gRowW gr OE ok row kp (gF gr row kp i) c = gRowW gr OE ok row2 kp (gF gr row2 kp i) c
    rw [← gF_c hg hr]
    have agg : ∀ k, (∀ g, gr = some g → k < kp) → ∀ o, o < no → aggW gr OE ok row kp k o = aggW gr OE ok row2 kp k o := by
      intro k hk o ho
      unfold aggW
      rw [agL_c kp (fun z hz => ⟨?_, fun hw => ?_⟩)]
      · cases gr with
        | none => rfl
        | some g => show decide (row z g = row k g) = decide (row2 z g = row2 k g); rw [hr z hz g (hg g rfl), hr k (hk g rfl) g (hg g rfl)]
      · obtain ⟨ts, hts⟩ := hO o ho hw
        exact xVal_c hts (hr z hz)
    cases gr with
    | none => exact agg _ (fun g e => by cases e) c (by have : grS none = 0 := rfl; omega)
    | some g =>
      have hk : gF (some g) row kp i < kp := (gIt_ok (cell := fun a => row a g) kp).1 i hi
      show (if c = 0 then row (gF (some g) row kp i) g else aggW (some g) OE ok row kp (gF (some g) row kp i) (c - 1)) = (if c = 0 then row2 (gF (some g) row kp i) g else aggW (some g) OE ok row2 kp (gF (some g) row kp i) (c - 1))
      have hgs : grS (some g) = 1 := rfl
      by_cases z : c = 0
      · rw [if_pos z, if_pos z]; exact hr _ hk g (hg g rfl)
      · rw [if_neg z, if_neg z]; exact agg _ (fun _ _ => hk) (c - 1) (by omega)
theorem tAll_c {k : Nat} {q q2 : Nat → Nat} {s : sT} : ∀ w, (∀ p, p < w → q p = q2 p) → tAll k q s w = tAll k q2 s w
  | 0, _ => rfl
  | w + 1, h => by
    show tAdd (tAll k q s w) k w (q w) = tAdd (tAll k q2 s w) k w (q2 w)
    rw [tAll_c w (fun p hp => h p (by omega)), h w (by omega)]
theorem tP3_c {fm kd wc : Nat} {q0 q1 q2 q3 r0 r1 r2 r3 : Nat → Nat} {s : sT} (h0 : ∀ p, p < wc → q0 p = r0 p) (h1 : kd ≠ 0 → ∀ p, p < wc → q1 p = r1 p) (h2 : kd ≠ 0 → ∀ p, p < wc → q2 p = r2 p) (h3 : fm = 1 → ∀ p, p < wc → q3 p = r3 p) : tP3 fm kd wc q0 q1 q2 q3 s = tP3 fm kd wc r0 r1 r2 r3 s := by
  have e2 : tP2 kd wc q0 q1 q2 s = tP2 kd wc r0 r1 r2 s := by
    unfold tP2
    by_cases e : kd = 0
    · rw [if_pos e, if_pos e, tAll_c wc h0]
    · rw [if_neg e, if_neg e, tAll_c wc h0, tAll_c wc (h1 e), tAll_c wc (h2 e)]
  unfold tP3
  by_cases e : fm = 1
  · rw [if_pos e, if_pos e, e2, tAll_c wc (h3 e)]
  · rw [if_neg e, if_neg e, e2]
set_option maxRecDepth 100000 in
set_option maxHeartbeats 4000000 in
theorem ct_QF_start_no {h : qH} (hQ : h.2.2 0 = qRQF) (bg on : Bool) (hbeg : h.1 3 0 = b2i bg) (hon : h.1 83 0 = b2i on) (hU : h.2.2 3 = qRQu) (dep : Nat) (h8 : dep ≤ 8) (hdep : h.1 3 7 = nI dep) (gr : Option Nat) (hgr4 : ∀ g, gr = some g → g < 4) (hgr : h.1 3 13 = grI gr) (no : Nat) (hno3 : no ≤ 3) (hno : h.1 3 12 = nI no) (ok : Nat → Nat) (hok : ∀ o, o < no → h.1 58 o = nI (ok o) ∧ ok o < 6) (w m : Int32) (hg : ((bg && !on) && (decide (dep = 0) && (cWh gr ok no && (decide (nI 1 ≤ w ∧ w ≤ nI 4) && decide (nI 3 ≤ m ∧ m ≤ nI 8))))) = false) : qT mi_QF_start 7 0 0 [.ref 0, .int w, .int m] h NN (fun v1 h1 n1 => v1 = some (.int (-1)) ∧ h = h1 ∧ n1 = NN) := by
  refine qT.of (lv0 := [_, _, _, _, _, _]) (by decide +kernel) (fun _ _ => Nat.le_of_ble_eq_true rfl) rfl ?_
  refine qx_aload_n d_QF_start_0 rfl rfl ?_
  refine qx_callV (As := []) (rest := _) d_QF_start_1 lk_QF_60 y_QF_canChangeQuery v_QF_canChangeQuery rfl rfl rfl (by decide) rfl rfl rfl rfl (by decide) (by decide) (ct_QF_canChangeQuery hQ bg on hbeg hon) ?_
  rintro _ _ _ ⟨rfl, rfl, rfl⟩
  refine qx_if_eqB (t := 27) d_QF_start_4 rfl (fun c4 => ?_) (fun c4 => ?_)
  · refine qx_iconst (v := (-1)) d_QF_start_27 rfl ?_
    exact qx_iret d_QF_start_28 rfl rfl (by omega) (by omega) ⟨rfl, rfl, rfl⟩
  · refine qx_aload_n d_QF_start_7 rfl rfl ?_
    refine qx_getR d_QF_start_8 fR_QF_25 rfl rfl (congrFun hQ 2) ?_
    refine qx_getI d_QF_start_11 fI_QF_94 rfl rfl hdep ?_
    refine qx_if_gtN (t := 27) d_QF_start_14 rfl (by omega) (fun c14 => ?_) (fun c14 => ?_)
    · refine qx_iconst (v := (-1)) d_QF_start_27 rfl ?_
      exact qx_iret d_QF_start_28 rfl rfl (by omega) (by omega) ⟨rfl, rfl, rfl⟩
    · refine qx_aload_n d_QF_start_17 rfl rfl ?_
      refine qx_getR d_QF_start_18 fR_QF_25 rfl rfl (congrFun hQ 2) ?_
      refine qx_callV (As := []) (rest := _) d_QF_start_21 lk_QF_97 y_Qu_isWhole v_Qu_isWhole rfl rfl rfl (by decide) rfl rfl rfl rfl (by decide) (by decide) (ct_Qu_isWhole hU gr hgr4 hgr no hno3 hno ok hok) ?_
      rintro _ _ _ ⟨rfl, rfl, rfl⟩
      refine qx_if_neB (t := 29) d_QF_start_24 rfl (fun c24 => ?_) (fun c24 => ?_)
      · refine qx_iload_n d_QF_start_29 rfl rfl ?_
        refine qx_iconstN (v := 1) d_QF_start_30 rfl ?_
        refine qx_icmp_lt (t := 50) d_QF_start_31 rfl (fun c31 => ?_) (fun c31 => ?_)
        · refine qx_iconst (v := (-1)) d_QF_start_50 rfl ?_
          exact qx_iret d_QF_start_51 rfl rfl (by omega) (by omega) ⟨rfl, rfl, rfl⟩
        · refine qx_iload_n d_QF_start_34 rfl rfl ?_
          refine qx_iconstN (v := 4) d_QF_start_35 rfl ?_
          refine qx_icmp_gt (t := 50) d_QF_start_36 rfl (fun c36 => ?_) (fun c36 => ?_)
          · refine qx_iconst (v := (-1)) d_QF_start_50 rfl ?_
            exact qx_iret d_QF_start_51 rfl rfl (by omega) (by omega) ⟨rfl, rfl, rfl⟩
          · refine qx_iload_n d_QF_start_39 rfl rfl ?_
            refine qx_iconstN (v := 3) d_QF_start_40 rfl ?_
            refine qx_icmp_lt (t := 50) d_QF_start_41 rfl (fun c41 => ?_) (fun c41 => ?_)
            · refine qx_iconst (v := (-1)) d_QF_start_50 rfl ?_
              exact qx_iret d_QF_start_51 rfl rfl (by omega) (by omega) ⟨rfl, rfl, rfl⟩
            · refine qx_iload_n d_QF_start_44 rfl rfl ?_
              refine qx_bipushN (v := 8) d_QF_start_45 rfl ?_
              refine qx_icmp_le (t := 52) d_QF_start_47 rfl (fun c47 => ?_) (fun c47 => ?_)
              · exact absurd hg (by rw [c4, decide_eq_true c14, c24, decide_eq_true (⟨Int32.not_lt.mp c31, Int32.not_lt.mp c36⟩ : nI 1 ≤ w ∧ w ≤ nI 4), decide_eq_true (⟨Int32.not_lt.mp c41, c47⟩ : nI 3 ≤ m ∧ m ≤ nI 8)]; decide)
              · refine qx_iconst (v := (-1)) d_QF_start_50 rfl ?_
                exact qx_iret d_QF_start_51 rfl rfl (by omega) (by omega) ⟨rfl, rfl, rfl⟩
      · refine qx_iconst (v := (-1)) d_QF_start_27 rfl ?_
        exact qx_iret d_QF_start_28 rfl rfl (by omega) (by omega) ⟨rfl, rfl, rfl⟩
