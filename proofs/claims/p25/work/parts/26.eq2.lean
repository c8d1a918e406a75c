/-! the reference's ways of choosing are the class's -/
section EQ2
variable {A : Ab} {i n : Nat}
def tkV (A : Ab) (i : Nat) : Int32 := wayV A i + burV A i
theorem tk_tc (hV : VA A) (hi : i < A.1) (h : whyV A i = 0) : tkV A i = tcV A i := by
  unfold tkV tcV
  rw [if_pos (why_5 hV hi h)]
/-- best, from the last shape to the first -/
def besD (A : Ab) : Nat → Option Nat → Option Nat
  | 0, f => f
  | k + 1, f => besD A k (if (decide (whyV A k = 0) && (match f with | none => true | some q => !decide (tkV A q < tkV A k))) = true then some k else f)
def isB (A : Ab) (a n : Nat) : Option Nat → Prop
  | none => ∀ k, a ≤ k → k < n → whyV A k ≠ 0
  | some q => (a ≤ q ∧ q < n ∧ whyV A q = 0) ∧ ∀ k, a ≤ k → k < n → whyV A k = 0 → (tcV A q).toInt ≤ (tcV A k).toInt ∧ (k < q → (tcV A q).toInt < (tcV A k).toInt)
theorem isB_up (A : Ab) : ∀ n, isB A 0 n (besO A n)
  | 0 => fun k _ hk => absurd hk (Nat.not_lt_zero k)
  | n + 1 => by
    have ih := isB_up A n
    simp only [besO]
    by_cases h : whyV A n = 0
    · rw [if_pos h]
      rcases hb : besO A n with _ | q
      · rw [hb] at ih
        refine ⟨⟨Nat.zero_le n, Nat.lt_succ_self n, h⟩, fun k h0 hk hw => ?_⟩
        by_cases e : k = n
        · subst e; exact ⟨Int.le_refl _, fun z => absurd z (Nat.lt_irrefl k)⟩
        · exact absurd hw (ih k h0 (by omega))
      · rw [hb] at ih
        obtain ⟨⟨-, i2, i3⟩, i4⟩ := ih
        dsimp only
        by_cases c : tcV A n < tcV A q
        · rw [if_pos c]
          rw [ti_lt] at c
          refine ⟨⟨Nat.zero_le n, Nat.lt_succ_self n, h⟩, fun k h0 hk hw => ?_⟩
          by_cases e : k = n
          · subst e; exact ⟨Int.le_refl _, fun z => absurd z (Nat.lt_irrefl k)⟩
          · have := (i4 k h0 (by omega) hw).1
            exact ⟨by omega, fun _ => by omega⟩
        · rw [if_neg c]
          rw [ti_lt] at c
          refine ⟨⟨Nat.zero_le q, by omega, i3⟩, fun k h0 hk hw => ?_⟩
          by_cases e : k = n
          · subst e; exact ⟨by omega, fun z => by omega⟩
          · exact i4 k h0 (by omega) hw
    · rw [if_neg h]
      rcases hb : besO A n with _ | q
      · rw [hb] at ih
        intro k h0 hk
        by_cases e : k = n
        · subst e; exact h
        · exact ih k h0 (by omega)
      · rw [hb] at ih
        obtain ⟨⟨i1, i2, i3⟩, i4⟩ := ih
        refine ⟨⟨i1, by omega, i3⟩, fun k h0 hk hw => ?_⟩
        by_cases e : k = n
        · subst e; exact absurd hw h
        · exact i4 k h0 (by omega) hw
theorem isB_dn (hV : VA A) (hn : n ≤ A.1) : ∀ k f, k ≤ n → isB A k n f → isB A 0 n (besD A k f)
  | 0, f, _, h => h
  | k + 1, f, hk, h => by
    simp only [besD]
    refine isB_dn hV hn k _ (by omega) ?_
    by_cases hw : whyV A k = 0
    · cases f with
      | none =>
        simp only [decide_eq_true hw, Bool.and_self, if_true]
        refine ⟨⟨Nat.le_refl k, by omega, hw⟩, fun q h0 hq hwq => ?_⟩
        by_cases e : q = k
        · subst e; exact ⟨Int.le_refl _, fun z => absurd z (Nat.lt_irrefl q)⟩
        · exact absurd hwq (h q (by omega) hq)
      | some q =>
        obtain ⟨⟨i1, i2, i3⟩, i4⟩ := h
        have e1 := tk_tc hV (i := q) (by omega) i3
        have e2 := tk_tc hV (i := k) (by omega) hw
        by_cases c : tcV A q < tcV A k
        · rw [if_neg (by simp [e1, e2, c])]
          rw [ti_lt] at c
          refine ⟨⟨by omega, i2, i3⟩, fun m h0 hm hwm => ?_⟩
          by_cases e : m = k
          · subst e; exact ⟨by omega, fun _ => c⟩
          · exact i4 m (by omega) hm hwm
        · rw [if_pos (by simp [e1, e2, c, hw])]
          rw [ti_lt] at c
          refine ⟨⟨Nat.le_refl k, by omega, hw⟩, fun m h0 hm hwm => ?_⟩
          by_cases e : m = k
          · subst e; exact ⟨Int.le_refl _, fun z => absurd z (Nat.lt_irrefl m)⟩
          · have := (i4 m (by omega) hm hwm).1
            exact ⟨by omega, fun z => by omega⟩
    · rw [decide_eq_false hw, if_neg (by simp)]
      cases f with
      | none =>
        intro q h0 hq
        by_cases e : q = k
        · subst e; exact hw
        · exact h q (by omega) hq
      | some q =>
        obtain ⟨⟨i1, i2, i3⟩, i4⟩ := h
        refine ⟨⟨by omega, i2, i3⟩, fun m h0 hm hwm => ?_⟩
        by_cases e : m = k
        · subst e; exact absurd hwm hw
        · exact i4 m (by omega) hm hwm
theorem isB_uni {o o' : Option Nat} (h : isB A 0 n o) (h' : isB A 0 n o') : o = o' := by
  cases o with
  | none =>
    cases o' with
    | none => rfl
    | some q => exact absurd h'.1.2.2 (h q (Nat.zero_le q) h'.1.2.1)
  | some p =>
    cases o' with
    | none => exact absurd h.1.2.2 (h' p (Nat.zero_le p) h.1.2.1)
    | some q =>
      have a := h.2 q (Nat.zero_le q) h'.1.2.1 h'.1.2.2
      have b := h'.2 p (Nat.zero_le p) h.1.2.1 h.1.2.2
      have : ¬ q < p := fun z => by have := a.2 z; omega
      have : ¬ p < q := fun z => by have := b.2 z; omega
      rw [show p = q by omega]
theorem besD_eq (hV : VA A) : besD A A.1 none = besO A A.1 :=
  isB_uni (isB_dn hV (Nat.le_refl _) A.1 none (Nat.le_refl _) (fun k h1 h2 => by omega)) (isB_up A A.1)
/-- the soonest, from the last shape to the first -/
def mayB (A : Ab) (k : Nat) : Bool := decide (whyV A k = 4) && !decide (kcV A k = -5)
def sooD (A : Ab) : Nat → Option Nat → Option Nat
  | 0, f => f
  | k + 1, f => sooD A k (if (mayB A k && (match f with | none => true | some q => !decide (kcV A q < kcV A k))) = true then some k else f)
def isS (A : Ab) (a n : Nat) : Option Nat → Prop
  | none => ∀ k, a ≤ k → k < n → mayB A k = false
  | some q => (a ≤ q ∧ q < n ∧ mayB A q = true) ∧ ∀ k, a ≤ k → k < n → mayB A k = true → (kcV A q).toInt ≤ (kcV A k).toInt
theorem isS_dn : ∀ k f, k ≤ n → isS A k n f → isS A 0 n (sooD A k f)
  | 0, f, _, h => h
  | k + 1, f, hk, h => by
    simp only [sooD]
    refine isS_dn k _ (by omega) ?_
    cases hw : mayB A k with
    | true =>
      cases f with
      | none =>
        simp only [Bool.and_self, if_true]
        refine ⟨⟨Nat.le_refl k, by omega, hw⟩, fun q h0 hq hwq => ?_⟩
        by_cases e : q = k
        · subst e; exact Int.le_refl _
        · have := h q (by omega) hq; rw [hwq] at this; cases this
      | some q =>
        obtain ⟨⟨i1, i2, i3⟩, i4⟩ := h
        by_cases c : kcV A q < kcV A k
        · rw [if_neg (by simp [c])]
          rw [ti_lt] at c
          refine ⟨⟨by omega, i2, i3⟩, fun m h0 hm hwm => ?_⟩
          by_cases e : m = k
          · subst e; omega
          · exact i4 m (by omega) hm hwm
        · rw [if_pos (by simp [c])]
          rw [ti_lt] at c
          refine ⟨⟨Nat.le_refl k, by omega, hw⟩, fun m h0 hm hwm => ?_⟩
          by_cases e : m = k
          · subst e; exact Int.le_refl _
          · have := i4 m (by omega) hm hwm
            omega
    | false =>
      rw [if_neg (by simp)]
      cases f with
      | none =>
        intro q h0 hq
        by_cases e : q = k
        · subst e; exact hw
        · exact h q (by omega) hq
      | some q =>
        obtain ⟨⟨i1, i2, i3⟩, i4⟩ := h
        refine ⟨⟨by omega, i2, i3⟩, fun m h0 hm hwm => ?_⟩
        by_cases e : m = k
        · subst e; rw [hwm] at hw; cases hw
        · exact i4 m (by omega) hm hwm
def isF (A : Ab) (n : Nat) (v : Int32) : Prop := (v = -5 ∧ ∀ k, k < n → kcV A k < 0) ∨ (¬ v < 0 ∧ (∃ k, k < n ∧ kcV A k = v) ∧ ∀ k, k < n → kcV A k < 0 ∨ v.toInt ≤ (kcV A k).toInt)
theorem isF_up (A : Ab) : ∀ n, isF A n (fewV A n)
  | 0 => Or.inl ⟨rfl, fun k hk => absurd hk (Nat.not_lt_zero k)⟩
  | n + 1 => by
    have ih := isF_up A n
    simp only [fewV]
    by_cases a : kcV A n < 0
    · rw [if_pos a]
      rcases ih with ⟨h1, h2⟩ | ⟨h1, ⟨k, h2, h3⟩, h4⟩
      · refine Or.inl ⟨h1, fun k hk => ?_⟩
        by_cases e : k = n
        · subst e; exact a
        · exact h2 k (by omega)
      · refine Or.inr ⟨h1, ⟨k, by omega, h3⟩, fun k hk => ?_⟩
        by_cases e : k = n
        · subst e; exact Or.inl a
        · exact h4 k (by omega)
    · rw [if_neg a]
      rcases ih with ⟨h1, h2⟩ | ⟨h1, ⟨k, h2, h3⟩, h4⟩
      · rw [if_pos h1]
        refine Or.inr ⟨a, ⟨n, Nat.lt_succ_self n, rfl⟩, fun k hk => ?_⟩
        by_cases e : k = n
        · subst e; exact Or.inr (Int.le_refl _)
        · exact Or.inl (h2 k (by omega))
      · rw [if_neg (fun z => h1 (by rw [z]; decide))]
        by_cases c : kcV A n < fewV A n
        · rw [if_pos c]
          rw [ti_lt] at c
          refine Or.inr ⟨a, ⟨n, Nat.lt_succ_self n, rfl⟩, fun k hk => ?_⟩
          by_cases e : k = n
          · subst e; exact Or.inr (Int.le_refl _)
          · rcases h4 k (by omega) with z | z
            · exact Or.inl z
            · exact Or.inr (by omega)
        · rw [if_neg c]
          rw [ti_lt] at c
          refine Or.inr ⟨h1, ⟨k, by omega, h3⟩, fun k hk => ?_⟩
          by_cases e : k = n
          · subst e; exact Or.inr (by omega)
          · exact h4 k (by omega)
theorem may_iff (hV : VA A) (hi : i < A.1) (h : whyV A i ≠ 0) : mayB A i = true ↔ ¬ kcV A i < 0 := by
  unfold mayB
  by_cases h4 : whyV A i = 4
  · rw [decide_eq_true h4, Bool.true_and]
    by_cases h5 : kcV A i = -5
    · rw [decide_eq_true h5, h5]; decide
    · rw [decide_eq_false h5, ti_lt, t0]
      have := kc_pos hV hi h4 h5
      constructor
      · intro _; omega
      · intro _; rfl
  · have e : kcV A i = -4 := by unfold kcV; rw [if_neg h, if_neg h4]
    rw [decide_eq_false h4, e]; decide
theorem soo_few (hV : VA A) (hb : besO A A.1 = none) : fewV A A.1 = (match sooD A A.1 none with | none => -5 | some q => kcV A q) ∧ ∀ q, sooD A A.1 none = some q → q < A.1 ∧ whyV A q = 4 ∧ kcV A q ≠ -5 := by
  have hB := isB_up A A.1
  rw [hb] at hB
  have hS := isS_dn (A := A) (n := A.1) A.1 none (Nat.le_refl _) (fun k h1 h2 => by omega)
  have hF := isF_up A A.1
  rcases hs : sooD A A.1 none with _ | q
  · rw [hs] at hS
    refine ⟨?_, fun q hq => by cases hq⟩
    rcases hF with ⟨h1, -⟩ | ⟨h1, ⟨k, h2, h3⟩, -⟩
    · exact h1
    · exfalso
      have := hS k (Nat.zero_le k) h2
      have m := (may_iff hV h2 (hB k (Nat.zero_le k) h2)).mpr (by rw [h3]; exact h1)
      rw [m] at this
      cases this
  · rw [hs] at hS
    obtain ⟨⟨-, s2, s3⟩, s4⟩ := hS
    have m := (may_iff hV s2 (hB q (Nat.zero_le q) s2)).mp s3
    refine ⟨?_, fun r hr => ?_⟩
    · show fewV A A.1 = kcV A q
      rcases hF with ⟨-, h2⟩ | ⟨h1, ⟨k, h2, h3⟩, h4⟩
      · exact absurd (h2 q s2) m
      · have mk := (may_iff hV h2 (hB k (Nat.zero_le k) h2)).mpr (by rw [h3]; exact h1)
        have a := s4 k (Nat.zero_le k) h2 mk
        rw [h3] at a
        rcases h4 q s2 with b | b
        · exact absurd b m
        · rw [ti_eq]; omega
    · cases hr
      unfold mayB at s3
      simp only [Bool.and_eq_true, decide_eq_true_eq, Bool.not_eq_true', decide_eq_false_iff_not] at s3
      exact ⟨s2, s3⟩
/-- the hottest square, from the last to the first -/
def hsD (H : Fs) (m : Int32) : Nat → Nat → Nat
  | 0, f => f
  | k + 1, f => hsD H m k (if H k = m then k else f)
theorem hsD_eq {H : Fs} {m : Int32} {h : Nat} (h1 : H h = m) (h2 : ∀ q, q < h → H q ≠ m) : ∀ k f, hsD H m k f = if h < k then h else f
  | 0, f => by rw [if_neg (Nat.not_lt_zero h)]; rfl
  | k + 1, f => by
    simp only [hsD]
    rw [hsD_eq h1 h2 k]
    by_cases a : h < k
    · rw [if_pos a, if_pos (by omega)]
    · rw [if_neg a]
      by_cases b : h = k
      · subst b; rw [if_pos h1, if_pos (Nat.lt_succ_self h)]
      · rw [if_neg (h2 k (by omega)), if_neg (by omega)]
theorem hs_eq (hV : VA A) (f : Nat) : hsD A.2.2.1 (grV A) 12 f = hotN A.2.2.1 12 := by
  obtain ⟨-, a2, -, a4⟩ := hot_all (fun k hk => (hV.ht hk).1) 11 (by decide)
  have a2 : hotN A.2.2.1 12 ≤ 11 := a2
  rw [hsD_eq (H := A.2.2.1) (m := grV A) (h := hotN A.2.2.1 12) rfl (fun q hq e => ?_), if_pos (by omega)]
  have := a4 q hq
  have e : A.2.2.1 q = A.2.2.1 (hotN A.2.2.1 12) := e
  rw [e] at this
  exact absurd this (Int.lt_irrefl _)
/-- whether a rectangle could be told -/
def okR (f g : Fs) : Bool := (decide (g 0 + g 2 - 1 < f 0) || !decide (g 0 < f 0 + f 2) || decide (g 1 + g 3 - 1 < f 1) || !decide (g 1 < f 1 + f 3)) || (((decide (g 0 < f 0) && decide (f 0 + f 2 - 1 < g 0 + g 2 - 1) && decide (g 1 < f 1) && decide (f 1 + f 3 - 1 < g 1 + g 3 - 1)) || (decide (f 0 < g 0) && decide (g 0 + g 2 - 1 < f 0 + f 2 - 1) && decide (f 1 < g 1) && decide (g 1 + g 3 - 1 < f 1 + f 3 - 1))) && decide (g 5 = 0))
theorem okR_eq {f g : Fs} (h : vF f) (h2 : vF g) : okR f g = okB f g := by
  have a1 := h.xl
  have a2 := h.yl
  have a3 := h.x2
  have a4 := h.y2
  have b1 := h2.xl
  have b2 := h2.yl
  have b3 := h2.x2
  have b4 := h2.y2
  obtain ⟨h, -⟩ := h
  obtain ⟨h2, -⟩ := h2
  unfold okR okB insB apaB
  rw [Bool.eq_iff_iff]
  simp only [Bool.or_eq_true, Bool.and_eq_true, Bool.not_eq_true', decide_eq_true_eq, decide_eq_false_iff_not, ti_lt, ti_eq (b := 0), t0, a1, a2, a3, a4, b1, b2, b3, b4]
  by_cases c : ((((g 0).toInt < (f 0).toInt ∧ (f 0).toInt + (f 2).toInt < (g 0).toInt + (g 2).toInt) ∧ (g 1).toInt < (f 1).toInt) ∧ (f 1).toInt + (f 3).toInt < (g 1).toInt + (g 3).toInt) ∨ ((((f 0).toInt < (g 0).toInt ∧ (g 0).toInt + (g 2).toInt < (f 0).toInt + (f 2).toInt) ∧ (f 1).toInt < (g 1).toInt) ∧ (g 1).toInt + (g 3).toInt < (f 1).toInt + (f 3).toInt)
  · rw [if_pos c, decide_eq_true_eq]
    omega
  · rw [if_neg c]
    simp only [Bool.or_eq_true, Bool.not_eq_true', decide_eq_false_iff_not]
    omega
theorem kn_eq (h : A.1 ≤ 12) (v : Int32) : betw v 0 (nI A.1 - 1) = knB A v := by
  have e : (nI A.1).toInt = A.1 := nI_toInt (by omega)
  have e2 : (nI A.1 - 1).toInt = (A.1 : Int) - 1 := by rw [ti_sub (by rw [e, t1]; omega) (by rw [e, t1]; omega), e, t1]
  have e3 : (12 : Int32).toInt = 12 := rfl
  unfold betw knB
  rw [Bool.eq_iff_iff]
  simp only [Bool.and_eq_true, Bool.not_eq_true', decide_eq_true_eq, decide_eq_false_iff_not, ti_lt, e, e2, e3]
  omega
theorem cool_0 (hV : VA A) {k : Nat} (hk : k < 12) : (coolA A 0).2.2.1 k = A.2.2.1 k := by
  have h := hV.ht hk
  have hx := (xT_ti hV (x := 0) ⟨by decide, by decide⟩)
  have e := imx_ti (h := A.2.2.1 k) (b := 0 * A.2.2.2.1 1) ⟨h.1, by have := h.2; omega⟩ ⟨hx.2.1, by have := hx.2.2; omega⟩
  show imx (A.2.2.1 k - 0 * A.2.2.2.1 1) 0 = A.2.2.1 k
  rw [ti_eq, e, hx.1, t0]
  have := h.1
  omega
theorem bes_none (hV : VA A) (h : ∀ q, q < A.1 → A.2.2.2.2 q 5 ≠ 0) : besO A A.1 = none ∧ fewV A A.1 = -5 := by
  have hw : ∀ q, q < A.1 → whyV A q ≠ 0 ∧ whyV A q ≠ 4 := by
    intro q hq
    have h0 := h q hq
    have hf := hV.sh hq
    rcases why_all (A := A) (i := q) with ⟨-, e⟩ | ⟨-, e⟩ | ⟨⟨a, b⟩, -⟩
    · rw [e]; exact ⟨by decide, by decide⟩
    · rw [e]; exact ⟨by decide, by decide⟩
    · exact absurd (f5_0 hf a b) h0
  constructor
  · rcases hb : besO A A.1 with _ | q
    · rfl
    · exact absurd (besO_why hb) (hw q (besO_lt hb)).1
  · rcases isF_up A A.1 with ⟨h1, -⟩ | ⟨h1, ⟨k, h2, h3⟩, -⟩
    · exact h1
    · exfalso
      obtain ⟨a, b⟩ := hw k h2
      have e : kcV A k = -4 := by unfold kcV; rw [if_neg a, if_neg b]
      rw [← h3, e] at h1
      exact h1 (by decide)
/-! how long to wait, with the early end -/
theorem hit_pos (hV : VA A) {q : Nat} (hq : q < 12) (h1 : 0 < A.2.2.1 q - A.2.2.2.1 2) (h2 : 0 < edgQ (A.2.2.2.2 i) q) : 0 < hovV A i := by
  have hle : ∀ k, k ≤ 12 → q < k → (A.2.2.1 q).toInt ≤ (hmx (edgQ (A.2.2.2.2 i)) A.2.2.1 k).toInt := by
    intro k
    induction k with
    | zero => intro _ h; exact absurd h (Nat.not_lt_zero q)
    | succ k ih =>
      intro hk h
      rw [hmx]
      by_cases e : q = k
      · subst e; rw [if_pos h2, ti_imx]; omega
      · have := ih (by omega) (by omega)
        split
        · rw [ti_imx]; omega
        · exact this
  have a := hle 12 (by decide) hq
  have h := hV.ht hq
  have s := hV.s2
  unfold iR at *
  rw [ti_lt, t0, ti_sub (by omega) (by omega)] at h1
  rw [ti_lt, t0, hov_ti hV]
  omega
theorem no_hit (hV : VA A) : ∀ k, k ≤ 12 → (∀ q, q < k → ¬ (0 < A.2.2.1 q - A.2.2.2.1 2 ∧ 0 < edgQ (A.2.2.2.2 i) q)) → (hmx (edgQ (A.2.2.2.2 i)) A.2.2.1 k).toInt ≤ (A.2.2.2.1 2).toInt
  | 0, _, _ => by
    have := hV.s2.1
    show (0 : Int32).toInt ≤ _
    rw [t0]; exact this
  | k + 1, hk, h => by
    have ih := no_hit hV k (by omega) (fun q hq => h q (by omega))
    have h1 := h k (Nat.lt_succ_self k)
    have hh := hV.ht (show k < 12 by omega)
    have s := hV.s2
    unfold iR at *
    rw [hmx]
    split
    · rename_i he
      rw [ti_imx]
      have h2 : ¬ 0 < A.2.2.1 k - A.2.2.2.1 2 := fun z => h1 ⟨z, he⟩
      rw [ti_lt, t0, ti_sub (by omega) (by omega)] at h2
      omega
    · exact ih
theorem hov_no (hV : VA A) (h : ∀ q, q < 12 → ¬ (0 < A.2.2.1 q - A.2.2.2.1 2 ∧ 0 < edgQ (A.2.2.2.2 i) q)) : ¬ 0 < hovV A i := by
  have := no_hit hV 12 (Nat.le_refl _) h
  rw [ti_lt, t0, hov_ti hV]
  omega
end EQ2
