/-! what more holds of a value: shapes are nested or apart, ranks and tilts, ticks (written by hand) -/
def okS (A : Ab) : Prop := ∀ i j, i < A.1 → j < A.1 → i ≠ j → insB (A.2.2.2.2 i) (A.2.2.2.2 j) = true ∨ insB (A.2.2.2.2 j) (A.2.2.2.2 i) = true ∨ apaB (A.2.2.2.2 i) (A.2.2.2.2 j) = true
def sam (f g : Fs) : Prop := f 0 = g 0 ∧ f 1 = g 1 ∧ f 2 = g 2 ∧ f 3 = g 3
theorem ins_sam {f f' g g' : Fs} (h : sam f f') (h2 : sam g g') : insB f g = insB f' g' := by
  obtain ⟨a, b, c, d⟩ := h
  obtain ⟨a2, b2, c2, d2⟩ := h2
  simp only [insB, a, b, c, d, a2, b2, c2, d2]
theorem apa_sam {f f' g g' : Fs} (h : sam f f') (h2 : sam g g') : apaB f g = apaB f' g' := by
  obtain ⟨a, b, c, d⟩ := h
  obtain ⟨a2, b2, c2, d2⟩ := h2
  simp only [apaB, a, b, c, d, a2, b2, c2, d2]
theorem okS_of {A A' : Ab} (h : okS A) (h1 : A'.1 = A.1) (h2 : ∀ i, i < A.1 → sam (A'.2.2.2.2 i) (A.2.2.2.2 i)) : okS A' := by
  intro i j hi hj hne
  rw [h1] at hi hj
  rw [ins_sam (h2 i hi) (h2 j hj), ins_sam (h2 j hj) (h2 i hi), apa_sam (h2 i hi) (h2 j hj)]
  exact h i j hi hj hne
theorem apa_comm (f g : Fs) : apaB f g = apaB g f := by
  simp only [apaB]
  cases decide (g 0 < f 0 + f 2) <;> cases decide (f 0 < g 0 + g 2) <;> cases decide (g 1 < f 1 + f 3) <;> cases decide (f 1 < g 1 + g 3) <;> rfl
theorem fitB_all {P : Nat → Fs} {f : Fs} : ∀ n, fitB P f n = true → ∀ k, k < n → okB f (P k) = true
  | 0, _, k, hk => absurd hk (Nat.not_lt_zero k)
  | n + 1, h, k, hk => by
    simp only [fitB, Bool.and_eq_true] at h
    rcases Nat.lt_succ_iff_lt_or_eq.mp hk with e | e
    · exact fitB_all n h.1 k e
    · rw [e]; exact h.2
theorem okB_or {f g : Fs} (h : okB f g = true) : insB f g = true ∨ insB g f = true ∨ apaB f g = true := by
  unfold okB at h
  by_cases a : insB f g = true
  · exact Or.inl a
  by_cases b : insB g f = true
  · exact Or.inr (Or.inl b)
  rw [Bool.not_eq_true] at a b
  rw [a, b] at h
  exact Or.inr (Or.inr h)
theorem okS_add {A : Ab} (h : okS A) {f : Fs} (hf : fitB A.2.2.2.2 f A.1 = true) : okS (A.1 + 1, A.2.1, A.2.2.1, A.2.2.2.1, updF A.2.2.2.2 A.1 f) := by
  intro i j hi hj hne
  have hi : i < A.1 + 1 := hi
  have hj : j < A.1 + 1 := hj
  show insB (updF A.2.2.2.2 A.1 f i) (updF A.2.2.2.2 A.1 f j) = true ∨ insB (updF A.2.2.2.2 A.1 f j) (updF A.2.2.2.2 A.1 f i) = true ∨ apaB (updF A.2.2.2.2 A.1 f i) (updF A.2.2.2.2 A.1 f j) = true
  by_cases e : i = A.1
  · have e2 : j ≠ A.1 := fun z => hne (e.trans z.symm)
    rw [e, updF_same, updF_ne _ _ e2]
    exact okB_or (fitB_all _ hf j (by omega))
  · by_cases e2 : j = A.1
    · rw [e2, updF_same, updF_ne _ _ e]
      rcases okB_or (fitB_all _ hf i (by omega)) with q | q | q
      · exact Or.inr (Or.inl q)
      · exact Or.inl q
      · rw [apa_comm] at q; exact Or.inr (Or.inr q)
    · rw [updF_ne _ _ e, updF_ne _ _ e2]
      exact h i j (by omega) (by omega) hne
/-! ranks -/
def rbV (f : Fs) : Int32 := if f 7 = -5 then 0 else (1 : Int32) <<< (f 7 &&& 31)
def rnkN (P : Nat → Fs) : Nat → Int32
  | 0 => 0
  | k + 1 => rnkN P k ||| rbV (P k)
def rkP (A : Ab) : Prop := (∀ i, i < A.1 → (A.2.2.2.2 i 7 = -5 ↔ A.2.2.2.2 i 5 ≠ 1) ∧ (A.2.2.2.2 i 5 ≠ 1 → A.2.2.2.2 i 6 = 0)) ∧ A.2.1 6 = cntN A.2.2.2.2 1 A.1 ∧ rnkN A.2.2.2.2 A.1 = ((1 : Int32) <<< (cntN A.2.2.2.2 1 A.1 &&& 31)) - 1
theorem cnt_c {P Q : Nat → Fs} {v : Int32} : ∀ n, (∀ k, k < n → (P k 5 = v ↔ Q k 5 = v)) → cntN P v n = cntN Q v n
  | 0, _ => rfl
  | n + 1, h => by
    simp only [cntN]
    rw [cnt_c n (fun k hk => h k (by omega))]
    by_cases e : P n 5 = v
    · rw [if_pos e, if_pos ((h n (by omega)).mp e)]
    · rw [if_neg e, if_neg (fun z => e ((h n (by omega)).mpr z))]
theorem cnt_up {P Q : Nat → Fs} {v : Int32} {i : Nat} (h0 : P i 5 ≠ v) (h1 : Q i 5 = v) : ∀ n, i < n → (∀ k, k < n → k ≠ i → (P k 5 = v ↔ Q k 5 = v)) → cntN Q v n = cntN P v n + 1
  | 0, hi, _ => absurd hi (Nat.not_lt_zero i)
  | n + 1, hi, h => by
    simp only [cntN]
    by_cases e : n = i
    · subst e
      rw [if_pos h1, if_neg h0, cnt_c n (fun k hk => h k (by omega) (by omega))]
    · have ih := cnt_up h0 h1 n (by omega) (fun k hk => h k (by omega))
      by_cases a : P n 5 = v
      · rw [if_pos a, if_pos ((h n (by omega) e).mp a), ih]
      · rw [if_neg a, if_neg (fun z => a ((h n (by omega) e).mpr z)), ih]
theorem rnk_c {P Q : Nat → Fs} : ∀ n, (∀ k, k < n → P k 7 = Q k 7) → rnkN P n = rnkN Q n
  | 0, _ => rfl
  | n + 1, h => by
    simp only [rnkN, rbV]
    rw [rnk_c n (fun k hk => h k (by omega)), h n (by omega)]
theorem rnk_up {P Q : Nat → Fs} {i : Nat} (h0 : P i 7 = -5) : ∀ n, i < n → (∀ k, k < n → k ≠ i → P k 7 = Q k 7) → rnkN Q n = rnkN P n ||| rbV (Q i)
  | 0, hi, _ => absurd hi (Nat.not_lt_zero i)
  | n + 1, hi, h => by
    by_cases e : n = i
    · subst e
      have e2 : rbV (P n) = 0 := by unfold rbV; rw [if_pos h0]
      simp only [rnkN]
      rw [e2, rnk_c n (fun k hk => h k (by omega) (by omega)), Int32.or_zero]
    · have ih := rnk_up h0 n (by omega) (fun k hk => h k (by omega))
      have e2 : rbV (Q n) = rbV (P n) := by unfold rbV; rw [h n (by omega) e]
      simp only [rnkN]
      rw [ih, e2, Int32.or_assoc, Int32.or_assoc, Int32.or_comm (rbV (Q i))]
/-- how many are so, as a number -/
def cnN (P : Nat → Fs) (v : Int32) : Nat → Nat
  | 0 => 0
  | k + 1 => if P k 5 = v then cnN P v k + 1 else cnN P v k
theorem cnN_le (P : Nat → Fs) (v : Int32) : ∀ n, cnN P v n ≤ n
  | 0 => Nat.le_refl 0
  | n + 1 => by
    have := cnN_le P v n
    simp only [cnN]
    split <;> omega
theorem cnN_eq (P : Nat → Fs) (v : Int32) : ∀ n, cntN P v n = nI (cnN P v n)
  | 0 => rfl
  | n + 1 => by
    have := cnN_eq P v n
    simp only [cnN, cntN]
    split
    · rw [this, inc_nI]
    · exact this
theorem bits_up : ∀ c, c < 13 → (((1 : Int32) <<< (nI c &&& 31)) - 1) ||| ((1 : Int32) <<< (nI c &&& 31)) = ((1 : Int32) <<< (nI (c + 1) &&& 31)) - 1 := by decide +kernel
/-! ticks -/
def tbP (t : Int) (A : Ab) : Prop := 0 ≤ (A.2.1 5).toInt ∧ (A.2.1 5).toInt ≤ (A.2.1 4).toInt ∧ (A.2.1 4).toInt ≤ t
/-- a sound value -/
def VB (t : Int) (A : Ab) : Prop := VA A ∧ okS A ∧ rkP A ∧ tbP t A
theorem VB.va {t : Int} {A : Ab} (h : VB t A) : VA A := h.1
theorem VB.mono {t t' : Int} {A : Ab} (h : VB t A) (ht : t ≤ t') : VB t' A := ⟨h.1, h.2.1, h.2.2.1, h.2.2.2.1, h.2.2.2.2.1, Int.le_trans h.2.2.2.2.2 ht⟩
section MORE
variable {A : Ab} {i : Nat} {t : Int}
theorem VB_cool (h : VB t A) (ht : t ≤ 1000000) {x : Int32} (hx : iR x 0 999) : VB (t + 999) (coolA A x) := by
  refine ⟨VA_cool h.1 hx, okS_of h.2.1 rfl (fun i _ => ⟨rfl, rfl, rfl, rfl⟩), h.2.2.1, ?_⟩
  obtain ⟨a, b, c⟩ := h.2.2.2
  obtain ⟨x1, x2⟩ := hx
  have e : (A.2.1 4 + x).toInt = (A.2.1 4).toInt + x.toInt := ti_add (by omega) (by omega)
  refine ⟨a, ?_, ?_⟩
  · show (A.2.1 5).toInt ≤ (A.2.1 4 + x).toInt
    rw [e]; omega
  · show (A.2.1 4 + x).toInt ≤ t + 999
    rw [e]; omega
theorem edg_in {f : Fs} (h : vF f) : iR (edgV f) 4 108 := by
  obtain ⟨h, -⟩ := h
  have e1 : (f 2 + f 3).toInt = (f 2).toInt + (f 3).toInt := ti_add (by omega) (by omega)
  have e2 : (2 * (f 2 + f 3)).toInt = 2 * ((f 2).toInt + (f 3).toInt) := by
    rw [ti_mul (by rw [t2, e1]; omega) (by rw [t2, e1]; omega), t2, e1]
  have e3 : (edgV f).toInt = 2 * ((f 2).toInt + (f 3).toInt) - 4 := by
    unfold edgV
    rw [ti_sub (by rw [e2, t4]; omega) (by rw [e2, t4]; omega), e2, t4]
  unfold iR
  rw [e3]
  omega
theorem bur_in (h : VA A) (hi : i < A.1) : iR (burV A i) 0 540 := by
  have hd := h.dt
  obtain ⟨e1, e2⟩ := edg_in (h.sh hi)
  unfold iR at hd
  have d1 : (A.2.1 3 / 4).toInt = (A.2.1 3).toInt / 4 := by rw [ti_div hd.1 (by decide), t4]
  have d2 : (2 + A.2.1 3 / 4).toInt = 2 + (A.2.1 3).toInt / 4 := by rw [ti_add (by rw [t2, d1]; omega) (by rw [t2, d1]; omega), t2, d1]
  have m := mul_in (a := (edgV (A.2.2.2.2 i)).toInt) (b := (2 + A.2.1 3 / 4).toInt) (x := 108) (y := 5) (by omega) e2 (by rw [d2]; omega) (by rw [d2]; omega) (by decide)
  unfold iR burV
  rw [ti_mul (by omega) (by omega)]
  omega
/-- what a cut does to the shapes -/
theorem cut_sh (A : Ab) (i : Nat) : ∃ c t, (c = A.2.1 6) ∧ (cutA A i).2.2.2.2 i = upd (upd (upd (A.2.2.2.2 i) 5 1) 7 c) 6 t ∧ ∀ q, q ≠ i → (cutA A i).2.2.2.2 q = A.2.2.2.2 q ∨ (A.2.2.2.2 q 5 = 0 ∧ (cutA A i).2.2.2.2 q = upd (A.2.2.2.2 q) 5 2) := by
  obtain ⟨t, hP⟩ : ∃ t, (preA A i).2.2.2.2 = updF A.2.2.2.2 i (upd (upd (upd (A.2.2.2.2 i) 5 1) 7 (A.2.1 6)) 6 t) := ⟨_, rfl⟩
  refine ⟨_, t, rfl, ?_, fun q hq => ?_⟩
  · show losP (preA A i).2.2.2.2 ((preA A i).2.2.2.2 i) A.1 i = _
    rw [losP_self, hP, updF_same]
  · show losP (preA A i).2.2.2.2 ((preA A i).2.2.2.2 i) A.1 q = _ ∨ (_ ∧ losP (preA A i).2.2.2.2 ((preA A i).2.2.2.2 i) A.1 q = _)
    have e2 : (preA A i).2.2.2.2 q = A.2.2.2.2 q := by rw [hP, updF_ne _ _ hq]
    by_cases e : q < A.1 ∧ (preA A i).2.2.2.2 q 5 = 0 ∧ insB ((preA A i).2.2.2.2 q) ((preA A i).2.2.2.2 i) = true
    · right
      refine ⟨by rw [← e2]; exact e.2.1, ?_⟩
      simp only [losP, if_pos e]
      rw [e2]
    · left
      simp only [losP, if_neg e]
      exact e2
theorem VB_cut (h : VB t A) (ht : t ≤ 1000000) (hi : i < A.1) (h0 : A.2.2.2.2 i 5 = 0) : VB (t + 999) (cutA A i) := by
  obtain ⟨c, tt, rfl, hci, hcq⟩ := cut_sh A i
  have hA := h.1
  obtain ⟨hr, hcu, hrn⟩ := h.2.2.1
  have n1 : A.2.2.2.2 i 5 ≠ 1 := by rw [h0]; decide
  have r7 := (hr i hi).1.mpr n1
  have hcc : cntN (cutA A i).2.2.2.2 1 A.1 = cntN A.2.2.2.2 1 A.1 + 1 := by
    refine cnt_up n1 (by rw [hci]; rfl) A.1 hi (fun k hk hne => ?_)
    rcases hcq k hne with e | ⟨e1, e2⟩
    · rw [e]
    · rw [e2, e1]
      show (0 : Int32) = 1 ↔ (2 : Int32) = 1
      decide
  have hle := cnN_le A.2.2.2.2 1 A.1
  have h12 := hA.le
  have hcv := cnN_eq A.2.2.2.2 1 A.1
  have h7 : (cutA A i).2.2.2.2 i 7 = nI (cnN A.2.2.2.2 1 A.1) := by rw [hci, ← hcv, ← hcu]; rfl
  have h7n : ¬ (cutA A i).2.2.2.2 i 7 = -5 := by rw [h7]; exact nI_ne5 (by omega)
  refine ⟨VA_cut hA hi h0, okS_of h.2.1 rfl (fun q _ => ?_), ⟨fun q hq => ?_, ?_, ?_⟩, ?_⟩
  · by_cases e : q = i
    · rw [e, hci]; exact ⟨rfl, rfl, rfl, rfl⟩
    · rcases hcq q e with e | ⟨-, e⟩
      · rw [e]; exact ⟨rfl, rfl, rfl, rfl⟩
      · rw [e]; exact ⟨rfl, rfl, rfl, rfl⟩
  · have hq : q < A.1 := hq
    by_cases e : q = i
    · subst e
      have h5 : (cutA A q).2.2.2.2 q 5 = 1 := by rw [hci]; rfl
      exact ⟨⟨fun z => absurd z h7n, fun z => absurd h5 z⟩, fun z => absurd h5 z⟩
    · rcases hcq q e with e | ⟨e1, e⟩
      · rw [e]; exact hr q hq
      · have n2 : A.2.2.2.2 q 5 ≠ 1 := by rw [e1]; decide
        rw [e]
        exact ⟨⟨fun _ => (show (2 : Int32) ≠ 1 by decide), fun _ => (hr q hq).1.mpr n2⟩, fun _ => (hr q hq).2 n2⟩
  · show A.2.1 6 + 1 = cntN (cutA A i).2.2.2.2 1 A.1
    rw [hcc, hcu]
  · show rnkN (cutA A i).2.2.2.2 A.1 = ((1 : Int32) <<< (cntN (cutA A i).2.2.2.2 1 A.1 &&& 31)) - 1
    have e1 := rnk_up (Q := (cutA A i).2.2.2.2) r7 A.1 hi (fun k hk hne => by
      rcases hcq k hne with e | ⟨-, e⟩
      · rw [e]
      · rw [e]; rfl)
    have e2 : rbV ((cutA A i).2.2.2.2 i) = (1 : Int32) <<< (nI (cnN A.2.2.2.2 1 A.1) &&& 31) := by
      unfold rbV
      rw [if_neg h7n, h7]
    rw [e1, e2, hrn, hcc, hcv, inc_nI]
    exact bits_up _ (by omega)
  · obtain ⟨a, b, c⟩ := h.2.2.2
    have w1 := way_in hA hi
    have w2 := bur_in hA hi
    unfold iR at w1 w2
    have e1 : (A.2.1 4 + wayV A i).toInt = (A.2.1 4).toInt + (wayV A i).toInt := ti_add (by omega) (by omega)
    have e2 : (A.2.1 4 + wayV A i + burV A i).toInt = (A.2.1 4).toInt + (wayV A i).toInt + (burV A i).toInt := by
      rw [ti_add (by rw [e1]; omega) (by rw [e1]; omega), e1]
    have e3 : (A.2.1 5 + burV A i).toInt = (A.2.1 5).toInt + (burV A i).toInt := ti_add (by omega) (by omega)
    refine ⟨?_, ?_, ?_⟩
    · show 0 ≤ (A.2.1 5 + burV A i).toInt
      rw [e3]; omega
    · show (A.2.1 5 + burV A i).toInt ≤ (A.2.1 4 + wayV A i + burV A i).toInt
      rw [e2, e3]; omega
    · show (A.2.1 4 + wayV A i + burV A i).toInt ≤ t + 999
      rw [e2]; omega
theorem le_999 (h : VB t A) : VB (t + 999) A := h.mono (by omega)
theorem VB_cutX (h : VB t A) (ht : t ≤ 1000000) (v : Int32) : VB (t + 999) (cutX A v).2 := by
  unfold cutX
  split
  · rename_i hk
    obtain ⟨i, hi, rfl, hc⟩ := knB_some h.1.le hk
    split
    · rename_i h2
      rw [hc] at h2 ⊢
      exact VB_cut h ht hi (why_5 h.1 hi h2)
    · exact le_999 h
  · exact le_999 h
theorem VB_waitX (h : VB t A) (ht : t ≤ 1000000) (v : Int32) : VB (t + 999) (waitX A v).2 := by
  unfold waitX
  split
  · rename_i hb
    have hb := betw_ti hb
    exact VB_cool h ht ⟨by have := hb.1; rw [t1] at this; omega, hb.2⟩
  · exact le_999 h
theorem VB_cleanX (h : VB t A) (ht : t ≤ 1000000) : VB (t + 999) (cleanX A).2 := by
  have hv := VA_cleanX h.1
  unfold cleanX at *
  split
  · exact le_999 h
  · rename_i h0
    rw [if_neg h0] at hv
    have e := VB_cool h ht (s0_9 h.1)
    exact ⟨hv, e.2.1, e.2.2.1, e.2.2.2⟩
theorem VB_setX (h : VB t A) (w v : Int32) : VB t (setX A w v).2 := by
  have hv := VA_setX h.1 w v
  unfold setX at *
  split
  · split
    · split
      · exact h
      · rename_i h1 h2 h3
        rw [if_pos h1, if_pos h2, if_neg h3] at hv
        exact ⟨hv, h.2.1, h.2.2.1, h.2.2.2⟩
    · exact h
  · exact h
theorem VB_leadX (h : VB t A) (v c : Int32) : VB t (leadX A v c).2 := by
  have hv := VA_leadX h.1 v c
  unfold leadX at *
  split
  · rename_i h1
    rw [if_pos h1] at hv
    split
    · rename_i h2
      rw [if_pos h2] at hv
      split
      · exact h
      · rename_i h3
        rw [if_neg h3] at hv
        have hs : ∀ q k, k ≠ 4 → updF A.2.2.2.2 v.toNatClampNeg (upd (A.2.2.2.2 v.toNatClampNeg) 4 c) q k = A.2.2.2.2 q k := by
          intro q k hk
          by_cases e : q = v.toNatClampNeg
          · rw [e, updF_same, upd_ne _ _ hk]
          · rw [updF_ne _ _ e]
        obtain ⟨r1, r2, r3⟩ := h.2.2.1
        refine ⟨hv, okS_of h.2.1 rfl (fun q _ => ⟨hs q 0 (by decide), hs q 1 (by decide), hs q 2 (by decide), hs q 3 (by decide)⟩), ⟨fun q hq => ?_, ?_, ?_⟩, h.2.2.2⟩
        · show (updF A.2.2.2.2 v.toNatClampNeg (upd (A.2.2.2.2 v.toNatClampNeg) 4 c) q 7 = -5 ↔ updF A.2.2.2.2 v.toNatClampNeg (upd (A.2.2.2.2 v.toNatClampNeg) 4 c) q 5 ≠ 1) ∧ (updF A.2.2.2.2 v.toNatClampNeg (upd (A.2.2.2.2 v.toNatClampNeg) 4 c) q 5 ≠ 1 → updF A.2.2.2.2 v.toNatClampNeg (upd (A.2.2.2.2 v.toNatClampNeg) 4 c) q 6 = 0)
          rw [hs q 7 (by decide), hs q 5 (by decide), hs q 6 (by decide)]
          exact r1 q hq
        · show A.2.1 6 = cntN (updF A.2.2.2.2 v.toNatClampNeg (upd (A.2.2.2.2 v.toNatClampNeg) 4 c)) 1 A.1
          rw [r2]
          exact cnt_c _ (fun k _ => by rw [hs k 5 (by decide)])
        · show rnkN (updF A.2.2.2.2 v.toNatClampNeg (upd (A.2.2.2.2 v.toNatClampNeg) 4 c)) A.1 = ((1 : Int32) <<< (cntN (updF A.2.2.2.2 v.toNatClampNeg (upd (A.2.2.2.2 v.toNatClampNeg) 4 c)) 1 A.1 &&& 31)) - 1
          rw [rnk_c (Q := A.2.2.2.2) _ (fun k _ => hs k 7 (by decide)), cnt_c (Q := A.2.2.2.2) _ (fun k _ => by rw [hs k 5 (by decide)])]
          exact r3
    · exact h
  · exact h
theorem VB_tellX (h : VB t A) (c r w hh : Int32) : VB t (tellX A c r w hh).2 := by
  have hv := VA_tellX h.1 c r w hh
  unfold tellX at *
  split
  · exact h
  · rename_i h1
    rw [if_neg h1] at hv
    split
    · rename_i h2
      rw [if_pos h2] at hv
      split
      · rename_i h3
        rw [if_pos h3] at hv
        obtain ⟨r1, r2, r3⟩ := h.2.2.1
        have hs : ∀ q, q < A.1 → updF A.2.2.2.2 A.1 (plF (fun _ => 0) c r w hh) q = A.2.2.2.2 q := fun q hq => updF_ne _ _ (by omega)
        have c1 : cntN (updF A.2.2.2.2 A.1 (plF (fun _ => 0) c r w hh)) 1 (A.1 + 1) = cntN A.2.2.2.2 1 A.1 := by
          simp only [cntN]
          rw [updF_same, if_neg (show ¬ plF (fun _ => 0) c r w hh 5 = 1 from (show ¬ (0 : Int32) = 1 by decide))]
          exact cnt_c _ (fun k hk => by rw [hs k hk])
        refine ⟨hv, okS_add h.2.1 h2, ⟨fun q hq => ?_, ?_, ?_⟩, h.2.2.2⟩
        · have hq : q < A.1 + 1 := hq
          show (updF A.2.2.2.2 A.1 (plF (fun _ => 0) c r w hh) q 7 = -5 ↔ updF A.2.2.2.2 A.1 (plF (fun _ => 0) c r w hh) q 5 ≠ 1) ∧ (updF A.2.2.2.2 A.1 (plF (fun _ => 0) c r w hh) q 5 ≠ 1 → updF A.2.2.2.2 A.1 (plF (fun _ => 0) c r w hh) q 6 = 0)
          by_cases e : q = A.1
          · rw [e, updF_same]
            exact ⟨⟨fun _ => (show (0 : Int32) ≠ 1 by decide), fun _ => rfl⟩, fun _ => rfl⟩
          · rw [hs q (by omega)]
            exact r1 q (by omega)
        · show A.2.1 6 = cntN (updF A.2.2.2.2 A.1 (plF (fun _ => 0) c r w hh)) 1 (A.1 + 1)
          rw [c1, r2]
        · show rnkN (updF A.2.2.2.2 A.1 (plF (fun _ => 0) c r w hh)) (A.1 + 1) = ((1 : Int32) <<< (cntN (updF A.2.2.2.2 A.1 (plF (fun _ => 0) c r w hh)) 1 (A.1 + 1) &&& 31)) - 1
          rw [c1, ← r3]
          simp only [rnkN]
          rw [updF_same, show rbV (plF (fun _ => 0) c r w hh) = 0 from rfl, Int32.or_zero]
          exact rnk_c _ (fun k hk => by rw [hs k hk])
      · exact h
    · exact h
end MORE
/-- what stands in the law's run: the sheet and its history are sound, there is no snapshot -/
def LV (t : Int) (w : Wt) : Prop := VB t w.1 ∧ (∀ A, A ∈ w.2.1 → VB t A) ∧ w.2.2.1 = none
theorem LV.mono {t t' : Int} {w : Wt} (h : LV t w) (ht : t ≤ t') : LV t' w := ⟨h.1.mono ht, fun A hA => (h.2.1 A hA).mono ht, h.2.2⟩
theorem LV_rec {t t' : Int} {w : Wt} (h : LV t w) (ht : t ≤ t') {r : Int32 × Ab} (hr : VB t' r.2) : LV t' (recX w r).2 := by
  have h := h.mono ht
  refine ⟨hr, fun A hA => ?_, h.2.2⟩
  have hA : A ∈ (if r.1 < 0 then w.2.1 else pushH w.2.1 w.1) := hA
  split at hA
  · exact h.2.1 A hA
  · unfold pushH at hA
    split at hA
    · rcases List.mem_append.mp hA with e | e
      · exact h.2.1 A (List.mem_of_mem_drop e)
      · rcases List.mem_singleton.mp e with rfl; exact h.1
    · rcases List.mem_append.mp hA with e | e
      · exact h.2.1 A e
      · rcases List.mem_singleton.mp e with rfl; exact h.1
/-- an act, then undo: the sheet is what it was -/
theorem push_len {h : List Ab} (A : Ab) (hl : h.length ≤ 4) : (pushH h A).length = if h.length = 4 then 4 else h.length + 1 := by
  unfold pushH
  split
  · rename_i e
    rw [List.length_append, List.length_drop, e]; rfl
  · rw [List.length_append]; rfl
theorem und_rec {t : Int} {w : Wt} (h : LV t w) (hl4 : w.2.1.length ≤ 4) {r : Int32 × Ab} (h0 : ¬ r.1 < 0) : (undX (recX w r).2).2.1 = w.1 ∧ ¬ (undX (recX w r).2).1 < 0 ∧ LV t (undX (recX w r).2).2 := by
  have e : (recX w r).2.2.1 = pushH w.2.1 w.1 := by simp only [recX, if_neg h0]
  have e2 : ∃ l, (recX w r).2.2.1 = l ++ [w.1] ∧ ∀ A, A ∈ l → A ∈ w.2.1 := by
    rw [e]
    unfold pushH
    split
    · exact ⟨_, rfl, fun A hA => List.mem_of_mem_drop hA⟩
    · exact ⟨_, rfl, fun A hA => hA⟩
  obtain ⟨l, hl, hm⟩ := e2
  have hg : (recX w r).2.2.1.getLast? = some w.1 := by rw [hl]; simp
  have hu : undX (recX w r).2 = (nI ((recX w r).2.2.1.length - 1), (w.1, (recX w r).2.2.1.dropLast, (recX w r).2.2.2)) := by
    unfold undX
    rw [hg]
  rw [hu, hl]
  refine ⟨rfl, ?_, h.1, fun A hA => ?_, h.2.2⟩
  · have hlen : (l ++ [w.1]).length ≤ 4 := by
      rw [← hl, e, push_len _ hl4]
      split <;> omega
    exact nI_pos (by omega)
  · have hA : A ∈ (l ++ [w.1]).dropLast := hA
    rw [List.dropLast_concat] at hA
    exact h.2.1 A (hm A hA)
