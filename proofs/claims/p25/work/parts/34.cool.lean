/-! waiting, and the order (written by hand) -/
section COOL
variable {A : Ab} {i : Nat} {x : Int32} {t : Int}
theorem hmx_cool (hV : VA A) (hx : iR x 0 999) (e : Fs) : ∀ k, k ≤ 12 → (hmx e (coolA A x).2.2.1 k).toInt = max ((hmx e A.2.2.1 k).toInt - x.toInt * (A.2.2.2.1 1).toInt) 0
  | 0, _ => by
    obtain ⟨h1, h2⟩ := xT_ti hV hx
    unfold iR at h2
    have e0 : (hmx e A.2.2.1 0).toInt = 0 := rfl
    have e1 : (hmx e (coolA A x).2.2.1 0).toInt = 0 := rfl
    rw [e0, e1]
    omega
  | k + 1, hk => by
    have ih := hmx_cool hV hx e k (by omega)
    obtain ⟨h1, h2⟩ := xT_ti hV hx
    have h3 := hV.ht (show k < 12 by omega)
    unfold iR at h2 h3
    have e2 : ((coolA A x).2.2.1 k).toInt = max ((A.2.2.1 k).toInt - x.toInt * (A.2.2.2.1 1).toInt) 0 := by
      rw [← h1]
      exact imx_ti ⟨h3.1, by omega⟩ ⟨h2.1, by omega⟩
    simp only [hmx]
    by_cases a : 0 < e k
    · rw [if_pos a, if_pos a, ti_imx, ti_imx, ih, e2]
      omega
    · rw [if_neg a, if_neg a]
      exact ih
theorem hov_cool (hV : VA A) (hx : iR x 0 999) : (hovV (coolA A x) i).toInt = max ((hovV A i).toInt + (A.2.2.2.1 2).toInt - x.toInt * (A.2.2.2.1 1).toInt) 0 - (A.2.2.2.1 2).toInt := by
  rw [hov_ti (VA_cool hV hx), hov_ti hV]
  have h := hmx_cool hV hx (edgQ (A.2.2.2.2 i)) 12 (by decide)
  have e : (hmx (edgQ ((coolA A x).2.2.2.2 i)) (coolA A x).2.2.1 12).toInt = (hmx (edgQ (A.2.2.2.2 i)) (coolA A x).2.2.1 12).toInt := rfl
  have e2 : ((coolA A x).2.2.2.1 2).toInt = (A.2.2.2.1 2).toInt := rfl
  rw [e, e2, h]
  omega
/-- neither cut nor lost, and no whole shape inside that bars it -/
def npS (A : Ab) (i : Nat) : Prop := A.2.2.2.2 i 5 ≠ 1 ∧ A.2.2.2.2 i 5 ≠ 2 ∧ ¬ (A.2.2.2.1 3 = 1 ∧ hoB A.2.2.2.2 (A.2.2.2.2 i) A.1 = true)
theorem np_of (h : whyV A i = 0 ∨ whyV A i = 4) : npS A i := by
  unfold whyV at h
  by_cases a : A.2.2.2.2 i 5 = 1
  · rw [if_pos a] at h
    rcases h with h | h <;> exact absurd h (by decide)
  rw [if_neg a] at h
  by_cases b : A.2.2.2.2 i 5 = 2
  · rw [if_pos b] at h
    rcases h with h | h <;> exact absurd h (by decide)
  rw [if_neg b] at h
  by_cases c : A.2.2.2.1 3 = 1 ∧ hoB A.2.2.2.2 (A.2.2.2.2 i) A.1 = true
  · rw [if_pos c] at h
    rcases h with h | h <;> exact absurd h (by decide)
  exact ⟨a, b, c⟩
theorem why_np (h : npS A i) : whyV A i = if wayV A i * A.2.2.2.1 1 < hovV A i then 4 else 0 := by
  obtain ⟨a, b, c⟩ := h
  unfold whyV
  rw [if_neg a, if_neg b, if_neg c]
theorem way_T (hV : VA A) (hi : i < A.1) : (wayV A i * A.2.2.2.1 1).toInt = (wayV A i).toInt * (A.2.2.2.1 1).toInt ∧ 0 ≤ (wayV A i).toInt * (A.2.2.2.1 1).toInt := by
  obtain ⟨h1, h2⟩ := xT_ti hV (way_9 hV hi)
  exact ⟨h1, by rw [← h1]; exact h2.1⟩
theorem why_cl (hV : VA A) (hi : i < A.1) (hx : iR x 0 999) (h : npS A i) : whyV (coolA A x) i = if (wayV A i).toInt * (A.2.2.2.1 1).toInt + x.toInt * (A.2.2.2.1 1).toInt < (hovV A i).toInt then 4 else 0 := by
  rw [why_np (A := coolA A x) h]
  have e1 := hov_cool (i := i) hV hx
  obtain ⟨e2, e3⟩ := way_T hV hi
  have e4 : wayV (coolA A x) i * (coolA A x).2.2.2.1 1 = wayV A i * A.2.2.2.1 1 := rfl
  have h2 := hV.s2.1
  rw [e4]
  by_cases c : (wayV A i).toInt * (A.2.2.2.1 1).toInt + x.toInt * (A.2.2.2.1 1).toInt < (hovV A i).toInt
  · rw [if_pos c, if_pos (by rw [ti_lt, e1, e2]; omega)]
  · rw [if_neg c, if_neg (by rw [ti_lt, e1, e2]; omega)]
theorem kc_9 (hV : VA A) (hi : i < A.1) (h : 0 < kcV A i) : iR (kcV A i) 1 768 := by
  have e := (kc_in hV hi).2
  rw [ti_lt, t0] at h
  exact ⟨by omega, e⟩
theorem cool_hit (hV : VA A) (hi : i < A.1) (h4 : whyV A i = 4) (hT : 0 < A.2.2.2.1 1) : whyV (coolA A (kcV A i)) i = 0 := by
  obtain ⟨k1, k2, k3⟩ := kc_ti hV hi h4 hT
  have k4 := kc_9 hV hi (kc_p hV hi h4 hT)
  rw [why_cl hV hi ⟨by have := k4.1; omega, by have := k4.2; omega⟩ (np_of (Or.inr h4))]
  rw [ti_lt, t0] at hT
  have hw := (way_in hV hi).1
  have c := cei_lt (x := (hovV A i).toInt) (w := cei (hovV A i).toInt (A.2.2.2.1 1).toInt) hT (by omega)
  have c2 := mt c.mpr (by omega)
  rw [if_neg]
  rw [k1, Int.sub_mul]
  omega
theorem cool_miss (hV : VA A) (hi : i < A.1) (h4 : whyV A i = 4) (hT : 0 < A.2.2.2.1 1) (h1 : kcV A i ≠ 1) : whyV (coolA A (kcV A i - 1)) i = 4 ∧ iR (kcV A i - 1) 1 999 := by
  obtain ⟨k1, k2, k3⟩ := kc_ti hV hi h4 hT
  have k4 := kc_9 hV hi (kc_p hV hi h4 hT)
  rw [ne_eq, ti_eq, t1] at h1
  unfold iR at k4
  have e : (kcV A i - 1).toInt = (kcV A i).toInt - 1 := by rw [ti_sub (by rw [t1]; omega) (by rw [t1]; omega), t1]
  have hr : iR (kcV A i - 1) 1 999 := by unfold iR; rw [e]; omega
  refine ⟨?_, hr⟩
  rw [why_cl hV hi ⟨by have := hr.1; omega, hr.2⟩ (np_of (Or.inr h4))]
  rw [ti_lt, t0] at hT
  have hw := (way_in hV hi).1
  have c := cei_lt (x := (hovV A i).toInt) (w := cei (hovV A i).toInt (A.2.2.2.1 1).toInt - 1) hT (by omega)
  have c2 := c.mp (by omega)
  rw [if_pos]
  rw [e, k1, Int.sub_mul, Int.sub_mul]
  rw [Int.sub_mul] at c2
  omega
theorem cool_least (hV : VA A) (hi : i < A.1) (hx : iR x 0 999) (h4 : whyV A i = 4) (h : whyV (coolA A x) i = 0) : 0 < A.2.2.2.1 1 ∧ (kcV A i).toInt ≤ x.toInt := by
  rw [why_cl hV hi hx (np_of (Or.inr h4))] at h
  have h0 : ¬ (wayV A i).toInt * (A.2.2.2.1 1).toInt + x.toInt * (A.2.2.2.1 1).toInt < (hovV A i).toInt := by
    intro z
    rw [if_pos z] at h
    exact absurd h (by decide)
  have d := why_4 h4
  rw [ti_lt, (way_T hV hi).1] at d
  have hT : 0 < A.2.2.2.1 1 := by
    rcases T_or hV with z | z
    · rw [z, t0] at h0 d
      simp only [Int.mul_zero] at h0 d
      omega
    · exact z
  refine ⟨hT, ?_⟩
  obtain ⟨k1, k2, k3⟩ := kc_ti hV hi h4 hT
  rw [ti_lt, t0] at hT
  have hw := (way_in hV hi).1
  have c := cei_lt (x := (hovV A i).toInt) (w := (wayV A i).toInt + x.toInt) hT (by have := hx.1; omega)
  rw [Int.add_mul] at c
  have c2 := mt c.mp h0
  omega
theorem bes_no (h : besO A A.1 = none) {k : Nat} (hk : k < A.1) : whyV A k ≠ 0 := by
  have e := isB_up A A.1
  rw [h] at e
  exact e k (Nat.zero_le _) hk
/-- where no shape can be cut, but one could by waiting: the one that is taken then waits just so long -/
theorem few_ok (hV : VA A) (hb : besO A A.1 = none) (hf : ¬ fewV A A.1 = -5) : ∃ q, besO (coolA A (fewV A A.1)) A.1 = some q ∧ q < A.1 ∧ kcV A q = fewV A A.1 ∧ iR (fewV A A.1) 1 768 := by
  rcases isF_up A A.1 with ⟨e, -⟩ | ⟨f0, ⟨k, hk, ek⟩, hm⟩
  · exact absurd e hf
  have w0 := bes_no hb hk
  have w4 : whyV A k = 4 := by
    by_cases z : whyV A k = 4
    · exact z
    · rw [kc_n w0 z] at ek
      rw [← ek] at f0
      exact absurd (by decide) f0
  have hT : 0 < A.2.2.2.1 1 := by
    by_cases z : 0 < A.2.2.2.1 1
    · exact z
    · rw [kc_z w4 z] at ek
      exact absurd ek.symm hf
  have hit := cool_hit hV hk w4 hT
  have kr := kc_9 hV hk (kc_p hV hk w4 hT)
  rw [ek] at hit kr
  have hx : iR (fewV A A.1) 0 999 := ⟨by have := kr.1; omega, by have := kr.2; omega⟩
  rcases hb2 : besO (coolA A (fewV A A.1)) A.1 with _ | q
  · exact absurd hit (bes_no (A := coolA A (fewV A A.1)) hb2 hk)
  · have hq := besO_lt hb2
    have hq0 := besO_why hb2
    have n1 := bes_no hb hq
    have np : npS A q := np_of (A := coolA A (fewV A A.1)) (Or.inl hq0)
    have q4 : whyV A q = 4 := by
      have e := why_np np
      by_cases z : wayV A q * A.2.2.2.1 1 < hovV A q
      · rw [if_pos z] at e; exact e
      · rw [if_neg z] at e; exact absurd e n1
    have l := (cool_least hV hq hx q4 hq0).2
    have p := kc_p hV hq q4 hT
    rw [ti_lt, t0] at p
    refine ⟨q, rfl, hq, ?_, kr⟩
    rcases hm q hq with z | z
    · rw [ti_lt, t0] at z; omega
    · rw [ti_eq]; omega
theorem next_cases (hV : VA A) : (∃ q, besO A A.1 = some q ∧ q < A.1 ∧ whyV A q = 0 ∧ nextX A = (some q, cutA A q)) ∨ (nextX A = (none, A)) ∨ (besO A A.1 = none ∧ ∃ q f, f = kcV A q ∧ iR f 1 768 ∧ q < A.1 ∧ besO (coolA A f) A.1 = some q ∧ whyV (coolA A f) q = 0 ∧ nextX A = (some q, cutA (coolA A f) q)) := by
  rcases hb : besO A A.1 with _ | q
  · by_cases hf : fewV A A.1 = -5
    · exact Or.inr (Or.inl (nextX_2 hb hf))
    · obtain ⟨q, h1, h2, h3, h4⟩ := few_ok hV hb hf
      exact Or.inr (Or.inr ⟨rfl, q, _, h3.symm, h4, h2, h1, besO_why h1, nextX_3 hb hf h1⟩)
  · exact Or.inl ⟨q, rfl, besO_lt hb, besO_why hb, nextX_1 hb⟩
theorem tick_cut (hB : VB t A) (ht : t ≤ 1000000) (hi : i < A.1) : (A.2.1 4).toInt ≤ ((cutA A i).2.1 4).toInt := by
  obtain ⟨a, b, c⟩ := hB.2.2.2
  have w1 := way_in hB.1 hi
  have w2 := bur_in hB.1 hi
  unfold iR at w1 w2
  have e1 : (A.2.1 4 + wayV A i).toInt = (A.2.1 4).toInt + (wayV A i).toInt := ti_add (by omega) (by omega)
  have e2 : (A.2.1 4 + wayV A i + burV A i).toInt = (A.2.1 4).toInt + (wayV A i).toInt + (burV A i).toInt := by
    rw [ti_add (by rw [e1]; omega) (by rw [e1]; omega), e1]
  show (A.2.1 4).toInt ≤ (A.2.1 4 + wayV A i + burV A i).toInt
  rw [e2]; omega
theorem tick_cool (hB : VB t A) (ht : t ≤ 1000000) (hx : iR x 0 999) : (A.2.1 4).toInt ≤ ((coolA A x).2.1 4).toInt := by
  obtain ⟨a, b, c⟩ := hB.2.2.2
  obtain ⟨x1, x2⟩ := hx
  have e : (A.2.1 4 + x).toInt = (A.2.1 4).toInt + x.toInt := ti_add (by omega) (by omega)
  show (A.2.1 4).toInt ≤ (A.2.1 4 + x).toInt
  rw [e]; omega
theorem f_9 {f : Int32} (h : iR f 1 768) : iR f 0 999 := ⟨by have := h.1; omega, by have := h.2; omega⟩
theorem VB_next (hB : VB t A) (ht : t ≤ 900000) : VB (t + 1998) (nextX A).2 ∧ (A.2.1 4).toInt ≤ ((nextX A).2.2.1 4).toInt ∧ (nextX A).2.1 = A.1 := by
  rcases next_cases hB.1 with ⟨q, h1, h2, h3, h4⟩ | h4 | ⟨h0, q, f, rfl, h2, h3, h4, h5, h6⟩
  · rw [h4]
    exact ⟨(VB_cut hB (by omega) h2 (why_5 hB.1 h2 h3)).mono (by omega), tick_cut hB (by omega) h2, rfl⟩
  · rw [h4]
    exact ⟨hB.mono (by omega), Int.le_refl _, rfl⟩
  · rw [h6]
    have hC := VB_cool hB (by omega) (f_9 h2)
    refine ⟨(VB_cut hC (by omega) h3 (why_5 hC.1 h3 h5)).mono (by omega), ?_, rfl⟩
    exact Int.le_trans (tick_cool hB (by omega) (f_9 h2)) (tick_cut hC (by omega) h3)
/-- the sheet behind k steps of the order -/
def stA (A : Ab) : Nat → Ab
  | 0 => A
  | k + 1 => (nextX (stA A k)).2
def ordK (A : Ab) (k : Nat) : Prop := ∀ m, m < k → ordV A m ≠ -5
theorem oV_n (h : oV (none : Option Nat) ≠ -5) : False := h rfl
theorem next_some (h : oV (nextX A).1 ≠ -5) : ∃ q, (nextX A).1 = some q := by
  rcases e : (nextX A).1 with _ | q
  · rw [e] at h; exact (oV_n h).elim
  · exact ⟨q, rfl⟩
theorem ord_st : ∀ k, ordK A k → (∀ d, ordV A (k + d) = ordV (stA A k) d) ∧ ∀ d, finA A (k + d) = finA (stA A k) d
  | 0, _ => ⟨fun d => by rw [Nat.zero_add]; rfl, fun d => by rw [Nat.zero_add]; rfl⟩
  | k + 1, h => by
    obtain ⟨i1, i2⟩ := ord_st k (fun m hm => h m (by omega))
    have hk := h k (by omega)
    have e0 := i1 0
    rw [Nat.add_zero] at e0
    rw [e0] at hk
    obtain ⟨q, hq⟩ := next_some (A := stA A k) hk
    refine ⟨fun d => ?_, fun d => ?_⟩
    · rw [show k + 1 + d = k + (d + 1) by omega, i1, ordV_s hq]; rfl
    · rw [show k + 1 + d = k + (d + 1) by omega, i2, finA_s hq]; rfl
theorem st_VB (hB : VB t A) (ht : t + 24000 ≤ 900000) : ∀ k : Nat, k ≤ 12 → VB (t + 1998 * (k : Int)) (stA A k) ∧ (A.2.1 4).toInt ≤ ((stA A k).2.1 4).toInt ∧ (stA A k).1 = A.1
  | 0, _ => ⟨hB.mono (by omega), Int.le_refl _, rfl⟩
  | k + 1, hk => by
    obtain ⟨i1, i2, i3⟩ := st_VB hB ht k (by omega)
    obtain ⟨n1, n2, n3⟩ := VB_next i1 (by omega)
    exact ⟨n1.mono (by omega), Int.le_trans i2 n2, n3.trans i3⟩
theorem st_nc (hB : VB t A) (ht : t + 24000 ≤ 900000) : ∀ k, k ≤ 12 → ordK A k → ncN A.2.2.2.2 A.1 + k ≤ ncN (stA A k).2.2.2.2 (stA A k).1
  | 0, _, _ => Nat.le_refl _
  | k + 1, hk, h => by
    have ih := st_nc hB ht k (by omega) (fun m hm => h m (by omega))
    have hv := (st_VB hB ht k (by omega)).1.1
    have hk := h k (by omega)
    have e0 := (ord_st k (fun m hm => h m (by omega))).1 0
    rw [Nat.add_zero] at e0
    rw [e0] at hk
    obtain ⟨q, hq⟩ := next_some (A := stA A k) hk
    have n := next_nc hv hq
    show _ ≤ ncN (nextX (stA A k)).2.2.2.2.2 (nextX (stA A k)).2.1
    omega
theorem cn_nc (P : Nat → Fs) : ∀ n, cnN P 0 n + ncN P n = n
  | 0 => rfl
  | n + 1 => by
    have ih := cn_nc P n
    simp only [cnN, ncN]
    by_cases e : P n 5 = 0
    · rw [if_pos e]
      simp only [e, if_true, not_true_eq_false, if_false, ne_eq]
      omega
    · rw [if_neg e]
      simp only [e, if_false, not_false_eq_true, if_true, ne_eq]
      omega
/-- there are not more in the order than whole ones -/
theorem st_many (hB : VB t A) (ht : t + 24000 ≤ 900000) {k : Nat} (hk : k ≤ 12) (h : ordK A k) : ¬ cntN A.2.2.2.2 0 A.1 < nI k := by
  have e := st_nc hB ht k hk h
  have e2 := cn_nc A.2.2.2.2 A.1
  have e3 := ncN_le (stA A k).2.2.2.2 (stA A k).1
  have e4 := (st_VB hB ht k hk).2.2
  have h12 := hB.1.le
  have e5 := cnN_le A.2.2.2.2 0 A.1
  rw [cnN_eq, nI_ltI (by omega) (by omega)]
  omega
/-- the last sheet -/
theorem st_end (hB : VB t A) (ht : t + 24000 ≤ 900000) {k : Nat} (hk : k ≤ 12) (h : ordK A k) (he : k = 12 ∨ ordV A k = -5) : finA A 12 = stA A k := by
  obtain ⟨o1, o2⟩ := ord_st k h
  have e := o2 (12 - k)
  rw [show k + (12 - k) = 12 by omega] at e
  rw [e]
  rcases Nat.lt_or_ge k 12 with hl | hl
  · have h5 : ordV A k = -5 := he.resolve_left (by omega)
    have e0 := o1 0
    rw [Nat.add_zero, h5] at e0
    have hv := (st_VB hB ht k hk).1.1
    have hn := nextX_none hv.le e0.symm
    rw [show 12 - k = (11 - k) + 1 by omega, finA_n hn]
    rcases next_cases hv with ⟨q, -, -, -, h4⟩ | h4 | ⟨-, q, f, -, -, -, -, -, h4⟩
    · rw [h4] at hn; cases hn
    · rw [h4]
    · rw [h4] at hn; cases hn
  · rw [show 12 - k = 0 by omega]; rfl
/-- what all takes -/
theorem all_take (hB : VB t A) (ht : t + 24000 ≤ 900000) {k : Nat} (hk : k ≤ 12) (h : ordK A k) (he : k = 12 ∨ ordV A k = -5) : (cntN (stA A k).2.2.2.2 0 (stA A k).1 = 0 ∧ ¬ allX A = -5 ∧ (stA A k).2.1 4 = A.2.1 4 + allX A) ∨ (0 < cntN (stA A k).2.2.2.2 0 (stA A k).1 ∧ allX A = -5) := by
  have e := st_end hB ht hk h he
  obtain ⟨v1, v2, v3⟩ := st_VB hB ht k hk
  unfold allX
  rw [e]
  by_cases c : cntN (stA A k).2.2.2.2 0 (stA A k).1 = 0
  · left
    rw [if_pos c]
    obtain ⟨a1, a2, a3⟩ := v1.2.2.2
    obtain ⟨b1, b2, b3⟩ := hB.2.2.2
    refine ⟨c, fun z => ?_, ?_⟩
    · have e5 : ((stA A k).2.1 4 - A.2.1 4).toInt = ((stA A k).2.1 4).toInt - (A.2.1 4).toInt := ti_sub (by omega) (by omega)
      rw [z] at e5
      have : (-5 : Int32).toInt = -5 := rfl
      omega
    · rw [Int32.add_comm, Int32.sub_add_cancel]
  · right
    rw [if_neg c]
    refine ⟨?_, rfl⟩
    have h12 := v1.1.le
    have e5 := cnN_le (stA A k).2.2.2.2 0 (stA A k).1
    have e6 : (nI (cnN (stA A k).2.2.2.2 0 (stA A k).1)).toInt = (cnN (stA A k).2.2.2.2 0 (stA A k).1 : Int) := nI_toInt (by omega)
    rw [cnN_eq] at c ⊢
    rw [ti_eq, t0, e6] at c
    rw [ti_lt, t0, e6]
    omega
theorem los_nI (P : Nat → Fs) (f : Fs) : ∀ n, ∃ c, c ≤ n ∧ losN P f n = nI c
  | 0 => ⟨0, Nat.le_refl _, rfl⟩
  | n + 1 => by
    obtain ⟨c, h1, h2⟩ := los_nI P f n
    simp only [losN]
    split
    · exact ⟨c + 1, by omega, by rw [h2, inc_nI]⟩
    · exact ⟨c, by omega, h2⟩
theorem cut_X (hV : VA A) (hi : i < A.1) (h : whyV A i = 0) : cutX A (nI i) = (cutN A i, cutA A i) ∧ ¬ cutN A i < 0 := by
  obtain ⟨e1, e2⟩ := kn_t hV.le hi
  refine ⟨by unfold cutX; rw [if_pos e1, e2, if_pos h], ?_⟩
  obtain ⟨c, h1, h2⟩ := los_nI (preA A i).2.2.2.2 ((preA A i).2.2.2.2 i) A.1
  have h12 := hV.le
  unfold cutN
  rw [h2]
  exact nI_pos (by omega)
theorem wait_X (hV : VA A) (hx : iR x 1 999) : waitX A x = (grV (coolA A x), coolA A x) ∧ ¬ grV (coolA A x) < 0 := by
  have hC := VA_cool hV (x := x) ⟨by have := hx.1; omega, hx.2⟩
  have hb : betw x 1 999 = true := by
    have k9 : (999 : Int32).toInt = 999 := rfl
    obtain ⟨x1, x2⟩ := hx
    simp only [betw, Bool.and_eq_true, Bool.not_eq_true', decide_eq_false_iff_not, ti_lt, t1, k9]
    omega
  refine ⟨by unfold waitX; rw [if_pos hb], ?_⟩
  exact ht_0 hC (hot_A hC).1
end COOL
