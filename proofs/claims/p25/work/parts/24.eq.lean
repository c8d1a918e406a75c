/-! a sound value; the reference's ways of reckoning are the class's -/
def ncN (P : Nat → Fs) : Nat → Nat
  | 0 => 0
  | k + 1 => ncN P k + (if P k 5 = 0 then 0 else 1)
theorem ncN_le (P : Nat → Fs) : ∀ k, ncN P k ≤ k
  | 0 => Nat.le_refl 0
  | k + 1 => by
    have := ncN_le P k
    simp only [ncN]
    split <;> omega
def iR (x : Int32) (a b : Int) : Prop := a ≤ x.toInt ∧ x.toInt ≤ b
def VA (A : Ab) : Prop := A.1 ≤ 12 ∧ (∀ i, i < A.1 → vF (A.2.2.2.2 i)) ∧ (iR (A.2.1 1) 0 31 ∧ iR (A.2.1 2) 0 23) ∧ iR (A.2.1 3) 0 (ncN A.2.2.2.2 A.1) ∧ (iR (A.2.2.2.1 0) 1 99 ∧ iR (A.2.2.2.1 1) 0 20 ∧ iR (A.2.2.2.1 2) 0 999 ∧ iR (A.2.2.2.1 3) 0 1) ∧ ∀ k, k < 12 → iR (A.2.2.1 k) 0 (64 * ncN A.2.2.2.2 A.1)
theorem VA.le {A : Ab} (h : VA A) : A.1 ≤ 12 := h.1
theorem VA.sh {A : Ab} (h : VA A) {i : Nat} (hi : i < A.1) : vF (A.2.2.2.2 i) := h.2.1 i hi
theorem VA.nc {A : Ab} (h : VA A) : ncN A.2.2.2.2 A.1 ≤ 12 := Nat.le_trans (ncN_le _ _) h.1
theorem VA.ht {A : Ab} (h : VA A) {k : Nat} (hk : k < 12) : iR (A.2.2.1 k) 0 768 := by
  have h1 := h.nc
  obtain ⟨h2, h3⟩ := h.2.2.2.2.2 k hk
  exact ⟨h2, by omega⟩
theorem VA.s0 {A : Ab} (h : VA A) : iR (A.2.2.2.1 0) 1 99 := h.2.2.2.2.1.1
theorem VA.s1 {A : Ab} (h : VA A) : iR (A.2.2.2.1 1) 0 20 := h.2.2.2.2.1.2.1
theorem VA.s2 {A : Ab} (h : VA A) : iR (A.2.2.2.1 2) 0 999 := h.2.2.2.2.1.2.2.1
theorem VA.s3 {A : Ab} (h : VA A) : iR (A.2.2.2.1 3) 0 1 := h.2.2.2.2.1.2.2.2
theorem VA.cl {A : Ab} (h : VA A) : iR (A.2.1 1) 0 31 := h.2.2.1.1
theorem VA.rw {A : Ab} (h : VA A) : iR (A.2.1 2) 0 23 := h.2.2.1.2
theorem VA.dt {A : Ab} (h : VA A) : iR (A.2.1 3) 0 12 := by
  have h1 := h.nc
  obtain ⟨h2, h3⟩ := h.2.2.2.1
  exact ⟨h2, by omega⟩
section SOUND
variable {A : Ab} {i : Nat}
def wayR (A : Ab) (i : Nat) : Int32 := offV (lcV (A.2.2.2.2 i)) (A.2.1 1) + offV (lrV (A.2.2.2.2 i)) (A.2.1 2)
theorem wayR_eq (hV : VA A) (hi : i < A.1) : wayR A i = wayV A i := by
  have e1 := lcV_in (hV.sh hi)
  have e2 := lrV_in (hV.sh hi)
  have e3 := hV.cl
  have e4 := hV.rw
  unfold iR at e3 e4
  unfold wayR wayV
  rw [offV_eq ⟨e1.1, by omega⟩ ⟨e3.1, by omega⟩, offV_eq ⟨e2.1, by omega⟩ ⟨e4.1, by omega⟩]
theorem way_in (hV : VA A) (hi : i < A.1) : iR (wayV A i) 0 54 := by
  have e1 := lcV_in (hV.sh hi)
  have e2 := lrV_in (hV.sh hi)
  have e3 := hV.cl
  have e4 := hV.rw
  unfold iR at *
  have s1 := ti_sub (a := lcV (A.2.2.2.2 i)) (b := A.2.1 1) (by omega) (by omega)
  have s2 := ti_sub (a := lrV (A.2.2.2.2 i)) (b := A.2.1 2) (by omega) (by omega)
  have a1 := ti_iab (a := lcV (A.2.2.2.2 i) - A.2.1 1) (by omega)
  have a2 := ti_iab (a := lrV (A.2.2.2.2 i) - A.2.1 2) (by omega)
  have b1 : 0 ≤ (iab (lcV (A.2.2.2.2 i) - A.2.1 1)).toInt ∧ (iab (lcV (A.2.2.2.2 i) - A.2.1 1)).toInt ≤ 31 := by rw [a1]; split <;> omega
  have b2 : 0 ≤ (iab (lrV (A.2.2.2.2 i) - A.2.1 2)).toInt ∧ (iab (lrV (A.2.2.2.2 i) - A.2.1 2)).toInt ≤ 23 := by rw [a2]; split <;> omega
  unfold wayV
  rw [ti_add (by omega) (by omega)]
  omega
theorem mul_in {a b : Int} {x y : Int} (h1 : 0 ≤ a) (h2 : a ≤ x) (h3 : 0 ≤ b) (h4 : b ≤ y) (hx : 0 ≤ x) : 0 ≤ a * b ∧ a * b ≤ x * y := ⟨Int.mul_nonneg h1 h3, Int.mul_le_mul h2 h4 h3 hx⟩
theorem xT_ti (hV : VA A) {x : Int32} (hx : iR x 0 999) : (x * A.2.2.2.1 1).toInt = x.toInt * (A.2.2.2.1 1).toInt ∧ iR (x * A.2.2.2.1 1) 0 19980 := by
  have h := hV.s1
  unfold iR at *
  have c := mul_in hx.1 hx.2 h.1 h.2 (by decide)
  have e := ti_mul (a := x) (b := A.2.2.2.1 1) (by omega) (by omega)
  exact ⟨e, by omega⟩
def clV (h b : Int32) : Int32 := if b < h then h - b else 0
theorem clV_ti {h b : Int32} (hh : iR h 0 100000) (hb : iR b 0 100000) : (clV h b).toInt = max (h.toInt - b.toInt) 0 := by
  unfold iR at *
  have e := ti_sub (a := h) (b := b) (by omega) (by omega)
  unfold clV
  simp only [ti_lt]
  split
  · rw [e]; omega
  · rw [t0]; omega
theorem imx_ti {h b : Int32} (hh : iR h 0 100000) (hb : iR b 0 100000) : (imx (h - b) 0).toInt = max (h.toInt - b.toInt) 0 := by
  unfold iR at *
  have e := ti_sub (a := h) (b := b) (by omega) (by omega)
  rw [ti_imx, e, t0]
theorem clV_eq {h b : Int32} (hh : iR h 0 100000) (hb : iR b 0 100000) : clV h b = imx (h - b) 0 := by
  rw [ti_eq, clV_ti hh hb, imx_ti hh hb]
theorem cool_eq (hV : VA A) {x : Int32} (hx : iR x 0 999) {k : Nat} (hk : k < 12) : clV (A.2.2.1 k) (x * A.2.2.2.1 1) = imx (A.2.2.1 k - x * A.2.2.2.1 1) 0 := by
  have h1 := hV.ht hk
  have h2 := (xT_ti hV hx).2
  unfold iR at *
  exact clV_eq ⟨h1.1, by omega⟩ ⟨h2.1, by omega⟩
/-! the hottest -/
def htN (H : Fs) : Nat → Int32
  | 0 => 0
  | k + 1 => if htN H k < H k then H k else htN H k
theorem hot_all {H : Fs} (h : ∀ k, k < 12 → 0 ≤ (H k).toInt) : ∀ k, k < 12 → htN H (k + 1) = H (hotN H (k + 1)) ∧ hotN H (k + 1) ≤ k ∧ (∀ q, q ≤ k → (H q).toInt ≤ (H (hotN H (k + 1))).toInt) ∧ ∀ q, q < hotN H (k + 1) → (H q).toInt < (H (hotN H (k + 1))).toInt := by
  intro k
  induction k with
  | zero =>
    intro _
    have h0 := h 0 (by decide)
    have e1 : hotN H 1 = 0 := by
      show (if H (hotN H 0) < H 0 then 0 else hotN H 0) = 0
      split <;> rfl
    rw [e1]
    refine ⟨?_, Nat.le_refl 0, fun q hq => by rw [show q = 0 by omega]; exact Int.le_refl _, fun q hq => absurd hq (Nat.not_lt_zero q)⟩
    show (if htN H 0 < H 0 then H 0 else htN H 0) = H 0
    split
    · rfl
    · rename_i h1
      have h1 : ¬ (0 : Int32) < H 0 := h1
      show (0 : Int32) = H 0
      rw [ti_lt, t0] at h1
      rw [ti_eq, t0]; omega
  | succ k ih =>
    intro hk
    obtain ⟨i1, i2, i3, i4⟩ := ih (by omega)
    rw [htN, hotN, i1]
    by_cases c : H (hotN H (k + 1)) < H (k + 1)
    · rw [if_pos c, if_pos c]
      rw [ti_lt] at c
      refine ⟨rfl, Nat.le_refl _, fun q hq => ?_, fun q hq => ?_⟩
      · by_cases e : q = k + 1
        · subst e; exact Int.le_refl _
        · have := i3 q (by omega); omega
      · have := i3 q (by omega); omega
    · rw [if_neg c, if_neg c]
      rw [ti_lt] at c
      refine ⟨rfl, by omega, fun q hq => ?_, i4⟩
      by_cases e : q = k + 1
      · subst e; omega
      · exact i3 q (by omega)
theorem hott_eq (hV : VA A) : htN A.2.2.1 12 = grV A := (hot_all (fun k hk => (hV.ht hk).1) 11 (by decide)).1
/-! too hot -/
theorem hmx_in (hV : VA A) (e : Fs) : ∀ k, k ≤ 12 → iR (hmx e A.2.2.1 k) 0 768
  | 0, _ => (show iR 0 0 768 from ⟨by decide, by decide⟩)
  | k + 1, hk => by
    have ih := hmx_in hV e k (by omega)
    have h1 := hV.ht (show k < 12 by omega)
    unfold iR at *
    simp only [hmx]
    split
    · rw [ti_imx]; omega
    · exact ih
theorem hov_ti (hV : VA A) : (hovV A i).toInt = (hmx (edgQ (A.2.2.2.2 i)) A.2.2.1 12).toInt - (A.2.2.2.1 2).toInt := by
  have h1 := hmx_in hV (edgQ (A.2.2.2.2 i)) 12 (by decide)
  have h2 := hV.s2
  unfold iR at *
  exact ti_sub (by omega) (by omega)
def tooN (A : Ab) (e : Fs) (b : Int32) : Nat → Bool
  | 0 => false
  | k + 1 => tooN A e b k || (decide (0 < e k) && decide (A.2.2.2.1 2 < clV (A.2.2.1 k) b))
theorem tooN_eq (hV : VA A) (e : Fs) {b : Int32} (hb : iR b 0 19980) : ∀ k, k ≤ 12 → (tooN A e b k = true ↔ b.toInt + (A.2.2.2.1 2).toInt < (hmx e A.2.2.1 k).toInt)
  | 0, _ => by
    have h2 := hV.s2
    unfold iR at *
    simp only [tooN, hmx, t0]
    constructor
    · intro h; cases h
    · intro h; omega
  | k + 1, hk => by
    have ih := tooN_eq hV e hb k (by omega)
    have h1 := hV.ht (show k < 12 by omega)
    have h2 := hV.s2
    unfold iR at *
    have c := clV_ti (h := A.2.2.1 k) (b := b) ⟨h1.1, by omega⟩ ⟨hb.1, by omega⟩
    simp only [tooN, hmx, Bool.or_eq_true, Bool.and_eq_true, decide_eq_true_eq]
    rw [ih]
    by_cases he : 0 < e k
    · simp only [he, if_true, true_and]
      rw [ti_imx, ti_lt, c]; omega
    · simp only [he, if_false, false_and, or_false]
theorem too_eq (hV : VA A) (hi : i < A.1) : tooN A (edgQ (A.2.2.2.2 i)) (wayV A i * A.2.2.2.1 1) 12 = decide (wayV A i * A.2.2.2.1 1 < hovV A i) := by
  have hw := way_in hV hi
  have hx := (xT_ti hV (x := wayV A i) ⟨hw.1, by have := hw.2; omega⟩).2
  rw [Bool.eq_iff_iff, tooN_eq hV _ hx 12 (by decide), decide_eq_true_eq, ti_lt, hov_ti hV]
  omega
/-! how long to wait -/
def wfN (e H : Fs) (t T : Int32) : Nat → Int32
  | 0 => 0
  | k + 1 => if 0 < H k - t ∧ 0 < e k then (if wfN e H t T k < (H k - t + T - 1) / T then (H k - t + T - 1) / T else wfN e H t T k) else wfN e H t T k
def cei (x T : Int) : Int := if 0 < x then (x + T - 1) / T else 0
theorem cei_in {x T : Int} (hT : 0 < T) (hx : x ≤ 768) : 0 ≤ cei x T ∧ cei x T ≤ 768 := by
  unfold cei
  split
  · rename_i h
    refine ⟨Int.ediv_nonneg (by omega) (by omega), ?_⟩
    have : (x + T - 1) / T < 769 := by
      rw [Int.ediv_lt_iff_lt_mul hT]
      have : (769 - x) * 1 ≤ (769 - x) * T := Int.mul_le_mul_of_nonneg_left (by omega) (by omega)
      have h3 : 769 * T = (769 - x) * T + x * T := by rw [← Int.add_mul]; congr 1; omega
      have h4 : x * 1 ≤ x * T := Int.mul_le_mul_of_nonneg_left (by omega) (by omega)
      have h5 : 1 * T ≤ (769 - x) * T := Int.mul_le_mul_of_nonneg_right (by omega) (by omega)
      omega
    omega
  · omega
theorem cei_mono {x y T : Int} (hT : 0 < T) (h : x ≤ y) : cei x T ≤ cei y T := by
  unfold cei
  split
  · rw [if_pos (by omega)]
    exact Int.ediv_le_ediv hT (by omega)
  · split
    · exact Int.ediv_nonneg (by omega) (by omega)
    · exact Int.le_refl _
theorem cei_pos {x T : Int} (hT : 0 < T) (h : 0 < x) : 0 < cei x T := by
  unfold cei
  rw [if_pos h]
  have : 1 ≤ (x + T - 1) / T := (Int.le_ediv_iff_mul_le hT).mpr (by omega)
  omega
theorem cei_lt {x T w : Int} (hT : 0 < T) (hw : 0 ≤ w) : w < cei x T ↔ w * T < x := by
  have h0 := Int.mul_nonneg hw (Int.le_of_lt hT)
  unfold cei
  split
  · have e : (x + T - 1) / T < w + 1 ↔ x + T - 1 < (w + 1) * T := Int.ediv_lt_iff_lt_mul hT
    rw [Int.add_mul] at e
    omega
  · omega
theorem wfN_ti (hV : VA A) (e : Fs) (hT : 0 < (A.2.2.2.1 1).toInt) : ∀ k, k ≤ 12 → (wfN e A.2.2.1 (A.2.2.2.1 2) (A.2.2.2.1 1) k).toInt = cei ((hmx e A.2.2.1 k).toInt - (A.2.2.2.1 2).toInt) (A.2.2.2.1 1).toInt
  | 0, _ => by
    have h2 := hV.s2
    unfold iR at *
    show (0 : Int32).toInt = cei ((0 : Int32).toInt - (A.2.2.2.1 2).toInt) (A.2.2.2.1 1).toInt
    rw [t0]
    unfold cei
    rw [if_neg (by omega)]
  | k + 1, hk => by
    have ih := wfN_ti hV e hT k (by omega)
    have h1 := hV.ht (show k < 12 by omega)
    have h2 := hV.s2
    have h3 := hV.s1
    have h4 := hmx_in hV e k (by omega)
    unfold iR at *
    have s1 := ti_sub (a := A.2.2.1 k) (b := A.2.2.2.1 2) (by omega) (by omega)
    simp only [wfN, hmx]
    by_cases he : 0 < e k
    · simp only [he, if_true, and_true]
      rw [ti_imx]
      by_cases ho : 0 < A.2.2.1 k - A.2.2.2.1 2
      · rw [if_pos ho]
        rw [ti_lt, t0, s1] at ho
        have s2 := ti_add (a := A.2.2.1 k - A.2.2.2.1 2) (b := A.2.2.2.1 1) (by omega) (by omega)
        have s3 := ti_sub (a := A.2.2.1 k - A.2.2.2.1 2 + A.2.2.2.1 1) (b := 1) (by rw [s2, t1]; omega) (by rw [s2, t1]; omega)
        rw [s2, s1, t1] at s3
        have s4 := ti_div (a := A.2.2.1 k - A.2.2.2.1 2 + A.2.2.2.1 1 - 1) (b := A.2.2.2.1 1) (by omega) hT
        have s5 : ((A.2.2.1 k - A.2.2.2.1 2 + A.2.2.2.1 1 - 1) / A.2.2.2.1 1).toInt = cei ((A.2.2.1 k).toInt - (A.2.2.2.1 2).toInt) (A.2.2.2.1 1).toInt := by
          rw [s4, s3, cei, if_pos ho]
        by_cases hc : (hmx e A.2.2.1 k).toInt ≤ (A.2.2.1 k).toInt
        · have m := cei_mono (x := (hmx e A.2.2.1 k).toInt - (A.2.2.2.1 2).toInt) (y := (A.2.2.1 k).toInt - (A.2.2.2.1 2).toInt) hT (by omega)
          rw [Int.max_eq_right hc]
          simp only [ti_lt]
          split
          · exact s5
          · rename_i hx
            rw [ih, s5] at hx
            rw [ih]; omega
        · have m := cei_mono (x := (A.2.2.1 k).toInt - (A.2.2.2.1 2).toInt) (y := (hmx e A.2.2.1 k).toInt - (A.2.2.2.1 2).toInt) hT (by omega)
          rw [Int.max_eq_left (by omega)]
          simp only [ti_lt]
          split
          · rename_i hx
            rw [ih, s5] at hx
            omega
          · exact ih
      · rw [if_neg ho, ih]
        rw [ti_lt, t0, s1] at ho
        by_cases hc : (A.2.2.1 k).toInt ≤ (hmx e A.2.2.1 k).toInt
        · rw [Int.max_eq_left hc]
        · rw [Int.max_eq_right (by omega)]
          unfold cei
          rw [if_neg (by omega), if_neg (by omega)]
    · simp only [he, if_false, and_false]
      exact ih
def wfR (A : Ab) (i : Nat) : Int32 := if A.2.2.2.1 1 = 0 ∧ 0 < hovV A i then -5 else if wayV A i < wfN (edgQ (A.2.2.2.2 i)) A.2.2.1 (A.2.2.2.1 2) (A.2.2.2.1 1) 12 then wfN (edgQ (A.2.2.2.2 i)) A.2.2.1 (A.2.2.2.1 2) (A.2.2.2.1 1) 12 - wayV A i else 0
theorem why_all : (A.2.2.2.2 i 5 = 1 ∧ whyV A i = 1) ∨ (A.2.2.2.2 i 5 = 2 ∧ whyV A i = 2) ∨ ((A.2.2.2.2 i 5 ≠ 1 ∧ A.2.2.2.2 i 5 ≠ 2) ∧ (whyV A i = 3 ∨ (whyV A i = 4 ∧ wayV A i * A.2.2.2.1 1 < hovV A i) ∨ (whyV A i = 0 ∧ ¬ wayV A i * A.2.2.2.1 1 < hovV A i))) := by
  unfold whyV
  by_cases a : A.2.2.2.2 i 5 = 1
  · rw [if_pos a]; exact Or.inl ⟨a, rfl⟩
  rw [if_neg a]
  by_cases b : A.2.2.2.2 i 5 = 2
  · rw [if_pos b]; exact Or.inr (Or.inl ⟨b, rfl⟩)
  rw [if_neg b]
  refine Or.inr (Or.inr ⟨⟨a, b⟩, ?_⟩)
  by_cases c : A.2.2.2.1 3 = 1 ∧ hoB A.2.2.2.2 (A.2.2.2.2 i) A.1 = true
  · rw [if_pos c]; exact Or.inl rfl
  rw [if_neg c]
  by_cases d : wayV A i * A.2.2.2.1 1 < hovV A i
  · rw [if_pos d]; exact Or.inr (Or.inl ⟨rfl, d⟩)
  · rw [if_neg d]; exact Or.inr (Or.inr ⟨rfl, d⟩)
theorem why_0 (h : whyV A i = 0) : ¬ wayV A i * A.2.2.2.1 1 < hovV A i ∧ A.2.2.2.2 i 5 ≠ 1 ∧ A.2.2.2.2 i 5 ≠ 2 := by
  rcases why_all (A := A) (i := i) with ⟨-, e⟩ | ⟨-, e⟩ | ⟨a, e | ⟨e, -⟩ | ⟨-, d⟩⟩
  · rw [h] at e; exact absurd e (by decide)
  · rw [h] at e; exact absurd e (by decide)
  · rw [h] at e; exact absurd e (by decide)
  · rw [h] at e; exact absurd e (by decide)
  · exact ⟨d, a⟩
theorem why_4 (h : whyV A i = 4) : wayV A i * A.2.2.2.1 1 < hovV A i := by
  rcases why_all (A := A) (i := i) with ⟨-, e⟩ | ⟨-, e⟩ | ⟨-, e | ⟨-, d⟩ | ⟨e, -⟩⟩
  · rw [h] at e; exact absurd e (by decide)
  · rw [h] at e; exact absurd e (by decide)
  · rw [h] at e; exact absurd e (by decide)
  · exact d
  · rw [h] at e; exact absurd e (by decide)
theorem wfR_eq (hV : VA A) (hi : i < A.1) (hw : whyV A i = 0 ∨ whyV A i = 4) : wfR A i = kcV A i := by
  have w := way_in hV hi
  have ho := hov_ti (i := i) hV
  have hm := hmx_in hV (edgQ (A.2.2.2.2 i)) 12 (by decide)
  have h1 := hV.s1
  have h2 := hV.s2
  have hx := (xT_ti hV (x := wayV A i) ⟨w.1, by have := w.2; omega⟩).1
  unfold iR at *
  by_cases hT : A.2.2.2.1 1 = 0
  · rw [hT, t0, Int.mul_zero] at hx
    rcases hw with hw | hw
    · have d := (why_0 hw).1
      rw [hT, ti_lt, hx] at d
      unfold wfR kcV
      rw [if_pos hw, if_neg (fun c => d (by have c := c.2; rw [ti_lt, t0] at c; exact c))]
      have z : ¬ wayV A i < wfN (edgQ (A.2.2.2.2 i)) A.2.2.1 (A.2.2.2.1 2) (A.2.2.2.1 1) 12 := by
        have z0 : ∀ k, k ≤ 12 → (∀ q, q < k → ¬ (0 < A.2.2.1 q - A.2.2.2.1 2 ∧ 0 < edgQ (A.2.2.2.2 i) q)) → wfN (edgQ (A.2.2.2.2 i)) A.2.2.1 (A.2.2.2.1 2) (A.2.2.2.1 1) k = 0 := by
          intro k
          induction k with
          | zero => intro _ _; rfl
          | succ k ih =>
            intro hk hq
            rw [wfN, if_neg (hq k (Nat.lt_succ_self k))]
            exact ih (by omega) (fun q h => hq q (by omega))
        rw [z0 12 (by decide) ?_, ti_lt, t0]
        · omega
        · rintro q hq ⟨c1, c2⟩
          have hh := hV.ht hq
          unfold iR at hh
          rw [ti_lt, t0, ti_sub (by omega) (by omega)] at c1
          have hle : ∀ k, q < k → (A.2.2.1 q).toInt ≤ (hmx (edgQ (A.2.2.2.2 i)) A.2.2.1 k).toInt := by
            intro k
            induction k with
            | zero => intro h; exact absurd h (Nat.not_lt_zero q)
            | succ k ih =>
              intro h
              rw [hmx]
              by_cases e : q = k
              · subst e; rw [if_pos c2, ti_imx]; omega
              · have := ih (by omega)
                split
                · rw [ti_imx]; omega
                · exact this
          have := hle 12 hq
          omega
      rw [if_neg z]
    · have d := why_4 hw
      rw [hT, ti_lt, hx] at d
      unfold wfR kcV
      rw [if_pos ⟨hT, by rw [ti_lt, t0]; exact d⟩, hw, if_neg (by decide), if_pos rfl, hT, if_neg (by decide)]
  · have hT1 : 0 < (A.2.2.2.1 1).toInt := by rw [ti_eq, t0] at hT; omega
    have hf := wfN_ti hV (edgQ (A.2.2.2.2 i)) hT1 12 (by decide)
    rw [← ho] at hf
    have hl := cei_lt (x := (hovV A i).toInt) (w := (wayV A i).toInt) hT1 w.1
    rw [← hx] at hl
    have hb := cei_in (x := (hovV A i).toInt) hT1 (by omega)
    unfold wfR
    rw [if_neg (fun c => hT c.1)]
    rcases hw with hw | hw
    · have d := (why_0 hw).1
      rw [ti_lt] at d
      unfold kcV
      rw [if_pos hw, if_neg (by rw [ti_lt, hf]; omega)]
    · have d := why_4 hw
      rw [ti_lt] at d
      have d0 : 0 < (hovV A i).toInt := by
        have := Int.mul_nonneg w.1 h1.1
        omega
      unfold kcV
      rw [if_pos (by rw [ti_lt, hf]; omega), hw, if_neg (by decide), if_pos rfl, if_pos (by rw [ti_lt, t0]; exact hT1)]
      have s2 := ti_add (a := hovV A i) (b := A.2.2.2.1 1) (by omega) (by omega)
      have s3 := ti_sub (a := hovV A i + A.2.2.2.1 1) (b := 1) (by rw [s2, t1]; omega) (by rw [s2, t1]; omega)
      rw [s2, t1] at s3
      have s4 := ti_div (a := hovV A i + A.2.2.2.1 1 - 1) (b := A.2.2.2.1 1) (by omega) hT1
      have s5 : wfN (edgQ (A.2.2.2.2 i)) A.2.2.1 (A.2.2.2.1 2) (A.2.2.2.1 1) 12 = (hovV A i + A.2.2.2.1 1 - 1) / A.2.2.2.1 1 := by
        rw [ti_eq, hf, s4, s3, cei, if_pos d0]
      rw [s5]
theorem kc_in (hV : VA A) (hi : i < A.1) : iR (kcV A i) (-5) 768 := by
  have w := way_in hV hi
  have ho := hov_ti (i := i) hV
  have hm := hmx_in hV (edgQ (A.2.2.2.2 i)) 12 (by decide)
  have h1 := hV.s1
  have h2 := hV.s2
  have hx := (xT_ti hV (x := wayV A i) ⟨w.1, by have := w.2; omega⟩).1
  unfold iR at *
  unfold kcV
  by_cases a : whyV A i = 0
  · rw [if_pos a, t0]; omega
  rw [if_neg a]
  by_cases b : whyV A i = 4
  · rw [if_pos b]
    by_cases c : 0 < A.2.2.2.1 1
    · rw [if_pos c]
      rw [ti_lt, t0] at c
      have d := why_4 b
      rw [ti_lt] at d
      have d0 : 0 < (hovV A i).toInt := by
        have := Int.mul_nonneg w.1 h1.1
        omega
      have hb := cei_in (x := (hovV A i).toInt) c (by omega)
      have s2 := ti_add (a := hovV A i) (b := A.2.2.2.1 1) (by omega) (by omega)
      have s3 := ti_sub (a := hovV A i + A.2.2.2.1 1) (b := 1) (by rw [s2, t1]; omega) (by rw [s2, t1]; omega)
      rw [s2, t1] at s3
      have s4 := ti_div (a := hovV A i + A.2.2.2.1 1 - 1) (b := A.2.2.2.1 1) (by omega) c
      have hl := (cei_lt (x := (hovV A i).toInt) (w := (wayV A i).toInt) c w.1).mpr (by rw [← hx]; exact d)
      rw [cei, if_pos d0, ← s3, ← s4] at hl hb
      rw [ti_sub (by omega) (by omega)]
      omega
    · rw [if_neg c]; exact ⟨by decide, by decide⟩
  · rw [if_neg b]; exact ⟨by decide, by decide⟩
theorem kc_pos (hV : VA A) (hi : i < A.1) (h : whyV A i = 4) (h5 : kcV A i ≠ -5) : 0 < (kcV A i).toInt := by
  have e := wfR_eq hV hi (Or.inr h)
  have w := way_in hV hi
  have h1 := hV.s1
  have d := why_4 h
  have hx := (xT_ti hV (x := wayV A i) ⟨w.1, by have := w.2; omega⟩).1
  have hm := hmx_in hV (edgQ (A.2.2.2.2 i)) 12 (by decide)
  have ho := hov_ti (i := i) hV
  have h2 := hV.s2
  unfold iR at *
  rw [ti_lt] at d
  have hT : A.2.2.2.1 1 ≠ 0 := by
    intro z
    apply h5
    unfold kcV
    rw [h, if_neg (by decide), if_pos rfl, z, if_neg (by decide)]
  have hT1 : 0 < (A.2.2.2.1 1).toInt := by rw [ne_eq, ti_eq, t0] at hT; omega
  have hf := wfN_ti hV (edgQ (A.2.2.2.2 i)) hT1 12 (by decide)
  rw [← ho] at hf
  have hl := (cei_lt (x := (hovV A i).toInt) (w := (wayV A i).toInt) hT1 w.1).mpr (by rw [← hx]; exact d)
  have hb := cei_in (x := (hovV A i).toInt) hT1 (by omega)
  rw [← e]
  unfold wfR
  rw [if_neg (fun c => hT c.1), if_pos (by rw [ti_lt, hf]; exact hl), ti_sub (by omega) (by omega)]
  omega
end SOUND
