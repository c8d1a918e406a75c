/-! numbers, and what makes a value a sound one -/
theorem ti_bm {x : Int} (h1 : -2147483648 ≤ x) (h2 : x < 2147483648) : x.bmod (2 ^ 32) = x := Int.bmod_eq_of_le (by omega) (by omega)
theorem ti_add {a b : Int32} (h1 : -2147483648 ≤ a.toInt + b.toInt) (h2 : a.toInt + b.toInt < 2147483648) : (a + b).toInt = a.toInt + b.toInt := by
  rw [Int32.toInt_add]; exact ti_bm h1 h2
theorem ti_sub {a b : Int32} (h1 : -2147483648 ≤ a.toInt - b.toInt) (h2 : a.toInt - b.toInt < 2147483648) : (a - b).toInt = a.toInt - b.toInt := by
  rw [Int32.toInt_sub]; exact ti_bm h1 h2
theorem ti_mul {a b : Int32} (h1 : -2147483648 ≤ a.toInt * b.toInt) (h2 : a.toInt * b.toInt < 2147483648) : (a * b).toInt = a.toInt * b.toInt := by
  rw [Int32.toInt_mul]; exact ti_bm h1 h2
theorem ti_div {a b : Int32} (h1 : 0 ≤ a.toInt) (h2 : 0 < b.toInt) : (a / b).toInt = a.toInt / b.toInt := by
  have h3 := Int32.toInt_lt a
  have h5 : a.toInt / b.toInt ≤ a.toInt := Int.ediv_le_self _ h1
  have h6 : 0 ≤ a.toInt / b.toInt := Int.ediv_nonneg h1 (by omega)
  rw [Int32.toInt_div, Int.tdiv_eq_ediv_of_nonneg h1]
  exact ti_bm (by omega) (by omega)
theorem ti_lt {a b : Int32} : a < b ↔ a.toInt < b.toInt := Int32.lt_iff_toInt_lt
theorem ti_le {a b : Int32} : a ≤ b ↔ a.toInt ≤ b.toInt := Int32.le_iff_toInt_le
theorem ti_eq {a b : Int32} : a = b ↔ a.toInt = b.toInt := Int32.toInt_inj.symm
theorem ti_imx (a b : Int32) : (imx a b).toInt = max a.toInt b.toInt := by
  unfold imx; rw [Int.max_def]; simp only [ti_lt]; split <;> split <;> omega
theorem ti_imn (a b : Int32) : (imn a b).toInt = min a.toInt b.toInt := by
  unfold imn; rw [Int.min_def]; simp only [ti_lt]; split <;> split <;> omega
theorem ti_iab {a : Int32} (h : -2147483648 < a.toInt) : (iab a).toInt = if 0 ≤ a.toInt then a.toInt else - a.toInt := by
  have h3 := Int32.toInt_lt a
  have h0 : (0 : Int32).toInt = 0 := rfl
  unfold iab
  simp only [ti_le, h0]
  split
  · rfl
  · rw [ti_sub] <;> rw [h0] <;> omega
/-- a shape's ints are sound -/
def vF (f : Fs) : Prop := (0 ≤ (f 0).toInt ∧ 0 ≤ (f 1).toInt ∧ 2 ≤ (f 2).toInt ∧ 2 ≤ (f 3).toInt ∧ (f 0).toInt + (f 2).toInt ≤ 32 ∧ (f 1).toInt + (f 3).toInt ≤ 24) ∧ (0 ≤ (f 4).toInt ∧ (f 4).toInt ≤ 3) ∧ 0 ≤ (f 5).toInt ∧ (f 5).toInt ≤ 2
theorem vF.x2 {f : Fs} (h : vF f) : (f 0 + f 2).toInt = (f 0).toInt + (f 2).toInt := by obtain ⟨h, -⟩ := h; exact ti_add (by omega) (by omega)
theorem vF.y2 {f : Fs} (h : vF f) : (f 1 + f 3).toInt = (f 1).toInt + (f 3).toInt := by obtain ⟨h, -⟩ := h; exact ti_add (by omega) (by omega)
theorem t1 : (1 : Int32).toInt = 1 := rfl
theorem t0 : (0 : Int32).toInt = 0 := rfl
theorem vF.xl {f : Fs} (h : vF f) : (f 0 + f 2 - 1).toInt = (f 0).toInt + (f 2).toInt - 1 := by
  have e := h.x2
  obtain ⟨h, -⟩ := h
  rw [ti_sub (by rw [e, t1]; omega) (by rw [e, t1]; omega), e, t1]
theorem vF.yl {f : Fs} (h : vF f) : (f 1 + f 3 - 1).toInt = (f 1).toInt + (f 3).toInt - 1 := by
  have e := h.y2
  obtain ⟨h, -⟩ := h
  rw [ti_sub (by rw [e, t1]; omega) (by rw [e, t1]; omega), e, t1]
def insR (f g : Fs) : Bool := (decide (g 0 < f 0) && decide (f 0 + f 2 - 1 < g 0 + g 2 - 1)) && (decide (g 1 < f 1) && decide (f 1 + f 3 - 1 < g 1 + g 3 - 1))
theorem insR_eq {f g : Fs} (h : vF f) (h2 : vF g) : insR f g = insB f g := by
  have e1 : (f 0 + f 2 - 1 < g 0 + g 2 - 1) = (f 0 + f 2 < g 0 + g 2) := by rw [eq_iff_iff, ti_lt, ti_lt, h.xl, h2.xl, h.x2, h2.x2]; omega
  have e2 : (f 1 + f 3 - 1 < g 1 + g 3 - 1) = (f 1 + f 3 < g 1 + g 3) := by rw [eq_iff_iff, ti_lt, ti_lt, h.yl, h2.yl, h.y2, h2.y2]; omega
  unfold insR insB
  simp only [e1, e2, Bool.and_assoc]
theorem t2 : (2 : Int32).toInt = 2 := rfl
theorem t3 : (3 : Int32).toInt = 3 := rfl
theorem t4 : (4 : Int32).toInt = 4 := rfl
theorem t8 : (8 : Int32).toInt = 8 := rfl
def lcR (f : Fs) : Int32 := if f 4 = 0 ∨ f 4 = 3 then f 0 else f 0 + f 2 - 1
theorem lcR_eq {f : Fs} (h : vF f) : lcR f = lcV f := by
  obtain ⟨-, h, -⟩ := h
  unfold lcR lcV
  simp only [ti_eq (b := 0), ti_eq (b := 1), ti_eq (b := 2), ti_eq (b := 3), t0, t1, t2, t3]
  by_cases e : (f 4).toInt = 0 ∨ (f 4).toInt = 3
  · rw [if_pos e, if_neg (by omega)]
  · rw [if_neg e, if_pos (by omega)]
def lrR (f : Fs) : Int32 := if f 4 < 2 then f 1 else f 1 + f 3 - 1
theorem lrR_eq {f : Fs} (h : vF f) : lrR f = lrV f := by
  obtain ⟨-, h, -⟩ := h
  unfold lrR lrV
  simp only [ti_eq (b := 2), ti_eq (b := 3), ti_lt, t2, t3]
  by_cases e : (f 4).toInt < 2
  · rw [if_pos e, if_neg (by omega)]
  · rw [if_neg e, if_pos (by omega)]
theorem lcV_in {f : Fs} (h : vF f) : 0 ≤ (lcV f).toInt ∧ (lcV f).toInt ≤ 31 := by
  have e := h.xl
  obtain ⟨h, -⟩ := h
  unfold lcV
  split
  · rw [e]; omega
  · omega
theorem lrV_in {f : Fs} (h : vF f) : 0 ≤ (lrV f).toInt ∧ (lrV f).toInt ≤ 23 := by
  have e := h.yl
  obtain ⟨h, -⟩ := h
  unfold lrV
  split
  · rw [e]; omega
  · omega
def offV (a b : Int32) : Int32 := if b < a then a - b else b - a
theorem offV_eq {a b : Int32} (h : 0 ≤ a.toInt ∧ a.toInt ≤ 1000) (h2 : 0 ≤ b.toInt ∧ b.toInt ≤ 1000) : offV a b = iab (a - b) := by
  have e := ti_sub (a := a) (b := b) (by omega) (by omega)
  have e2 := ti_sub (a := b) (b := a) (by omega) (by omega)
  rw [ti_eq, ti_iab (by omega), e]
  unfold offV
  simp only [ti_lt]
  split
  · rw [if_pos (by omega), e]
  · split
    · rw [e2]; omega
    · rw [e2]; omega
/-! the edge, told field by field -/
def cb (P : Nat → Bool) : Nat → Int32
  | 0 => 0
  | k + 1 => cb P k + b01 (P k)
def sI (g : Nat → Int) : Nat → Int
  | 0 => 0
  | k + 1 => sI g k + g k
def iB (b : Bool) : Int := if b then 1 else 0
theorem b01_ti (b : Bool) : (b01 b).toInt = iB b := by cases b <;> rfl
theorem sI_b (P : Nat → Bool) : ∀ k, 0 ≤ sI (fun q => iB (P q)) k ∧ sI (fun q => iB (P q)) k ≤ k
  | 0 => ⟨Int.le_refl 0, Int.le_refl 0⟩
  | k + 1 => by
    have ih := sI_b P k
    simp only [sI]
    have h : iB (P k) = 0 ∨ iB (P k) = 1 := by cases P k <;> simp [iB]
    omega
theorem cb_ti (P : Nat → Bool) : ∀ k, k ≤ 1000 → (cb P k).toInt = sI (fun q => iB (P q)) k
  | 0, _ => rfl
  | k + 1, hk => by
    have ih := cb_ti P k (by omega)
    have h0 := sI_b P k
    have h : iB (P k) = 0 ∨ iB (P k) = 1 := by cases P k <;> simp [iB]
    simp only [cb, sI]
    rw [ti_add (by rw [ih, b01_ti]; omega) (by rw [ih, b01_ti]; omega), ih, b01_ti]
theorem sI_c {g g' : Nat → Int} : ∀ {n}, (∀ k, k < n → g k = g' k) → sI g n = sI g' n
  | 0, _ => rfl
  | n + 1, h => by simp only [sI, sI_c (fun k hk => h k (Nat.lt_succ_of_lt hk)), h n (Nat.lt_succ_self n)]
theorem sI_sub (g g' : Nat → Int) : ∀ n, sI (fun k => g k - g' k) n = sI g n - sI g' n
  | 0 => rfl
  | n + 1 => by simp only [sI, sI_sub g g' n]; omega
theorem sI_8 (p q : Nat → Int) : ∀ u, sI (fun k => p (k % 8) * q (k / 8)) (8 * u) = sI p 8 * sI q u
  | 0 => by simp [sI]
  | u + 1 => by
    have ih := sI_8 p q u
    have e : ∀ t, t < 8 → p ((8 * u + t) % 8) * q ((8 * u + t) / 8) = p t * q u := by
      intro t ht
      rw [show (8 * u + t) % 8 = t by omega, show (8 * u + t) / 8 = u by omega]
    rw [show 8 * (u + 1) = 8 * u + 0 + 1 + 1 + 1 + 1 + 1 + 1 + 1 + 1 by omega]
    simp only [sI, e 0 (by decide), e 1 (by decide), e 2 (by decide), e 3 (by decide), e 4 (by decide), e 5 (by decide), e 6 (by decide), e 7 (by decide), Nat.add_assoc, Nat.reduceAdd, Nat.add_zero] at *
    have e0 := e 0 (by decide)
    rw [Nat.add_zero] at e0
    rw [ih, e0]
    simp only [Int.zero_add, Int.add_mul, Int.mul_add]
    omega
def iv (a b c : Int) : Int := if a ≤ c ∧ c < b then 1 else 0
theorem sI_iv (a b X : Int) : ∀ n : Nat, sI (fun t => iv a b (X + t)) n = max (min b (X + n) - max a X) 0
  | 0 => by simp only [sI]; omega
  | n + 1 => by
    have ih := sI_iv a b X n
    have e : ((n + 1 : Nat) : Int) = (n : Int) + 1 := by omega
    simp only [sI]
    rw [ih, e]
    unfold iv
    by_cases h : a ≤ X + (n : Int) ∧ X + (n : Int) < b
    · rw [if_pos h]; omega
    · rw [if_neg h]; omega
def onR (f : Fs) (c r : Int32) : Bool := (betw c (f 0) (f 0 + f 2 - 1) && betw r (f 1) (f 1 + f 3 - 1)) && (decide (c = f 0) || decide (c = f 0 + f 2 - 1) || decide (r = f 1) || decide (r = f 1 + f 3 - 1))
theorem onR_ti {f : Fs} (h : vF f) (c r : Int32) : iB (onR f c r) = iv (f 0).toInt ((f 0).toInt + (f 2).toInt) c.toInt * iv (f 1).toInt ((f 1).toInt + (f 3).toInt) r.toInt - iv ((f 0).toInt + 1) ((f 0).toInt + (f 2).toInt - 1) c.toInt * iv ((f 1).toInt + 1) ((f 1).toInt + (f 3).toInt - 1) r.toInt := by
  have e1 := h.xl
  have e2 := h.yl
  have e3 : onR f c r = decide (((f 0).toInt ≤ c.toInt ∧ c.toInt ≤ (f 0).toInt + (f 2).toInt - 1 ∧ (f 1).toInt ≤ r.toInt ∧ r.toInt ≤ (f 1).toInt + (f 3).toInt - 1) ∧ (c.toInt = (f 0).toInt ∨ c.toInt = (f 0).toInt + (f 2).toInt - 1 ∨ r.toInt = (f 1).toInt ∨ r.toInt = (f 1).toInt + (f 3).toInt - 1)) := by
    unfold onR betw
    rw [Bool.eq_iff_iff]
    simp only [Bool.and_eq_true, Bool.or_eq_true, Bool.not_eq_true', decide_eq_true_eq, decide_eq_false_iff_not, ti_lt, ti_eq, e1, e2]
    omega
  rw [e3]
  unfold iB iv
  obtain ⟨h, -⟩ := h
  by_cases a1 : (f 0).toInt ≤ c.toInt ∧ c.toInt < (f 0).toInt + (f 2).toInt
  · by_cases a2 : (f 1).toInt ≤ r.toInt ∧ r.toInt < (f 1).toInt + (f 3).toInt
    · rw [if_pos a1, if_pos a2]
      by_cases a3 : (f 0).toInt + 1 ≤ c.toInt ∧ c.toInt < (f 0).toInt + (f 2).toInt - 1
      · by_cases a4 : (f 1).toInt + 1 ≤ r.toInt ∧ r.toInt < (f 1).toInt + (f 3).toInt - 1
        · rw [if_pos a3, if_pos a4, if_neg (by rw [decide_eq_true_eq]; omega)]; rfl
        · rw [if_pos a3, if_neg a4, if_pos (by rw [decide_eq_true_eq]; omega)]; rfl
      · rw [if_neg a3, if_pos (by rw [decide_eq_true_eq]; omega)]; simp
    · rw [if_neg a2, if_neg (show ¬ ((f 1).toInt + 1 ≤ r.toInt ∧ r.toInt < (f 1).toInt + (f 3).toInt - 1) by omega), if_neg (by rw [decide_eq_true_eq]; omega)]; simp
  · rw [if_neg a1, if_neg (show ¬ ((f 0).toInt + 1 ≤ c.toInt ∧ c.toInt < (f 0).toInt + (f 2).toInt - 1) by omega), if_neg (by rw [decide_eq_true_eq]; omega)]; simp
def edgR (f : Fs) (q : Nat) : Int32 := cb (fun k => onR f (8 * (nI q % 4) + nI k % 8) (8 * (nI q / 4) + nI k / 8)) 64
theorem ix8 : ∀ q, q < 12 → ∀ k, k < 64 → (8 * (nI q % 4) + nI k % 8).toInt = ((8 * (q % 4) : Nat) : Int) + ((k % 8 : Nat) : Int) ∧ (8 * (nI q / 4) + nI k / 8).toInt = ((8 * (q / 4) : Nat) : Int) + ((k / 8 : Nat) : Int) := by decide +kernel
theorem ixq : ∀ q, q < 12 → ((nI q - nI q / 4 * 4) * 8).toInt = ((8 * (q % 4) : Nat) : Int) ∧ ((nI q - nI q / 4 * 4) * 8 + 8).toInt = ((8 * (q % 4) : Nat) : Int) + 8 ∧ (nI q / 4 * 8).toInt = ((8 * (q / 4) : Nat) : Int) ∧ (nI q / 4 * 8 + 8).toInt = ((8 * (q / 4) : Nat) : Int) + 8 := by decide +kernel
theorem mul_8 {a b : Int} (h1 : 0 ≤ a) (h2 : a ≤ 8) (h3 : 0 ≤ b) (h4 : b ≤ 8) : 0 ≤ a * b ∧ a * b ≤ 64 :=
  ⟨Int.mul_nonneg h1 h3, Int.le_trans (Int.mul_le_mul h2 h4 h3 (by decide)) (by decide)⟩
theorem fld_ti {f : Fs} (h : vF f) {q : Nat} (hq : q < 12) {m : Int32} (hm : m.toInt = 0 ∨ m.toInt = 1) : (fldV f (nI q) m).toInt = max (min ((f 0).toInt + (f 2).toInt - m.toInt) (((8 * (q % 4) : Nat) : Int) + 8) - max ((f 0).toInt + m.toInt) ((8 * (q % 4) : Nat) : Int)) 0 * max (min ((f 1).toInt + (f 3).toInt - m.toInt) (((8 * (q / 4) : Nat) : Int) + 8) - max ((f 1).toInt + m.toInt) ((8 * (q / 4) : Nat) : Int)) 0 := by
  obtain ⟨i1, i2, i3, i4⟩ := ixq q hq
  have e1 := h.x2
  have e2 := h.y2
  obtain ⟨h, -⟩ := h
  have a1 : (f 0 + f 2 - m).toInt = (f 0).toInt + (f 2).toInt - m.toInt := by rw [ti_sub (by rw [e1]; omega) (by rw [e1]; omega), e1]
  have a2 : (f 1 + f 3 - m).toInt = (f 1).toInt + (f 3).toInt - m.toInt := by rw [ti_sub (by rw [e2]; omega) (by rw [e2]; omega), e2]
  have a3 : (f 0 + m).toInt = (f 0).toInt + m.toInt := ti_add (by omega) (by omega)
  have a4 : (f 1 + m).toInt = (f 1).toInt + m.toInt := ti_add (by omega) (by omega)
  have b1 : (fcV f (nI q) m).toInt = min ((f 0).toInt + (f 2).toInt - m.toInt) (((8 * (q % 4) : Nat) : Int) + 8) - max ((f 0).toInt + m.toInt) ((8 * (q % 4) : Nat) : Int) := by
    unfold fcV
    rw [ti_sub (by rw [ti_imn, ti_imx, a1, a3, i1, i2]; omega) (by rw [ti_imn, ti_imx, a1, a3, i1, i2]; omega), ti_imn, ti_imx, a1, a3, i1, i2]
  have b2 : (frV f (nI q) m).toInt = min ((f 1).toInt + (f 3).toInt - m.toInt) (((8 * (q / 4) : Nat) : Int) + 8) - max ((f 1).toInt + m.toInt) ((8 * (q / 4) : Nat) : Int) := by
    unfold frV
    rw [ti_sub (by rw [ti_imn, ti_imx, a2, a4, i3, i4]; omega) (by rw [ti_imn, ti_imx, a2, a4, i3, i4]; omega), ti_imn, ti_imx, a2, a4, i3, i4]
  unfold fldV
  have c := mul_8 (a := max (fcV f (nI q) m).toInt 0) (b := max (frV f (nI q) m).toInt 0) (by omega) (by omega) (by omega) (by omega)
  rw [ti_mul (by rw [ti_imx, ti_imx, t0]; omega) (by rw [ti_imx, ti_imx, t0]; omega), ti_imx, ti_imx, t0, b1, b2]
theorem edgR_eq {f : Fs} (h : vF f) {q : Nat} (hq : q < 12) : edgR f q = edgQ f q := by
  have e : (edgR f q).toInt = (fldV f (nI q) 0).toInt - (fldV f (nI q) 1).toInt := by
    unfold edgR
    rw [cb_ti _ 64 (by decide), fld_ti h hq (Or.inl t0), fld_ti h hq (Or.inr t1), t0, t1]
    have s1 := sI_8 (fun t => iv (f 0).toInt ((f 0).toInt + (f 2).toInt) (((8 * (q % 4) : Nat) : Int) + t)) (fun t => iv (f 1).toInt ((f 1).toInt + (f 3).toInt) (((8 * (q / 4) : Nat) : Int) + t)) 8
    have s2 := sI_8 (fun t => iv ((f 0).toInt + 1) ((f 0).toInt + (f 2).toInt - 1) (((8 * (q % 4) : Nat) : Int) + t)) (fun t => iv ((f 1).toInt + 1) ((f 1).toInt + (f 3).toInt - 1) (((8 * (q / 4) : Nat) : Int) + t)) 8
    rw [sI_iv, sI_iv] at s1 s2
    rw [sI_c (g' := fun k => (fun k => iv (f 0).toInt ((f 0).toInt + (f 2).toInt) (((8 * (q % 4) : Nat) : Int) + ((k % 8 : Nat) : Int)) * iv (f 1).toInt ((f 1).toInt + (f 3).toInt) (((8 * (q / 4) : Nat) : Int) + ((k / 8 : Nat) : Int))) k - (fun k => iv ((f 0).toInt + 1) ((f 0).toInt + (f 2).toInt - 1) (((8 * (q % 4) : Nat) : Int) + ((k % 8 : Nat) : Int)) * iv ((f 1).toInt + 1) ((f 1).toInt + (f 3).toInt - 1) (((8 * (q / 4) : Nat) : Int) + ((k / 8 : Nat) : Int))) k) (fun k hk => by obtain ⟨i1, i2⟩ := ix8 q hq k hk; rw [onR_ti h, i1, i2])]
    rw [sI_sub]
    refine (congr (congrArg _ s1) s2).trans ?_
    simp only [Int.add_zero, Int.sub_zero]
    rfl
  have e2 : 0 ≤ (edgR f q).toInt ∧ (edgR f q).toInt ≤ 64 := by
    unfold edgR
    rw [cb_ti _ 64 (by decide)]
    exact sI_b _ 64
  rw [ti_eq]
  unfold edgQ
  rw [ti_sub (by omega) (by omega), e]
theorem edgQ_in {f : Fs} (h : vF f) {q : Nat} (hq : q < 12) : 0 ≤ (edgQ f q).toInt ∧ (edgQ f q).toInt ≤ 64 := by
  rw [← edgR_eq h hq]
  unfold edgR
  rw [cb_ti _ 64 (by decide)]
  exact sI_b _ 64
