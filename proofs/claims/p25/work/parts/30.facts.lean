/-! what the law asks of a sound value (written by hand) -/
def sumE (f : Fs) : Nat → Int32
  | 0 => 0
  | q + 1 => sumE f q + edgQ f q
def wX (a b : Int) (n : Nat) : Int := max (min b (((8 * n : Nat) : Int) + 8) - max a ((8 * n : Nat) : Int)) 0
theorem sI_4 (p q : Nat → Int) : ∀ u, sI (fun k => p (k % 4) * q (k / 4)) (4 * u) = sI p 4 * sI q u
  | 0 => by simp [sI]
  | u + 1 => by
    have ih := sI_4 p q u
    have e : ∀ t, t < 4 → p ((4 * u + t) % 4) * q ((4 * u + t) / 4) = p t * q u := by
      intro t ht
      rw [show (4 * u + t) % 4 = t by omega, show (4 * u + t) / 4 = u by omega]
    rw [show 4 * (u + 1) = 4 * u + 0 + 1 + 1 + 1 + 1 by omega]
    simp only [sI, e 0 (by decide), e 1 (by decide), e 2 (by decide), e 3 (by decide), Nat.add_assoc, Nat.reduceAdd, Nat.add_zero] at *
    have e0 := e 0 (by decide)
    rw [Nat.add_zero] at e0
    rw [ih, e0]
    simp only [Int.zero_add, Int.add_mul, Int.mul_add]
    omega
theorem fld_w {f : Fs} (h : vF f) {q : Nat} (hq : q < 12) {m : Int32} (hm : m.toInt = 0 ∨ m.toInt = 1) : (fldV f (nI q) m).toInt = wX ((f 0).toInt + m.toInt) ((f 0).toInt + (f 2).toInt - m.toInt) (q % 4) * wX ((f 1).toInt + m.toInt) ((f 1).toInt + (f 3).toInt - m.toInt) (q / 4) := fld_ti h hq hm
theorem wX_in (a b : Int) (n : Nat) : 0 ≤ wX a b n ∧ wX a b n ≤ 8 := by unfold wX; omega
theorem edgQ_ti {f : Fs} (h : vF f) {q : Nat} (hq : q < 12) : (edgQ f q).toInt = wX ((f 0).toInt) ((f 0).toInt + (f 2).toInt) (q % 4) * wX ((f 1).toInt) ((f 1).toInt + (f 3).toInt) (q / 4) - wX ((f 0).toInt + 1) ((f 0).toInt + (f 2).toInt - 1) (q % 4) * wX ((f 1).toInt + 1) ((f 1).toInt + (f 3).toInt - 1) (q / 4) := by
  have a := fld_w h hq (Or.inl t0)
  have b := fld_w h hq (Or.inr t1)
  rw [t0] at a
  rw [t1] at b
  simp only [Int.add_zero, Int.sub_zero] at a
  have a1 := wX_in ((f 0).toInt) ((f 0).toInt + (f 2).toInt) (q % 4)
  have a2 := wX_in ((f 1).toInt) ((f 1).toInt + (f 3).toInt) (q / 4)
  have b1 := wX_in ((f 0).toInt + 1) ((f 0).toInt + (f 2).toInt - 1) (q % 4)
  have b2 := wX_in ((f 1).toInt + 1) ((f 1).toInt + (f 3).toInt - 1) (q / 4)
  have a3 := mul_8 a1.1 a1.2 a2.1 a2.2
  have b3 := mul_8 b1.1 b1.2 b2.1 b2.2
  unfold edgQ
  rw [ti_sub (by rw [a, b]; omega) (by rw [a, b]; omega), a, b]
theorem sumE_ti {f : Fs} (h : vF f) : ∀ n, n ≤ 12 → (sumE f n).toInt = sI (fun q => (edgQ f q).toInt) n ∧ 0 ≤ (sumE f n).toInt ∧ (sumE f n).toInt ≤ 64 * n
  | 0, _ => ⟨rfl, Int.le_refl 0, Int.le_refl 0⟩
  | n + 1, hn => by
    obtain ⟨i1, i2, i3⟩ := sumE_ti h n (by omega)
    obtain ⟨e1, e2⟩ := edgQ_in h (show n < 12 by omega)
    have e : (sumE f (n + 1)).toInt = (sumE f n).toInt + (edgQ f n).toInt := by
      simp only [sumE]
      exact ti_add (by omega) (by omega)
    refine ⟨?_, ?_, ?_⟩
    · rw [e, i1]; rfl
    · rw [e]; omega
    · rw [e]; omega
theorem wX_4 {a b : Int} (h1 : 0 ≤ a) (h2 : a ≤ b) (h3 : b ≤ 32) : sI (wX a b) 4 = b - a := by
  simp only [sI, wX]; omega
theorem wX_3 {a b : Int} (h1 : 0 ≤ a) (h2 : a ≤ b) (h3 : b ≤ 24) : sI (wX a b) 3 = b - a := by
  simp only [sI, wX]; omega
theorem edgV_ti {f : Fs} (h : vF f) : (edgV f).toInt = 2 * ((f 2).toInt + (f 3).toInt) - 4 := by
  obtain ⟨h, -⟩ := h
  have e1 : (f 2 + f 3).toInt = (f 2).toInt + (f 3).toInt := ti_add (by omega) (by omega)
  have e2 : (2 * (f 2 + f 3)).toInt = 2 * ((f 2).toInt + (f 3).toInt) := by
    rw [ti_mul (by rw [t2, e1]; omega) (by rw [t2, e1]; omega), t2, e1]
  unfold edgV
  rw [ti_sub (by rw [e2, t4]; omega) (by rw [e2, t4]; omega), e2, t4]
theorem sumE_eq {f : Fs} (h : vF f) : sumE f 12 = edgV f := by
  rw [ti_eq, (sumE_ti h 12 (by decide)).1, edgV_ti h]
  have s1 := sI_4 (wX ((f 0).toInt) ((f 0).toInt + (f 2).toInt)) (wX ((f 1).toInt) ((f 1).toInt + (f 3).toInt)) 3
  have s2 := sI_4 (wX ((f 0).toInt + 1) ((f 0).toInt + (f 2).toInt - 1)) (wX ((f 1).toInt + 1) ((f 1).toInt + (f 3).toInt - 1)) 3
  rw [sI_c (g' := fun k => (fun k => wX ((f 0).toInt) ((f 0).toInt + (f 2).toInt) (k % 4) * wX ((f 1).toInt) ((f 1).toInt + (f 3).toInt) (k / 4)) k - (fun k => wX ((f 0).toInt + 1) ((f 0).toInt + (f 2).toInt - 1) (k % 4) * wX ((f 1).toInt + 1) ((f 1).toInt + (f 3).toInt - 1) (k / 4)) k) (fun k hk => edgQ_ti h hk), sI_sub]
  obtain ⟨h, -⟩ := h
  rw [wX_4 (by omega) (by omega) (by omega), wX_3 (by omega) (by omega) (by omega)] at s1 s2
  refine (congr (congrArg _ s1) s2).trans ?_
  have e : ((f 0).toInt + (f 2).toInt - 1 - ((f 0).toInt + 1)) * ((f 1).toInt + (f 3).toInt - 1 - ((f 1).toInt + 1)) = (f 2).toInt * (f 3).toInt - 2 * (f 2).toInt - 2 * (f 3).toInt + 4 := by
    rw [show (f 0).toInt + (f 2).toInt - 1 - ((f 0).toInt + 1) = (f 2).toInt - 2 by omega, show (f 1).toInt + (f 3).toInt - 1 - ((f 1).toInt + 1) = (f 3).toInt - 2 by omega, Int.sub_mul, Int.mul_sub, Int.mul_sub]
    omega
  rw [e, show (f 0).toInt + (f 2).toInt - (f 0).toInt = (f 2).toInt by omega, show (f 1).toInt + (f 3).toInt - (f 1).toInt = (f 3).toInt by omega]
  omega
theorem f5_or {f : Fs} (h : vF f) : f 5 = 0 ∨ f 5 = 1 ∨ f 5 = 2 := by
  obtain ⟨-, -, a, b⟩ := h
  simp only [ti_eq, t0, t1, t2]
  omega
section FACTS
variable {A : Ab} {i : Nat}
theorem why_st (hV : VA A) (hi : i < A.1) (h : 0 < A.2.2.2.2 i 5) : whyV A i = A.2.2.2.2 i 5 := by
  rcases f5_or (hV.sh hi) with e | e | e
  · rw [e] at h; exact absurd h (by decide)
  · unfold whyV; rw [if_pos e, e]
  · unfold whyV
    rw [if_neg (by rw [e]; decide), if_pos e, e]
theorem st_0 (hV : VA A) (hi : i < A.1) (h : ¬ 0 < A.2.2.2.2 i 5) : A.2.2.2.2 i 5 = 0 := by
  rcases f5_or (hV.sh hi) with e | e | e
  · exact e
  · rw [e] at h; exact absurd (by decide) h
  · rw [e] at h; exact absurd (by decide) h
theorem why_w (hV : VA A) (hi : i < A.1) (h : A.2.2.2.2 i 5 = 0) : whyV A i = if A.2.2.2.1 3 = 1 ∧ hoB A.2.2.2.2 (A.2.2.2.2 i) A.1 = true then 3 else if tooN A (edgQ (A.2.2.2.2 i)) (wayV A i * A.2.2.2.1 1) 12 = true then 4 else 0 := by
  unfold whyV
  rw [if_neg (by rw [h]; decide), if_neg (by rw [h]; decide), too_eq hV hi]
  simp only [decide_eq_true_eq]
theorem tc_w (h : A.2.2.2.2 i 5 = 0) : tcV A i = wayV A i + (2 + A.2.1 3 / 4) * (2 * (A.2.2.2.2 i 2 + A.2.2.2.2 i 3) - 4) := by
  unfold tcV burV edgV
  rw [if_pos h, Int32.mul_comm]
theorem tc_n (h : ¬ A.2.2.2.2 i 5 = 0) : tcV A i = -4 := by unfold tcV; rw [if_neg h]
theorem kc_0 (h : whyV A i = 0) : kcV A i = 0 := by unfold kcV; rw [if_pos h]
theorem kc_n (h : ¬ whyV A i = 0) (h4 : ¬ whyV A i = 4) : kcV A i = -4 := by unfold kcV; rw [if_neg h, if_neg h4]
theorem kc_z (h : whyV A i = 4) (hT : ¬ 0 < A.2.2.2.1 1) : kcV A i = -5 := by unfold kcV; rw [h, if_neg (by decide), if_pos rfl, if_neg hT]
theorem kc_ti (hV : VA A) (hi : i < A.1) (b : whyV A i = 4) (c : 0 < A.2.2.2.1 1) : (kcV A i).toInt = cei (hovV A i).toInt (A.2.2.2.1 1).toInt - (wayV A i).toInt ∧ (wayV A i).toInt < cei (hovV A i).toInt (A.2.2.2.1 1).toInt ∧ 0 < (hovV A i).toInt := by
  have w := way_in hV hi
  have ho := hov_ti (i := i) hV
  have hm := hmx_in hV (edgQ (A.2.2.2.2 i)) 12 (by decide)
  have h1 := hV.s1
  have h2 := hV.s2
  have hx := (xT_ti hV (x := wayV A i) ⟨w.1, by have := w.2; omega⟩).1
  unfold iR at *
  unfold kcV
  rw [if_neg (show ¬ whyV A i = 0 by rw [b]; decide), if_pos b, if_pos c]
  rw [ti_lt, t0] at c
  have d := why_4 b
  rw [ti_lt] at d
  have d0 : 0 < (hovV A i).toInt := by
    have := Int.mul_nonneg w.1 h1.1
    omega
  have hb := cei_in (x := (hovV A i).toInt) c (by omega)
  have s2 := ti_add (a := hovV A i) (b := A.2.2.2.1 1) (by omega) (by omega)
  have s3 := ti_sub (a := hovV A i + A.2.2.2.1 1) (b := 1) (by rw [s2, t1]; omega) (by rw [s2, t1]; omega)
  rw [s2, t1] at s3
  have s4 := ti_div (a := hovV A i + A.2.2.2.1 1 - 1) (b := A.2.2.2.1 1) (by omega) c
  have hl := (cei_lt (x := (hovV A i).toInt) (w := (wayV A i).toInt) c w.1).mpr (by rw [← hx]; exact d)
  have e : cei (hovV A i).toInt (A.2.2.2.1 1).toInt = ((hovV A i + A.2.2.2.1 1 - 1) / A.2.2.2.1 1).toInt := by rw [cei, if_pos d0, s4, s3]
  rw [e] at hl hb ⊢
  refine ⟨?_, hl, d0⟩
  rw [ti_sub (by omega) (by omega)]
theorem kc_p (hV : VA A) (hi : i < A.1) (b : whyV A i = 4) (c : 0 < A.2.2.2.1 1) : 0 < kcV A i := by
  obtain ⟨e, e2, -⟩ := kc_ti hV hi b c
  rw [ti_lt, t0]; omega
theorem T_or (hV : VA A) : A.2.2.2.1 1 = 0 ∨ 0 < A.2.2.2.1 1 := by
  have h := hV.s1.1
  rw [ti_eq, ti_lt, t0]; omega
/-- the heat of a square less what going takes -/
theorem hw_iff (hV : VA A) (hi : i < A.1) {q : Nat} (hq : q < 12) : 0 < A.2.2.1 q - wayV A i * A.2.2.2.1 1 ↔ wayV A i * A.2.2.2.1 1 < A.2.2.1 q := by
  have h := hV.ht hq
  have w := way_in hV hi
  have hx := (xT_ti hV (x := wayV A i) ⟨w.1, by have := w.2; omega⟩).2
  unfold iR at h hx
  rw [ti_lt, ti_lt, t0, ti_sub (by omega) (by omega)]
  omega
theorem hw_p (hV : VA A) (hi : i < A.1) {q : Nat} (hq : q < 12) (h : 0 < A.2.2.1 q - wayV A i * A.2.2.2.1 1) : clV (A.2.2.1 q) (wayV A i * A.2.2.2.1 1) = A.2.2.1 q - wayV A i * A.2.2.2.1 1 := by
  unfold clV; rw [if_pos ((hw_iff hV hi hq).mp h)]
theorem hw_n (hV : VA A) (hi : i < A.1) {q : Nat} (hq : q < 12) (h : ¬ 0 < A.2.2.1 q - wayV A i * A.2.2.2.1 1) : clV (A.2.2.1 q) (wayV A i * A.2.2.2.1 1) = 0 := by
  unfold clV; rw [if_neg (fun z => h ((hw_iff hV hi hq).mpr z))]
theorem okS_no (h : okS A) {j : Nat} (hj : j < A.1) (hi : i < A.1) (hne : ¬ nI j = nI i) (h1 : apaB (A.2.2.2.2 j) (A.2.2.2.2 i) = false) (h2 : insB (A.2.2.2.2 j) (A.2.2.2.2 i) = false) (h3 : insB (A.2.2.2.2 i) (A.2.2.2.2 j) = false) : False := by
  rcases h j i hj hi (fun z => hne (by rw [z])) with e | e | e
  · rw [h2] at e; cases e
  · rw [h3] at e; cases e
  · rw [h1] at e; cases e
end FACTS
