/-! sound values are kept by the acts -/
theorem vF_5 {f : Fs} (h : vF f) {x : Int32} (h1 : 0 ≤ x.toInt) (h2 : x.toInt ≤ 2) : vF (upd f 5 x) := ⟨h.1, h.2.1, h1, h2⟩
theorem vF_4 {f : Fs} (h : vF f) {x : Int32} (h1 : 0 ≤ x.toInt) (h2 : x.toInt ≤ 3) : vF (upd f 4 x) := ⟨h.1, ⟨h1, h2⟩, h.2.2⟩
theorem vF_6 {f : Fs} (h : vF f) (x : Int32) : vF (upd f 6 x) := h
theorem vF_7 {f : Fs} (h : vF f) (x : Int32) : vF (upd f 7 x) := h
theorem ncN_mono {P Q : Nat → Fs} : ∀ n, (∀ q, q < n → P q 5 ≠ 0 → Q q 5 ≠ 0) → ncN P n ≤ ncN Q n
  | 0, _ => Nat.le_refl 0
  | n + 1, h => by
    have ih := ncN_mono n (fun q hq => h q (by omega))
    have h1 := h n (by omega)
    simp only [ncN]
    by_cases a : P n 5 = 0
    · rw [if_pos a]; split <;> omega
    · rw [if_neg a, if_neg (h1 a)]; omega
theorem ncN_more {P Q : Nat → Fs} {i : Nat} (h0 : P i 5 = 0) (h1 : Q i 5 ≠ 0) : ∀ n, i < n → (∀ q, q < n → P q 5 ≠ 0 → Q q 5 ≠ 0) → ncN P n + 1 ≤ ncN Q n
  | 0, hi, _ => absurd hi (Nat.not_lt_zero i)
  | n + 1, hi, h => by
    simp only [ncN]
    by_cases e : i = n
    · subst e
      have := ncN_mono (P := P) (Q := Q) i (fun q hq => h q (by omega))
      rw [if_pos h0, if_neg h1]; omega
    · have ih := ncN_more h0 h1 n (by omega) (fun q hq => h q (by omega))
      have h2 := h n (by omega)
      by_cases a : P n 5 = 0
      · rw [if_pos a]; split <;> omega
      · rw [if_neg a, if_neg (h2 a)]; omega
theorem ncN_all {P : Nat → Fs} : ∀ n, n ≤ ncN P n → ∀ q, q < n → P q 5 ≠ 0
  | 0, _, q, hq => absurd hq (Nat.not_lt_zero q)
  | n + 1, h, q, hq => by
    have h1 := ncN_le P n
    simp only [ncN] at h
    by_cases a : P n 5 = 0
    · rw [if_pos a] at h; omega
    · rw [if_neg a] at h
      by_cases e : q = n
      · subst e; exact a
      · exact ncN_all n (by omega) q (by omega)
section KEEP
variable {A : Ab} {i : Nat}
theorem VA_cool (hV : VA A) {x : Int32} (hx : iR x 0 999) : VA (coolA A x) := by
  refine ⟨hV.1, hV.2.1, hV.2.2.1, hV.2.2.2.1, hV.2.2.2.2.1, fun k hk => ?_⟩
  have h1 := hV.ht hk
  have h2 := hV.2.2.2.2.2 k hk
  have h3 := (xT_ti hV hx).2
  have e := imx_ti (h := A.2.2.1 k) (b := x * A.2.2.2.1 1) ⟨h1.1, by have := h1.2; omega⟩ ⟨h3.1, by have := h3.2; omega⟩
  show iR (imx (A.2.2.1 k - x * A.2.2.2.1 1) 0) 0 (64 * ncN A.2.2.2.2 A.1)
  have h4 := h3.1
  unfold iR at *
  rw [e]
  omega
theorem VA_P (hV : VA A) {Q : Nat → Fs} (h : ∀ i, i < A.1 → vF (Q i)) (h2 : ncN A.2.2.2.2 A.1 ≤ ncN Q A.1) : VA (A.1, A.2.1, A.2.2.1, A.2.2.2.1, Q) := by
  refine ⟨hV.1, h, hV.2.2.1, ⟨hV.2.2.2.1.1, ?_⟩, hV.2.2.2.2.1, fun k hk => ⟨(hV.2.2.2.2.2 k hk).1, ?_⟩⟩
  · have := hV.2.2.2.1.2
    show (A.2.1 3).toInt ≤ (ncN Q A.1 : Int)
    omega
  · have := (hV.2.2.2.2.2 k hk).2
    show (A.2.2.1 k).toInt ≤ 64 * (ncN Q A.1 : Int)
    omega
theorem way_9 (hV : VA A) (hi : i < A.1) : iR (wayV A i) 0 999 := by
  have h := way_in hV hi
  exact ⟨h.1, by have := h.2; omega⟩
theorem VA_cut (hV : VA A) (hi : i < A.1) (h0 : A.2.2.2.2 i 5 = 0) : VA (cutA A i) := by
  have hC := VA_cool hV (way_9 hV hi)
  have hv := hV.sh hi
  obtain ⟨c, t, hP⟩ : ∃ c t, (preA A i).2.2.2.2 = updF A.2.2.2.2 i (upd (upd (upd (A.2.2.2.2 i) 5 1) 7 c) 6 t) := ⟨_, _, rfl⟩
  have hp : ∀ q, q < A.1 → vF ((preA A i).2.2.2.2 q) ∧ (A.2.2.2.2 q 5 ≠ 0 → (preA A i).2.2.2.2 q 5 ≠ 0) := by
    intro q hq
    rw [hP]
    by_cases e : q = i
    · subst e
      rw [updF_same]
      exact ⟨vF_6 (vF_7 (vF_5 hv (by decide) (by decide)) c) t, fun h => absurd h0 h⟩
    · rw [updF_ne _ _ e]
      exact ⟨hV.sh hq, id⟩
  have hq : ∀ q, q < A.1 → vF ((cutA A i).2.2.2.2 q) ∧ (A.2.2.2.2 q 5 ≠ 0 → (cutA A i).2.2.2.2 q 5 ≠ 0) := by
    intro q hq
    obtain ⟨p1, p2⟩ := hp q hq
    show vF (losP (preA A i).2.2.2.2 ((preA A i).2.2.2.2 i) A.1 q) ∧ (_ → losP (preA A i).2.2.2.2 ((preA A i).2.2.2.2 i) A.1 q 5 ≠ 0)
    by_cases e : q < A.1 ∧ (preA A i).2.2.2.2 q 5 = 0 ∧ insB ((preA A i).2.2.2.2 q) ((preA A i).2.2.2.2 i) = true
    · simp only [losP, if_pos e]
      exact ⟨vF_5 p1 (by decide) (by decide), fun _ => (show (2 : Int32) ≠ 0 by decide)⟩
    · simp only [losP, if_neg e]
      exact ⟨p1, p2⟩
  have hci : (cutA A i).2.2.2.2 i 5 ≠ 0 := by
    show losP (preA A i).2.2.2.2 ((preA A i).2.2.2.2 i) A.1 i 5 ≠ 0
    rw [losP_self, hP, updF_same]
    exact (show (1 : Int32) ≠ 0 by decide)
  have hn := ncN_more h0 hci A.1 hi (fun q h => (hq q h).2)
  have l1 := lcV_in hv
  have l2 := lrV_in hv
  refine ⟨hV.1, fun q h => (hq q h).1, ⟨l1, l2⟩, ?_, hV.2.2.2.2.1, fun k hk => ?_⟩
  · have d := hV.2.2.2.1
    have d2 := hV.nc
    have e : (A.2.1 3 + 1).toInt = (A.2.1 3).toInt + 1 := by
      unfold iR at d
      rw [ti_add (by rw [t1]; omega) (by rw [t1]; omega), t1]
    show iR (A.2.1 3 + 1) 0 (ncN (cutA A i).2.2.2.2 A.1)
    unfold iR at *
    rw [e]
    omega
  · have g1 := hC.2.2.2.2.2 k hk
    have g2 := edgQ_in hv hk
    have g3 := hC.nc
    have e : ((coolA A (wayV A i)).2.2.1 k + edgQ (A.2.2.2.2 i) k).toInt = ((coolA A (wayV A i)).2.2.1 k).toInt + (edgQ (A.2.2.2.2 i) k).toInt := by
      unfold iR at g1
      exact ti_add (by omega) (by omega)
    show iR ((coolA A (wayV A i)).2.2.1 k + edgQ (A.2.2.2.2 i) k) 0 (64 * ncN (cutA A i).2.2.2.2 A.1)
    have g4 : ncN (coolA A (wayV A i)).2.2.2.2 (coolA A (wayV A i)).1 = ncN A.2.2.2.2 A.1 := rfl
    rw [g4] at g1
    unfold iR at *
    rw [e]
    omega
theorem cut_nc (hV : VA A) (hi : i < A.1) (h0 : A.2.2.2.2 i 5 = 0) : ncN A.2.2.2.2 A.1 + 1 ≤ ncN (cutA A i).2.2.2.2 (cutA A i).1 := by
  obtain ⟨c, t, hP⟩ : ∃ c t, (preA A i).2.2.2.2 = updF A.2.2.2.2 i (upd (upd (upd (A.2.2.2.2 i) 5 1) 7 c) 6 t) := ⟨_, _, rfl⟩
  have hci : (cutA A i).2.2.2.2 i 5 ≠ 0 := by
    show losP (preA A i).2.2.2.2 ((preA A i).2.2.2.2 i) A.1 i 5 ≠ 0
    rw [losP_self, hP, updF_same]
    exact (show (1 : Int32) ≠ 0 by decide)
  refine ncN_more h0 hci A.1 hi (fun q hq h => ?_)
  show losP (preA A i).2.2.2.2 ((preA A i).2.2.2.2 i) A.1 q 5 ≠ 0
  have p2 : (preA A i).2.2.2.2 q 5 ≠ 0 := by
    rw [hP]
    by_cases e : q = i
    · subst e; exact absurd h0 h
    · rw [updF_ne _ _ e]; exact h
  simp only [losP, if_neg (show ¬ (q < A.1 ∧ (preA A i).2.2.2.2 q 5 = 0 ∧ insB ((preA A i).2.2.2.2 q) ((preA A i).2.2.2.2 i) = true) from fun z => p2 z.2.1)]
  exact p2
theorem f5_0 {f : Fs} (h : vF f) (h1 : f 5 ≠ 1) (h2 : f 5 ≠ 2) : f 5 = 0 := by
  obtain ⟨-, -, a, b⟩ := h
  rw [ne_eq, ti_eq, t1] at h1
  rw [ne_eq, ti_eq, t2] at h2
  rw [ti_eq, t0]
  omega
theorem why_5 (hV : VA A) (hi : i < A.1) (h : whyV A i = 0) : A.2.2.2.2 i 5 = 0 := by
  have e := why_0 h
  exact f5_0 (hV.sh hi) e.2.1 e.2.2
theorem VA_cutX (hV : VA A) (v : Int32) : VA (cutX A v).2 := by
  unfold cutX
  split
  · rename_i h
    obtain ⟨i, hi, rfl, hc⟩ := knB_some hV.le h
    split
    · rename_i h2
      rw [hc] at h2 ⊢
      exact VA_cut hV hi (why_5 hV hi h2)
    · exact hV
  · exact hV
theorem betw_ti {v a b : Int32} (h : betw v a b = true) : a.toInt ≤ v.toInt ∧ v.toInt ≤ b.toInt := by
  simp only [betw, Bool.and_eq_true, Bool.not_eq_true', decide_eq_false_iff_not, ti_lt] at h
  omega
theorem VA_leadX (hV : VA A) (v c : Int32) : VA (leadX A v c).2 := by
  unfold leadX
  split
  · rename_i h
    simp only [Bool.and_eq_true] at h
    obtain ⟨i, hi, rfl, hc⟩ := knB_some hV.le h.1
    have hb := betw_ti h.2
    split
    · split
      · exact hV
      · refine VA_P hV (fun q hq => ?_) (ncN_mono _ (fun q hq z => ?_))
        · rw [hc]
          by_cases e : q = i
          · subst e; rw [updF_same]; exact vF_4 (hV.sh hi) hb.1 hb.2
          · rw [updF_ne _ _ e]; exact hV.sh hq
        · rw [hc]
          by_cases e : q = i
          · subst e; rw [updF_same]; exact z
          · rw [updF_ne _ _ e]; exact z
    · exact hV
  · exact hV
theorem VA_setX (hV : VA A) (w v : Int32) : VA (setX A w v).2 := by
  unfold setX
  split
  · rename_i h
    obtain ⟨q, hq, rfl, hc⟩ := betw_some (n := 3) rfl (by decide) h
    rw [hc]
    split
    · rename_i h2
      have hb := betw_ti h2
      split
      · exact hV
      · refine ⟨hV.1, hV.2.1, hV.2.2.1, hV.2.2.2.1, ?_, hV.2.2.2.2.2⟩
        obtain ⟨a0, a1, a2, a3⟩ := hV.2.2.2.2.1
        rcases (show q = 0 ∨ q = 1 ∨ q = 2 ∨ q = 3 by omega) with rfl | rfl | rfl | rfl
        · exact ⟨hb, a1, a2, a3⟩
        · exact ⟨a0, hb, a2, a3⟩
        · exact ⟨a0, a1, hb, a3⟩
        · exact ⟨a0, a1, a2, hb⟩
    · exact hV
  · exact hV
theorem VA_waitX (hV : VA A) (v : Int32) : VA (waitX A v).2 := by
  unfold waitX
  split
  · rename_i h
    have hb := betw_ti h
    exact VA_cool hV ⟨Int.le_trans (by decide) hb.1, hb.2⟩
  · exact hV
theorem s0_9 (hV : VA A) : iR (A.2.2.2.1 0) 0 999 := by
  have h := hV.s0
  exact ⟨by have := h.1; omega, by have := h.2; omega⟩
theorem VA_cleanX (hV : VA A) : VA (cleanX A).2 := by
  unfold cleanX
  split
  · exact hV
  · have h := VA_cool hV (s0_9 hV)
    exact ⟨h.1, h.2.1, h.2.2.1, ⟨(show 0 ≤ (0 : Int32).toInt by decide), Int.natCast_nonneg _⟩, h.2.2.2.2.1, h.2.2.2.2.2⟩
theorem bad_vF {c r w h : Int32} (hb : badB c r w h = false) (f : Fs) : vF (plF f c r w h) := by
  simp only [badB, Bool.not_eq_false', Bool.and_eq_true, Bool.not_eq_true', decide_eq_false_iff_not, ti_lt] at hb
  obtain ⟨⟨⟨⟨⟨h1, h2⟩, h3⟩, h4⟩, h5⟩, h6⟩ := hb
  have b1 := betw_ti h1
  have b2 := betw_ti h2
  have b3 := betw_ti h3
  have b4 := betw_ti h4
  have k31 : (31 : Int32).toInt = 31 := rfl
  have k23 : (23 : Int32).toInt = 23 := rfl
  have k32 : (32 : Int32).toInt = 32 := rfl
  have k24 : (24 : Int32).toInt = 24 := rfl
  rw [t0, k31] at b1
  rw [t0, k23] at b2
  rw [t2, k32] at b3
  rw [t2, k24] at b4
  rw [k32, ti_add (by omega) (by omega)] at h5
  rw [k24, ti_add (by omega) (by omega)] at h6
  refine ⟨⟨?_, ?_, ?_, ?_, ?_, ?_⟩, ⟨(show 0 ≤ (0 : Int32).toInt by decide), (show (0 : Int32).toInt ≤ 3 by decide)⟩, (show 0 ≤ (0 : Int32).toInt by decide), (show (0 : Int32).toInt ≤ 2 by decide)⟩
  · show 0 ≤ c.toInt; omega
  · show 0 ≤ r.toInt; omega
  · show 2 ≤ w.toInt; omega
  · show 2 ≤ h.toInt; omega
  · show c.toInt + w.toInt ≤ 32; omega
  · show r.toInt + h.toInt ≤ 24; omega
theorem VA_tellX (hV : VA A) (c r w h : Int32) : VA (tellX A c r w h).2 := by
  unfold tellX
  split
  · exact hV
  · rename_i hb
    rw [Bool.not_eq_true] at hb
    split
    · split
      · rename_i h12
        have hn : ncN A.2.2.2.2 A.1 ≤ ncN (updF A.2.2.2.2 A.1 (plF (fun _ => 0) c r w h)) (A.1 + 1) := by
          have := ncN_mono (P := A.2.2.2.2) (Q := updF A.2.2.2.2 A.1 (plF (fun _ => 0) c r w h)) A.1 (fun q hq z => by rw [updF_ne _ _ (show q ≠ A.1 by omega)]; exact z)
          simp only [ncN]
          omega
        refine ⟨h12, fun q hq => ?_, hV.2.2.1, ⟨hV.2.2.2.1.1, ?_⟩, hV.2.2.2.2.1, fun k hk => ⟨(hV.2.2.2.2.2 k hk).1, ?_⟩⟩
        · show vF (updF A.2.2.2.2 A.1 (plF (fun _ => 0) c r w h) q)
          by_cases e : q = A.1
          · subst e; rw [updF_same]; exact bad_vF hb _
          · rw [updF_ne _ _ e]
            have : q < A.1 + 1 := hq
            exact hV.sh (by omega)
        · have := hV.2.2.2.1.2
          show (A.2.1 3).toInt ≤ (ncN (updF A.2.2.2.2 A.1 (plF (fun _ => 0) c r w h)) (A.1 + 1) : Int)
          omega
        · have := (hV.2.2.2.2.2 k hk).2
          show (A.2.2.1 k).toInt ≤ 64 * (ncN (updF A.2.2.2.2 A.1 (plF (fun _ => 0) c r w h)) (A.1 + 1) : Int)
          omega
      · exact hV
    · exact hV
theorem few_in (hV : VA A) : ∀ n, n ≤ A.1 → fewV A n = -5 ∨ iR (fewV A n) 0 768
  | 0, _ => Or.inl rfl
  | n + 1, h => by
    have ih := few_in hV n (by omega)
    have k := kc_in hV (show n < A.1 by omega)
    simp only [fewV]
    by_cases a : kcV A n < 0
    · rw [if_pos a]; exact ih
    · rw [if_neg a]
      rw [ti_lt, t0] at a
      have hk : iR (kcV A n) 0 768 := ⟨by omega, k.2⟩
      split
      · exact Or.inr hk
      · split
        · exact Or.inr hk
        · exact ih
theorem few_9 (hV : VA A) (h : ¬ fewV A A.1 = -5) : iR (fewV A A.1) 0 999 := by
  rcases few_in hV A.1 (Nat.le_refl _) with e | e
  · exact absurd e h
  · exact ⟨e.1, by have := e.2; omega⟩
theorem VA_nextX (hV : VA A) : VA (nextX A).2 := by
  rcases hb : besO A A.1 with _ | q
  · by_cases h2 : fewV A A.1 = -5
    · rw [nextX_2 hb h2]; exact hV
    · have hC := VA_cool hV (few_9 hV h2)
      rcases hb3 : besO (coolA A (fewV A A.1)) A.1 with _ | q
      · rw [nextX_4 hb h2 hb3]; exact hC
      · rw [nextX_3 hb h2 hb3]
        exact VA_cut hC (besO_lt hb3) (why_5 hC (besO_lt hb3) (besO_why hb3))
  · rw [nextX_1 hb]
    exact VA_cut hV (besO_lt hb) (why_5 hV (besO_lt hb) (besO_why hb))
theorem next_nc (hV : VA A) {q : Nat} (h : (nextX A).1 = some q) : ncN A.2.2.2.2 A.1 + 1 ≤ ncN (nextX A).2.2.2.2.2 (nextX A).2.1 := by
  rcases hb : besO A A.1 with _ | q
  · by_cases h2 : fewV A A.1 = -5
    · rw [nextX_2 hb h2] at h; cases h
    · have hC := VA_cool hV (few_9 hV h2)
      rcases hb3 : besO (coolA A (fewV A A.1)) A.1 with _ | q
      · rw [nextX_4 hb h2 hb3] at h; cases h
      · have e := cut_nc hC (besO_lt hb3) (why_5 hC (besO_lt hb3) (besO_why hb3))
        have e2 : (nextX A).2 = cutA (coolA A (fewV A A.1)) q := by rw [nextX_3 hb h2 hb3]
        rw [e2]
        exact e
  · have e2 : (nextX A).2 = cutA A q := by rw [nextX_1 hb]
    rw [e2]
    exact cut_nc hV (besO_lt hb) (why_5 hV (besO_lt hb) (besO_why hb))
end KEEP
/-- a whole value is sound -/
def VW (w : Wt) : Prop := VA w.1 ∧ (∀ A, A ∈ w.2.1 → VA A) ∧ ∀ A, w.2.2.1 = some A → VA A
section KEEPW
variable {w : Wt}
theorem VW_rec (h : VW w) {r : Int32 × Ab} (hr : VA r.2) : VW (recX w r).2 := by
  refine ⟨hr, fun A hA => ?_, h.2.2⟩
  have hA : A ∈ (if r.1 < 0 then w.2.1 else pushH w.2.1 w.1) := hA
  split at hA
  · exact h.2.1 A hA
  · unfold pushH at hA
    split at hA
    · rcases List.mem_append.mp hA with e | e
      · exact h.2.1 A (List.mem_of_mem_drop e)
      · rcases List.mem_singleton.mp e with rfl; exact h.1
    · rcases List.mem_append.mp hA with e | e
      · exact h.2.1 A e
      · rcases List.mem_singleton.mp e with rfl; exact h.1
theorem VW_und (h : VW w) : VW (undX w).2 := by
  unfold undX
  split
  · exact h
  · rename_i A hl
    exact ⟨h.2.1 A (List.mem_of_getLast? hl), fun B hB => h.2.1 B (List.dropLast_subset _ hB), h.2.2⟩
theorem VW_keep (h : VW w) : VW (keepX w).2 := ⟨h.1, h.2.1, fun A hA => by cases hA; exact h.1⟩
theorem VW_res (h : VW w) : VW (resX w).2 := by
  unfold resX
  split
  · exact h
  · rename_i A hA
    exact VW_rec (r := (nI A.1, A)) h (h.2.2 A hA)
end KEEPW
