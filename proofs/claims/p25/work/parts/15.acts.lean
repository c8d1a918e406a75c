/-! the class: Sheet's writers (rows laid by wip/whole/p15.py) -/
theorem cpF_at (g f : Fs) (k : Nat) : cpF g f k k = g k := by simp [cpF]
theorem cpF_in (g f : Fs) {k q : Nat} (h : q < k) : cpF g f k q = f q := by simp [cpF, h]
theorem edgQ_4 {f f' : Fs} (h : ∀ k, k < 4 → f k = f' k) (k : Nat) : edgQ f k = edgQ f' k := by simp only [edgQ, fldV, fcV, frV, h 0 (by decide), h 1 (by decide), h 2 (by decide), h 3 (by decide)]
theorem lsV_5 {f f' : Fs} (h : ∀ k, k < 5 → f k = f' k) : lsV f = lsV f' := by simp only [lsV, lcV, lrV, h 0 (by decide), h 1 (by decide), h 2 (by decide), h 3 (by decide), h 4 (by decide)]
theorem insB_4 {f f' g g' : Fs} (h : ∀ k, k < 4 → f k = f' k) (h2 : ∀ k, k < 4 → g k = g' k) : insB f g = insB f' g' := by
  simp only [insB, h 0 (by decide), h 1 (by decide), h 2 (by decide), h 3 (by decide), h2 0 (by decide), h2 1 (by decide), h2 2 (by decide), h2 3 (by decide)]
theorem apaB_4 {f f' g g' : Fs} (h : ∀ k, k < 4 → f k = f' k) (h2 : ∀ k, k < 4 → g k = g' k) : apaB f g = apaB f' g' := by
  simp only [apaB, h 0 (by decide), h 1 (by decide), h 2 (by decide), h 3 (by decide), h2 0 (by decide), h2 1 (by decide), h2 2 (by decide), h2 3 (by decide)]
theorem fitB_4 {P : Nat → Fs} {f f' : Fs} (h : ∀ k, k < 4 → f k = f' k) : ∀ k, fitB P f k = fitB P f' k
  | 0 => rfl
  | k + 1 => by simp only [fitB, fitB_4 h k, okB, insB_4 h (fun _ _ => rfl), insB_4 (fun _ _ => rfl) h, apaB_4 h (fun _ _ => rfl)]
theorem insB_irr (f : Fs) : insB f f = false := by simp [insB]
theorem RC_int {σ : Sh} {A : Ab} (h : RC σ A) (k : Nat) (v : Int32) (h1 : 1 ≤ k := by decide) : RC (upd σ.1 k v, σ.2) (A.1, upd A.2.1 k v, A.2.2) := by
  refine ⟨h.1, (upd_ne _ _ (by omega)).trans h.told, fun q q1 q2 => ?_, h.2.2.2.1, h.2.2.2.2.1, h.2.2.2.2.2.1, h.2.2.2.2.2.2⟩
  by_cases e : q = k
  · subst e; exact (upd_same _ _ _).trans (upd_same _ _ _).symm
  · exact (upd_ne _ _ e).trans ((h.int q q1 q2).trans (upd_ne _ _ e).symm)
theorem RC_shp {σ : Sh} {A : Ab} (h : RC σ A) {i : Nat} (hi : i < A.1) (k : Nat) (v : Int32) (h1 : 4 ≤ k := by decide) : RC (shpF σ i (upd (σ.2.2.2.1 i) k v)) (A.1, A.2.1, A.2.2.1, A.2.2.2.1, updF A.2.2.2.2 i (upd (A.2.2.2.2 i) k v)) := by
  refine ⟨h.1, h.told, h.2.2.1, h.2.2.2.1, h.2.2.2.2.1, fun q hq z hz => ?_, fun q hq z hz => ?_⟩
  · show updF σ.2.2.2.1 i _ q z = updF A.2.2.2.2 i _ q z
    by_cases e : q = i
    · subst e
      rw [updF_same, updF_same]
      by_cases e2 : z = k
      · subst e2; rw [upd_same, upd_same]
      · rw [upd_ne _ _ e2, upd_ne _ _ e2]; exact h.shp hq z hz
    · rw [updF_ne _ _ e, updF_ne _ _ e]; exact h.shp hq z hz
  · show σ.2.2.2.2 q z = edgQ (updF A.2.2.2.2 i _ q) z
    by_cases e : q = i
    · subst e
      rw [updF_same, h.edg hq z hz]
      exact edgQ_4 (fun y hy => (upd_ne _ _ (by omega)).symm) z
    · rw [updF_ne _ _ e]; exact h.edg hq z hz
theorem RC_cool {σ : Sh} {A : Ab} (h : RC σ A) (x : Int32) : RC (upd σ.1 4 (A.2.1 4 + x), cpF σ.2.1 (fun q => imx (A.2.2.1 q - x * A.2.2.2.1 1) 0) 12, σ.2.2) (coolA A x) := by
  have h1 := RC_int h 4 (A.2.1 4 + x)
  exact ⟨h1.1, h1.2.1, h1.2.2.1, fun k hk => cpF_in σ.2.1 (fun q => imx (A.2.2.1 q - x * A.2.2.2.1 1) 0) hk, h1.2.2.2.2⟩
theorem RC_burn {σ : Sh} {A : Ab} (h : RC σ A) (i : Nat) : RC (upd (upd (upd σ.1 4 (A.2.1 4 + burV A i)) 5 (A.2.1 5 + burV A i)) 3 (A.2.1 3 + 1), cpF σ.2.1 (fun q => A.2.2.1 q + edgQ (A.2.2.2.2 i) q) 12, σ.2.2) (burnA A i) := by
  have h1 := RC_int (RC_int (RC_int h 4 (A.2.1 4 + burV A i)) 5 (A.2.1 5 + burV A i)) 3 (A.2.1 3 + 1)
  exact ⟨h1.1, h1.2.1, h1.2.2.1, fun k hk => cpF_in σ.2.1 (fun q => A.2.2.1 q + edgQ (A.2.2.2.2 i) q) hk, h1.2.2.2.2⟩
def wP (A : Ab) (P : Nat → Fs) : Ab := (A.1, A.2.1, A.2.2.1, A.2.2.2.1, P)
theorem losP_ge (P : Nat → Fs) (f : Fs) {k q : Nat} (h : k ≤ q) : losP P f k q = P q := by simp only [losP, show ¬ q < k by omega, false_and, if_false]
theorem losP_self (P : Nat → Fs) (i k : Nat) : losP P (P i) k i = P i := by simp only [losP, insB_irr, Bool.false_eq_true, and_false, if_false]
theorem losP_no (P : Nat → Fs) (f : Fs) {k : Nat} (h : ¬ (P k 5 = 0 ∧ insB (P k) f = true)) : losP P f (k + 1) = losP P f k := by
  funext q
  by_cases e : q = k
  · subst e
    rw [losP_ge P f (Nat.le_refl _)]
    simp only [losP, show q < q + 1 by omega, true_and, if_neg h]
  · simp only [losP, show q < k + 1 ↔ q < k by omega]
theorem losP_yes (P : Nat → Fs) (f : Fs) {k : Nat} (h1 : P k 5 = 0) (h2 : insB (P k) f = true) : losP P f (k + 1) = updF (losP P f k) k (upd (losP P f k k) 5 2) := by
  funext q
  by_cases e : q = k
  · subst e
    rw [losP_ge P f (Nat.le_refl _), updF_same]
    simp only [losP, show q < q + 1 by omega, true_and, h1, h2, if_true]
  · rw [updF_ne _ _ e]
    simp only [losP, show q < k + 1 ↔ q < k by omega]
theorem losP_0 (P : Nat → Fs) (f : Fs) : losP P f 0 = P := by funext q; exact losP_ge P f (Nat.zero_le _)
theorem besO_why {A : Ab} : ∀ {k q : Nat}, besO A k = some q → whyV A q = 0
  | 0, _, h => by simp [besO] at h
  | k + 1, q, h => by
    simp only [besO] at h
    split at h
    · rename_i hk
      split at h
      · cases h; exact hk
      · rename_i q' hq'
        have := besO_why hq'
        split at h <;> (cases h; assumption)
    · exact besO_why h
theorem cutX_nI {A : Ab} (ht : A.1 ≤ 12) {i : Nat} (hi : i < A.1) (h : whyV A i = 0) : cutX A (nI i) = (cutN A i, cutA A i) := by
  simp only [cutX, knB_nI ht hi, if_true, nI_clamp (show i < 2 ^ 31 by omega), h]
theorem RC_spare {σ : Sh} {A : Ab} (h : RC σ A) (f g : Fs) : RC (edgF (shpF σ A.1 f) A.1 g) A := by
  refine ⟨h.1, h.told, h.2.2.1, h.2.2.2.1, h.2.2.2.2.1, fun q hq z hz => ?_, fun q hq z hz => ?_⟩
  · show updF σ.2.2.2.1 A.1 f q z = _
    rw [updF_ne _ _ (show q ≠ A.1 by omega)]; exact h.shp hq z hz
  · show updF σ.2.2.2.2 A.1 g q z = _
    rw [updF_ne _ _ (show q ≠ A.1 by omega)]; exact h.edg hq z hz
theorem plF_8 (f g : Fs) (c r w h : Int32) : ∀ k, k < 8 → plF f c r w h k = plF g c r w h k := by
  intro k hk
  match k, hk with
  | 0, _ => rfl
  | 1, _ => rfl
  | 2, _ => rfl
  | 3, _ => rfl
  | 4, _ => rfl
  | 5, _ => rfl
  | 6, _ => rfl
  | 7, _ => rfl
theorem RC_add {σ : Sh} {A : Ab} (h : RC σ A) (ht : A.1 < 12) (g g2 f2 : Fs) (c r w hh : Int32) : RC (upd σ.1 0 (nI (A.1 + 1)), (edgF (shpF σ A.1 (plF g c r w hh)) A.1 (eqE g2 (plF g c r w hh) 12)).2) (A.1 + 1, A.2.1, A.2.2.1, A.2.2.2.1, updF A.2.2.2.2 A.1 (plF f2 c r w hh)) := by
  refine ⟨ht, upd_same σ.1 0 _, fun q q1 q2 => (upd_ne σ.1 _ (show q ≠ 0 by omega)).trans (h.int q q1 q2), h.2.2.2.1, h.2.2.2.2.1, fun q hq z hz => ?_, fun q hq z hz => ?_⟩
  · show updF σ.2.2.2.1 A.1 _ q z = updF A.2.2.2.2 A.1 _ q z
    by_cases e : q = A.1
    · subst e; rw [updF_same, updF_same]; exact plF_8 _ _ _ _ _ _ z hz
    · rw [updF_ne _ _ e, updF_ne _ _ e]; exact h.shp (by omega) z hz
  · show updF σ.2.2.2.2 A.1 _ q z = edgQ (updF A.2.2.2.2 A.1 _ q) z
    by_cases e : q = A.1
    · subst e
      rw [updF_same, updF_same]
      show (if z < 12 then edgQ _ z else _) = _
      rw [if_pos hz]
      exact edgQ_4 (fun y hy => plF_8 _ _ _ _ _ _ y (by omega)) z
    · rw [updF_ne _ _ e, updF_ne _ _ e]; exact h.edg (by omega) z hz
section SHEET4
variable {G : GX} {S : Nat → Sh} {B : Bc} {M : Md} {j i : Nat} {σ : Sh}
variable {A : Ab}
set_option maxHeartbeats 4000000 in
set_option maxRecDepth 100000 in
theorem c_X2_coolFor (hj : j < 8) (hR : RC σ A) (x : Int32) : Ct G yX2_coolFor YX2_coolFor 0 0 [.ref (gB G + sB j), .int x] (nN G) (cellOf G (updS S j σ) B M) (RS G (none) S j B M (coolA A x)) := by
  refine ct_of (by decide +kernel) rfl rfl (Nat.le_of_ble_eq_true rfl) (by simp [Value.category]) ?_
  refine x_sub (l' := [(0, .ref (gB G + sB j)), (1, .int x)]) ⟨rfl, rfl, trivial⟩ ?_
  have h12 := hR.le
  have lp : ∀ k, k ≤ 12 → XJ G YX2_coolFor (fun _ => True) (Zx G (RS G (none) S j B M (coolA A x)) 0 0) 12 [(0, .ref (gB G + sB j)), (1, .int x), (2, .int (nI k))] [] (nN G) (cellOf G (updS S j (upd σ.1 4 (A.2.1 4 + x), cpF σ.2.1 (fun q => imx (A.2.2.1 q - x * A.2.2.2.1 1) 0) k, σ.2.2)) B M) 0 0 := by
    refine loopD (12) ?_
    intro k hk ih
    refine x_iload_n (pc := 12) dX2_coolFor_12 rfl ?_
    refine x_bipush (pc := 13) (12) dX2_coolFor_13 (by decide) ?_
    refine x_cmpge (pc := 15) 49 dX2_coolFor_15 (by decide) (fun c15 => ?_) (fun c15 => ?_)
    · obtain rfl : k = 12 := by have := mt (lt_lit (n := 12) rfl (by decide) (by omega)).mpr c15; omega
      exact x_vret rfl dX2_coolFor_49 ⟨_, rfl, rfl, rfl, RC_cool hR x⟩
    · have hkn : k < 12 := (lt_lit rfl (by decide) (by omega)).mp c15
      refine x_aload_n (pc := 18) dX2_coolFor_18 rfl ?_
      refine x_get (pc := 19) (ci := 2) (k := 1) (C := RX2) (T := TX2) (N := 10) (cell_sheet (by first | assumption | omega)) rfl (sB_255 (by first | assumption | omega)) rfl nX2 (by decide) mF_X2_18 rfl dX2_coolFor_19 ?_
      refine x_iload_n (pc := 22) dX2_coolFor_22 rfl ?_
      refine x_aload_n (pc := 23) dX2_coolFor_23 rfl ?_
      refine x_get (pc := 24) (ci := 2) (k := 1) (C := RX2) (T := TX2) (N := 10) (cell_sheet (by first | assumption | omega)) rfl (sB_255 (by first | assumption | omega)) rfl nX2 (by decide) mF_X2_18 rfl dX2_coolFor_24 ?_
      refine x_iload_n (pc := 27) dX2_coolFor_27 rfl ?_
      refine t_ild (pc := 28) _ (cell_heats (by first | assumption | omega)) (htO_255 (by first | assumption | omega)) rfl (by first | assumption | omega) (by decide) dX2_coolFor_28 ?_
      try dsimp only
      rw [cpF_at, hR.heat _ hkn]
      refine x_iload_n (pc := 29) dX2_coolFor_29 rfl ?_
      refine x_aload_n (pc := 30) dX2_coolFor_30 rfl ?_
      refine x_get (pc := 31) (ci := 2) (k := 2) (C := RX2) (T := TX2) (N := 10) (cell_sheet (by first | assumption | omega)) rfl (sB_255 (by first | assumption | omega)) rfl nX2 (by decide) mF_X2_22 rfl dX2_coolFor_31 ?_
      refine x_iconst (pc := 34) (1) dX2_coolFor_34 (by decide) ?_
      refine t_ild (pc := 35) 1 (cell_sets (by first | assumption | omega)) (stO_255 (by first | assumption | omega)) rfl (by decide) (by decide) dX2_coolFor_35 ?_
      try dsimp only
      rw [hR.sett 1]
      refine x_imul (pc := 36) dX2_coolFor_36 ?_
      refine x_isub (pc := 37) dX2_coolFor_37 ?_
      refine x_iconst (pc := 38) (0) dX2_coolFor_38 (by decide) ?_
      refine x_max (pc := 39) mL_X2_131 (by decide) (Nat.le_of_ble_eq_true rfl) (Nat.le_of_ble_eq_true rfl) (Nat.le_of_ble_eq_true rfl) dX2_coolFor_39 ?_
      refine t_stHeats (pc := 42) (by first | assumption | omega) _ (by first | assumption | omega) rfl dX2_coolFor_42 ?_
      try dsimp only
      refine x_iinc (pc := 43) (nI (k + 1)) dX2_coolFor_43 rfl (iinc_nI k) (by decide) ?_
      refine x_goto (pc := 46) 12 dX2_coolFor_46 (by decide) ?_
      have e := ih hkn
      rw [← cpF_s _ _ k] at e
      exact x_back e ⟨rfl, rfl, rfl, trivial⟩
  refine x_aload_n (pc := 0) dX2_coolFor_0 rfl ?_
  refine x_dup (pc := 1) dX2_coolFor_1 rfl ?_
  refine x_get (pc := 2) (ci := 2) (k := 7) (C := RX2) (T := TX2) (N := 10) (cell_sheet (by first | assumption | omega)) rfl (sB_255 (by first | assumption | omega)) rfl nX2 (by decide) mF_X2_38 rfl dX2_coolFor_2 ?_
  rw [hR.int 4]
  refine x_iload_n (pc := 5) dX2_coolFor_5 rfl ?_
  refine x_iadd (pc := 6) dX2_coolFor_6 ?_
  refine t_putSh (pc := 7) (by first | assumption | omega) 4 (by decide) mF_X2_38 dX2_coolFor_7 ?_
  try dsimp only
  refine x_iconst (pc := 10) (0) dX2_coolFor_10 (by decide) ?_
  refine x_istore_n (pc := 11) dX2_coolFor_11 (by decide) ?_
  have e := lp 0 (by omega)
  rw [cpF_0] at e
  exact x_back e ⟨rfl, rfl, rfl, trivial⟩
set_option maxHeartbeats 4000000 in
set_option maxRecDepth 100000 in
theorem c_X2_burnEdge (hj : j < 8) (hR : RC σ A) (hi : i < A.1) : Ct G yX2_burnEdge YX2_burnEdge 0 0 [.ref (gB G + sB j), .ref (gB G + shO j i)] (nN G) (cellOf G (updS S j σ) B M) (RS G (none) S j B M (burnA A i)) := by
  refine ct_of (by decide +kernel) rfl rfl (Nat.le_of_ble_eq_true rfl) (by simp [Value.category]) ?_
  refine x_sub (l' := [(0, .ref (gB G + sB j)), (1, .ref (gB G + shO j i))]) ⟨rfl, rfl, trivial⟩ ?_
  have h12 := hR.le
  have lp : ∀ k, k ≤ 12 → XJ G YX2_burnEdge (fun _ => True) (Zx G (RS G (none) S j B M (burnA A i)) 0 0) 28 [(0, .ref (gB G + sB j)), (1, .ref (gB G + shO j i)), (3, .int (nI k))] [] (nN G) (cellOf G (updS S j (upd (upd σ.1 4 (A.2.1 4 + burV A i)) 5 (A.2.1 5 + burV A i), cpF σ.2.1 (fun q => A.2.2.1 q + edgQ (A.2.2.2.2 i) q) k, σ.2.2)) B M) 0 0 := by
    refine loopD (12) ?_
    intro k hk ih
    refine x_iload_n (pc := 28) dX2_burnEdge_28 rfl ?_
    refine x_bipush (pc := 29) (12) dX2_burnEdge_29 (by decide) ?_
    refine x_cmpge (pc := 31) 55 dX2_burnEdge_31 (by decide) (fun c31 => ?_) (fun c31 => ?_)
    · obtain rfl : k = 12 := by have := mt (lt_lit (n := 12) rfl (by decide) (by omega)).mpr c31; omega
      refine x_aload_n (pc := 55) dX2_burnEdge_55 rfl ?_
      refine x_dup (pc := 56) dX2_burnEdge_56 rfl ?_
      refine x_get (pc := 57) (ci := 2) (k := 6) (C := RX2) (T := TX2) (N := 10) (cell_sheet (by first | assumption | omega)) rfl (sB_255 (by first | assumption | omega)) rfl nX2 (by decide) mF_X2_35 rfl dX2_burnEdge_57 ?_
      try dsimp only
      rw [upd_ne _ _ (show 3 ≠ 5 by decide), upd_ne _ _ (show 3 ≠ 4 by decide), hR.int 3]
      refine x_iconst (pc := 60) (1) dX2_burnEdge_60 (by decide) ?_
      refine x_iadd (pc := 61) dX2_burnEdge_61 ?_
      refine t_putSh (pc := 62) (by first | assumption | omega) 3 (by decide) mF_X2_35 dX2_burnEdge_62 ?_
      try dsimp only
      exact x_vret rfl dX2_burnEdge_65 ⟨_, rfl, rfl, rfl, RC_burn hR i⟩
    · have hkn : k < 12 := (lt_lit rfl (by decide) (by omega)).mp c31
      refine x_aload_n (pc := 34) dX2_burnEdge_34 rfl ?_
      refine x_get (pc := 35) (ci := 2) (k := 1) (C := RX2) (T := TX2) (N := 10) (cell_sheet (by first | assumption | omega)) rfl (sB_255 (by first | assumption | omega)) rfl nX2 (by decide) mF_X2_18 rfl dX2_burnEdge_35 ?_
      refine x_iload_n (pc := 38) dX2_burnEdge_38 rfl ?_
      refine x_dup2 (pc := 39) dX2_burnEdge_39 rfl rfl ?_
      refine t_ild (pc := 40) _ (cell_heats (by first | assumption | omega)) (htO_255 (by first | assumption | omega)) rfl (by first | assumption | omega) (by decide) dX2_burnEdge_40 ?_
      try dsimp only
      rw [cpF_at, hR.heat _ hkn]
      refine x_aload_n (pc := 41) dX2_burnEdge_41 rfl ?_
      refine x_get (pc := 42) (ci := 1) (k := 8) (C := RX1) (T := TX1) (N := 9) (cell_shape (by first | assumption | omega) (by first | assumption | omega)) rfl (shO_255 (by first | assumption | omega) (by first | assumption | omega)) rfl nX1 (by decide) mF_X2_128 rfl dX2_burnEdge_42 ?_
      refine x_iload_n (pc := 45) dX2_burnEdge_45 rfl ?_
      refine t_ild (pc := 46) _ (cell_edge (by first | assumption | omega) (by first | assumption | omega)) (egO_255 (by first | assumption | omega) (by first | assumption | omega)) rfl (by first | assumption | omega) (by decide) dX2_burnEdge_46 ?_
      try dsimp only
      rw [hR.edg hi _ hkn]
      refine x_iadd (pc := 47) dX2_burnEdge_47 ?_
      refine t_stHeats (pc := 48) (by first | assumption | omega) _ (by first | assumption | omega) rfl dX2_burnEdge_48 ?_
      try dsimp only
      refine x_iinc (pc := 49) (nI (k + 1)) dX2_burnEdge_49 rfl (iinc_nI k) (by decide) ?_
      refine x_goto (pc := 52) 28 dX2_burnEdge_52 (by decide) ?_
      have e := ih hkn
      rw [← cpF_s _ _ k] at e
      exact x_back e ⟨rfl, rfl, rfl, trivial⟩
  refine x_aload_n (pc := 0) dX2_burnEdge_0 rfl ?_
  refine x_aload_n (pc := 1) dX2_burnEdge_1 rfl ?_
  refine t_Vi (pc := 2) (c_X2_burningOf (by first | assumption | omega) hR (by first | assumption | omega)) qV_X2_burningOf mL_X2_125 dX2_burnEdge_2 rfl (cell_sheet (by first | assumption | omega)) (sB_255 (by first | assumption | omega)) rfl rfl rfl ⟨by decide, by decide⟩ (Nat.le_of_ble_eq_true rfl) (Nat.le_of_ble_eq_true rfl) (Nat.le_of_ble_eq_true rfl) ?_
  refine x_istore_n (pc := 5) dX2_burnEdge_5 (by decide) ?_
  refine x_aload_n (pc := 6) dX2_burnEdge_6 rfl ?_
  refine x_dup (pc := 7) dX2_burnEdge_7 rfl ?_
  refine x_get (pc := 8) (ci := 2) (k := 7) (C := RX2) (T := TX2) (N := 10) (cell_sheet (by first | assumption | omega)) rfl (sB_255 (by first | assumption | omega)) rfl nX2 (by decide) mF_X2_38 rfl dX2_burnEdge_8 ?_
  rw [hR.int 4]
  refine x_iload_n (pc := 11) dX2_burnEdge_11 rfl ?_
  refine x_iadd (pc := 12) dX2_burnEdge_12 ?_
  refine t_putSh (pc := 13) (by first | assumption | omega) 4 (by decide) mF_X2_38 dX2_burnEdge_13 ?_
  try dsimp only
  refine x_aload_n (pc := 16) dX2_burnEdge_16 rfl ?_
  refine x_dup (pc := 17) dX2_burnEdge_17 rfl ?_
  refine x_get (pc := 18) (ci := 2) (k := 8) (C := RX2) (T := TX2) (N := 10) (cell_sheet (by first | assumption | omega)) rfl (sB_255 (by first | assumption | omega)) rfl nX2 (by decide) mF_X2_41 rfl dX2_burnEdge_18 ?_
  try dsimp only
  rw [upd_ne _ _ (show 5 ≠ 4 by decide), hR.int 5]
  refine x_iload_n (pc := 21) dX2_burnEdge_21 rfl ?_
  refine x_iadd (pc := 22) dX2_burnEdge_22 ?_
  refine t_putSh (pc := 23) (by first | assumption | omega) 5 (by decide) mF_X2_41 dX2_burnEdge_23 ?_
  try dsimp only
  refine x_iconst (pc := 26) (0) dX2_burnEdge_26 (by decide) ?_
  refine x_istore_n (pc := 27) dX2_burnEdge_27 (by decide) ?_
  have e := lp 0 (by omega)
  rw [cpF_0] at e
  exact x_back e ⟨rfl, rfl, rfl, trivial⟩
set_option maxHeartbeats 4000000 in
set_option maxRecDepth 100000 in
theorem c_X2_loseShapesInside (hj : j < 8) (hR : RC σ A) (hi : i < A.1) : Ct G yX2_loseShapesInside YX2_loseShapesInside 0 0 [.ref (gB G + sB j), .ref (gB G + shO j i)] (nN G) (cellOf G (updS S j σ) B M) (RS G (some (.int (losN A.2.2.2.2 (A.2.2.2.2 i) A.1))) S j B M (losA A i)) := by
  refine ct_of (by decide +kernel) rfl rfl (Nat.le_of_ble_eq_true rfl) (by simp [Value.category]) ?_
  refine x_sub (l' := [(0, .ref (gB G + sB j)), (1, .ref (gB G + shO j i))]) ⟨rfl, rfl, trivial⟩ ?_
  have h12 := hR.le
  have lp : ∀ k, k ≤ A.1 → ∀ τ : Sh, RC τ (wP A (losP A.2.2.2.2 (A.2.2.2.2 i) k)) → XJ G YX2_loseShapesInside (fun _ => True) (Zx G (RS G (some (.int (losN A.2.2.2.2 (A.2.2.2.2 i) A.1))) S j B M (losA A i)) 0 0) 4 [(0, .ref (gB G + sB j)), (1, .ref (gB G + shO j i)), (2, .int (losN A.2.2.2.2 (A.2.2.2.2 i) k)), (3, .int (nI k))] [] (nN G) (cellOf G (updS S j τ) B M) 0 0 := by
    refine loopD (A.1) ?_
    intro k hk ih τ hT
    refine x_iload_n (pc := 4) dX2_loseShapesInside_4 rfl ?_
    refine x_aload_n (pc := 5) dX2_loseShapesInside_5 rfl ?_
    refine x_get (pc := 6) (ci := 2) (k := 3) (C := RX2) (T := TX2) (N := 10) (cell_sheet (by first | assumption | omega)) rfl (sB_255 (by first | assumption | omega)) rfl nX2 (by decide) mF_X2_25 rfl dX2_loseShapesInside_6 ?_
    rw [hT.told]
    show XJ _ _ _ _ _ _ (.int (nI A.1) :: _) _ _ _ _
    refine x_cmpge (pc := 9) 52 dX2_loseShapesInside_9 (by decide) (fun c9 => ?_) (fun c9 => ?_)
    · obtain rfl : k = A.1 := by have := mt (tl_iff hR.le hk).mpr c9; omega
      refine x_iload_n (pc := 52) dX2_loseShapesInside_52 rfl ?_
      exact x_iret rfl dX2_loseShapesInside_53 ⟨τ, rfl, rfl, rfl, hT⟩
    · have hkn : k < A.1 := (tl_iff hR.le hk).mp c9
      refine x_aload_n (pc := 12) dX2_loseShapesInside_12 rfl ?_
      refine x_get (pc := 13) (ci := 2) (k := 0) (C := RX2) (T := TX2) (N := 10) (cell_sheet (by first | assumption | omega)) rfl (sB_255 (by first | assumption | omega)) rfl nX2 (by decide) mF_X2_13 rfl dX2_loseShapesInside_13 ?_
      refine x_iload_n (pc := 16) dX2_loseShapesInside_16 rfl ?_
      refine t_shapes (pc := 17) _ (by first | assumption | omega) rfl (by first | assumption | omega) dX2_loseShapesInside_17 ?_
      refine x_astore (pc := 18) dX2_loseShapesInside_18 (by decide) ?_
      refine x_aload (pc := 20) dX2_loseShapesInside_20 rfl ?_
      refine x_get (pc := 22) (ci := 1) (k := 5) (C := RX1) (T := TX1) (N := 9) (cell_shape (by first | assumption | omega) (by first | assumption | omega)) rfl (shO_255 (by first | assumption | omega) (by first | assumption | omega)) rfl nX1 (by decide) mF_X2_66 rfl dX2_loseShapesInside_22 ?_
      rw [hT.shp hkn 5]
      simp only [wP, losP_ge _ _ (Nat.le_refl k)]
      refine x_ifne (pc := 25) 46 dX2_loseShapesInside_25 (by decide) (fun c25 => ?_) (fun c25 => ?_)
      · refine x_iinc (pc := 46) (nI (k + 1)) dX2_loseShapesInside_46 rfl (iinc_nI k) (by decide) ?_
        refine x_goto (pc := 49) 4 dX2_loseShapesInside_49 (by decide) ?_
        first
        | (have hn : ¬ (A.2.2.2.2 k 5 = 0 ∧ insB (A.2.2.2.2 k) (A.2.2.2.2 i) = true) := fun z => c25 z.1
           have e := ih hkn τ (by rw [losP_no _ _ hn]; exact hT)
           simp only [losN, if_neg hn] at e
           exact x_back e ⟨rfl, rfl, rfl, rfl, trivial⟩)
        | (have hb := b01_eq c34
           have hn : ¬ (A.2.2.2.2 k 5 = 0 ∧ insB (A.2.2.2.2 k) (A.2.2.2.2 i) = true) := fun z => by rw [hb] at z; cases z.2
           have e := ih hkn τ (by rw [losP_no _ _ hn]; exact hT)
           simp only [losN, if_neg hn] at e
           exact x_back e ⟨rfl, rfl, rfl, rfl, trivial⟩)
        | (have hb := b01_ne c34
           have e := ih hkn _ (by rw [losP_yes _ _ c25 hb]; exact RC_shp hT hkn 5 2)
           simp only [losN, if_pos (And.intro c25 hb)] at e
           exact x_back e ⟨rfl, rfl, rfl, rfl, trivial⟩)
      · refine x_aload (pc := 28) dX2_loseShapesInside_28 rfl ?_
        refine x_aload_n (pc := 30) dX2_loseShapesInside_30 rfl ?_
        refine t_Vi (pc := 31) (c_X1_isInside (i := k) (i2 := i) (σ := τ) (by first | assumption | omega) (by first | assumption | omega) (by first | assumption | omega)) qV_X1_isInside mL_X2_63 dX2_loseShapesInside_31 rfl (cell_shape (by first | assumption | omega) (by first | assumption | omega)) (shO_255 (by first | assumption | omega) (by first | assumption | omega)) rfl rfl rfl ⟨by decide, by decide⟩ (Nat.le_of_ble_eq_true rfl) (Nat.le_of_ble_eq_true rfl) (Nat.le_of_ble_eq_true rfl) ?_
        rw [hT.ins hkn hi]
        simp only [wP, losP_ge _ _ (Nat.le_refl k), losP_self]
        refine x_ifeq (pc := 34) 46 dX2_loseShapesInside_34 (by decide) (fun c34 => ?_) (fun c34 => ?_)
        · refine x_iinc (pc := 46) (nI (k + 1)) dX2_loseShapesInside_46 rfl (iinc_nI k) (by decide) ?_
          refine x_goto (pc := 49) 4 dX2_loseShapesInside_49 (by decide) ?_
          first
          | (have hn : ¬ (A.2.2.2.2 k 5 = 0 ∧ insB (A.2.2.2.2 k) (A.2.2.2.2 i) = true) := fun z => c25 z.1
             have e := ih hkn τ (by rw [losP_no _ _ hn]; exact hT)
             simp only [losN, if_neg hn] at e
             exact x_back e ⟨rfl, rfl, rfl, rfl, trivial⟩)
          | (have hb := b01_eq c34
             have hn : ¬ (A.2.2.2.2 k 5 = 0 ∧ insB (A.2.2.2.2 k) (A.2.2.2.2 i) = true) := fun z => by rw [hb] at z; cases z.2
             have e := ih hkn τ (by rw [losP_no _ _ hn]; exact hT)
             simp only [losN, if_neg hn] at e
             exact x_back e ⟨rfl, rfl, rfl, rfl, trivial⟩)
          | (have hb := b01_ne c34
             have e := ih hkn _ (by rw [losP_yes _ _ c25 hb]; exact RC_shp hT hkn 5 2)
             simp only [losN, if_pos (And.intro c25 hb)] at e
             exact x_back e ⟨rfl, rfl, rfl, rfl, trivial⟩)
        · refine x_aload (pc := 37) dX2_loseShapesInside_37 rfl ?_
          refine x_iconst (pc := 39) (2) dX2_loseShapesInside_39 (by decide) ?_
          refine t_putShape (pc := 40) (by first | assumption | omega) (by first | assumption | omega) 5 (by decide) mF_X2_66 dX2_loseShapesInside_40 ?_
          try dsimp only
          refine x_iinc (pc := 43) (_ + (1)) dX2_loseShapesInside_43 rfl rfl (by decide) ?_
          refine x_iinc (pc := 46) (nI (k + 1)) dX2_loseShapesInside_46 rfl (iinc_nI k) (by decide) ?_
          refine x_goto (pc := 49) 4 dX2_loseShapesInside_49 (by decide) ?_
          first
          | (have hn : ¬ (A.2.2.2.2 k 5 = 0 ∧ insB (A.2.2.2.2 k) (A.2.2.2.2 i) = true) := fun z => c25 z.1
             have e := ih hkn τ (by rw [losP_no _ _ hn]; exact hT)
             simp only [losN, if_neg hn] at e
             exact x_back e ⟨rfl, rfl, rfl, rfl, trivial⟩)
          | (have hb := b01_eq c34
             have hn : ¬ (A.2.2.2.2 k 5 = 0 ∧ insB (A.2.2.2.2 k) (A.2.2.2.2 i) = true) := fun z => by rw [hb] at z; cases z.2
             have e := ih hkn τ (by rw [losP_no _ _ hn]; exact hT)
             simp only [losN, if_neg hn] at e
             exact x_back e ⟨rfl, rfl, rfl, rfl, trivial⟩)
          | (have hb := b01_ne c34
             have e := ih hkn _ (by rw [losP_yes _ _ c25 hb]; exact RC_shp hT hkn 5 2)
             simp only [losN, if_pos (And.intro c25 hb)] at e
             exact x_back e ⟨rfl, rfl, rfl, rfl, trivial⟩)
  refine x_iconst (pc := 0) (0) dX2_loseShapesInside_0 (by decide) ?_
  refine x_istore_n (pc := 1) dX2_loseShapesInside_1 (by decide) ?_
  refine x_iconst (pc := 2) (0) dX2_loseShapesInside_2 (by decide) ?_
  refine x_istore_n (pc := 3) dX2_loseShapesInside_3 (by decide) ?_
  exact x_back (lp 0 (by omega) σ (by rw [losP_0]; exact hR)) ⟨rfl, rfl, rfl, rfl, trivial⟩
set_option maxHeartbeats 4000000 in
set_option maxRecDepth 100000 in
theorem c_X2_waitFor (hj : j < 8) (hR : RC σ A) (v : Int32) : Ct G yX2_waitFor YX2_waitFor 0 0 [.ref (gB G + sB j), .int v] (nN G) (cellOf G (updS S j σ) B M) (RS G (some (.int (waitX A v).1)) S j B M ((waitX A v).2)) := by
  refine ct_of (by decide +kernel) rfl rfl (Nat.le_of_ble_eq_true rfl) (by simp [Value.category]) ?_
  refine x_sub (l' := [(0, .ref (gB G + sB j)), (1, .int v)]) ⟨rfl, rfl, trivial⟩ ?_
  have h12 := hR.le
  refine x_iload_n (pc := 0) dX2_waitFor_0 rfl ?_
  refine x_iconst (pc := 1) (1) dX2_waitFor_1 (by decide) ?_
  refine x_sipush (pc := 2) (999) dX2_waitFor_2 (by decide) ?_
  refine t_Ni (pc := 5) (c_X3_isIn _ _ _) qS_X3_isIn (fun s h => h.2.2.2) dX2_waitFor_5 rfl rfl rfl ⟨by decide, by decide⟩ (Nat.le_of_ble_eq_true rfl) (Nat.le_of_ble_eq_true rfl) (Nat.le_of_ble_eq_true rfl) ?_
  refine x_ifne (pc := 8) 14 dX2_waitFor_8 (by decide) (fun c8 => ?_) (fun c8 => ?_)
  · refine x_aload_n (pc := 14) dX2_waitFor_14 rfl ?_
    refine x_iload_n (pc := 15) dX2_waitFor_15 rfl ?_
    refine e_Vv (pc := 16) (c_X2_coolFor (by first | assumption | omega) hR _) qV_X2_coolFor mL_X2_93 dX2_waitFor_16 rfl (cell_sheet (by first | assumption | omega)) (sB_255 (by first | assumption | omega)) rfl rfl rfl ⟨by decide, by decide⟩ (Nat.le_of_ble_eq_true rfl) (Nat.le_of_ble_eq_true rfl) (Nat.le_of_ble_eq_true rfl) ?_
    intro σ1 R1
    refine x_aload_n (pc := 19) dX2_waitFor_19 rfl ?_
    refine t_Vi (pc := 20) (c_X2_greatestHeat (by first | assumption | omega) R1) qV_X2_greatestHeat mL_X2_116 dX2_waitFor_20 rfl (cell_sheet (by first | assumption | omega)) (sB_255 (by first | assumption | omega)) rfl rfl rfl ⟨by decide, by decide⟩ (Nat.le_of_ble_eq_true rfl) (Nat.le_of_ble_eq_true rfl) (Nat.le_of_ble_eq_true rfl) ?_
    have t := b01_ne c8
    exact x_iret rfl dX2_waitFor_23 ⟨σ1, by simp only [waitX, t, if_true], rfl, rfl, by simp only [waitX, t, if_true]; exact R1⟩
  · refine x_bipush (pc := 11) (-2) dX2_waitFor_11 (by decide) ?_
    have t := b01_eq c8
    exact x_iret rfl dX2_waitFor_13 ⟨σ, by simp only [waitX, t, Bool.false_eq_true, if_false], rfl, rfl, by simp only [waitX, t, Bool.false_eq_true, if_false]; exact hR⟩
set_option maxHeartbeats 4000000 in
set_option maxRecDepth 100000 in
theorem c_X2_cleanLens (hj : j < 8) (hR : RC σ A) : Ct G yX2_cleanLens YX2_cleanLens 0 0 [.ref (gB G + sB j)] (nN G) (cellOf G (updS S j σ) B M) (RS G (some (.int (cleanX A).1)) S j B M ((cleanX A).2)) := by
  refine ct_of (by decide +kernel) rfl rfl (Nat.le_of_ble_eq_true rfl) (by simp [Value.category]) ?_
  refine x_sub (l' := [(0, .ref (gB G + sB j))]) ⟨rfl, trivial⟩ ?_
  have h12 := hR.le
  refine x_aload_n (pc := 0) dX2_cleanLens_0 rfl ?_
  refine x_get (pc := 1) (ci := 2) (k := 6) (C := RX2) (T := TX2) (N := 10) (cell_sheet (by first | assumption | omega)) rfl (sB_255 (by first | assumption | omega)) rfl nX2 (by decide) mF_X2_35 rfl dX2_cleanLens_1 ?_
  rw [hR.int 3]
  refine x_ifne (pc := 4) 10 dX2_cleanLens_4 (by decide) (fun c4 => ?_) (fun c4 => ?_)
  · refine x_aload_n (pc := 10) dX2_cleanLens_10 rfl ?_
    refine x_get (pc := 11) (ci := 2) (k := 6) (C := RX2) (T := TX2) (N := 10) (cell_sheet (by first | assumption | omega)) rfl (sB_255 (by first | assumption | omega)) rfl nX2 (by decide) mF_X2_35 rfl dX2_cleanLens_11 ?_
    rw [hR.int 3]
    refine x_istore_n (pc := 14) dX2_cleanLens_14 (by decide) ?_
    refine x_aload_n (pc := 15) dX2_cleanLens_15 rfl ?_
    refine x_aload_n (pc := 16) dX2_cleanLens_16 rfl ?_
    refine x_get (pc := 17) (ci := 2) (k := 2) (C := RX2) (T := TX2) (N := 10) (cell_sheet (by first | assumption | omega)) rfl (sB_255 (by first | assumption | omega)) rfl nX2 (by decide) mF_X2_22 rfl dX2_cleanLens_17 ?_
    refine x_iconst (pc := 20) (0) dX2_cleanLens_20 (by decide) ?_
    refine t_ild (pc := 21) 0 (cell_sets (by first | assumption | omega)) (stO_255 (by first | assumption | omega)) rfl (by decide) (by decide) dX2_cleanLens_21 ?_
    rw [hR.sett _ (by decide)]
    refine e_Vv (pc := 22) (c_X2_coolFor (by first | assumption | omega) hR _) qV_X2_coolFor mL_X2_93 dX2_cleanLens_22 rfl (cell_sheet (by first | assumption | omega)) (sB_255 (by first | assumption | omega)) rfl rfl rfl ⟨by decide, by decide⟩ (Nat.le_of_ble_eq_true rfl) (Nat.le_of_ble_eq_true rfl) (Nat.le_of_ble_eq_true rfl) ?_
    intro σ1 R1
    refine x_aload_n (pc := 25) dX2_cleanLens_25 rfl ?_
    refine x_iconst (pc := 26) (0) dX2_cleanLens_26 (by decide) ?_
    refine t_putSh (pc := 27) (by first | assumption | omega) 3 (by decide) mF_X2_35 dX2_cleanLens_27 ?_
    try dsimp only
    refine x_iload_n (pc := 30) dX2_cleanLens_30 rfl ?_
    exact x_iret rfl dX2_cleanLens_31 ⟨_, by simp only [cleanX, if_neg c4], rfl, rfl, by simp only [cleanX, if_neg c4]; exact RC_int R1 3 0⟩
  · refine x_bipush (pc := 7) (-5) dX2_cleanLens_7 (by decide) ?_
    exact x_iret rfl dX2_cleanLens_9 ⟨σ, by simp only [cleanX, if_pos c4], rfl, rfl, by simp only [cleanX, if_pos c4]; exact hR⟩
set_option maxHeartbeats 4000000 in
set_option maxRecDepth 100000 in
theorem c_X2_changeLead (hj : j < 8) (hR : RC σ A) (v c : Int32) : Ct G yX2_changeLead YX2_changeLead 0 0 [.ref (gB G + sB j), .int v, .int c] (nN G) (cellOf G (updS S j σ) B M) (RS G (some (.int (leadX A v c).1)) S j B M ((leadX A v c).2)) := by
  refine ct_of (by decide +kernel) rfl rfl (Nat.le_of_ble_eq_true rfl) (by simp [Value.category]) ?_
  refine x_sub (l' := [(0, .ref (gB G + sB j)), (1, .int v), (2, .int c)]) ⟨rfl, rfl, rfl, trivial⟩ ?_
  have h12 := hR.le
  refine x_aload_n (pc := 0) dX2_changeLead_0 rfl ?_
  refine x_iload_n (pc := 1) dX2_changeLead_1 rfl ?_
  refine t_Vi (pc := 2) (c_X2_knows (by first | assumption | omega) hR _) qV_X2_knows mL_X2_72 dX2_changeLead_2 rfl (cell_sheet (by first | assumption | omega)) (sB_255 (by first | assumption | omega)) rfl rfl rfl ⟨by decide, by decide⟩ (Nat.le_of_ble_eq_true rfl) (Nat.le_of_ble_eq_true rfl) (Nat.le_of_ble_eq_true rfl) ?_
  refine x_ifeq (pc := 5) 17 dX2_changeLead_5 (by decide) (fun c5 => ?_) (fun c5 => ?_)
  · refine x_iconst (pc := 17) (-1) dX2_changeLead_17 (by decide) ?_
    have tt : (knB A v && betw c 0 3) = false := by
      first
      | (have t := b01_eq c5; rw [t]; rfl)
      | (have t := b01_eq c14; rw [t]; exact Bool.and_false _)
    exact x_iret rfl dX2_changeLead_18 ⟨σ, by simp only [leadX, tt, Bool.false_eq_true, if_false], rfl, rfl, by simp only [leadX, tt, Bool.false_eq_true, if_false]; exact hR⟩
  · refine x_iload_n (pc := 8) dX2_changeLead_8 rfl ?_
    refine x_iconst (pc := 9) (0) dX2_changeLead_9 (by decide) ?_
    refine x_iconst (pc := 10) (3) dX2_changeLead_10 (by decide) ?_
    refine t_Ni (pc := 11) (c_X3_isIn _ _ _) qS_X3_isIn (fun s h => h.2.2.2) dX2_changeLead_11 rfl rfl rfl ⟨by decide, by decide⟩ (Nat.le_of_ble_eq_true rfl) (Nat.le_of_ble_eq_true rfl) (Nat.le_of_ble_eq_true rfl) ?_
    refine x_ifne (pc := 14) 19 dX2_changeLead_14 (by decide) (fun c14 => ?_) (fun c14 => ?_)
    · have t1 := b01_ne c5
      have t2 := b01_ne c14
      obtain ⟨i, hi, rfl, hcl⟩ := knB_some hR.le t1
      refine x_aload_n (pc := 19) dX2_changeLead_19 rfl ?_
      refine x_get (pc := 20) (ci := 2) (k := 0) (C := RX2) (T := TX2) (N := 10) (cell_sheet (by first | assumption | omega)) rfl (sB_255 (by first | assumption | omega)) rfl nX2 (by decide) mF_X2_13 rfl dX2_changeLead_20 ?_
      refine x_iload_n (pc := 23) dX2_changeLead_23 rfl ?_
      refine t_shapes (pc := 24) _ (by first | assumption | omega) rfl (by first | assumption | omega) dX2_changeLead_24 ?_
      refine x_astore_n (pc := 25) dX2_changeLead_25 (by decide) ?_
      refine x_aload_n (pc := 26) dX2_changeLead_26 rfl ?_
      refine x_get (pc := 27) (ci := 1) (k := 5) (C := RX1) (T := TX1) (N := 9) (cell_shape (by first | assumption | omega) (by first | assumption | omega)) rfl (shO_255 (by first | assumption | omega) (by first | assumption | omega)) rfl nX1 (by decide) mF_X2_66 rfl dX2_changeLead_27 ?_
      rw [hR.shp (by first | assumption | omega) 5]
      refine x_ifeq (pc := 30) 36 dX2_changeLead_30 (by decide) (fun c30 => ?_) (fun c30 => ?_)
      · refine x_aload_n (pc := 36) dX2_changeLead_36 rfl ?_
        refine x_get (pc := 37) (ci := 1) (k := 4) (C := RX1) (T := TX1) (N := 9) (cell_shape (by first | assumption | omega) (by first | assumption | omega)) rfl (shO_255 (by first | assumption | omega) (by first | assumption | omega)) rfl nX1 (by decide) mF_X2_76 rfl dX2_changeLead_37 ?_
        rw [hR.shp (by first | assumption | omega) 4]
        refine x_iload_n (pc := 40) dX2_changeLead_40 rfl ?_
        refine x_cmpne (pc := 41) 47 dX2_changeLead_41 (by decide) (fun c41 => ?_) (fun c41 => ?_)
        · refine x_aload_n (pc := 47) dX2_changeLead_47 rfl ?_
          refine x_get (pc := 48) (ci := 1) (k := 4) (C := RX1) (T := TX1) (N := 9) (cell_shape (by first | assumption | omega) (by first | assumption | omega)) rfl (shO_255 (by first | assumption | omega) (by first | assumption | omega)) rfl nX1 (by decide) mF_X2_76 rfl dX2_changeLead_48 ?_
          rw [hR.shp (by first | assumption | omega) 4]
          refine x_istore (pc := 51) dX2_changeLead_51 (by decide) ?_
          refine x_aload_n (pc := 53) dX2_changeLead_53 rfl ?_
          refine x_iload_n (pc := 54) dX2_changeLead_54 rfl ?_
          refine t_putShape (pc := 55) (by first | assumption | omega) (by first | assumption | omega) 4 (by decide) mF_X2_76 dX2_changeLead_55 ?_
          try dsimp only
          refine x_iload (pc := 58) dX2_changeLead_58 rfl ?_
          exact x_iret rfl dX2_changeLead_60 ⟨_, by simp only [leadX, t1, t2, Bool.and_self, if_true, hcl, if_pos c30, if_neg c41], rfl, rfl, by simp only [leadX, t1, t2, Bool.and_self, if_true, hcl, if_pos c30, if_neg c41]; exact RC_shp hR hi 4 c⟩
        · refine x_bipush (pc := 44) (-5) dX2_changeLead_44 (by decide) ?_
          exact x_iret rfl dX2_changeLead_46 ⟨σ, by simp only [leadX, t1, t2, Bool.and_self, if_true, hcl, if_pos c30, if_pos c41], rfl, rfl, by simp only [leadX, t1, t2, Bool.and_self, if_true, hcl, if_pos c30, if_pos c41]; exact hR⟩
      · refine x_bipush (pc := 33) (-4) dX2_changeLead_33 (by decide) ?_
        exact x_iret rfl dX2_changeLead_35 ⟨σ, by simp only [leadX, t1, t2, Bool.and_self, if_true, hcl, if_neg c30], rfl, rfl, by simp only [leadX, t1, t2, Bool.and_self, if_true, hcl, if_neg c30]; exact hR⟩
    · refine x_iconst (pc := 17) (-1) dX2_changeLead_17 (by decide) ?_
      have tt : (knB A v && betw c 0 3) = false := by
        first
        | (have t := b01_eq c5; rw [t]; rfl)
        | (have t := b01_eq c14; rw [t]; exact Bool.and_false _)
      exact x_iret rfl dX2_changeLead_18 ⟨σ, by simp only [leadX, tt, Bool.false_eq_true, if_false], rfl, rfl, by simp only [leadX, tt, Bool.false_eq_true, if_false]; exact hR⟩
theorem RC_set {σ : Sh} {A : Ab} (h : RC σ A) (k : Nat) (v : Int32) : RC (σ.1, σ.2.1, upd σ.2.2.1 k v, σ.2.2.2) (A.1, A.2.1, A.2.2.1, upd A.2.2.2.1 k v, A.2.2.2.2) := by
  refine ⟨h.1, h.2.1, h.2.2.1, h.2.2.2.1, fun q hq => ?_, h.2.2.2.2.2.1, h.2.2.2.2.2.2⟩
  by_cases e : q = k
  · subst e; exact (upd_same _ _ _).trans (upd_same _ _ _).symm
  · exact (upd_ne _ _ e).trans ((h.sett q hq).trans (upd_ne _ _ e).symm)
set_option maxHeartbeats 4000000 in
set_option maxRecDepth 100000 in
theorem c_X2_changeSetting (hj : j < 8) (hR : RC σ A) (w v : Int32) : Ct G yX2_changeSetting YX2_changeSetting 0 0 [.ref (gB G + sB j), .int w, .int v] (nN G) (cellOf G (updS S j σ) B M) (RS G (some (.int (setX A w v).1)) S j B M ((setX A w v).2)) := by
  refine ct_of (by decide +kernel) rfl rfl (Nat.le_of_ble_eq_true rfl) (by simp [Value.category]) ?_
  refine x_sub (l' := [(0, .ref (gB G + sB j)), (1, .int w), (2, .int v)]) ⟨rfl, rfl, rfl, trivial⟩ ?_
  have h12 := hR.le
  refine x_iload_n (pc := 0) dX2_changeSetting_0 rfl ?_
  refine x_iconst (pc := 1) (0) dX2_changeSetting_1 (by decide) ?_
  refine x_iconst (pc := 2) (3) dX2_changeSetting_2 (by decide) ?_
  refine t_Ni (pc := 3) (c_X3_isIn _ _ _) qS_X3_isIn (fun s h => h.2.2.2) dX2_changeSetting_3 rfl rfl rfl ⟨by decide, by decide⟩ (Nat.le_of_ble_eq_true rfl) (Nat.le_of_ble_eq_true rfl) (Nat.le_of_ble_eq_true rfl) ?_
  refine x_ifne (pc := 6) 11 dX2_changeSetting_6 (by decide) (fun c6 => ?_) (fun c6 => ?_)
  · have t1 := b01_ne c6
    obtain ⟨q, hq, rfl, hcl⟩ := betw_some (n := 3) rfl (by decide) t1
    have hq4 : q < 4 := by omega
    refine x_iload_n (pc := 11) dX2_changeSetting_11 rfl ?_
    refine x_gets1 (pc := 12) rfl dX2_changeSetting_12 ?_
    refine x_iload_n (pc := 15) dX2_changeSetting_15 rfl ?_
    refine x_tab1 (pc := 16) (in_of rfl hq4 (by decide)) dX2_changeSetting_16 ?_
    refine x_gets2 (pc := 17) rfl dX2_changeSetting_17 ?_
    refine x_iload_n (pc := 20) dX2_changeSetting_20 rfl ?_
    refine x_tab2 (pc := 21) (in_of rfl hq4 (by decide)) dX2_changeSetting_21 ?_
    refine t_Ni (pc := 22) (c_X3_isIn _ _ _) qS_X3_isIn (fun s h => h.2.2.2) dX2_changeSetting_22 rfl rfl rfl ⟨by decide, by decide⟩ (Nat.le_of_ble_eq_true rfl) (Nat.le_of_ble_eq_true rfl) (Nat.le_of_ble_eq_true rfl) ?_
    refine x_ifne (pc := 25) 31 dX2_changeSetting_25 (by decide) (fun c25 => ?_) (fun c25 => ?_)
    · have t2 := b01_ne c25
      rw [hcl] at t2
      refine x_aload_n (pc := 31) dX2_changeSetting_31 rfl ?_
      refine x_get (pc := 32) (ci := 2) (k := 2) (C := RX2) (T := TX2) (N := 10) (cell_sheet (by first | assumption | omega)) rfl (sB_255 (by first | assumption | omega)) rfl nX2 (by decide) mF_X2_22 rfl dX2_changeSetting_32 ?_
      refine x_iload_n (pc := 35) dX2_changeSetting_35 rfl ?_
      refine t_ild (pc := 36) q (cell_sets (by first | assumption | omega)) (stO_255 (by first | assumption | omega)) rfl hq4 (by decide) dX2_changeSetting_36 ?_
      rw [hR.sett _ hq4]
      refine x_iload_n (pc := 37) dX2_changeSetting_37 rfl ?_
      refine x_cmpne (pc := 38) 44 dX2_changeSetting_38 (by decide) (fun c38 => ?_) (fun c38 => ?_)
      · refine x_aload_n (pc := 44) dX2_changeSetting_44 rfl ?_
        refine x_get (pc := 45) (ci := 2) (k := 2) (C := RX2) (T := TX2) (N := 10) (cell_sheet (by first | assumption | omega)) rfl (sB_255 (by first | assumption | omega)) rfl nX2 (by decide) mF_X2_22 rfl dX2_changeSetting_45 ?_
        refine x_iload_n (pc := 48) dX2_changeSetting_48 rfl ?_
        refine t_ild (pc := 49) q (cell_sets (by first | assumption | omega)) (stO_255 (by first | assumption | omega)) rfl hq4 (by decide) dX2_changeSetting_49 ?_
        rw [hR.sett _ hq4]
        refine x_istore_n (pc := 50) dX2_changeSetting_50 (by decide) ?_
        refine x_aload_n (pc := 51) dX2_changeSetting_51 rfl ?_
        refine x_get (pc := 52) (ci := 2) (k := 2) (C := RX2) (T := TX2) (N := 10) (cell_sheet (by first | assumption | omega)) rfl (sB_255 (by first | assumption | omega)) rfl nX2 (by decide) mF_X2_22 rfl dX2_changeSetting_52 ?_
        refine x_iload_n (pc := 55) dX2_changeSetting_55 rfl ?_
        refine x_iload_n (pc := 56) dX2_changeSetting_56 rfl ?_
        refine t_stSets (pc := 57) (by first | assumption | omega) q hq4 rfl dX2_changeSetting_57 ?_
        try dsimp only
        refine x_iload_n (pc := 58) dX2_changeSetting_58 rfl ?_
        exact x_iret rfl dX2_changeSetting_59 ⟨_, by simp only [setX, t1, if_true, hcl, t2, if_neg c38], rfl, rfl, by simp only [setX, t1, if_true, hcl, t2, if_neg c38]; exact RC_set hR q v⟩
      · refine x_bipush (pc := 41) (-5) dX2_changeSetting_41 (by decide) ?_
        exact x_iret rfl dX2_changeSetting_43 ⟨σ, by simp only [setX, t1, if_true, hcl, t2, if_pos c38], rfl, rfl, by simp only [setX, t1, if_true, hcl, t2, if_pos c38]; exact hR⟩
    · have t2 := b01_eq c25
      rw [hcl] at t2
      refine x_bipush (pc := 28) (-2) dX2_changeSetting_28 (by decide) ?_
      exact x_iret rfl dX2_changeSetting_30 ⟨σ, by simp only [setX, t1, if_true, hcl, t2, Bool.false_eq_true, if_false], rfl, rfl, by simp only [setX, t1, if_true, hcl, t2, Bool.false_eq_true, if_false]; exact hR⟩
  · refine x_iconst (pc := 9) (-1) dX2_changeSetting_9 (by decide) ?_
    have t := b01_eq c6
    exact x_iret rfl dX2_changeSetting_10 ⟨σ, by simp only [setX, t, Bool.false_eq_true, if_false], rfl, rfl, by simp only [setX, t, Bool.false_eq_true, if_false]; exact hR⟩
end SHEET4
