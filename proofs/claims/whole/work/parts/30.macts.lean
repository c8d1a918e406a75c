/-! the reference: acts on its row (rows laid by wip/whole/p30.py) -/
def coolK (A : Ab) (x : Int32) (k : Nat) : Ab := (A.1, upd A.2.1 4 (A.2.1 4 + x), cpF A.2.2.1 (fun q => imx (A.2.2.1 q - x * A.2.2.2.1 1) 0) k, A.2.2.2)
theorem coolK_s (A : Ab) (x : Int32) (k : Nat) : (A.1, upd A.2.1 4 (A.2.1 4 + x), upd (cpF A.2.2.1 (fun q => imx (A.2.2.1 q - x * A.2.2.2.1 1) 0) k) k (imx (A.2.2.1 k - x * A.2.2.2.1 1) 0), A.2.2.2) = coolK A x (k + 1) := by
  unfold coolK
  rw [← cpF_s A.2.2.1 (fun q => imx (A.2.2.1 q - x * A.2.2.2.1 1) 0) k]
theorem coolK_e {s : Fs} {A : Ab} {x : Int32} (h : RM s (coolK A x 12)) : RM s (coolA A x) :=
  RM_v h rfl (fun _ _ _ => rfl) (fun k hk => (cpF_in A.2.2.1 (fun q => imx (A.2.2.1 q - x * A.2.2.2.1 1) 0) hk).symm) (fun _ _ => rfl) (fun _ _ _ _ => rfl)
def burK (A : Ab) (i k : Nat) : Ab := (A.1, upd (upd (upd A.2.1 4 (A.2.1 4 + burV A i)) 5 (A.2.1 5 + burV A i)) 3 (A.2.1 3 + 1), cpF A.2.2.1 (fun q => A.2.2.1 q + edgQ (A.2.2.2.2 i) q) k, A.2.2.2)
theorem burK_s (A : Ab) (i k : Nat) : (A.1, upd (upd (upd A.2.1 4 (A.2.1 4 + burV A i)) 5 (A.2.1 5 + burV A i)) 3 (A.2.1 3 + 1), upd (cpF A.2.2.1 (fun q => A.2.2.1 q + edgQ (A.2.2.2.2 i) q) k) k (A.2.2.1 k + edgQ (A.2.2.2.2 i) k), A.2.2.2) = burK A i (k + 1) := by
  unfold burK
  rw [← cpF_s A.2.2.1 (fun q => A.2.2.1 q + edgQ (A.2.2.2.2 i) q) k]
theorem burK_e {s : Fs} {A : Ab} {i : Nat} (h : RM s (burK A i 12)) : RM s (burnA A i) :=
  RM_v h rfl (fun _ _ _ => rfl) (fun k hk => (cpF_in A.2.2.1 (fun q => A.2.2.1 q + edgQ (A.2.2.2.2 i) q) hk).symm) (fun _ _ => rfl) (fun _ _ _ _ => rfl)
theorem lsV_lt {f : Fs} (h : vF f) : ∃ q, q < 12 ∧ lsV f = nI q := by
  have a := lcV_in h
  have b := lrV_in h
  obtain ⟨c, hc, ec⟩ := nI_of (x := lcV f) (by rw [ti_lt, t0]; omega)
  obtain ⟨r, hr, er⟩ := nI_of (x := lrV f) (by rw [ti_lt, t0]; omega)
  rw [ec, nI_toInt hc] at a
  rw [er, nI_toInt hr] at b
  have d1 : ∀ c, c < 32 → nI c / 8 = nI (c / 8) := by decide +kernel
  have d2 : ∀ r, r < 24 → 4 * (nI r / 8) = nI (4 * (r / 8)) := by decide +kernel
  refine ⟨c / 8 + 4 * (r / 8), by omega, ?_⟩
  unfold lsV
  rw [ec, er, d1 c (by omega), d2 r (by omega), nI_add]
theorem ls_ix {f : Fs} {q : Nat} (h : lsV f = nI q) : 11 + lcV f / 8 + 4 * (lrV f / 8) = nI (11 + q) := by
  rw [Int32.add_assoc, show lcV f / 8 + 4 * (lrV f / 8) = lsV f from rfl, h, nI_11]
theorem hin_nI {H : Fs} {q : Nat} (hq : q < 12) : hinV H (nI q) = H q := by
  have e : betw (nI q) 0 11 = true := by
    simp only [betw, decide_eq_false (nI_pos (show q < 2 ^ 31 by omega))]
    rw [decide_eq_false (show ¬ (11 : Int32) < nI q from fun z => absurd ((nI_ltI (a := 11) (by decide) (by omega)).mp z) (by omega))]
    rfl
  unfold hinV
  rw [if_pos e, nI_clamp (by omega)]
def clK (s : Fs) (i k : Nat) : Fs := fun q => if 23 + 8 * i ≤ q ∧ q < 23 + 8 * i + k then 0 else s q
theorem clK_0 (s : Fs) (i : Nat) : clK s i 0 = s := by
  funext q
  simp only [clK]
  rw [if_neg (by omega)]
theorem clK_s (s : Fs) (i k : Nat) : upd (clK s i k) (23 + 8 * i + k) 0 = clK s i (k + 1) := by
  funext q
  by_cases e : q = 23 + 8 * i + k
  · subst e
    rw [upd_same]
    simp only [clK]
    rw [if_pos (by omega)]
  · rw [upd_ne _ _ e]
    simp only [clK]
    by_cases c : 23 + 8 * i ≤ q ∧ q < 23 + 8 * i + k
    · rw [if_pos c, if_pos (by omega)]
    · rw [if_neg c, if_neg (by omega)]
def layF (s : Fs) (i : Nat) (c r w h : Int32) : Fs := upd (upd (upd (upd (upd (clK s i 8) (23 + 8 * i + 0) c) (23 + 8 * i + 1) r) (23 + 8 * i + 2) w) (23 + 8 * i + 3) h) (23 + 8 * i + 7) (-5)
theorem layF_out (s : Fs) (i : Nat) (c r w h : Int32) {q : Nat} (hq : q < 23 + 8 * i ∨ 23 + 8 * i + 8 ≤ q) : layF s i c r w h q = s q := by
  unfold layF
  rw [upd_ne _ _ (by omega), upd_ne _ _ (by omega), upd_ne _ _ (by omega), upd_ne _ _ (by omega), upd_ne _ _ (by omega)]
  simp only [clK]
  rw [if_neg (by omega)]
theorem layF_in (s : Fs) (i : Nat) (c r w h : Int32) {k : Nat} (hk : k < 8) : layF s i c r w h (23 + 8 * i + k) = plF (fun _ => 0) c r w h k := by
  unfold layF plF
  have z : ∀ q, q < 8 → clK s i 8 (23 + 8 * i + q) = 0 := fun q hq => by
    simp only [clK]
    rw [if_pos (by omega)]
  rcases (show k = 0 ∨ k = 1 ∨ k = 2 ∨ k = 3 ∨ k = 4 ∨ k = 5 ∨ k = 6 ∨ k = 7 by omega) with rfl | rfl | rfl | rfl | rfl | rfl | rfl | rfl
  · rw [upd_ne _ _ (by omega), upd_ne _ _ (by omega), upd_ne _ _ (by omega), upd_ne _ _ (by omega), upd_same]; rfl
  · rw [upd_ne _ _ (by omega), upd_ne _ _ (by omega), upd_ne _ _ (by omega), upd_same]; rfl
  · rw [upd_ne _ _ (by omega), upd_ne _ _ (by omega), upd_same]; rfl
  · rw [upd_ne _ _ (by omega), upd_same]; rfl
  · rw [upd_ne _ _ (by omega), upd_ne _ _ (by omega), upd_ne _ _ (by omega), upd_ne _ _ (by omega), upd_ne _ _ (by omega), z 4 (by decide)]; rfl
  · rw [upd_ne _ _ (by omega), upd_ne _ _ (by omega), upd_ne _ _ (by omega), upd_ne _ _ (by omega), upd_ne _ _ (by omega), z 5 (by decide)]; rfl
  · rw [upd_ne _ _ (by omega), upd_ne _ _ (by omega), upd_ne _ _ (by omega), upd_ne _ _ (by omega), upd_ne _ _ (by omega), z 6 (by decide)]; rfl
  · rw [upd_same]; rfl
theorem RM_add {s : Fs} {A : Ab} (h : RM s A) (ht : A.1 < 12) (c r w hh : Int32) : RM (layF (upd s 0 (nI (A.1 + 1))) A.1 c r w hh) (A.1 + 1, A.2.1, A.2.2.1, A.2.2.2.1, updF A.2.2.2.2 A.1 (plF (fun _ => 0) c r w hh)) := by
  have z : ∀ q, q < 23 + 8 * A.1 → q ≠ 0 → layF (upd s 0 (nI (A.1 + 1))) A.1 c r w hh q = s q := fun q h1 h2 => (layF_out _ _ _ _ _ _ (Or.inl h1)).trans (upd_ne s _ h2)
  refine ⟨ht, (layF_out _ _ _ _ _ _ (Or.inl (by omega))).trans (upd_same s 0 _), fun q q1 q2 => (z q (by omega) (by omega)).trans (h.int q q1 q2), fun q hq => (z _ (by omega) (by omega)).trans (h.heat q hq), fun q hq => (z _ (by omega) (by omega)).trans (h.sett q hq), fun j hj q hq => ?_⟩
  show _ = updF A.2.2.2.2 A.1 _ j q
  have hj : j < A.1 + 1 := hj
  by_cases e : j = A.1
  · subst e
    rw [updF_same, layF_in _ _ _ _ _ _ hq]
  · rw [updF_ne _ _ e]
    exact (z _ (by omega) (by omega)).trans (h.shp (by omega) q hq)
theorem RM_same4 {s : Fs} {A : Ab} {i : Nat} {c : Int32} (h : RM s (A.1, A.2.1, A.2.2.1, A.2.2.2.1, updF A.2.2.2.2 i (upd (A.2.2.2.2 i) 4 c))) (e : A.2.2.2.2 i 4 = c) : RM s A :=
  RM_v h rfl (fun _ _ _ => rfl) (fun _ _ => rfl) (fun _ _ => rfl) (fun j _ k _ => by
    show A.2.2.2.2 j k = updF A.2.2.2.2 i (upd (A.2.2.2.2 i) 4 c) j k
    by_cases a : j = i
    · subst a
      rw [updF_same]
      by_cases b : k = 4
      · subst b; rw [upd_same]; exact e
      · rw [upd_ne _ _ b]
    · rw [updF_ne _ _ a])
section MACTS
variable {G : GX} {S : Nat → Sh} {B : Bc} {N s : Fs} {T : Fs × Fs × Fs × Fs × Fs × Fs} {A : Ab} {i k : Nat}
set_option maxHeartbeats 4000000 in
set_option maxRecDepth 100000 in
theorem c_X4_cools (hM : RM s A) (hV : VA A) (x : Int32) (hx : iR x 0 999) : Ct G yX4_cools YX4_cools 0 0 [.ref (gB G + 247), .int x] 255 (cellOf G S B (N, s, T)) (Re G (none) (fun _ : Fs => S) (fun _ => B) (fun s' : Fs => (N, s', T)) (fun s' => RM s' (coolA A x))) := by
  refine ct_of (by decide +kernel) rfl rfl (Nat.le_of_ble_eq_true rfl) (by simp [Value.category]) ?_
  refine x_sub (l' := [(0, .ref (gB G + 247)), (1, .int x)]) ⟨rfl, rfl, trivial⟩ ?_
  have lp : ∀ k, k ≤ 12 → ∀ u : Fs, RM u (coolK A x k) → XJ G YX4_cools (fun _ => True) (Zx G (Re G (none) (fun _ : Fs => S) (fun _ => B) (fun s' : Fs => (N, s', T)) (fun s' => RM s' (coolA A x))) 0 0) 12 [(0, .ref (gB G + 247)), (1, .int x), (2, .int (nI k))] [] 255 (cellOf G S B (N, u, T)) 0 0 := by
    refine loopD (12) ?_
    intro k hk ih u hU
    refine x_iload_n (pc := 12) dX4_cools_12 rfl ?_
    refine x_bipush (pc := 13) (12) dX4_cools_13 (by decide) ?_
    refine x_cmpge (pc := 15) 54 dX4_cools_15 (by decide) (fun c15 => ?_) (fun c15 => ?_)
    · obtain rfl : k = 12 := by have := mt (lt_lit (n := 12) rfl (by decide) (by omega)).mpr c15; omega
      exact x_vret rfl dX4_cools_54 ⟨u, rfl, rfl, rfl, coolK_e hU⟩
    · have hkn : k < 12 := (lt_lit rfl (by decide) (by omega)).mp c15
      refine x_aload_n (pc := 18) dX4_cools_18 rfl ?_
      refine x_get (pc := 19) (ci := 4) (k := 0) (C := RX4) (T := TX4) (N := 21) cell_model rfl (by decide) rfl nX4 (by decide) mF_X4_7 rfl dX4_cools_19 ?_
      refine x_bipush (pc := 22) (11) dX4_cools_22 (by decide) ?_
      refine x_iload_n (pc := 24) dX4_cools_24 rfl ?_
      refine x_iadd (pc := 25) dX4_cools_25 ?_
      refine x_aload_n (pc := 26) dX4_cools_26 rfl ?_
      refine x_get (pc := 27) (ci := 4) (k := 0) (C := RX4) (T := TX4) (N := 21) cell_model rfl (by decide) rfl nX4 (by decide) mF_X4_7 rfl dX4_cools_27 ?_
      refine x_bipush (pc := 30) (11) dX4_cools_30 (by decide) ?_
      refine x_iload_n (pc := 32) dX4_cools_32 rfl ?_
      refine x_iadd (pc := 33) dX4_cools_33 ?_
      refine t_ild (pc := 34) (11 + k) cell_s (by decide) (nI_11 k) (by omega) (by decide) dX4_cools_34 ?_
      try dsimp only
      try dsimp only
      rw [hU.heat k hkn]
      refine x_iload_n (pc := 35) dX4_cools_35 rfl ?_
      refine x_aload_n (pc := 36) dX4_cools_36 rfl ?_
      refine x_get (pc := 37) (ci := 4) (k := 0) (C := RX4) (T := TX4) (N := 21) cell_model rfl (by decide) rfl nX4 (by decide) mF_X4_7 rfl dX4_cools_37 ?_
      refine x_bipush (pc := 40) (8) dX4_cools_40 (by decide) ?_
      refine t_ild (pc := 42) 8 cell_s (by decide) rfl (by decide) (by decide) dX4_cools_42 ?_
      try dsimp only
      try dsimp only
      rw [hU.sett 1]
      refine x_imul (pc := 43) dX4_cools_43 ?_
      refine t_Si (pc := 44) (c_X4_cooled _ _) qS_X4_cooled mL_X4_82 dX4_cools_44 rfl rfl rfl ⟨by decide, by decide⟩ (Nat.le_of_ble_eq_true rfl) (Nat.le_of_ble_eq_true rfl) (Nat.le_of_ble_eq_true rfl) ?_
      have ec : clV ((coolK A x k).2.2.1 k) (x * (coolK A x k).2.2.2.1 1) = imx (A.2.2.1 k - x * A.2.2.2.1 1) 0 := by
        rw [← cool_eq hV hx hkn, show (coolK A x k).2.2.1 k = A.2.2.1 k from cpF_at A.2.2.1 (fun q => imx (A.2.2.1 q - x * A.2.2.2.1 1) 0) k]
        rfl
      rw [ec]
      refine t_stS (pc := 47) (11 + k) (by omega) (nI_11 k) dX4_cools_47 ?_
      try dsimp only
      have hU2 := RM_heat hU k hkn (imx (A.2.2.1 k - x * A.2.2.2.1 1) 0)
      have hU3 : RM (upd u (11 + k) (imx (A.2.2.1 k - x * A.2.2.2.1 1) 0)) (coolK A x (k + 1)) := by rw [← coolK_s]; exact hU2
      refine x_iinc (pc := 48) (nI (k + 1)) dX4_cools_48 rfl (iinc_nI k) (by decide) ?_
      refine x_goto (pc := 51) 12 dX4_cools_51 (by decide) ?_
      exact x_back (ih hkn _ hU3) ⟨rfl, rfl, rfl, trivial⟩
  refine x_aload_n (pc := 0) dX4_cools_0 rfl ?_
  refine x_get (pc := 1) (ci := 4) (k := 0) (C := RX4) (T := TX4) (N := 21) cell_model rfl (by decide) rfl nX4 (by decide) mF_X4_7 rfl dX4_cools_1 ?_
  refine x_iconst (pc := 4) (4) dX4_cools_4 (by decide) ?_
  refine x_dup2 (pc := 5) dX4_cools_5 rfl rfl ?_
  refine t_ild (pc := 6) 4 cell_s (by decide) rfl (by decide) (by decide) dX4_cools_6 ?_
  try dsimp only
  rw [hM.int 4]
  refine x_iload_n (pc := 7) dX4_cools_7 rfl ?_
  refine x_iadd (pc := 8) dX4_cools_8 ?_
  refine t_stS (pc := 9) 4 (by decide) rfl dX4_cools_9 ?_
  try dsimp only
  have h1 := RM_int hM 4 (A.2.1 4 + x)
  refine x_iconst (pc := 10) (0) dX4_cools_10 (by decide) ?_
  refine x_istore_n (pc := 11) dX4_cools_11 (by decide) ?_
  exact x_back (lp 0 (by omega) _ h1) ⟨rfl, rfl, rfl, trivial⟩
set_option maxHeartbeats 4000000 in
set_option maxRecDepth 100000 in
theorem c_X4_waits (hM : RM s A) (hV : VA A) (x : Int32) (hb : betw x 1 999 = true) : Ct G yX4_waits YX4_waits 0 0 [.ref (gB G + 247), .int x] 255 (cellOf G S B (N, s, T)) (Re G (some (.int (waitX A x).1)) (fun _ : Fs => S) (fun _ => B) (fun s' : Fs => (N, s', T)) (fun s' => RM s' ((waitX A x).2))) := by
  refine ct_of (by decide +kernel) rfl rfl (Nat.le_of_ble_eq_true rfl) (by simp [Value.category]) ?_
  refine x_sub (l' := [(0, .ref (gB G + 247)), (1, .int x)]) ⟨rfl, rfl, trivial⟩ ?_
  have hx : iR x 0 999 := ⟨Int.le_trans (by decide) (betw_ti hb).1, (betw_ti hb).2⟩
  have hC := VA_cool hV hx
  have hX : waitX A x = (grV (coolA A x), coolA A x) := by unfold waitX; rw [if_pos hb]
  rw [hX]
  refine x_aload_n (pc := 0) dX4_waits_0 rfl ?_
  refine x_iload_n (pc := 1) dX4_waits_1 rfl ?_
  refine e_Vv (pc := 2) (c_X4_cools hM hV _ hx) qV_X4_cools mL_X4_103 dX4_waits_2 rfl cell_model (by decide) rfl rfl rfl ⟨by decide, by decide⟩ (Nat.le_of_ble_eq_true rfl) (Nat.le_of_ble_eq_true rfl) (Nat.le_of_ble_eq_true rfl) ?_
  intro s1 R1
  refine x_aload_n (pc := 5) dX4_waits_5 rfl ?_
  refine t_Vi (pc := 6) (c_X4_hottest R1 (fun k hk => (hC.ht hk).1)) qV_X4_hottest mL_X4_110 dX4_waits_6 rfl cell_model (by decide) rfl rfl rfl ⟨by decide, by decide⟩ (Nat.le_of_ble_eq_true rfl) (Nat.le_of_ble_eq_true rfl) (Nat.le_of_ble_eq_true rfl) ?_
  exact x_iret rfl dX4_waits_9 ⟨s1, rfl, rfl, rfl, R1⟩
set_option maxHeartbeats 4000000 in
set_option maxRecDepth 100000 in
theorem c_X4_cleans (hM : RM s A) (hV : VA A) : Ct G yX4_cleans YX4_cleans 0 0 [.ref (gB G + 247)] 255 (cellOf G S B (N, s, T)) (Re G (some (.int (cleanX A).1)) (fun _ : Fs => S) (fun _ => B) (fun s' : Fs => (N, s', T)) (fun s' => RM s' ((cleanX A).2))) := by
  refine ct_of (by decide +kernel) rfl rfl (Nat.le_of_ble_eq_true rfl) (by simp [Value.category]) ?_
  refine x_sub (l' := [(0, .ref (gB G + 247))]) ⟨rfl, trivial⟩ ?_
  refine x_aload_n (pc := 0) dX4_cleans_0 rfl ?_
  refine x_get (pc := 1) (ci := 4) (k := 0) (C := RX4) (T := TX4) (N := 21) cell_model rfl (by decide) rfl nX4 (by decide) mF_X4_7 rfl dX4_cleans_1 ?_
  refine x_iconst (pc := 4) (3) dX4_cleans_4 (by decide) ?_
  refine t_ild (pc := 5) 3 cell_s (by decide) rfl (by decide) (by decide) dX4_cleans_5 ?_
  try dsimp only
  rw [hM.int 3]
  refine x_istore_n (pc := 6) dX4_cleans_6 (by decide) ?_
  refine x_iload_n (pc := 7) dX4_cleans_7 rfl ?_
  refine x_ifne (pc := 8) 14 dX4_cleans_8 (by decide) (fun c8 => ?_) (fun c8 => ?_)
  · have hX : cleanX A = (A.2.1 3, ((coolA A (A.2.2.2.1 0)).1, upd (coolA A (A.2.2.2.1 0)).2.1 3 0, (coolA A (A.2.2.2.1 0)).2.2)) := by unfold cleanX; rw [if_neg c8]
    rw [hX]
    refine x_aload_n (pc := 14) dX4_cleans_14 rfl ?_
    refine x_aload_n (pc := 15) dX4_cleans_15 rfl ?_
    refine x_get (pc := 16) (ci := 4) (k := 0) (C := RX4) (T := TX4) (N := 21) cell_model rfl (by decide) rfl nX4 (by decide) mF_X4_7 rfl dX4_cleans_16 ?_
    refine x_bipush (pc := 19) (7) dX4_cleans_19 (by decide) ?_
    refine t_ild (pc := 21) 7 cell_s (by decide) rfl (by decide) (by decide) dX4_cleans_21 ?_
    try dsimp only
    rw [hM.sett 0]
    refine e_Vv (pc := 22) (c_X4_cools hM hV _ (s0_9 hV)) qV_X4_cools mL_X4_103 dX4_cleans_22 rfl cell_model (by decide) rfl rfl rfl ⟨by decide, by decide⟩ (Nat.le_of_ble_eq_true rfl) (Nat.le_of_ble_eq_true rfl) (Nat.le_of_ble_eq_true rfl) ?_
    intro s1 R1
    refine x_aload_n (pc := 25) dX4_cleans_25 rfl ?_
    refine x_get (pc := 26) (ci := 4) (k := 0) (C := RX4) (T := TX4) (N := 21) cell_model rfl (by decide) rfl nX4 (by decide) mF_X4_7 rfl dX4_cleans_26 ?_
    refine x_iconst (pc := 29) (3) dX4_cleans_29 (by decide) ?_
    refine x_iconst (pc := 30) (0) dX4_cleans_30 (by decide) ?_
    refine t_stS (pc := 31) 3 (by decide) rfl dX4_cleans_31 ?_
    try dsimp only
    refine x_iload_n (pc := 32) dX4_cleans_32 rfl ?_
    exact x_iret rfl dX4_cleans_33 ⟨_, rfl, rfl, rfl, RM_int R1 3 0⟩
  · have hX : cleanX A = (-5, A) := by unfold cleanX; rw [if_pos c8]
    rw [hX]
    refine x_bipush (pc := 11) (-5) dX4_cleans_11 (by decide) ?_
    exact x_iret rfl dX4_cleans_13 ⟨s, rfl, rfl, rfl, hM⟩
set_option maxHeartbeats 4000000 in
set_option maxRecDepth 100000 in
theorem c_X4_leads (hM : RM s A) (v c : Int32) : Ct G yX4_leads YX4_leads 0 0 [.ref (gB G + 247), .int v, .int c] 255 (cellOf G S B (N, s, T)) (Re G (some (.int (leadX A v c).1)) (fun _ : Fs => S) (fun _ => B) (fun s' : Fs => (N, s', T)) (fun s' => RM s' ((leadX A v c).2))) := by
  refine ct_of (by decide +kernel) rfl rfl (Nat.le_of_ble_eq_true rfl) (by simp [Value.category]) ?_
  refine x_sub (l' := [(0, .ref (gB G + 247)), (1, .int v), (2, .int c)]) ⟨rfl, rfl, rfl, trivial⟩ ?_
  refine x_aload_n (pc := 0) dX4_leads_0 rfl ?_
  refine x_iload_n (pc := 1) dX4_leads_1 rfl ?_
  refine t_Vi (pc := 2) (c_X4_isShape hM _) qV_X4_isShape mL_X4_97 dX4_leads_2 rfl cell_model (by decide) rfl rfl rfl ⟨by decide, by decide⟩ (Nat.le_of_ble_eq_true rfl) (Nat.le_of_ble_eq_true rfl) (Nat.le_of_ble_eq_true rfl) ?_
  refine x_ifeq (pc := 5) 17 dX4_leads_5 (by decide) (fun c5 => ?_) (fun c5 => ?_)
  · refine x_iconst (pc := 17) (-1) dX4_leads_17 (by decide) ?_
    have tt : (knB A v && betw c 0 3) = false := by rw [b01_eq c5, Bool.false_and]
    have hX : leadX A v c = (-1, A) := by unfold leadX; rw [tt]; rfl
    rw [hX]
    exact x_iret rfl dX4_leads_18 ⟨s, rfl, rfl, rfl, hM⟩
  · refine x_iload_n (pc := 8) dX4_leads_8 rfl ?_
    refine x_iconst (pc := 9) (0) dX4_leads_9 (by decide) ?_
    refine x_iconst (pc := 10) (3) dX4_leads_10 (by decide) ?_
    refine t_Si (pc := 11) (c_X4_in _ _ _) qS_X4_in mL_X4_38 dX4_leads_11 rfl rfl rfl ⟨by decide, by decide⟩ (Nat.le_of_ble_eq_true rfl) (Nat.le_of_ble_eq_true rfl) (Nat.le_of_ble_eq_true rfl) ?_
    refine x_ifne (pc := 14) 19 dX4_leads_14 (by decide) (fun c14 => ?_) (fun c14 => ?_)
    · have hb : betw c 0 3 = true := b01_ne c14
      have hk : knB A v = true := b01_ne c5
      obtain ⟨i, hi, rfl, hcl⟩ := knB_some hM.le hk
      have h12 := hM.le
      refine x_aload_n (pc := 19) dX4_leads_19 rfl ?_
      refine x_iload_n (pc := 20) dX4_leads_20 rfl ?_
      refine t_Vi (pc := 21) (c_X4_isWhole hM (by first | assumption | omega)) qV_X4_isWhole mL_X4_66 dX4_leads_21 rfl cell_model (by decide) rfl rfl rfl ⟨by decide, by decide⟩ (Nat.le_of_ble_eq_true rfl) (Nat.le_of_ble_eq_true rfl) (Nat.le_of_ble_eq_true rfl) ?_
      refine x_ifne (pc := 24) 30 dX4_leads_24 (by decide) (fun c24 => ?_) (fun c24 => ?_)
      · refine x_aload_n (pc := 30) dX4_leads_30 rfl ?_
        refine x_iload_n (pc := 31) dX4_leads_31 rfl ?_
        refine x_iconst (pc := 32) (4) dX4_leads_32 (by decide) ?_
        refine t_Vi (pc := 33) (c_X4_of hM (by first | assumption | omega) 4 (by decide)) qV_X4_of mL_X4_46 dX4_leads_33 rfl cell_model (by decide) rfl rfl rfl ⟨by decide, by decide⟩ (Nat.le_of_ble_eq_true rfl) (Nat.le_of_ble_eq_true rfl) (Nat.le_of_ble_eq_true rfl) ?_
        refine x_istore_n (pc := 36) dX4_leads_36 (by decide) ?_
        refine x_aload_n (pc := 37) dX4_leads_37 rfl ?_
        refine x_get (pc := 38) (ci := 4) (k := 0) (C := RX4) (T := TX4) (N := 21) cell_model rfl (by decide) rfl nX4 (by decide) mF_X4_7 rfl dX4_leads_38 ?_
        refine x_iload_n (pc := 41) dX4_leads_41 rfl ?_
        refine x_iconst (pc := 42) (4) dX4_leads_42 (by decide) ?_
        refine t_Si (pc := 43) (c_X4_at i 4) qS_X4_at mL_X4_42 dX4_leads_43 rfl rfl rfl ⟨by decide, by decide⟩ (Nat.le_of_ble_eq_true rfl) (Nat.le_of_ble_eq_true rfl) (Nat.le_of_ble_eq_true rfl) ?_
        refine x_iload_n (pc := 46) dX4_leads_46 rfl ?_
        refine t_stS (pc := 47) (23 + 8 * i + 4) (by omega) rfl dX4_leads_47 ?_
        try dsimp only
        have h1 := RM_shp hM hi 4 c
        refine x_iload_n (pc := 48) dX4_leads_48 rfl ?_
        refine x_iload_n (pc := 49) dX4_leads_49 rfl ?_
        refine x_cmpne (pc := 50) 58 dX4_leads_50 (by decide) (fun c50 => ?_) (fun c50 => ?_)
        · refine x_iload_n (pc := 58) dX4_leads_58 rfl ?_
          have t := of_decide_eq_true (b01_ne c24)
          have hX : leadX A (nI i) c = (A.2.2.2.2 i 4, (A.1, A.2.1, A.2.2.1, A.2.2.2.1, updF A.2.2.2.2 i (upd (A.2.2.2.2 i) 4 c))) := by unfold leadX; rw [hk, hb, hcl, Bool.and_self, if_pos rfl, if_pos t, if_neg c50]
          rw [hX]
          exact x_iret rfl dX4_leads_59 ⟨_, rfl, rfl, rfl, h1⟩
        · refine x_bipush (pc := 53) (-5) dX4_leads_53 (by decide) ?_
          refine x_goto (pc := 55) 59 dX4_leads_55 (by decide) ?_
          have t := of_decide_eq_true (b01_ne c24)
          have hX : leadX A (nI i) c = (-5, A) := by unfold leadX; rw [hk, hb, hcl, Bool.and_self, if_pos rfl, if_pos t, if_pos c50]
          rw [hX]
          exact x_iret rfl dX4_leads_59 ⟨_, rfl, rfl, rfl, RM_same4 h1 c50⟩
      · refine x_bipush (pc := 27) (-4) dX4_leads_27 (by decide) ?_
        have t := of_decide_eq_false (b01_eq c24)
        have hX : leadX A (nI i) c = (-4, A) := by unfold leadX; rw [hk, hb, hcl, Bool.and_self, if_pos rfl, if_neg t]
        rw [hX]
        exact x_iret rfl dX4_leads_29 ⟨s, rfl, rfl, rfl, hM⟩
    · refine x_iconst (pc := 17) (-1) dX4_leads_17 (by decide) ?_
      have tt : (knB A v && betw c 0 3) = false := by rw [b01_eq c14, Bool.and_false]
      have hX : leadX A v c = (-1, A) := by unfold leadX; rw [tt]; rfl
      rw [hX]
      exact x_iret rfl dX4_leads_18 ⟨s, rfl, rfl, rfl, hM⟩
set_option maxHeartbeats 4000000 in
set_option maxRecDepth 100000 in
theorem c_X4_lays (hi : i < 12) (c r w hh : Int32) : Ct G yX4_lays YX4_lays 0 0 [.ref (gB G + 247), .int (nI i), .int c, .int r, .int w, .int hh] 255 (cellOf G S B (N, s, T)) (Rt G none S B (N, layF s i c r w hh, T)) := by
  refine ct_of (by decide +kernel) rfl rfl (Nat.le_of_ble_eq_true rfl) (by simp [Value.category]) ?_
  refine x_sub (l' := [(0, .ref (gB G + 247)), (1, .int (nI i)), (2, .int c), (3, .int r), (4, .int w), (5, .int hh)]) ⟨rfl, rfl, rfl, rfl, rfl, rfl, trivial⟩ ?_
  have lp : ∀ k, k ≤ 8 → XJ G YX4_lays (fun _ => True) (Zx G (Rt G none S B (N, layF s i c r w hh, T)) 0 0) 3 [(0, .ref (gB G + 247)), (1, .int (nI i)), (2, .int c), (3, .int r), (4, .int w), (5, .int hh), (6, .int (nI k))] [] 255 (cellOf G S B (N, clK s i k, T)) 0 0 := by
    refine loopD (8) ?_
    intro k hk ih
    refine x_iload (pc := 3) dX4_lays_3 rfl ?_
    refine x_bipush (pc := 5) (8) dX4_lays_5 (by decide) ?_
    refine x_cmpge (pc := 7) 28 dX4_lays_7 (by decide) (fun c7 => ?_) (fun c7 => ?_)
    · obtain rfl : k = 8 := by have := mt (lt_lit (n := 8) rfl (by decide) (by omega)).mpr c7; omega
      refine x_aload_n (pc := 28) dX4_lays_28 rfl ?_
      refine x_get (pc := 29) (ci := 4) (k := 0) (C := RX4) (T := TX4) (N := 21) cell_model rfl (by decide) rfl nX4 (by decide) mF_X4_7 rfl dX4_lays_29 ?_
      refine x_iload_n (pc := 32) dX4_lays_32 rfl ?_
      refine x_iconst (pc := 33) (0) dX4_lays_33 (by decide) ?_
      refine t_Si (pc := 34) (c_X4_at i 0) qS_X4_at mL_X4_42 dX4_lays_34 rfl rfl rfl ⟨by decide, by decide⟩ (Nat.le_of_ble_eq_true rfl) (Nat.le_of_ble_eq_true rfl) (Nat.le_of_ble_eq_true rfl) ?_
      refine x_iload_n (pc := 37) dX4_lays_37 rfl ?_
      refine t_stS (pc := 38) (23 + 8 * i + 0) (by omega) rfl dX4_lays_38 ?_
      try dsimp only
      refine x_aload_n (pc := 39) dX4_lays_39 rfl ?_
      refine x_get (pc := 40) (ci := 4) (k := 0) (C := RX4) (T := TX4) (N := 21) cell_model rfl (by decide) rfl nX4 (by decide) mF_X4_7 rfl dX4_lays_40 ?_
      refine x_iload_n (pc := 43) dX4_lays_43 rfl ?_
      refine x_iconst (pc := 44) (1) dX4_lays_44 (by decide) ?_
      refine t_Si (pc := 45) (c_X4_at i 1) qS_X4_at mL_X4_42 dX4_lays_45 rfl rfl rfl ⟨by decide, by decide⟩ (Nat.le_of_ble_eq_true rfl) (Nat.le_of_ble_eq_true rfl) (Nat.le_of_ble_eq_true rfl) ?_
      refine x_iload_n (pc := 48) dX4_lays_48 rfl ?_
      refine t_stS (pc := 49) (23 + 8 * i + 1) (by omega) rfl dX4_lays_49 ?_
      try dsimp only
      refine x_aload_n (pc := 50) dX4_lays_50 rfl ?_
      refine x_get (pc := 51) (ci := 4) (k := 0) (C := RX4) (T := TX4) (N := 21) cell_model rfl (by decide) rfl nX4 (by decide) mF_X4_7 rfl dX4_lays_51 ?_
      refine x_iload_n (pc := 54) dX4_lays_54 rfl ?_
      refine x_iconst (pc := 55) (2) dX4_lays_55 (by decide) ?_
      refine t_Si (pc := 56) (c_X4_at i 2) qS_X4_at mL_X4_42 dX4_lays_56 rfl rfl rfl ⟨by decide, by decide⟩ (Nat.le_of_ble_eq_true rfl) (Nat.le_of_ble_eq_true rfl) (Nat.le_of_ble_eq_true rfl) ?_
      refine x_iload (pc := 59) dX4_lays_59 rfl ?_
      refine t_stS (pc := 61) (23 + 8 * i + 2) (by omega) rfl dX4_lays_61 ?_
      try dsimp only
      refine x_aload_n (pc := 62) dX4_lays_62 rfl ?_
      refine x_get (pc := 63) (ci := 4) (k := 0) (C := RX4) (T := TX4) (N := 21) cell_model rfl (by decide) rfl nX4 (by decide) mF_X4_7 rfl dX4_lays_63 ?_
      refine x_iload_n (pc := 66) dX4_lays_66 rfl ?_
      refine x_iconst (pc := 67) (3) dX4_lays_67 (by decide) ?_
      refine t_Si (pc := 68) (c_X4_at i 3) qS_X4_at mL_X4_42 dX4_lays_68 rfl rfl rfl ⟨by decide, by decide⟩ (Nat.le_of_ble_eq_true rfl) (Nat.le_of_ble_eq_true rfl) (Nat.le_of_ble_eq_true rfl) ?_
      refine x_iload (pc := 71) dX4_lays_71 rfl ?_
      refine t_stS (pc := 73) (23 + 8 * i + 3) (by omega) rfl dX4_lays_73 ?_
      try dsimp only
      refine x_aload_n (pc := 74) dX4_lays_74 rfl ?_
      refine x_get (pc := 75) (ci := 4) (k := 0) (C := RX4) (T := TX4) (N := 21) cell_model rfl (by decide) rfl nX4 (by decide) mF_X4_7 rfl dX4_lays_75 ?_
      refine x_iload_n (pc := 78) dX4_lays_78 rfl ?_
      refine x_bipush (pc := 79) (7) dX4_lays_79 (by decide) ?_
      refine t_Si (pc := 81) (c_X4_at i 7) qS_X4_at mL_X4_42 dX4_lays_81 rfl rfl rfl ⟨by decide, by decide⟩ (Nat.le_of_ble_eq_true rfl) (Nat.le_of_ble_eq_true rfl) (Nat.le_of_ble_eq_true rfl) ?_
      refine x_bipush (pc := 84) (-5) dX4_lays_84 (by decide) ?_
      refine t_stS (pc := 86) (23 + 8 * i + 7) (by omega) rfl dX4_lays_86 ?_
      try dsimp only
      exact x_vret rfl dX4_lays_87 ⟨rfl, rfl, rfl⟩
    · have hkn : k < 8 := (lt_lit rfl (by decide) (by omega)).mp c7
      refine x_aload_n (pc := 10) dX4_lays_10 rfl ?_
      refine x_get (pc := 11) (ci := 4) (k := 0) (C := RX4) (T := TX4) (N := 21) cell_model rfl (by decide) rfl nX4 (by decide) mF_X4_7 rfl dX4_lays_11 ?_
      refine x_iload_n (pc := 14) dX4_lays_14 rfl ?_
      refine x_iload (pc := 15) dX4_lays_15 rfl ?_
      refine t_Si (pc := 17) (c_X4_at i k) qS_X4_at mL_X4_42 dX4_lays_17 rfl rfl rfl ⟨by decide, by decide⟩ (Nat.le_of_ble_eq_true rfl) (Nat.le_of_ble_eq_true rfl) (Nat.le_of_ble_eq_true rfl) ?_
      refine x_iconst (pc := 20) (0) dX4_lays_20 (by decide) ?_
      refine t_stS (pc := 21) (23 + 8 * i + k) (by omega) rfl dX4_lays_21 ?_
      try dsimp only
      refine x_iinc (pc := 22) (nI (k + 1)) dX4_lays_22 rfl (iinc_nI k) (by decide) ?_
      refine x_goto (pc := 25) 3 dX4_lays_25 (by decide) ?_
      have e := ih hkn
      rw [← clK_s s i k] at e
      exact x_back e ⟨rfl, rfl, rfl, rfl, rfl, rfl, rfl, trivial⟩
  refine x_iconst (pc := 0) (0) dX4_lays_0 (by decide) ?_
  refine x_istore (pc := 1) dX4_lays_1 (by decide) ?_
  have e := lp 0 (by omega)
  rw [clK_0] at e
  exact x_back e ⟨rfl, rfl, rfl, rfl, rfl, rfl, rfl, trivial⟩
end MACTS
