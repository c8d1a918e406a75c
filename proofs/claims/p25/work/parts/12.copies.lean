/-! the class: Shape's writers, Sheet's readers (rows laid by wip/whole/p12.py) -/
section SHEET1
variable {G : GX} {S : Nat → Sh} {B : Bc} {M : Md} {j i : Nat} {σ : Sh}
variable {A : Ab}
def eqE (g f : Fs) (k : Nat) : Fs := fun q => if q < k then edgQ f q else g q
theorem eqE_0 (g f : Fs) : eqE g f 0 = g := by funext q; simp [eqE]
theorem eqE_s (g f : Fs) (k : Nat) : upd (eqE g f k) k (edgQ f k) = eqE g f (k + 1) := by
  funext q
  by_cases h : q = k
  · subst h; simp [eqE, upd]
  · by_cases h2 : q < k
    · simp [eqE, upd, h, h2, Nat.lt_succ_of_lt h2]
    · simp [eqE, upd, h, h2, show ¬ q < k + 1 by omega]
set_option maxHeartbeats 4000000 in
set_option maxRecDepth 100000 in
theorem c_X1_place (hj : j < 8) (hi : i < 13) (c r w h : Int32) : Ct G yX1_place YX1_place 0 0 [.ref (gB G + shO j i), .int c, .int r, .int w, .int h] (nN G) (cellOf G (updS S j σ) B M) (Rt G none (updS S j (edgF (shpF σ i (plF (σ.2.2.2.1 i) c r w h)) i (eqE (σ.2.2.2.2 i) (plF (σ.2.2.2.1 i) c r w h) 12))) B M) := by
  refine ct_of (by decide +kernel) rfl rfl (Nat.le_of_ble_eq_true rfl) (by simp [Value.category]) ?_
  refine x_sub (l' := [(0, .ref (gB G + shO j i)), (1, .int c), (2, .int r), (3, .int w), (4, .int h)]) ⟨rfl, rfl, rfl, rfl, rfl, trivial⟩ ?_
  have lp : ∀ k, k ≤ 12 → XJ G YX1_place (fun _ => True) (Zx G (Rt G none (updS S j (edgF (shpF σ i (plF (σ.2.2.2.1 i) c r w h)) i (eqE (σ.2.2.2.2 i) (plF (σ.2.2.2.1 i) c r w h) 12))) B M) 0 0) 45 [(0, .ref (gB G + shO j i)), (5, .int (nI k))] [] (nN G) (cellOf G (updS S j (edgF (shpF σ i (plF (σ.2.2.2.1 i) c r w h)) i (eqE (σ.2.2.2.2 i) (plF (σ.2.2.2.1 i) c r w h) k))) B M) 0 0 := by
    refine loopD 12 ?_
    intro k hk ih
    refine x_iload (pc := 45) dX1_place_45 rfl ?_
    refine x_bipush (pc := 47) (12) dX1_place_47 (by decide) ?_
    refine x_cmpge (pc := 49) 80 dX1_place_49 (by decide) (fun c49 => ?_) (fun c49 => ?_)
    · obtain rfl : k = 12 := by have := mt (lt_lit (n := 12) rfl (by decide) (by omega)).mpr c49; omega
      exact x_vret rfl dX1_place_80 ⟨rfl, rfl, rfl⟩
    · have hk12 : k < 12 := (lt_lit rfl (by decide) (by omega)).mp c49
      refine x_aload_n (pc := 52) dX1_place_52 rfl ?_
      refine x_get (pc := 53) (ci := 1) (k := 8) (C := RX1) (T := TX1) (N := 9) (cell_shape (by first | assumption | omega) (by first | assumption | omega)) rfl (shO_255 (by first | assumption | omega) (by first | assumption | omega)) rfl nX1 (by decide) mF_X1_38 rfl dX1_place_53 ?_
      refine x_iload (pc := 56) dX1_place_56 rfl ?_
      refine x_aload_n (pc := 58) dX1_place_58 rfl ?_
      refine x_iload (pc := 59) dX1_place_59 rfl ?_
      refine x_iconst (pc := 61) (0) dX1_place_61 (by decide) ?_
      refine t_Vi (pc := 62) (c_X1_fieldsIn (by first | assumption | omega) (by first | assumption | omega) _ _) qV_X1_fieldsIn mL_X1_42 dX1_place_62 rfl (cell_shape (by first | assumption | omega) (by first | assumption | omega)) (shO_255 (by first | assumption | omega) (by first | assumption | omega)) rfl rfl rfl ⟨by decide, by decide⟩ (Nat.le_of_ble_eq_true rfl) (Nat.le_of_ble_eq_true rfl) (Nat.le_of_ble_eq_true rfl) ?_
      refine x_aload_n (pc := 65) dX1_place_65 rfl ?_
      refine x_iload (pc := 66) dX1_place_66 rfl ?_
      refine x_iconst (pc := 68) (1) dX1_place_68 (by decide) ?_
      refine t_Vi (pc := 69) (c_X1_fieldsIn (by first | assumption | omega) (by first | assumption | omega) _ _) qV_X1_fieldsIn mL_X1_42 dX1_place_69 rfl (cell_shape (by first | assumption | omega) (by first | assumption | omega)) (shO_255 (by first | assumption | omega) (by first | assumption | omega)) rfl rfl rfl ⟨by decide, by decide⟩ (Nat.le_of_ble_eq_true rfl) (Nat.le_of_ble_eq_true rfl) (Nat.le_of_ble_eq_true rfl) ?_
      refine x_isub (pc := 72) dX1_place_72 ?_
      refine t_stEdge (pc := 73) (by first | assumption | omega) (by first | assumption | omega) _ (by first | assumption | omega) rfl dX1_place_73 ?_
      try dsimp only
      refine x_iinc (pc := 74) (nI (k + 1)) dX1_place_74 rfl (iinc_nI k) (by decide) ?_
      refine x_goto (pc := 77) 45 dX1_place_77 (by decide) ?_
      refine x_sub (l' := [(0, .ref (gB G + shO j i)), (5, .int (nI (k + 1)))]) ⟨rfl, rfl, trivial⟩ ?_
      have e := ih hk12
      rw [← eqE_s _ _ k] at e
      simp only [edgF, shpF, updF_same, updF_upd] at e ⊢
      exact e
  refine x_aload_n (pc := 0) dX1_place_0 rfl ?_
  refine x_iload_n (pc := 1) dX1_place_1 rfl ?_
  refine t_putShape (pc := 2) (by first | assumption | omega) (by first | assumption | omega) 0 (by decide) mF_X1_9 dX1_place_2 ?_
  try dsimp only
  refine x_aload_n (pc := 5) dX1_place_5 rfl ?_
  refine x_iload_n (pc := 6) dX1_place_6 rfl ?_
  refine t_putShape (pc := 7) (by first | assumption | omega) (by first | assumption | omega) 1 (by decide) mF_X1_15 dX1_place_7 ?_
  try dsimp only
  refine x_aload_n (pc := 10) dX1_place_10 rfl ?_
  refine x_iload_n (pc := 11) dX1_place_11 rfl ?_
  refine t_putShape (pc := 12) (by first | assumption | omega) (by first | assumption | omega) 2 (by decide) mF_X1_18 dX1_place_12 ?_
  try dsimp only
  refine x_aload_n (pc := 15) dX1_place_15 rfl ?_
  refine x_iload (pc := 16) dX1_place_16 rfl ?_
  refine t_putShape (pc := 18) (by first | assumption | omega) (by first | assumption | omega) 3 (by decide) mF_X1_21 dX1_place_18 ?_
  try dsimp only
  refine x_aload_n (pc := 21) dX1_place_21 rfl ?_
  refine x_iconst (pc := 22) (0) dX1_place_22 (by decide) ?_
  refine t_putShape (pc := 23) (by first | assumption | omega) (by first | assumption | omega) 4 (by decide) mF_X1_24 dX1_place_23 ?_
  try dsimp only
  refine x_aload_n (pc := 26) dX1_place_26 rfl ?_
  refine x_iconst (pc := 27) (0) dX1_place_27 (by decide) ?_
  refine t_putShape (pc := 28) (by first | assumption | omega) (by first | assumption | omega) 5 (by decide) mF_X1_27 dX1_place_28 ?_
  try dsimp only
  refine x_aload_n (pc := 31) dX1_place_31 rfl ?_
  refine x_iconst (pc := 32) (0) dX1_place_32 (by decide) ?_
  refine t_putShape (pc := 33) (by first | assumption | omega) (by first | assumption | omega) 6 (by decide) mF_X1_30 dX1_place_33 ?_
  try dsimp only
  refine x_aload_n (pc := 36) dX1_place_36 rfl ?_
  refine x_bipush (pc := 37) (-5) dX1_place_37 (by decide) ?_
  refine t_putShape (pc := 39) (by first | assumption | omega) (by first | assumption | omega) 7 (by decide) mF_X1_33 dX1_place_39 ?_
  try dsimp only
  refine x_iconst (pc := 42) (0) dX1_place_42 (by decide) ?_
  refine x_istore (pc := 43) dX1_place_43 (by decide) ?_
  have e := lp 0 (by omega)
  rw [eqE_0] at e
  refine x_sub (l' := [(0, .ref (gB G + shO j i)), (5, .int (nI 0))]) ⟨rfl, rfl, trivial⟩ ?_
  simp only [edgF, shpF, plF, updF_same, updF_upd, updF_self] at e ⊢
  exact e
def cpF (g f : Fs) (k : Nat) : Fs := fun q => if q < k then f q else g q
theorem cpF_0 (g f : Fs) : cpF g f 0 = g := by funext q; simp [cpF]
theorem cpF_s (g f : Fs) (k : Nat) : upd (cpF g f k) k (f k) = cpF g f (k + 1) := by
  funext q
  by_cases h : q = k
  · subst h; simp [cpF, upd]
  · by_cases h2 : q < k
    · simp [cpF, upd, h, h2, Nat.lt_succ_of_lt h2]
    · simp [cpF, upd, h, h2, show ¬ q < k + 1 by omega]
theorem cpF_8 (g f : Fs) : upd (upd (upd (upd (upd (upd (upd (upd g 0 (f 0)) 1 (f 1)) 2 (f 2)) 3 (f 3)) 4 (f 4)) 5 (f 5)) 6 (f 6)) 7 (f 7) = cpF g f 8 := by
  rw [← cpF_s g f 7, ← cpF_s g f 6, ← cpF_s g f 5, ← cpF_s g f 4, ← cpF_s g f 3, ← cpF_s g f 2, ← cpF_s g f 1, ← cpF_s g f 0, cpF_0]
theorem cpF_7 (g f : Fs) : upd (upd (upd (upd (upd (upd (upd g 0 (f 0)) 1 (f 1)) 2 (f 2)) 3 (f 3)) 4 (f 4)) 5 (f 5)) 6 (f 6) = cpF g f 7 := by
  rw [← cpF_s g f 6, ← cpF_s g f 5, ← cpF_s g f 4, ← cpF_s g f 3, ← cpF_s g f 2, ← cpF_s g f 1, ← cpF_s g f 0, cpF_0]
theorem cell_shape2 {j2 : Nat} (hj2 : j2 < 8) (hne : j2 ≠ j) (hi : i < 13) : cellOf G (updS S j σ) B M (shO j2 i) = .inr (1, [.int ((S j2).2.2.2.1 i 0), .int ((S j2).2.2.2.1 i 1), .int ((S j2).2.2.2.1 i 2), .int ((S j2).2.2.2.1 i 3), .int ((S j2).2.2.2.1 i 4), .int ((S j2).2.2.2.1 i 5), .int ((S j2).2.2.2.1 i 6), .int ((S j2).2.2.2.1 i 7), .ref (gB G + egO j2 i)]) := by
  rw [cell_shape' hj2 hi, updS_ne S σ hne]
theorem cell_edge2 {j2 : Nat} (hj2 : j2 < 8) (hne : j2 ≠ j) (hi : i < 13) : cellOf G (updS S j σ) B M (egO j2 i) = .inl (gI G, 12, .inl ((S j2).2.2.2.2 i)) := by
  rw [cell_edge' hj2 hi, updS_ne S σ hne]
theorem cell_sheet2 {j2 : Nat} (hj2 : j2 < 8) (hne : j2 ≠ j) : cellOf G (updS S j σ) B M (sB j2) = .inr (2, [.ref (gB G + arO j2), .ref (gB G + htO j2), .ref (gB G + stO j2), .int ((S j2).1 0), .int ((S j2).1 1), .int ((S j2).1 2), .int ((S j2).1 3), .int ((S j2).1 4), .int ((S j2).1 5), .int ((S j2).1 6)]) := by
  rw [cell_sheet' hj2, updS_ne S σ hne]
theorem cell_heats2 {j2 : Nat} (hj2 : j2 < 8) (hne : j2 ≠ j) : cellOf G (updS S j σ) B M (htO j2) = .inl (gI G, 12, .inl (S j2).2.1) := by
  rw [cell_heats' hj2, updS_ne S σ hne]
theorem cell_sets2 {j2 : Nat} (hj2 : j2 < 8) (hne : j2 ≠ j) : cellOf G (updS S j σ) B M (stO j2) = .inl (gI G, 4, .inl (S j2).2.2.1) := by
  rw [cell_sets' hj2, updS_ne S σ hne]
set_option maxHeartbeats 4000000 in
set_option maxRecDepth 100000 in
theorem c_X1_copyFrom {j2 : Nat} (hj : j < 8) (hj2 : j2 < 8) (hne : j2 ≠ j) (hi : i < 13) : Ct G yX1_copyFrom YX1_copyFrom 0 0 [.ref (gB G + shO j i), .ref (gB G + shO j2 i)] (nN G) (cellOf G (updS S j σ) B M) (Rt G none (updS S j (edgF (shpF σ i (cpF (σ.2.2.2.1 i) ((S j2).2.2.2.1 i) 8)) i (cpF (σ.2.2.2.2 i) ((S j2).2.2.2.2 i) 12))) B M) := by
  refine ct_of (by decide +kernel) rfl rfl (Nat.le_of_ble_eq_true rfl) (by simp [Value.category]) ?_
  refine x_sub (l' := [(0, .ref (gB G + shO j i)), (1, .ref (gB G + shO j2 i))]) ⟨rfl, rfl, trivial⟩ ?_
  have lp : ∀ k, k ≤ 12 → XJ G YX1_copyFrom (fun _ => True) (Zx G (Rt G none (updS S j (edgF (shpF σ i (cpF (σ.2.2.2.1 i) ((S j2).2.2.2.1 i) 8)) i (cpF (σ.2.2.2.2 i) ((S j2).2.2.2.2 i) 12))) B M) 0 0) 66 [(0, .ref (gB G + shO j i)), (1, .ref (gB G + shO j2 i)), (2, .int (nI k))] [] (nN G) (cellOf G (updS S j (edgF (shpF σ i (cpF (σ.2.2.2.1 i) ((S j2).2.2.2.1 i) 8)) i (cpF (σ.2.2.2.2 i) ((S j2).2.2.2.2 i) k))) B M) 0 0 := by
    refine loopD 12 ?_
    intro k hk ih
    refine x_iload_n (pc := 66) dX1_copyFrom_66 rfl ?_
    refine x_bipush (pc := 67) (12) dX1_copyFrom_67 (by decide) ?_
    refine x_cmpge (pc := 69) 90 dX1_copyFrom_69 (by decide) (fun c69 => ?_) (fun c69 => ?_)
    · obtain rfl : k = 12 := by have := mt (lt_lit (n := 12) rfl (by decide) (by omega)).mpr c69; omega
      exact x_vret rfl dX1_copyFrom_90 ⟨rfl, rfl, rfl⟩
    · have hk12 : k < 12 := (lt_lit rfl (by decide) (by omega)).mp c69
      refine x_aload_n (pc := 72) dX1_copyFrom_72 rfl ?_
      refine x_get (pc := 73) (ci := 1) (k := 8) (C := RX1) (T := TX1) (N := 9) (cell_shape (by first | assumption | omega) (by first | assumption | omega)) rfl (shO_255 (by first | assumption | omega) (by first | assumption | omega)) rfl nX1 (by decide) mF_X1_38 rfl dX1_copyFrom_73 ?_
      refine x_iload_n (pc := 76) dX1_copyFrom_76 rfl ?_
      refine x_aload_n (pc := 77) dX1_copyFrom_77 rfl ?_
      refine x_get (pc := 78) (ci := 1) (k := 8) (C := RX1) (T := TX1) (N := 9) (cell_shape2 (by assumption) (by assumption) (by first | assumption | omega)) rfl (shO_255 (by assumption) (by first | assumption | omega)) rfl nX1 (by decide) mF_X1_38 rfl dX1_copyFrom_78 ?_
      refine x_iload_n (pc := 81) dX1_copyFrom_81 rfl ?_
      refine t_ild (pc := 82) _ (cell_edge2 (by assumption) (by assumption) (by first | assumption | omega)) (egO_255 (by assumption) (by first | assumption | omega)) rfl (by first | assumption | omega) (by decide) dX1_copyFrom_82 ?_
      refine t_stEdge (pc := 83) (by first | assumption | omega) (by first | assumption | omega) _ (by first | assumption | omega) rfl dX1_copyFrom_83 ?_
      try dsimp only
      refine x_iinc (pc := 84) (nI (k + 1)) dX1_copyFrom_84 rfl (iinc_nI k) (by decide) ?_
      refine x_goto (pc := 87) 66 dX1_copyFrom_87 (by decide) ?_
      refine x_sub (l' := [(0, .ref (gB G + shO j i)), (1, .ref (gB G + shO j2 i)), (2, .int (nI (k + 1)))]) ⟨rfl, rfl, rfl, trivial⟩ ?_
      have e := ih hk12
      rw [← cpF_s (σ.2.2.2.2 i) _ k] at e
      simp only [edgF, shpF, updF_same, updF_upd] at e ⊢
      exact e
  refine x_aload_n (pc := 0) dX1_copyFrom_0 rfl ?_
  refine x_aload_n (pc := 1) dX1_copyFrom_1 rfl ?_
  refine x_get (pc := 2) (ci := 1) (k := 0) (C := RX1) (T := TX1) (N := 9) (cell_shape2 (by assumption) (by assumption) (by first | assumption | omega)) rfl (shO_255 (by assumption) (by first | assumption | omega)) rfl nX1 (by decide) mF_X1_9 rfl dX1_copyFrom_2 ?_
  refine t_putShape (pc := 5) (by first | assumption | omega) (by first | assumption | omega) 0 (by decide) mF_X1_9 dX1_copyFrom_5 ?_
  try dsimp only [shpF]
  refine x_aload_n (pc := 8) dX1_copyFrom_8 rfl ?_
  refine x_aload_n (pc := 9) dX1_copyFrom_9 rfl ?_
  refine x_get (pc := 10) (ci := 1) (k := 1) (C := RX1) (T := TX1) (N := 9) (cell_shape2 (by assumption) (by assumption) (by first | assumption | omega)) rfl (shO_255 (by assumption) (by first | assumption | omega)) rfl nX1 (by decide) mF_X1_15 rfl dX1_copyFrom_10 ?_
  refine t_putShape (pc := 13) (by first | assumption | omega) (by first | assumption | omega) 1 (by decide) mF_X1_15 dX1_copyFrom_13 ?_
  try dsimp only [shpF]
  refine x_aload_n (pc := 16) dX1_copyFrom_16 rfl ?_
  refine x_aload_n (pc := 17) dX1_copyFrom_17 rfl ?_
  refine x_get (pc := 18) (ci := 1) (k := 2) (C := RX1) (T := TX1) (N := 9) (cell_shape2 (by assumption) (by assumption) (by first | assumption | omega)) rfl (shO_255 (by assumption) (by first | assumption | omega)) rfl nX1 (by decide) mF_X1_18 rfl dX1_copyFrom_18 ?_
  refine t_putShape (pc := 21) (by first | assumption | omega) (by first | assumption | omega) 2 (by decide) mF_X1_18 dX1_copyFrom_21 ?_
  try dsimp only [shpF]
  refine x_aload_n (pc := 24) dX1_copyFrom_24 rfl ?_
  refine x_aload_n (pc := 25) dX1_copyFrom_25 rfl ?_
  refine x_get (pc := 26) (ci := 1) (k := 3) (C := RX1) (T := TX1) (N := 9) (cell_shape2 (by assumption) (by assumption) (by first | assumption | omega)) rfl (shO_255 (by assumption) (by first | assumption | omega)) rfl nX1 (by decide) mF_X1_21 rfl dX1_copyFrom_26 ?_
  refine t_putShape (pc := 29) (by first | assumption | omega) (by first | assumption | omega) 3 (by decide) mF_X1_21 dX1_copyFrom_29 ?_
  try dsimp only [shpF]
  refine x_aload_n (pc := 32) dX1_copyFrom_32 rfl ?_
  refine x_aload_n (pc := 33) dX1_copyFrom_33 rfl ?_
  refine x_get (pc := 34) (ci := 1) (k := 4) (C := RX1) (T := TX1) (N := 9) (cell_shape2 (by assumption) (by assumption) (by first | assumption | omega)) rfl (shO_255 (by assumption) (by first | assumption | omega)) rfl nX1 (by decide) mF_X1_24 rfl dX1_copyFrom_34 ?_
  refine t_putShape (pc := 37) (by first | assumption | omega) (by first | assumption | omega) 4 (by decide) mF_X1_24 dX1_copyFrom_37 ?_
  try dsimp only [shpF]
  refine x_aload_n (pc := 40) dX1_copyFrom_40 rfl ?_
  refine x_aload_n (pc := 41) dX1_copyFrom_41 rfl ?_
  refine x_get (pc := 42) (ci := 1) (k := 5) (C := RX1) (T := TX1) (N := 9) (cell_shape2 (by assumption) (by assumption) (by first | assumption | omega)) rfl (shO_255 (by assumption) (by first | assumption | omega)) rfl nX1 (by decide) mF_X1_27 rfl dX1_copyFrom_42 ?_
  refine t_putShape (pc := 45) (by first | assumption | omega) (by first | assumption | omega) 5 (by decide) mF_X1_27 dX1_copyFrom_45 ?_
  try dsimp only [shpF]
  refine x_aload_n (pc := 48) dX1_copyFrom_48 rfl ?_
  refine x_aload_n (pc := 49) dX1_copyFrom_49 rfl ?_
  refine x_get (pc := 50) (ci := 1) (k := 6) (C := RX1) (T := TX1) (N := 9) (cell_shape2 (by assumption) (by assumption) (by first | assumption | omega)) rfl (shO_255 (by assumption) (by first | assumption | omega)) rfl nX1 (by decide) mF_X1_30 rfl dX1_copyFrom_50 ?_
  refine t_putShape (pc := 53) (by first | assumption | omega) (by first | assumption | omega) 6 (by decide) mF_X1_30 dX1_copyFrom_53 ?_
  try dsimp only [shpF]
  refine x_aload_n (pc := 56) dX1_copyFrom_56 rfl ?_
  refine x_aload_n (pc := 57) dX1_copyFrom_57 rfl ?_
  refine x_get (pc := 58) (ci := 1) (k := 7) (C := RX1) (T := TX1) (N := 9) (cell_shape2 (by assumption) (by assumption) (by first | assumption | omega)) rfl (shO_255 (by assumption) (by first | assumption | omega)) rfl nX1 (by decide) mF_X1_33 rfl dX1_copyFrom_58 ?_
  refine t_putShape (pc := 61) (by first | assumption | omega) (by first | assumption | omega) 7 (by decide) mF_X1_33 dX1_copyFrom_61 ?_
  try dsimp only [shpF]
  refine x_iconst (pc := 64) (0) dX1_copyFrom_64 (by decide) ?_
  refine x_istore_n (pc := 65) dX1_copyFrom_65 (by decide) ?_
  have e := lp 0 (by omega)
  rw [cpF_0 (σ.2.2.2.2 i)] at e
  refine x_sub (l' := [(0, .ref (gB G + shO j i)), (1, .ref (gB G + shO j2 i)), (2, .int (nI 0))]) ⟨rfl, rfl, rfl, trivial⟩ ?_
  simp only [edgF, shpF, updF_same, updF_upd, updF_self] at e ⊢
  rw [cpF_8]
  exact e
end SHEET1
