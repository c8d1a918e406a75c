/-! the reference: copies, the record (rows laid by wip/whole/p29.py) -/
section RML
variable {s s' : Fs} {A : Ab} {i : Nat}
theorem RM_c (h : RM s A) (hs : ∀ q, q < 119 → s' q = s q) : RM s' A := by
  have h12 := h.le
  exact ⟨h.1, (hs 0 (by decide)).trans h.told, fun k h1 h2 => (hs k (by omega)).trans (h.int k h1 h2), fun k hk => (hs _ (by omega)).trans (h.heat k hk), fun k hk => (hs _ (by omega)).trans (h.sett k hk), fun i hi k hk => (hs _ (by omega)).trans (h.shp hi k hk)⟩
theorem RM_int (h : RM s A) (k : Nat) (v : Int32) (h1 : 1 ≤ k := by decide) (h2 : k < 7 := by decide) : RM (upd s k v) (A.1, upd A.2.1 k v, A.2.2) := by
  refine ⟨h.1, (upd_ne s v (by omega)).trans h.told, fun q q1 q2 => ?_, fun q hq => (upd_ne s v (by omega)).trans (h.heat q hq), fun q hq => (upd_ne s v (by omega)).trans (h.sett q hq), fun i hi q hq => (upd_ne s v (by omega)).trans (h.shp hi q hq)⟩
  by_cases e : q = k
  · subst e; exact (upd_same s q v).trans (upd_same A.2.1 q v).symm
  · exact (upd_ne s v e).trans ((h.int q q1 q2).trans (upd_ne A.2.1 v e).symm)
theorem RM_heat (h : RM s A) (k : Nat) (hk : k < 12) (v : Int32) : RM (upd s (11 + k) v) (A.1, A.2.1, upd A.2.2.1 k v, A.2.2.2) := by
  refine ⟨h.1, (upd_ne s v (by omega)).trans h.told, fun q q1 q2 => (upd_ne s v (by omega)).trans (h.int q q1 q2), fun q hq => ?_, fun q hq => (upd_ne s v (by omega)).trans (h.sett q hq), fun i hi q hq => (upd_ne s v (by omega)).trans (h.shp hi q hq)⟩
  by_cases e : q = k
  · subst e; exact (upd_same s (11 + q) v).trans (upd_same A.2.2.1 q v).symm
  · exact (upd_ne s v (by omega)).trans ((h.heat q hq).trans (upd_ne A.2.2.1 v e).symm)
theorem RM_sett (h : RM s A) (k : Nat) (hk : k < 4) (v : Int32) : RM (upd s (7 + k) v) (A.1, A.2.1, A.2.2.1, upd A.2.2.2.1 k v, A.2.2.2.2) := by
  refine ⟨h.1, (upd_ne s v (by omega)).trans h.told, fun q q1 q2 => (upd_ne s v (by omega)).trans (h.int q q1 q2), fun q hq => (upd_ne s v (by omega)).trans (h.heat q hq), fun q hq => ?_, fun i hi q hq => (upd_ne s v (by omega)).trans (h.shp hi q hq)⟩
  by_cases e : q = k
  · subst e; exact (upd_same s (7 + q) v).trans (upd_same A.2.2.2.1 q v).symm
  · exact (upd_ne s v (by omega)).trans ((h.sett q hq).trans (upd_ne A.2.2.2.1 v e).symm)
theorem RM_shp (h : RM s A) (hi : i < A.1) (k : Nat) (v : Int32) (hk : k < 8 := by decide) : RM (upd s (23 + 8 * i + k) v) (A.1, A.2.1, A.2.2.1, A.2.2.2.1, updF A.2.2.2.2 i (upd (A.2.2.2.2 i) k v)) := by
  refine ⟨h.1, (upd_ne s v (by omega)).trans h.told, fun q q1 q2 => (upd_ne s v (by omega)).trans (h.int q q1 q2), fun q hq => (upd_ne s v (by omega)).trans (h.heat q hq), fun q hq => (upd_ne s v (by omega)).trans (h.sett q hq), fun j hj q hq => ?_⟩
  show _ = updF A.2.2.2.2 i _ j q
  by_cases e : j = i
  · subst e
    rw [updF_same]
    by_cases e : q = k
    · subst e; exact (upd_same s _ v).trans (upd_same (A.2.2.2.2 j) q v).symm
    · exact (upd_ne s v (by omega)).trans ((h.shp hj q hq).trans (upd_ne (A.2.2.2.2 j) v e).symm)
  · rw [updF_ne _ _ e]
    exact (upd_ne s v (by omega)).trans (h.shp hj q hq)
/-- the same row tells a value that is the same where it is looked at -/
theorem RM_v {A' : Ab} (h : RM s A) (h0 : A'.1 = A.1) (h1 : ∀ k, 1 ≤ k → k < 7 → A'.2.1 k = A.2.1 k) (h2 : ∀ k, k < 12 → A'.2.2.1 k = A.2.2.1 k) (h3 : ∀ k, k < 4 → A'.2.2.2.1 k = A.2.2.2.1 k) (h4 : ∀ i, i < A.1 → ∀ k, k < 8 → A'.2.2.2.2 i k = A.2.2.2.2 i k) : RM s A' :=
  ⟨by rw [h0]; exact h.1, by rw [h0]; exact h.told, fun k a b => (h.int k a b).trans (h1 k a b).symm, fun k a => (h.heat k a).trans (h2 k a).symm, fun k a => (h.sett k a).trans (h3 k a).symm, fun i hi k a => by rw [h0] at hi; exact (h.shp hi k a).trans (h4 i hi k a).symm⟩
theorem cpF_ge (g f : Fs) {k q : Nat} (h : k ≤ q) : cpF g f k q = g q := by simp [cpF, show ¬ q < k by omega]
/-- the reference's history: known states, one behind the other -/
def HM (N be : Fs) (h : List Ab) : Prop := N 6 = nI h.length ∧ h.length ≤ 4 ∧ ∀ k A, h[k]? = some A → RM (fun q => be (119 * k + q)) A
def blF (be ah : Fs) (m k : Nat) : Fs := fun q => if 119 * m ≤ q ∧ q < 119 * m + k then ah (q - 119 * m) else be q
theorem blF_0 (be ah : Fs) (m : Nat) : blF be ah m 0 = be := by
  funext q
  simp only [blF]
  rw [if_neg (by omega)]
theorem blF_s (be ah : Fs) (m k : Nat) : upd (blF be ah m k) (119 * m + k) (ah k) = blF be ah m (k + 1) := by
  funext q
  by_cases e : q = 119 * m + k
  · subst e
    rw [upd_same]
    simp only [blF]
    rw [if_pos (by omega), show 119 * m + k - 119 * m = k by omega]
  · rw [upd_ne _ _ e]
    simp only [blF]
    by_cases c : 119 * m ≤ q ∧ q < 119 * m + k
    · rw [if_pos c, if_pos (by omega)]
    · rw [if_neg c, if_neg (by omega)]
theorem nI_119 (m k : Nat) : 119 * nI m + nI k = nI (119 * m + k) := by
  rw [← nI_add, show (119 : Int32) * nI m = nI (119 * m) from (Int32.ofNat_mul 119 m).symm]
theorem HM_N {N N' be : Fs} {h : List Ab} (hH : HM N be h) (e : N' 6 = N 6) : HM N' be h := ⟨e.trans hH.1, hH.2⟩
theorem HM_add {N be ah : Fs} {h : List Ab} (hH : HM N be h) (hl : h.length < 4) (hA : RM ah A) : HM (upd N 6 (nI (h.length + 1))) (blF be ah h.length 119) (h ++ [A]) := by
  obtain ⟨h1, h2, h3⟩ := hH
  refine ⟨?_, by rw [List.length_append]; exact hl, fun k A' hk => ?_⟩
  · rw [upd_same, List.length_append]; rfl
  · by_cases e : k < h.length
    · rw [List.getElem?_append_left e] at hk
      refine RM_c (h3 k A' hk) (fun q hq => ?_)
      simp only [blF]
      rw [if_neg (by omega)]
    · rw [List.getElem?_append_right (by omega)] at hk
      have h0 : k - h.length < 1 := by
        have := (List.getElem?_eq_some_iff.mp hk).1
        simpa using this
      have hkk : k = h.length := by omega
      subst hkk
      rw [Nat.sub_self] at hk
      cases hk
      refine RM_c hA (fun q hq => ?_)
      simp only [blF]
      rw [if_pos (by omega), show 119 * h.length + q - 119 * h.length = q by omega]
theorem HM_drop {N be : Fs} {h : List Ab} (hH : HM N be h) (hl : h.length = 4) : HM (upd N 6 (nI 3)) (cpF be (fun q => be (119 + q)) 357) (h.drop 1) := by
  obtain ⟨h1, h2, h3⟩ := hH
  refine ⟨?_, by rw [List.length_drop]; omega, fun k A hk => ?_⟩
  · rw [upd_same, List.length_drop, hl]
  · have hk3 : k < 3 := by
      have := (List.getElem?_eq_some_iff.mp hk).1
      rw [List.length_drop] at this
      omega
    rw [List.getElem?_drop] at hk
    refine RM_c (h3 (1 + k) A hk) (fun q hq => ?_)
    show cpF be (fun q => be (119 + q)) 357 (119 * k + q) = _
    rw [cpF_in _ _ (by omega)]
    show be (119 + (119 * k + q)) = be (119 * (1 + k) + q)
    rw [show 119 + (119 * k + q) = 119 * (1 + k) + q by omega]
end RML
section MCOPY
variable {G : GX} {S : Nat → Sh} {B : Bc} {N s sd ah sn be tx od : Fs} {A : Ab} {i k : Nat} {h : List Ab}
set_option maxHeartbeats 4000000 in
set_option maxRecDepth 100000 in
theorem c_X4_looks  : Ct G yX4_looks YX4_looks 0 0 [.ref (gB G + 247)] 255 (cellOf G S B (N, s, sd, ah, sn, be, tx, od)) (Rt G none S B (N, s, sd, cpF ah s 119, sn, be, tx, od)) := by
  refine ct_of (by decide +kernel) rfl rfl (Nat.le_of_ble_eq_true rfl) (by simp [Value.category]) ?_
  refine x_sub (l' := [(0, .ref (gB G + 247))]) ⟨rfl, trivial⟩ ?_
  have lp : ∀ k, k ≤ 119 → XJ G YX4_looks (fun _ => True) (Zx G (Rt G none S B (N, s, sd, cpF ah s 119, sn, be, tx, od)) 0 0) 2 [(0, .ref (gB G + 247)), (1, .int (nI k))] [] 255 (cellOf G S B (N, s, sd, cpF ah s k, sn, be, tx, od)) 0 0 := by
    refine loopD (119) ?_
    intro k hk ih
    refine x_iload_n (pc := 2) dX4_looks_2 rfl ?_
    refine x_bipush (pc := 3) (119) dX4_looks_3 (by decide) ?_
    refine x_cmpge (pc := 5) 26 dX4_looks_5 (by decide) (fun c5 => ?_) (fun c5 => ?_)
    · obtain rfl : k = 119 := by have := mt (lt_lit (n := 119) rfl (by decide) (by omega)).mpr c5; omega
      exact x_vret rfl dX4_looks_26 ⟨rfl, rfl, rfl⟩
    · have hkn : k < 119 := (lt_lit rfl (by decide) (by omega)).mp c5
      refine x_aload_n (pc := 8) dX4_looks_8 rfl ?_
      refine x_get (pc := 9) (ci := 4) (k := 2) (C := RX4) (T := TX4) (N := 21) cell_model rfl (by decide) rfl nX4 (by decide) mF_X4_16 rfl dX4_looks_9 ?_
      refine x_iload_n (pc := 12) dX4_looks_12 rfl ?_
      refine x_aload_n (pc := 13) dX4_looks_13 rfl ?_
      refine x_get (pc := 14) (ci := 4) (k := 0) (C := RX4) (T := TX4) (N := 21) cell_model rfl (by decide) rfl nX4 (by decide) mF_X4_7 rfl dX4_looks_14 ?_
      refine x_iload_n (pc := 17) dX4_looks_17 rfl ?_
      refine t_ild (pc := 18) _ cell_s (by decide) rfl (by first | assumption | omega) (by decide) dX4_looks_18 ?_
      try dsimp only
      refine t_stAhead (pc := 19) _ (by first | assumption | omega) rfl dX4_looks_19 ?_
      try dsimp only
      refine x_iinc (pc := 20) (nI (k + 1)) dX4_looks_20 rfl (iinc_nI k) (by decide) ?_
      refine x_goto (pc := 23) 2 dX4_looks_23 (by decide) ?_
      have e := ih hkn
      rw [← cpF_s ah s k] at e
      exact x_back e ⟨rfl, rfl, trivial⟩
  refine x_iconst (pc := 0) (0) dX4_looks_0 (by decide) ?_
  refine x_istore_n (pc := 1) dX4_looks_1 (by decide) ?_
  have e := lp 0 (by omega)
  rw [cpF_0] at e
  exact x_back e ⟨rfl, rfl, trivial⟩
set_option maxHeartbeats 4000000 in
set_option maxRecDepth 100000 in
theorem c_X4_putAside  : Ct G yX4_putAside YX4_putAside 0 0 [.ref (gB G + 247)] 255 (cellOf G S B (N, s, sd, ah, sn, be, tx, od)) (Rt G none S B (N, s, cpF sd s 119, ah, sn, be, tx, od)) := by
  refine ct_of (by decide +kernel) rfl rfl (Nat.le_of_ble_eq_true rfl) (by simp [Value.category]) ?_
  refine x_sub (l' := [(0, .ref (gB G + 247))]) ⟨rfl, trivial⟩ ?_
  have lp : ∀ k, k ≤ 119 → XJ G YX4_putAside (fun _ => True) (Zx G (Rt G none S B (N, s, cpF sd s 119, ah, sn, be, tx, od)) 0 0) 2 [(0, .ref (gB G + 247)), (1, .int (nI k))] [] 255 (cellOf G S B (N, s, cpF sd s k, ah, sn, be, tx, od)) 0 0 := by
    refine loopD (119) ?_
    intro k hk ih
    refine x_iload_n (pc := 2) dX4_putAside_2 rfl ?_
    refine x_bipush (pc := 3) (119) dX4_putAside_3 (by decide) ?_
    refine x_cmpge (pc := 5) 26 dX4_putAside_5 (by decide) (fun c5 => ?_) (fun c5 => ?_)
    · obtain rfl : k = 119 := by have := mt (lt_lit (n := 119) rfl (by decide) (by omega)).mpr c5; omega
      exact x_vret rfl dX4_putAside_26 ⟨rfl, rfl, rfl⟩
    · have hkn : k < 119 := (lt_lit rfl (by decide) (by omega)).mp c5
      refine x_aload_n (pc := 8) dX4_putAside_8 rfl ?_
      refine x_get (pc := 9) (ci := 4) (k := 1) (C := RX4) (T := TX4) (N := 21) cell_model rfl (by decide) rfl nX4 (by decide) mF_X4_13 rfl dX4_putAside_9 ?_
      refine x_iload_n (pc := 12) dX4_putAside_12 rfl ?_
      refine x_aload_n (pc := 13) dX4_putAside_13 rfl ?_
      refine x_get (pc := 14) (ci := 4) (k := 0) (C := RX4) (T := TX4) (N := 21) cell_model rfl (by decide) rfl nX4 (by decide) mF_X4_7 rfl dX4_putAside_14 ?_
      refine x_iload_n (pc := 17) dX4_putAside_17 rfl ?_
      refine t_ild (pc := 18) _ cell_s (by decide) rfl (by first | assumption | omega) (by decide) dX4_putAside_18 ?_
      try dsimp only
      refine t_stAside (pc := 19) _ (by first | assumption | omega) rfl dX4_putAside_19 ?_
      try dsimp only
      refine x_iinc (pc := 20) (nI (k + 1)) dX4_putAside_20 rfl (iinc_nI k) (by decide) ?_
      refine x_goto (pc := 23) 2 dX4_putAside_23 (by decide) ?_
      have e := ih hkn
      rw [← cpF_s sd s k] at e
      exact x_back e ⟨rfl, rfl, trivial⟩
  refine x_iconst (pc := 0) (0) dX4_putAside_0 (by decide) ?_
  refine x_istore_n (pc := 1) dX4_putAside_1 (by decide) ?_
  have e := lp 0 (by omega)
  rw [cpF_0] at e
  exact x_back e ⟨rfl, rfl, trivial⟩
set_option maxHeartbeats 4000000 in
set_option maxRecDepth 100000 in
theorem c_X4_putBack  : Ct G yX4_putBack YX4_putBack 0 0 [.ref (gB G + 247)] 255 (cellOf G S B (N, s, sd, ah, sn, be, tx, od)) (Rt G none S B (N, cpF s sd 119, sd, ah, sn, be, tx, od)) := by
  refine ct_of (by decide +kernel) rfl rfl (Nat.le_of_ble_eq_true rfl) (by simp [Value.category]) ?_
  refine x_sub (l' := [(0, .ref (gB G + 247))]) ⟨rfl, trivial⟩ ?_
  have lp : ∀ k, k ≤ 119 → XJ G YX4_putBack (fun _ => True) (Zx G (Rt G none S B (N, cpF s sd 119, sd, ah, sn, be, tx, od)) 0 0) 2 [(0, .ref (gB G + 247)), (1, .int (nI k))] [] 255 (cellOf G S B (N, cpF s sd k, sd, ah, sn, be, tx, od)) 0 0 := by
    refine loopD (119) ?_
    intro k hk ih
    refine x_iload_n (pc := 2) dX4_putBack_2 rfl ?_
    refine x_bipush (pc := 3) (119) dX4_putBack_3 (by decide) ?_
    refine x_cmpge (pc := 5) 26 dX4_putBack_5 (by decide) (fun c5 => ?_) (fun c5 => ?_)
    · obtain rfl : k = 119 := by have := mt (lt_lit (n := 119) rfl (by decide) (by omega)).mpr c5; omega
      exact x_vret rfl dX4_putBack_26 ⟨rfl, rfl, rfl⟩
    · have hkn : k < 119 := (lt_lit rfl (by decide) (by omega)).mp c5
      refine x_aload_n (pc := 8) dX4_putBack_8 rfl ?_
      refine x_get (pc := 9) (ci := 4) (k := 0) (C := RX4) (T := TX4) (N := 21) cell_model rfl (by decide) rfl nX4 (by decide) mF_X4_7 rfl dX4_putBack_9 ?_
      refine x_iload_n (pc := 12) dX4_putBack_12 rfl ?_
      refine x_aload_n (pc := 13) dX4_putBack_13 rfl ?_
      refine x_get (pc := 14) (ci := 4) (k := 1) (C := RX4) (T := TX4) (N := 21) cell_model rfl (by decide) rfl nX4 (by decide) mF_X4_13 rfl dX4_putBack_14 ?_
      refine x_iload_n (pc := 17) dX4_putBack_17 rfl ?_
      refine t_ild (pc := 18) _ cell_aside (by decide) rfl (by first | assumption | omega) (by decide) dX4_putBack_18 ?_
      try dsimp only
      refine t_stS (pc := 19) _ (by first | assumption | omega) rfl dX4_putBack_19 ?_
      try dsimp only
      refine x_iinc (pc := 20) (nI (k + 1)) dX4_putBack_20 rfl (iinc_nI k) (by decide) ?_
      refine x_goto (pc := 23) 2 dX4_putBack_23 (by decide) ?_
      have e := ih hkn
      rw [← cpF_s s sd k] at e
      exact x_back e ⟨rfl, rfl, trivial⟩
  refine x_iconst (pc := 0) (0) dX4_putBack_0 (by decide) ?_
  refine x_istore_n (pc := 1) dX4_putBack_1 (by decide) ?_
  have e := lp 0 (by omega)
  rw [cpF_0] at e
  exact x_back e ⟨rfl, rfl, trivial⟩
set_option maxHeartbeats 4000000 in
set_option maxRecDepth 100000 in
theorem tl_X4_records (hH : HM N be h) (hl : h.length < 4) (hA : RM ah A) : XJ G YX4_records (fun _ => True) (Zx G (Re G none (fun _ : Fs × Fs => S) (fun _ => B) (fun a => (a.1, s, sd, ah, sn, a.2, tx, od)) (fun a => HM a.1 a.2 (h ++ [A]) ∧ ∀ k, k ≠ 6 → a.1 k = N k)) 0 0) 48 [(0, .ref (gB G + 247))] [] 255 (cellOf G S B (N, s, sd, ah, sn, be, tx, od)) 0 0 := by
  have lp : ∀ k, k ≤ 119 → XJ G YX4_records (fun _ => True) (Zx G (Re G none (fun _ : Fs × Fs => S) (fun _ => B) (fun a => (a.1, s, sd, ah, sn, a.2, tx, od)) (fun a => HM a.1 a.2 (h ++ [A]) ∧ ∀ k, k ≠ 6 → a.1 k = N k)) 0 0) 50 [(0, .ref (gB G + 247)), (1, .int (nI k))] [] 255 (cellOf G S B (N, s, sd, ah, sn, blF be ah h.length k, tx, od)) 0 0 := by
    refine loopD (119) ?_
    intro k hk ih
    refine x_iload_n (pc := 50) dX4_records_50 rfl ?_
    refine x_bipush (pc := 51) (119) dX4_records_51 (by decide) ?_
    refine x_cmpge (pc := 53) 82 dX4_records_53 (by decide) (fun c53 => ?_) (fun c53 => ?_)
    · obtain rfl : k = 119 := by have := mt (lt_lit (n := 119) rfl (by decide) (by omega)).mpr c53; omega
      refine x_aload_n (pc := 82) dX4_records_82 rfl ?_
      refine x_dup (pc := 83) dX4_records_83 rfl ?_
      refine x_get (pc := 84) (ci := 4) (k := 6) (C := RX4) (T := TX4) (N := 21) cell_model rfl (by decide) rfl nX4 (by decide) mF_X4_49 rfl dX4_records_84 ?_
      try dsimp only
      try dsimp only
      rw [hH.1]
      refine x_iconst (pc := 87) (1) dX4_records_87 (by decide) ?_
      refine x_iadd (pc := 88) dX4_records_88 ?_
      try dsimp only
      rw [nI_1]
      refine t_putM (pc := 89) 6 (by unfold isMF; decide) rfl rfl mF_X4_49 dX4_records_89 ?_
      try dsimp only
      exact x_vret rfl dX4_records_92 ⟨(_, _), rfl, rfl, rfl, HM_add hH hl hA, fun k hk => upd_ne _ _ hk⟩
    · have hkn : k < 119 := (lt_lit rfl (by decide) (by omega)).mp c53
      refine x_aload_n (pc := 56) dX4_records_56 rfl ?_
      refine x_get (pc := 57) (ci := 4) (k := 5) (C := RX4) (T := TX4) (N := 21) cell_model rfl (by decide) rfl nX4 (by decide) mF_X4_22 rfl dX4_records_57 ?_
      refine x_bipush (pc := 60) (119) dX4_records_60 (by decide) ?_
      refine x_aload_n (pc := 62) dX4_records_62 rfl ?_
      refine x_get (pc := 63) (ci := 4) (k := 6) (C := RX4) (T := TX4) (N := 21) cell_model rfl (by decide) rfl nX4 (by decide) mF_X4_49 rfl dX4_records_63 ?_
      try dsimp only
      try dsimp only
      rw [hH.1]
      refine x_imul (pc := 66) dX4_records_66 ?_
      refine x_iload_n (pc := 67) dX4_records_67 rfl ?_
      refine x_iadd (pc := 68) dX4_records_68 ?_
      refine x_aload_n (pc := 69) dX4_records_69 rfl ?_
      refine x_get (pc := 70) (ci := 4) (k := 2) (C := RX4) (T := TX4) (N := 21) cell_model rfl (by decide) rfl nX4 (by decide) mF_X4_16 rfl dX4_records_70 ?_
      refine x_iload_n (pc := 73) dX4_records_73 rfl ?_
      refine t_ild (pc := 74) _ cell_ahead (by decide) rfl (by first | assumption | omega) (by decide) dX4_records_74 ?_
      try dsimp only
      refine t_stBefore (pc := 75) (119 * h.length + k) (by omega) (nI_119 h.length k) dX4_records_75 ?_
      try dsimp only
      refine x_iinc (pc := 76) (nI (k + 1)) dX4_records_76 rfl (iinc_nI k) (by decide) ?_
      refine x_goto (pc := 79) 50 dX4_records_79 (by decide) ?_
      have e := ih hkn
      rw [← blF_s be ah h.length k] at e
      exact x_back e ⟨rfl, rfl, trivial⟩
  refine x_iconst (pc := 48) (0) dX4_records_48 (by decide) ?_
  refine x_istore_n (pc := 49) dX4_records_49 (by decide) ?_
  have e := lp 0 (by omega)
  rw [blF_0] at e
  exact x_back e ⟨rfl, rfl, trivial⟩
set_option maxHeartbeats 4000000 in
set_option maxRecDepth 100000 in
theorem c_X4_records (hH : HM N be h) (hA : RM ah A) : Ct G yX4_records YX4_records 0 0 [.ref (gB G + 247)] 255 (cellOf G S B (N, s, sd, ah, sn, be, tx, od)) (Re G none (fun _ : Fs × Fs => S) (fun _ => B) (fun a => (a.1, s, sd, ah, sn, a.2, tx, od)) (fun a => HM a.1 a.2 (pushH h A) ∧ ∀ k, k ≠ 6 → a.1 k = N k)) := by
  refine ct_of (by decide +kernel) rfl rfl (Nat.le_of_ble_eq_true rfl) (by simp [Value.category]) ?_
  refine x_sub (l' := [(0, .ref (gB G + 247))]) ⟨rfl, trivial⟩ ?_
  have h4 := hH.2.1
  have lp : ∀ k, k ≤ 357 → h.length = 4 → XJ G YX4_records (fun _ => True) (Zx G (Re G none (fun _ : Fs × Fs => S) (fun _ => B) (fun a => (a.1, s, sd, ah, sn, a.2, tx, od)) (fun a => HM a.1 a.2 (pushH h A) ∧ ∀ k, k ≠ 6 → a.1 k = N k)) 0 0) 10 [(0, .ref (gB G + 247)), (1, .int (nI k))] [] 255 (cellOf G S B (N, s, sd, ah, sn, cpF be (fun q => be (119 + q)) k, tx, od)) 0 0 := by
    refine loopD (357) ?_
    intro k hk ih hl
    refine x_iload_n (pc := 10) dX4_records_10 rfl ?_
    refine x_sipush (pc := 11) (357) dX4_records_11 (by decide) ?_
    refine x_cmpge (pc := 14) 38 dX4_records_14 (by decide) (fun c14 => ?_) (fun c14 => ?_)
    · obtain rfl : k = 357 := by have := mt (lt_lit (n := 357) rfl (by decide) (by omega)).mpr c14; omega
      refine x_aload_n (pc := 38) dX4_records_38 rfl ?_
      refine x_dup (pc := 39) dX4_records_39 rfl ?_
      refine x_get (pc := 40) (ci := 4) (k := 6) (C := RX4) (T := TX4) (N := 21) cell_model rfl (by decide) rfl nX4 (by decide) mF_X4_49 rfl dX4_records_40 ?_
      try dsimp only
      try dsimp only
      rw [hH.1, hl]
      refine x_iconst (pc := 43) (1) dX4_records_43 (by decide) ?_
      refine x_isub (pc := 44) dX4_records_44 ?_
      try dsimp only
      rw [nI_pred 3]
      refine t_putM (pc := 45) 6 (by unfold isMF; decide) rfl rfl mF_X4_49 dX4_records_45 ?_
      try dsimp only
      have e := tl_X4_records (G := G) (S := S) (B := B) (s := s) (sd := sd) (sn := sn) (tx := tx) (od := od) (HM_drop hH hl) (by rw [List.length_drop]; omega) hA
      have ep : pushH h A = h.drop 1 ++ [A] := if_pos hl
      rw [ep]
      refine x_back (x_post e ?_) ⟨rfl, trivial⟩
      intro v n cs hh
      obtain ⟨a, q1, q2, q3, q4, q5⟩ := hh
      exact ⟨a, q1, q2, q3, q4, fun k hk => (q5 k hk).trans (upd_ne N _ hk)⟩
    · have hkn : k < 357 := (lt_lit rfl (by decide) (by omega)).mp c14
      refine x_aload_n (pc := 17) dX4_records_17 rfl ?_
      refine x_get (pc := 18) (ci := 4) (k := 5) (C := RX4) (T := TX4) (N := 21) cell_model rfl (by decide) rfl nX4 (by decide) mF_X4_22 rfl dX4_records_18 ?_
      refine x_iload_n (pc := 21) dX4_records_21 rfl ?_
      refine x_aload_n (pc := 22) dX4_records_22 rfl ?_
      refine x_get (pc := 23) (ci := 4) (k := 5) (C := RX4) (T := TX4) (N := 21) cell_model rfl (by decide) rfl nX4 (by decide) mF_X4_22 rfl dX4_records_23 ?_
      refine x_bipush (pc := 26) (119) dX4_records_26 (by decide) ?_
      refine x_iload_n (pc := 28) dX4_records_28 rfl ?_
      refine x_iadd (pc := 29) dX4_records_29 ?_
      refine t_ild (pc := 30) (119 + k) cell_before (by decide) (nI_add 119 k) (by omega) (by decide) dX4_records_30 ?_
      try dsimp only
      try dsimp only
      rw [cpF_ge _ _ (show k ≤ 119 + k by omega)]
      refine t_stBefore (pc := 31) _ (by first | assumption | omega) rfl dX4_records_31 ?_
      try dsimp only
      refine x_iinc (pc := 32) (nI (k + 1)) dX4_records_32 rfl (iinc_nI k) (by decide) ?_
      refine x_goto (pc := 35) 10 dX4_records_35 (by decide) ?_
      have e := ih hkn hl
      rw [← cpF_s be _ k] at e
      exact x_back e ⟨rfl, rfl, trivial⟩
  refine x_aload_n (pc := 0) dX4_records_0 rfl ?_
  refine x_get (pc := 1) (ci := 4) (k := 6) (C := RX4) (T := TX4) (N := 21) cell_model rfl (by decide) rfl nX4 (by decide) mF_X4_49 rfl dX4_records_1 ?_
  try dsimp only
  try dsimp only
  rw [hH.1]
  refine x_iconst (pc := 4) (4) dX4_records_4 (by decide) ?_
  refine x_cmpne (pc := 5) 48 dX4_records_5 (by decide) (fun c5 => ?_) (fun c5 => ?_)
  · have hl : h.length < 4 := by
      have : h.length ≠ 4 := fun z => c5 (by rw [z]; rfl)
      omega
    have e := tl_X4_records (G := G) (S := S) (B := B) (s := s) (sd := sd) (sn := sn) (tx := tx) (od := od) hH hl hA
    have ep : pushH h A = h ++ [A] := if_neg (by omega)
    rw [ep]
    exact x_back e ⟨rfl, trivial⟩
  · have hl : h.length = 4 := (nI_eq (b := 4) (by omega) (by decide)).mp c5
    refine x_iconst (pc := 8) (0) dX4_records_8 (by decide) ?_
    refine x_istore_n (pc := 9) dX4_records_9 (by decide) ?_
    have e := lp 0 (by omega) hl
    rw [cpF_0] at e
    exact x_back e ⟨rfl, rfl, trivial⟩
set_option maxHeartbeats 4000000 in
set_option maxRecDepth 100000 in
theorem c_X4_acted (hH : HM N be h) (hA : RM ah A) (v : Int32) : Ct G yX4_acted YX4_acted 0 0 [.ref (gB G + 247), .int v] 255 (cellOf G S B (N, s, sd, ah, sn, be, tx, od)) (Re G (some (.int v)) (fun _ : Fs × Fs => S) (fun _ => B) (fun a => (a.1, s, sd, ah, sn, a.2, tx, od)) (fun a => HM a.1 a.2 (if v < 0 then h else pushH h A) ∧ ∀ k, k ≠ 6 → a.1 k = N k)) := by
  refine ct_of (by decide +kernel) rfl rfl (Nat.le_of_ble_eq_true rfl) (by simp [Value.category]) ?_
  refine x_sub (l' := [(0, .ref (gB G + 247)), (1, .int v)]) ⟨rfl, rfl, trivial⟩ ?_
  refine x_iload_n (pc := 0) dX4_acted_0 rfl ?_
  refine x_iflt (pc := 1) 8 dX4_acted_1 (by decide) (fun c1 => ?_) (fun c1 => ?_)
  · refine x_iload_n (pc := 8) dX4_acted_8 rfl ?_
    rw [if_pos c1]
    exact x_iret rfl dX4_acted_9 ⟨(N, be), rfl, rfl, rfl, hH, fun _ _ => rfl⟩
  · refine x_aload_n (pc := 4) dX4_acted_4 rfl ?_
    refine e_Vv (pc := 5) (c_X4_records hH hA) qV_X4_records mL_X4_114 dX4_acted_5 rfl cell_model (by decide) rfl rfl rfl ⟨by decide, by decide⟩ (Nat.le_of_ble_eq_true rfl) (Nat.le_of_ble_eq_true rfl) (Nat.le_of_ble_eq_true rfl) ?_
    intro a ha
    obtain ⟨N1, be1⟩ := a
    dsimp only at ha ⊢
    refine x_iload_n (pc := 8) dX4_acted_8 rfl ?_
    rw [if_neg c1]
    exact x_iret rfl dX4_acted_9 ⟨(N1, be1), rfl, rfl, rfl, ha⟩
end MCOPY
