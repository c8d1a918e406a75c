/-! the class: Plan, third part (rows laid by wip/whole/p19.py) -/
theorem rT_60 {L : Fs} {n p : Nat} (h60 : n ≤ 60) (hp : p ≤ 60) : (rT L n p).2.1 ≤ 60 := by
  unfold rT
  split
  · rename_i h1
    have h1 := rlB_lt h1
    split
    · rename_i q hq; have := rN_le hq; show q.1 ≤ 60; omega
    · show p + 1 ≤ 60; omega
  split
  · rename_i h1
    have h1 := rlB_lt h1
    split
    · rename_i q hq
      have := rN_le hq
      split
      · rename_i h4
        have h4 := rlB_lt h4
        split
        · rename_i r hr; have := rN_le hr; show r.1 ≤ 60; omega
        · show q.1 + 1 ≤ 60; omega
      · show q.1 ≤ 60; omega
    · show p + 1 ≤ 60; omega
  split
  · rename_i h1
    have h1 := rlB_lt h1
    split
    · rename_i q hq; have := rN_le hq; show q.1 ≤ 60; omega
    · show p + 1 ≤ 60; omega
  split
  · rename_i h1
    have h1 := rlB_lt h1
    show p + 1 ≤ 60; omega
  · exact hp
def kOK (t : Th) : Prop := t.1 = 0 ∨ t.1 = 1 ∨ t.1 = 2 ∨ t.1 = 3
theorem rT_kind {L : Fs} {n p : Nat} (h : (rT L n p).1 = true) : kOK (rT L n p).2.2 := by
  revert h
  unfold rT
  repeat' split
  all_goals (intro h; first | exact absurd h (by decide) | exact Or.inl rfl | exact Or.inr (Or.inl rfl) | exact Or.inr (Or.inr (Or.inl rfl)) | exact Or.inr (Or.inr (Or.inr rfl)))
theorem plL_kind {L : Fs} {n : Nat} : ∀ {f p : Nat} {t : Th}, t ∈ (plL L n f p).2 → kOK t
  | 0, _, _, h => by simp [plL] at h
  | f + 1, p, t, h => by
    simp only [plL] at h
    split at h
    · rename_i h1
      split at h
      · rcases List.mem_singleton.mp h with rfl; exact rT_kind h1
      · split at h
        · rcases List.mem_cons.mp h with rfl | h
          · exact rT_kind h1
          · exact plL_kind h
        · rcases List.mem_singleton.mp h with rfl; exact rT_kind h1
    · cases h
def rdP (PI K F Q : Fs) (ts : List Th) : Prop := PI 1 = nI ts.length ∧ ts.length ≤ 30 ∧ ∀ i t, ts[i]? = some t → thM (K i) (F i) (Q i) t
theorem thM_add {K F Q K' F' Q' : Fs} {s : Nat} {r : Bool × Nat × Th} {ts : List Th} (hl : ts.length = s) (hm : ∀ i t, ts[i]? = some t → thM (K i) (F i) (Q i) t) (h : rTP K F Q K' F' Q' s r) (hr : r.1 = true) : ∀ i t, (ts ++ [r.2.2])[i]? = some t → thM (K' i) (F' i) (Q' i) t := by
  intro i t ht
  by_cases hi : i < ts.length
  · rw [List.getElem?_append_left hi] at ht
    obtain ⟨a, b, c⟩ := h.1 i (by omega)
    rw [a, b, c]
    exact hm i t ht
  · rw [List.getElem?_append_right (by omega)] at ht
    have h0 : i - ts.length < 1 := by
      have := (List.getElem?_eq_some_iff.mp ht).1
      simpa using this
    have h1 : i = s := by omega
    subst h1
    rw [show i - ts.length = 0 by omega] at ht
    cases ht
    exact h.2 hr
theorem nI_ne1 {q : Nat} (h : q < 2 ^ 31) : ¬ nI q = -1 := fun e => by
  have h1 := nI_toInt h
  rw [e] at h1
  have h2 : (-1 : Int32).toInt = -1 := by decide
  omega
section PLAN3
variable {G : GX} {S : Nat → Sh} {B : Bc} {M : Md} {j i : Nat} {σ : Sh}
variable {n p s : Nat} {PI L K F Q : Fs} {A : Ab}
set_option maxHeartbeats 4000000 in
set_option maxRecDepth 100000 in
theorem c_X0_read (hn : PI 0 = nI n) (h60 : n ≤ 60) : Ct G yX0_read YX0_read 0 0 [.ref (gB G + 242)] 255 (cellOf G S (B.1, B.2.1, PI, L, K, F, Q) M) (Re G (some (.int (plL L n 30 0).1)) (fun _ : Fs × Fs × Fs × Fs => S) (fun a => (B.1, B.2.1, a.1, L, a.2.1, a.2.2.1, a.2.2.2)) (fun _ => M) (fun a => a.1 0 = nI n ∧ ((plL L n 30 0).1 = -1 → rdP a.1 a.2.1 a.2.2.1 a.2.2.2 (plL L n 30 0).2))) := by
  refine ct_of (by decide +kernel) rfl rfl (Nat.le_of_ble_eq_true rfl) (by simp [Value.category]) ?_
  refine x_sub (l' := [(0, .ref (gB G + 242))]) ⟨rfl, trivial⟩ ?_
  have lp : ∀ f s p PI K F Q (ts : List Th), s + f = 30 → PI 0 = nI n → PI 1 = nI s → PI 2 = nI p → p ≤ 60 → ts.length = s → (∀ i t, ts[i]? = some t → thM (K i) (F i) (Q i) t) → (plL L n 30 0) = ((plL L n f p).1, ts ++ (plL L n f p).2) → XJ G YX0_read (fun _ => True) (Zx G (Re G (some (.int (plL L n 30 0).1)) (fun _ : Fs × Fs × Fs × Fs => S) (fun a => (B.1, B.2.1, a.1, L, a.2.1, a.2.2.1, a.2.2.2)) (fun _ => M) (fun a => a.1 0 = nI n ∧ ((plL L n 30 0).1 = -1 → rdP a.1 a.2.1 a.2.2.1 a.2.2.2 (plL L n 30 0).2))) 0 0) 10 [(0, .ref (gB G + 242))] [] 255 (cellOf G S (B.1, B.2.1, PI, L, K, F, Q) M) 0 0 := by
    intro f
    induction f with
    | zero =>
      intro s p PI K F Q ts hs hn hs1 hp hpn hl hm hX
      have e1 : (plL L n 30 0).1 = nI p := by rw [hX]; rfl
      refine x_aload_n (pc := 10) dX0_read_10 rfl ?_
      refine x_get (pc := 11) (ci := 0) (k := 5) (C := RX0) (T := TX0) (N := 7) cell_plan rfl (by decide) rfl nX0 (by decide) mF_X0_29 rfl dX0_read_11 ?_
      try dsimp only
      rw [hs1]
      refine x_bipush (pc := 14) (30) dX0_read_14 (by decide) ?_
      refine x_cmpge (pc := 16) 68 dX0_read_16 (by decide) (fun c16 => ?_) (fun c16 => absurd ((lt_lit (n := 30) rfl (by decide) (by omega)).mp c16) (by omega))
      refine x_aload_n (pc := 68) dX0_read_68 rfl ?_
      refine x_get (pc := 69) (ci := 0) (k := 6) (C := RX0) (T := TX0) (N := 7) cell_plan rfl (by decide) rfl nX0 (by decide) mF_X0_32 rfl dX0_read_69 ?_
      try dsimp only
      rw [hp]
      rw [← e1]
      exact x_iret rfl dX0_read_72 ⟨(_, _, _, _), rfl, rfl, rfl, hn, fun z => absurd (e1.symm.trans z) (nI_ne1 (by omega))⟩
    | succ f ih =>
      intro s p PI K F Q ts hs hn hs1 hp hpn hl hm hX
      have hs30 : s < 30 := by omega
      have h6 := rT_60 (L := L) h60 hpn
      have hn2 : (upd PI 2 (nI (rT L n p).2.1)) 0 = nI n := (upd_ne _ _ (by decide)).trans hn
      have hn3 : (upd (upd PI 2 (nI (rT L n p).2.1)) 1 (nI (s + 1))) 0 = nI n := (upd_ne _ _ (by decide)).trans hn2
      have hs3 : (upd (upd PI 2 (nI (rT L n p).2.1)) 1 (nI (s + 1))) 1 = nI (s + 1) := upd_same _ _ _
      refine x_aload_n (pc := 10) dX0_read_10 rfl ?_
      refine x_get (pc := 11) (ci := 0) (k := 5) (C := RX0) (T := TX0) (N := 7) cell_plan rfl (by decide) rfl nX0 (by decide) mF_X0_29 rfl dX0_read_11 ?_
      try dsimp only
      rw [hs1]
      refine x_bipush (pc := 14) (30) dX0_read_14 (by decide) ?_
      refine x_cmpge (pc := 16) 68 dX0_read_16 (by decide) (fun c16 => absurd ((lt_lit (n := 30) rfl (by decide) (by omega)).mpr hs30) c16) (fun c16 => ?_)
      refine x_aload_n (pc := 19) dX0_read_19 rfl ?_
      refine e_Vi (pc := 20) (c_X0_readThing hn h60 hp hpn hs1 hs30) qV_X0_readThing mL_X0_35 dX0_read_20 rfl cell_plan (by decide) rfl rfl rfl ⟨by decide, by decide⟩ (Nat.le_of_ble_eq_true rfl) (Nat.le_of_ble_eq_true rfl) (Nat.le_of_ble_eq_true rfl) ?_
      intro a ha
      obtain ⟨K1, F1, Q1⟩ := a
      dsimp only at ha ⊢
      refine x_ifne (pc := 23) 31 dX0_read_23 (by decide) (fun c23 => ?_) (fun c23 => ?_)
      · have ht := b01_ne c23
        have hm1 := thM_add hl hm ha ht
        refine x_aload_n (pc := 31) dX0_read_31 rfl ?_
        refine x_dup (pc := 32) dX0_read_32 rfl ?_
        refine x_get (pc := 33) (ci := 0) (k := 5) (C := RX0) (T := TX0) (N := 7) cell_plan rfl (by decide) rfl nX0 (by decide) mF_X0_29 rfl dX0_read_33 ?_
        try dsimp only
        rw [upd_ne _ _ (show 1 ≠ 2 by decide), hs1]
        refine x_iconst (pc := 36) (1) dX0_read_36 (by decide) ?_
        refine x_iadd (pc := 37) dX0_read_37 ?_
        refine t_putPlan (pc := 38) 1 (by decide) mF_X0_29 dX0_read_38 ?_
        try dsimp only
        refine x_aload_n (pc := 41) dX0_read_41 rfl ?_
        refine x_get (pc := 42) (ci := 0) (k := 6) (C := RX0) (T := TX0) (N := 7) cell_plan rfl (by decide) rfl nX0 (by decide) mF_X0_32 rfl dX0_read_42 ?_
        try dsimp only
        rw [upd_ne _ _ (show 2 ≠ 1 by decide), upd_same]
        refine x_aload_n (pc := 45) dX0_read_45 rfl ?_
        refine x_get (pc := 46) (ci := 0) (k := 4) (C := RX0) (T := TX0) (N := 7) cell_plan rfl (by decide) rfl nX0 (by decide) mF_X0_25 rfl dX0_read_46 ?_
        try dsimp only
        rw [upd_ne _ _ (show 0 ≠ 1 by decide), upd_ne _ _ (show 0 ≠ 2 by decide), hn]
        refine x_cmplt (pc := 49) 54 dX0_read_49 (by decide) (fun c49 => ?_) (fun c49 => ?_)
        · have hlt : (rT L n p).2.1 < n := (nI_ltI (by omega) (by omega)).mp c49
          have hp3 : (upd (upd PI 2 (nI (rT L n p).2.1)) 1 (nI (s + 1))) 2 = nI (rT L n p).2.1 := (upd_ne _ _ (by decide)).trans (upd_same _ _ _)
          rw [nI_1 s]
          refine x_aload_n (pc := 54) dX0_read_54 rfl ?_
          refine x_bipush (pc := 55) (59) dX0_read_55 (by decide) ?_
          refine t_Vi (pc := 57) (c_X0_readLetter (p := (rT L n p).2.1) hn3 h60 hp3 h6 _) qV_X0_readLetter mL_X0_39 dX0_read_57 rfl cell_plan (by decide) rfl rfl rfl ⟨by decide, by decide⟩ (Nat.le_of_ble_eq_true rfl) (Nat.le_of_ble_eq_true rfl) (Nat.le_of_ble_eq_true rfl) ?_
          refine x_ifne (pc := 60) 10 dX0_read_60 (by decide) (fun c60 => ?_) (fun c60 => ?_)
          · have t5 := b01_ne c60
            have h5 : L (rT L n p).2.1 = 59 := by simpa [rlB, hlt] using t5
            simp only [t5, if_true]
            have e1 : (plL L n (f + 1) p) = ((plL L n f ((rT L n p).2.1 + 1)).1, (rT L n p).2.2 :: (plL L n f ((rT L n p).2.1 + 1)).2) := by simp only [plL, ht, if_true, if_neg (show ¬ n ≤ (rT L n p).2.1 by omega), if_pos h5]
            rw [e1] at hX
            exact x_back (ih (s + 1) ((rT L n p).2.1 + 1) _ _ _ _ (ts ++ [(rT L n p).2.2]) (by omega) ((upd_ne _ _ (by decide)).trans hn3) ((upd_ne _ _ (by decide)).trans (upd_same _ _ _)) (upd_same _ _ _) (by omega) (by rw [List.length_append, hl]; rfl) hm1 (by rw [hX]; simp)) ⟨rfl, trivial⟩
          · have t5 := b01_eq c60
            have h5 : ¬ L (rT L n p).2.1 = 59 := by simpa [rlB, hlt] using t5
            simp only [t5, Bool.false_eq_true, if_false]
            have e1 : (plL L n (f + 1) p) = (nI (rT L n p).2.1, [(rT L n p).2.2]) := by simp only [plL, ht, if_true, if_neg (show ¬ n ≤ (rT L n p).2.1 by omega), if_neg h5]
            rw [e1] at hX
            have e2 : (plL L n 30 0).1 = nI (rT L n p).2.1 := by rw [hX]
            refine x_aload_n (pc := 63) dX0_read_63 rfl ?_
            refine x_get (pc := 64) (ci := 0) (k := 6) (C := RX0) (T := TX0) (N := 7) cell_plan rfl (by decide) rfl nX0 (by decide) mF_X0_32 rfl dX0_read_64 ?_
            try dsimp only
            rw [hp3]
            rw [e2]
            exact x_iret rfl dX0_read_67 ⟨(upd (upd PI 2 (nI (rT L n p).2.1)) 1 (nI (s + 1)), K1, F1, Q1), rfl, rfl, rfl, hn3, fun z => absurd z (nI_ne1 (by omega))⟩
        · have hge : n ≤ (rT L n p).2.1 := Nat.not_lt.mp (fun z => c49 ((nI_ltI (by omega) (by omega)).mpr z))
          have e1 : (plL L n (f + 1) p) = (-1, [(rT L n p).2.2]) := by simp only [plL, ht, if_true, hge]
          rw [e1] at hX
          have e2 : (plL L n 30 0).1 = -1 := by rw [hX]
          have e3 : (plL L n 30 0).2 = ts ++ [(rT L n p).2.2] := by rw [hX]
          refine x_iconst (pc := 52) (-1) dX0_read_52 (by decide) ?_
          rw [nI_1 s]
          rw [e2, e3]
          have hl1 : (ts ++ [(rT L n p).2.2]).length = s + 1 := by rw [List.length_append, hl]; rfl
          exact x_iret rfl dX0_read_53 ⟨(upd (upd PI 2 (nI (rT L n p).2.1)) 1 (nI (s + 1)), K1, F1, Q1), rfl, rfl, rfl, hn3, fun _ => ⟨hs3.trans (by rw [hl1]), by rw [hl1]; exact hs30, hm1⟩⟩
      · have ht := b01_eq c23
        have e1 : (plL L n (f + 1) p) = (nI (rT L n p).2.1, []) := by simp only [plL, ht, Bool.false_eq_true, if_false]
        rw [e1] at hX
        have e2 : (plL L n 30 0).1 = nI (rT L n p).2.1 := by rw [hX]
        refine x_aload_n (pc := 26) dX0_read_26 rfl ?_
        refine x_get (pc := 27) (ci := 0) (k := 6) (C := RX0) (T := TX0) (N := 7) cell_plan rfl (by decide) rfl nX0 (by decide) mF_X0_32 rfl dX0_read_27 ?_
        try dsimp only
        rw [upd_same]
        rw [e2]
        exact x_iret rfl dX0_read_30 ⟨(upd PI 2 (nI (rT L n p).2.1), K1, F1, Q1), rfl, rfl, rfl, hn2, fun z => absurd z (nI_ne1 (by omega))⟩
  refine x_aload_n (pc := 0) dX0_read_0 rfl ?_
  refine x_iconst (pc := 1) (0) dX0_read_1 (by decide) ?_
  refine t_putPlan (pc := 2) 2 (by decide) mF_X0_32 dX0_read_2 ?_
  try dsimp only
  refine x_aload_n (pc := 5) dX0_read_5 rfl ?_
  refine x_iconst (pc := 6) (0) dX0_read_6 (by decide) ?_
  refine t_putPlan (pc := 7) 1 (by decide) mF_X0_29 dX0_read_7 ?_
  try dsimp only
  exact x_back (lp 30 0 0 (upd (upd PI 2 0) 1 0) K F Q [] rfl ((upd_ne _ _ (by decide)).trans ((upd_ne _ _ (by decide)).trans hn)) (upd_same _ _ _) ((upd_ne _ _ (by decide)).trans (upd_same _ _ _)) (by omega) rfl (fun i t h => by simp at h) (by simp)) ⟨rfl, trivial⟩
set_option maxHeartbeats 4000000 in
set_option maxRecDepth 100000 in
theorem c_X0_doThing (hj : j < 8) (hR : RC σ A) (i : Nat) (hi : i < 30) (t : Th) (ht : kOK t) (hm : thM (K i) (F i) (Q i) t) : Ct G yX0_doThing YX0_doThing 0 0 [.ref (gB G + 242), .int (nI i), .ref (gB G + sB j)] 255 (cellOf G (updS S j σ) (B.1, B.2.1, PI, L, K, F, Q) M) (RS G (some (.int (thX A t).1)) S j (B.1, B.2.1, PI, L, K, F, Q) M (thX A t).2) := by
  refine ct_of (by decide +kernel) rfl rfl (Nat.le_of_ble_eq_true rfl) (by simp [Value.category]) ?_
  refine x_sub (l' := [(0, .ref (gB G + 242)), (1, .int (nI i)), (2, .ref (gB G + sB j))]) ⟨rfl, rfl, rfl, trivial⟩ ?_
  refine x_aload_n (pc := 0) dX0_doThing_0 rfl ?_
  refine x_get (pc := 1) (ci := 0) (k := 1) (C := RX0) (T := TX0) (N := 7) cell_plan rfl (by decide) rfl nX0 (by decide) mF_X0_15 rfl dX0_doThing_1 ?_
  refine x_iload_n (pc := 4) dX0_doThing_4 rfl ?_
  refine t_ild (pc := 5) i cell_kinds (by decide) rfl hi (by decide) dX0_doThing_5 ?_
  try dsimp only
  rw [hm.1]
  have hF := hm.2.1
  have hQ := hm.2.2
  rcases ht with h | h | h | h
  · rw [h]
    have hX : thX A t = cutX A t.2.1 := by simp only [thX, h, if_true, if_false, (by decide : ¬ (1 : Int32) = 0), (by decide : ¬ (2 : Int32) = 0), (by decide : ¬ (2 : Int32) = 1), (by decide : ¬ (3 : Int32) = 0), (by decide : ¬ (3 : Int32) = 1), (by decide : ¬ (3 : Int32) = 2)]
    rw [hX]
    have hF := hF (by rw [h]; decide)
    refine x_tableIn (pc := 6) 36 dX0_doThing_6 (by decide) (by decide) rfl (by decide) ?_
    refine x_aload_n (pc := 36) dX0_doThing_36 rfl ?_
    refine x_aload_n (pc := 37) dX0_doThing_37 rfl ?_
    refine x_get (pc := 38) (ci := 0) (k := 2) (C := RX0) (T := TX0) (N := 7) cell_plan rfl (by decide) rfl nX0 (by decide) mF_X0_19 rfl dX0_doThing_38 ?_
    refine x_iload_n (pc := 41) dX0_doThing_41 rfl ?_
    refine t_ild (pc := 42) i cell_firsts (by decide) rfl hi (by decide) dX0_doThing_42 ?_
    try dsimp only
    rw [hF]
    refine e_Vi (pc := 43) (c_X2_cutShape (by first | assumption | omega) hR _) qV_X2_cutShape mL_X0_63 dX0_doThing_43 rfl (cell_sheet (by first | assumption | omega)) (sB_255 (by first | assumption | omega)) rfl rfl rfl ⟨by decide, by decide⟩ (Nat.le_of_ble_eq_true rfl) (Nat.le_of_ble_eq_true rfl) (Nat.le_of_ble_eq_true rfl) ?_
    intro σ1 R1
    exact x_iret rfl dX0_doThing_46 ⟨σ1, rfl, rfl, rfl, R1⟩
  · rw [h]
    have hX : thX A t = leadX A t.2.1 t.2.2 := by simp only [thX, h, if_true, if_false, (by decide : ¬ (1 : Int32) = 0), (by decide : ¬ (2 : Int32) = 0), (by decide : ¬ (2 : Int32) = 1), (by decide : ¬ (3 : Int32) = 0), (by decide : ¬ (3 : Int32) = 1), (by decide : ¬ (3 : Int32) = 2)]
    rw [hX]
    have hF := hF (by rw [h]; decide)
    have hQ := hQ h
    refine x_tableIn (pc := 6) 47 dX0_doThing_6 (by decide) (by decide) rfl (by decide) ?_
    refine x_aload_n (pc := 47) dX0_doThing_47 rfl ?_
    refine x_aload_n (pc := 48) dX0_doThing_48 rfl ?_
    refine x_get (pc := 49) (ci := 0) (k := 2) (C := RX0) (T := TX0) (N := 7) cell_plan rfl (by decide) rfl nX0 (by decide) mF_X0_19 rfl dX0_doThing_49 ?_
    refine x_iload_n (pc := 52) dX0_doThing_52 rfl ?_
    refine t_ild (pc := 53) i cell_firsts (by decide) rfl hi (by decide) dX0_doThing_53 ?_
    try dsimp only
    rw [hF]
    refine x_aload_n (pc := 54) dX0_doThing_54 rfl ?_
    refine x_get (pc := 55) (ci := 0) (k := 3) (C := RX0) (T := TX0) (N := 7) cell_plan rfl (by decide) rfl nX0 (by decide) mF_X0_22 rfl dX0_doThing_55 ?_
    refine x_iload_n (pc := 58) dX0_doThing_58 rfl ?_
    refine t_ild (pc := 59) i cell_seconds (by decide) rfl hi (by decide) dX0_doThing_59 ?_
    try dsimp only
    rw [hQ]
    refine e_Vi (pc := 60) (c_X2_changeLead (by first | assumption | omega) hR _ _) qV_X2_changeLead mL_X0_66 dX0_doThing_60 rfl (cell_sheet (by first | assumption | omega)) (sB_255 (by first | assumption | omega)) rfl rfl rfl ⟨by decide, by decide⟩ (Nat.le_of_ble_eq_true rfl) (Nat.le_of_ble_eq_true rfl) (Nat.le_of_ble_eq_true rfl) ?_
    intro σ1 R1
    exact x_iret rfl dX0_doThing_63 ⟨σ1, rfl, rfl, rfl, R1⟩
  · rw [h]
    have hX : thX A t = waitX A t.2.1 := by simp only [thX, h, if_true, if_false, (by decide : ¬ (1 : Int32) = 0), (by decide : ¬ (2 : Int32) = 0), (by decide : ¬ (2 : Int32) = 1), (by decide : ¬ (3 : Int32) = 0), (by decide : ¬ (3 : Int32) = 1), (by decide : ¬ (3 : Int32) = 2)]
    rw [hX]
    have hF := hF (by rw [h]; decide)
    refine x_tableIn (pc := 6) 64 dX0_doThing_6 (by decide) (by decide) rfl (by decide) ?_
    refine x_aload_n (pc := 64) dX0_doThing_64 rfl ?_
    refine x_aload_n (pc := 65) dX0_doThing_65 rfl ?_
    refine x_get (pc := 66) (ci := 0) (k := 2) (C := RX0) (T := TX0) (N := 7) cell_plan rfl (by decide) rfl nX0 (by decide) mF_X0_19 rfl dX0_doThing_66 ?_
    refine x_iload_n (pc := 69) dX0_doThing_69 rfl ?_
    refine t_ild (pc := 70) i cell_firsts (by decide) rfl hi (by decide) dX0_doThing_70 ?_
    try dsimp only
    rw [hF]
    refine e_Vi (pc := 71) (c_X2_waitFor (by first | assumption | omega) hR _) qV_X2_waitFor mL_X0_69 dX0_doThing_71 rfl (cell_sheet (by first | assumption | omega)) (sB_255 (by first | assumption | omega)) rfl rfl rfl ⟨by decide, by decide⟩ (Nat.le_of_ble_eq_true rfl) (Nat.le_of_ble_eq_true rfl) (Nat.le_of_ble_eq_true rfl) ?_
    intro σ1 R1
    exact x_iret rfl dX0_doThing_74 ⟨σ1, rfl, rfl, rfl, R1⟩
  · rw [h]
    have hX : thX A t = cleanX A := by simp only [thX, h, if_true, if_false, (by decide : ¬ (1 : Int32) = 0), (by decide : ¬ (2 : Int32) = 0), (by decide : ¬ (2 : Int32) = 1), (by decide : ¬ (3 : Int32) = 0), (by decide : ¬ (3 : Int32) = 1), (by decide : ¬ (3 : Int32) = 2)]
    rw [hX]
    refine x_tableIn (pc := 6) 75 dX0_doThing_6 (by decide) (by decide) rfl (by decide) ?_
    refine x_aload_n (pc := 75) dX0_doThing_75 rfl ?_
    refine e_Vi (pc := 76) (c_X2_cleanLens (by first | assumption | omega) hR) qV_X2_cleanLens mL_X0_72 dX0_doThing_76 rfl (cell_sheet (by first | assumption | omega)) (sB_255 (by first | assumption | omega)) rfl rfl rfl ⟨by decide, by decide⟩ (Nat.le_of_ble_eq_true rfl) (Nat.le_of_ble_eq_true rfl) (Nat.le_of_ble_eq_true rfl) ?_
    intro σ1 R1
    exact x_iret rfl dX0_doThing_79 ⟨σ1, rfl, rfl, rfl, R1⟩
end PLAN3
