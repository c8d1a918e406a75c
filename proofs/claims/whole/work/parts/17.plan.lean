/-! the class: Plan (rows laid by wip/whole/p17.py) -/
abbrev Th : Type := Int32 × Int32 × Int32
/-- the digit at a place of a text of n characters; -1: none -/
def dgV (L : Fs) (n p : Nat) : Int32 := if p < n then (if betw (L p) 48 57 then L p - 48 else -1) else -1
def rlB (L : Fs) (n p : Nat) (c : Int32) : Bool := decide (p < n) && decide (L p = c)
/-- the digits that follow: where it ends, the number -/
def rnL (L : Fs) (n : Nat) (g : Int32) : Nat → Nat → Int32 → Nat × Int32
  | 0, p, v => (p, v)
  | f + 1, p, v => if p < n ∧ 0 < v ∧ ¬ dgV L n p < 0 ∧ ¬ g < 10 * v + dgV L n p then rnL L n g f (p + 1) (10 * v + dgV L n p) else (p, v)
def rnX (L : Fs) (n : Nat) (g : Int32) (p : Nat) (v : Int32) : Nat × Int32 := rnL L n g (n - p) p v
def rN (L : Fs) (n p : Nat) (lo g : Int32) : Option (Nat × Int32) := if betw (dgV L n p) (imx lo 0) g then some (rnX L n g (p + 1) (dgV L n p)) else none
/-- one thing: whether it is one, where it ends (or has its fault), what it is -/
def rT (L : Fs) (n p : Nat) : Bool × Nat × Th :=
  if rlB L n p 99 then (match rN L n (p + 1) 0 11 with | some q => (true, q.1, 0, q.2, 0) | none => (false, p + 1, 0, 0, 0))
  else if rlB L n p 108 then (match rN L n (p + 1) 0 11 with
    | some q => if rlB L n q.1 64 then (match rN L n (q.1 + 1) 0 3 with | some r => (true, r.1, 1, q.2, r.2) | none => (false, q.1 + 1, 0, 0, 0)) else (false, q.1, 0, 0, 0)
    | none => (false, p + 1, 0, 0, 0))
  else if rlB L n p 119 then (match rN L n (p + 1) 1 999 with | some q => (true, q.1, 2, q.2, 0) | none => (false, p + 1, 0, 0, 0))
  else if rlB L n p 107 then (true, p + 1, 3, 0, 0) else (false, p, 0, 0, 0)
/-- the plan: its fault (-1: none), its things -/
def plL (L : Fs) (n : Nat) : Nat → Nat → Int32 × List Th
  | 0, p => (nI p, [])
  | f + 1, p => if (rT L n p).1 then (if n ≤ (rT L n p).2.1 then (-1, [(rT L n p).2.2]) else if L (rT L n p).2.1 = 59 then ((plL L n f ((rT L n p).2.1 + 1)).1, (rT L n p).2.2 :: (plL L n f ((rT L n p).2.1 + 1)).2) else (nI (rT L n p).2.1, [(rT L n p).2.2])) else (nI (rT L n p).2.1, [])
def thX (A : Ab) (t : Th) : Int32 × Ab := if t.1 = 0 then cutX A t.2.1 else if t.1 = 1 then leadX A t.2.1 t.2.2 else if t.1 = 2 then waitX A t.2.1 else if t.1 = 3 then cleanX A else (-5, A)
theorem rnL_ge (L : Fs) (n : Nat) (g : Int32) : ∀ f p v, p ≤ (rnL L n g f p v).1
  | 0, p, v => Nat.le_refl p
  | f + 1, p, v => by
    simp only [rnL]
    split
    · have := rnL_ge L n g f (p + 1) (10 * v + dgV L n p); omega
    · exact Nat.le_refl p
theorem rnL_le (L : Fs) (n : Nat) (g : Int32) : ∀ f p v, p ≤ n → (rnL L n g f p v).1 ≤ n
  | 0, p, v, h => h
  | f + 1, p, v, h => by
    simp only [rnL]
    split
    · rename_i h2; exact rnL_le L n g f (p + 1) _ (by omega)
    · exact h
theorem dgV_lt {L : Fs} {n p : Nat} (h : ¬ dgV L n p = -1) : p < n := by
  apply Classical.byContradiction
  intro q
  exact h (by simp only [dgV, if_neg q])
theorem betw0_lt {L : Fs} {n p : Nat} {lo g : Int32} (h : betw (dgV L n p) (imx lo 0) g = true) : p < n := by
  refine dgV_lt (L := L) (fun e => ?_)
  rw [e] at h
  simp only [betw, Bool.and_eq_true, Bool.not_eq_true', decide_eq_false_iff_not] at h
  refine h.1 ?_
  unfold imx
  split
  · decide
  · rename_i h2
    have h3 : (0 : Int32) ≤ lo := Int32.not_lt.mp h2
    exact Int32.lt_of_lt_of_le (by decide) h3
theorem rN_le {L : Fs} {n p : Nat} {lo g : Int32} {q : Nat × Int32} (h : rN L n p lo g = some q) : q.1 ≤ n ∧ p < q.1 := by
  simp only [rN] at h
  split at h
  · rename_i hb
    have := betw0_lt hb
    cases h
    exact ⟨rnL_le L n g _ _ _ (by omega), Nat.lt_of_lt_of_le (Nat.lt_succ_self p) (rnL_ge L n g _ _ _)⟩
  · cases h
theorem rlB_lt {L : Fs} {n p : Nat} {c : Int32} (h : rlB L n p c = true) : p < n := by
  simp only [rlB, Bool.and_eq_true, decide_eq_true_eq] at h
  exact h.1
section PLAN
variable {G : GX} {S : Nat → Sh} {B : Bc} {M : Md} {j i : Nat} {σ : Sh}
variable {n p s : Nat} {PI L K F Q : Fs}
set_option maxHeartbeats 4000000 in
set_option maxRecDepth 100000 in
theorem c_X0_digitAt (hn : PI 0 = nI n) (h60 : n ≤ 60) (p : Nat) (hp : p < 2 ^ 31) : Ct G yX0_digitAt YX0_digitAt 0 0 [.ref (gB G + 242), .int (nI p)] 255 (cellOf G S (B.1, B.2.1, PI, L, K, F, Q) M) (Rt G (some (.int (dgV L n p))) S (B.1, B.2.1, PI, L, K, F, Q) M) := by
  refine ct_of (by decide +kernel) rfl rfl (Nat.le_of_ble_eq_true rfl) (by simp [Value.category]) ?_
  refine x_sub (l' := [(0, .ref (gB G + 242)), (1, .int (nI p))]) ⟨rfl, rfl, trivial⟩ ?_
  refine x_iload_n (pc := 0) dX0_digitAt_0 rfl ?_
  refine x_iflt (pc := 1) 28 dX0_digitAt_1 (by decide) (fun c1 => absurd c1 (nI_pos hp)) (fun c1 => ?_)
  refine x_iload_n (pc := 4) dX0_digitAt_4 rfl ?_
  refine x_aload_n (pc := 5) dX0_digitAt_5 rfl ?_
  refine x_get (pc := 6) (ci := 0) (k := 4) (C := RX0) (T := TX0) (N := 7) cell_plan rfl (by decide) rfl nX0 (by decide) mF_X0_25 rfl dX0_digitAt_6 ?_
  try dsimp only
  rw [hn]
  refine x_cmpge (pc := 9) 28 dX0_digitAt_9 (by decide) (fun c9 => ?_) (fun c9 => ?_)
  · have hpn : ¬ p < n := fun z => c9 ((nI_ltI (by omega) (by omega)).mpr z)
    refine x_iconst (pc := 28) (-1) dX0_digitAt_28 (by decide) ?_
    first
    | (have t := b01_eq c25; exact x_iret rfl dX0_digitAt_29 ⟨by simp only [dgV, if_pos hpn, t, Bool.false_eq_true, if_false], rfl, rfl⟩)
    | exact x_iret rfl dX0_digitAt_29 ⟨by simp only [dgV, if_neg hpn], rfl, rfl⟩
  · have hpn : p < n := (nI_ltI (by omega) (by omega)).mp c9
    have hp60 : p < 60 := by omega
    refine x_aload_n (pc := 12) dX0_digitAt_12 rfl ?_
    refine x_get (pc := 13) (ci := 0) (k := 0) (C := RX0) (T := TX0) (N := 7) cell_plan rfl (by decide) rfl nX0 (by decide) mF_X0_11 rfl dX0_digitAt_13 ?_
    refine x_iload_n (pc := 16) dX0_digitAt_16 rfl ?_
    refine t_cld (pc := 17) p cell_letters (by decide) rfl hp60 (by decide) dX0_digitAt_17 ?_
    refine x_bipush (pc := 18) (48) dX0_digitAt_18 (by decide) ?_
    refine x_bipush (pc := 20) (57) dX0_digitAt_20 (by decide) ?_
    refine t_Ni (pc := 22) (c_X3_isIn _ _ _) qS_X3_isIn (fun s h => h.2.2.2.2) dX0_digitAt_22 rfl rfl rfl ⟨by decide, by decide⟩ (Nat.le_of_ble_eq_true rfl) (Nat.le_of_ble_eq_true rfl) (Nat.le_of_ble_eq_true rfl) ?_
    refine x_ifne (pc := 25) 30 dX0_digitAt_25 (by decide) (fun c25 => ?_) (fun c25 => ?_)
    · refine x_aload_n (pc := 30) dX0_digitAt_30 rfl ?_
      refine x_get (pc := 31) (ci := 0) (k := 0) (C := RX0) (T := TX0) (N := 7) cell_plan rfl (by decide) rfl nX0 (by decide) mF_X0_11 rfl dX0_digitAt_31 ?_
      refine x_iload_n (pc := 34) dX0_digitAt_34 rfl ?_
      refine t_cld (pc := 35) p cell_letters (by decide) rfl hp60 (by decide) dX0_digitAt_35 ?_
      refine x_bipush (pc := 36) (48) dX0_digitAt_36 (by decide) ?_
      refine x_isub (pc := 38) dX0_digitAt_38 ?_
      have t := b01_ne c25
      exact x_iret rfl dX0_digitAt_39 ⟨by simp only [dgV, if_pos hpn, t, if_true], rfl, rfl⟩
    · refine x_iconst (pc := 28) (-1) dX0_digitAt_28 (by decide) ?_
      first
      | (have t := b01_eq c25; exact x_iret rfl dX0_digitAt_29 ⟨by simp only [dgV, if_pos hpn, t, Bool.false_eq_true, if_false], rfl, rfl⟩)
      | exact x_iret rfl dX0_digitAt_29 ⟨by simp only [dgV, if_neg hpn], rfl, rfl⟩
set_option maxHeartbeats 4000000 in
set_option maxRecDepth 100000 in
theorem c_X0_readLetter (hn : PI 0 = nI n) (h60 : n ≤ 60) (hp : PI 2 = nI p) (hpn : p ≤ 60) (c : Int32) : Ct G yX0_readLetter YX0_readLetter 0 0 [.ref (gB G + 242), .int c] 255 (cellOf G S (B.1, B.2.1, PI, L, K, F, Q) M) (Rt G (some (.int (b01 (rlB L n p c)))) S (B.1, B.2.1, (if rlB L n p c then upd PI 2 (nI (p + 1)) else PI), L, K, F, Q) M) := by
  refine ct_of (by decide +kernel) rfl rfl (Nat.le_of_ble_eq_true rfl) (by simp [Value.category]) ?_
  refine x_sub (l' := [(0, .ref (gB G + 242)), (1, .int c)]) ⟨rfl, rfl, trivial⟩ ?_
  refine x_aload_n (pc := 0) dX0_readLetter_0 rfl ?_
  refine x_get (pc := 1) (ci := 0) (k := 6) (C := RX0) (T := TX0) (N := 7) cell_plan rfl (by decide) rfl nX0 (by decide) mF_X0_32 rfl dX0_readLetter_1 ?_
  try dsimp only
  rw [hp]
  refine x_aload_n (pc := 4) dX0_readLetter_4 rfl ?_
  refine x_get (pc := 5) (ci := 0) (k := 4) (C := RX0) (T := TX0) (N := 7) cell_plan rfl (by decide) rfl nX0 (by decide) mF_X0_25 rfl dX0_readLetter_5 ?_
  try dsimp only
  rw [hn]
  refine x_cmpge (pc := 8) 24 dX0_readLetter_8 (by decide) (fun c8 => ?_) (fun c8 => ?_)
  · have hpn2 : ¬ p < n := fun z => c8 ((nI_ltI (by omega) (by omega)).mpr z)
    refine x_iconst (pc := 24) (0) dX0_readLetter_24 (by decide) ?_
    have t : rlB L n p c = false := by
      first
      | simp only [rlB, decide_eq_false hpn2, Bool.false_and]
      | simp only [rlB, decide_eq_false c21, Bool.and_false]
    rw [t]
    exact x_zret rfl rfl dX0_readLetter_25 ⟨rfl, rfl, rfl⟩
  · have hpn2 : p < n := (nI_ltI (by omega) (by omega)).mp c8
    have hp60 : p < 60 := by omega
    refine x_aload_n (pc := 11) dX0_readLetter_11 rfl ?_
    refine x_get (pc := 12) (ci := 0) (k := 0) (C := RX0) (T := TX0) (N := 7) cell_plan rfl (by decide) rfl nX0 (by decide) mF_X0_11 rfl dX0_readLetter_12 ?_
    refine x_aload_n (pc := 15) dX0_readLetter_15 rfl ?_
    refine x_get (pc := 16) (ci := 0) (k := 6) (C := RX0) (T := TX0) (N := 7) cell_plan rfl (by decide) rfl nX0 (by decide) mF_X0_32 rfl dX0_readLetter_16 ?_
    try dsimp only
    rw [hp]
    refine t_cld (pc := 19) p cell_letters (by decide) rfl hp60 (by decide) dX0_readLetter_19 ?_
    refine x_iload_n (pc := 20) dX0_readLetter_20 rfl ?_
    refine x_cmpeq (pc := 21) 26 dX0_readLetter_21 (by decide) (fun c21 => ?_) (fun c21 => ?_)
    · refine x_aload_n (pc := 26) dX0_readLetter_26 rfl ?_
      refine x_dup (pc := 27) dX0_readLetter_27 rfl ?_
      refine x_get (pc := 28) (ci := 0) (k := 6) (C := RX0) (T := TX0) (N := 7) cell_plan rfl (by decide) rfl nX0 (by decide) mF_X0_32 rfl dX0_readLetter_28 ?_
      try dsimp only
      rw [hp]
      refine x_iconst (pc := 31) (1) dX0_readLetter_31 (by decide) ?_
      refine x_iadd (pc := 32) dX0_readLetter_32 ?_
      refine t_putPlan (pc := 33) 2 (by decide) mF_X0_32 dX0_readLetter_33 ?_
      try dsimp only
      refine x_iconst (pc := 36) (1) dX0_readLetter_36 (by decide) ?_
      have t : rlB L n p c = true := by simp only [rlB, decide_eq_true hpn2, decide_eq_true c21, Bool.and_self]
      rw [t, ← nI_1 p]
      exact x_zret rfl rfl dX0_readLetter_37 ⟨rfl, rfl, rfl⟩
    · refine x_iconst (pc := 24) (0) dX0_readLetter_24 (by decide) ?_
      have t : rlB L n p c = false := by
        first
        | simp only [rlB, decide_eq_false hpn2, Bool.false_and]
        | simp only [rlB, decide_eq_false c21, Bool.and_false]
      rw [t]
      exact x_zret rfl rfl dX0_readLetter_25 ⟨rfl, rfl, rfl⟩
theorem updu (f : Fs) (k : Nat) (a b : Int32) : upd (upd f k a) k b = upd f k b := by
  funext q
  by_cases h : q = k <;> simp [upd, h]
set_option maxHeartbeats 4000000 in
set_option maxRecDepth 100000 in
theorem c_X0_readFirst (hn : PI 0 = nI n) (h60 : n ≤ 60) (hp : PI 2 = nI p) (hpn : p ≤ 60) (hs : PI 1 = nI s) (hs30 : s < 30) (lo g : Int32) : Ct G yX0_readNumber YX0_readNumber 0 0 [.ref (gB G + 242), .ref (gB G + 245), .int lo, .int g] 255 (cellOf G S (B.1, B.2.1, PI, L, K, F, Q) M) (Rt G (some (.int (b01 (rN L n p lo g).isSome))) S (match rN L n p lo g with | none => (B.1, B.2.1, PI, L, K, F, Q) | some q => (B.1, B.2.1, (upd PI 2 (nI q.1)), L, K, (upd F s (q.2)), Q)) M) := by
  refine ct_of (by decide +kernel) rfl rfl (Nat.le_of_ble_eq_true rfl) (by simp [Value.category]) ?_
  refine x_sub (l' := [(0, .ref (gB G + 242)), (1, .ref (gB G + 245)), (2, .int lo), (3, .int g)]) ⟨rfl, rfl, rfl, rfl, trivial⟩ ?_
  have lp : ∀ f p2 v, p2 + f = n → XJ G YX0_readNumber (fun _ => True) (Zx G (Rt G (some (.int 1)) S (B.1, B.2.1, (upd PI 2 (nI (rnL L n g f p2 v).1)), L, K, (upd F s ((rnL L n g f p2 v).2)), Q) M) 0 0) 36 [(0, .ref (gB G + 242)), (1, .ref (gB G + 245)), (3, .int g), (4, .int v)] [] 255 (cellOf G S (B.1, B.2.1, upd PI 2 (nI p2), L, K, F, Q) M) 0 0 := by
    intro f
    induction f with
    | zero =>
      intro p2 v hf
      have h2n : (upd PI 2 (nI p2)) 0 = nI n := (upd_ne _ _ (by decide)).trans hn
      have h2s : (upd PI 2 (nI p2)) 1 = nI s := (upd_ne _ _ (by decide)).trans hs
      show XJ _ _ _ (Zx G (Rt G (some (.int 1)) S (B.1, B.2.1, (upd PI 2 (nI p2)), L, K, (upd F s (v)), Q) M) 0 0) _ _ _ _ _ _ _
      refine x_aload_n (pc := 36) dX0_readNumber_36 rfl ?_
      refine x_get (pc := 37) (ci := 0) (k := 6) (C := RX0) (T := TX0) (N := 7) cell_plan rfl (by decide) rfl nX0 (by decide) mF_X0_32 rfl dX0_readNumber_37 ?_
      try dsimp only
      rw [upd_same]
      refine x_aload_n (pc := 40) dX0_readNumber_40 rfl ?_
      refine x_get (pc := 41) (ci := 0) (k := 4) (C := RX0) (T := TX0) (N := 7) cell_plan rfl (by decide) rfl nX0 (by decide) mF_X0_25 rfl dX0_readNumber_41 ?_
      try dsimp only
      rw [h2n]
      refine x_cmpge (pc := 44) 110 dX0_readNumber_44 (by decide) (fun c44 => ?_) (fun c44 => absurd ((nI_ltI (by omega) (by omega)).mp c44) (by omega))
      refine x_aload_n (pc := 110) dX0_readNumber_110 rfl ?_
      refine x_aload_n (pc := 111) dX0_readNumber_111 rfl ?_
      refine x_get (pc := 112) (ci := 0) (k := 5) (C := RX0) (T := TX0) (N := 7) cell_plan rfl (by decide) rfl nX0 (by decide) mF_X0_29 rfl dX0_readNumber_112 ?_
      try dsimp only
      rw [h2s]
      refine x_iload (pc := 115) dX0_readNumber_115 rfl ?_
      refine t_stFirsts (pc := 117) s hs30 rfl dX0_readNumber_117 ?_
      try dsimp only
      refine x_iconst (pc := 118) (1) dX0_readNumber_118 (by decide) ?_
      exact x_zret rfl rfl dX0_readNumber_119 ⟨by rfl, rfl, rfl⟩
    | succ f ih =>
      intro p2 v hf
      have h2n : (upd PI 2 (nI p2)) 0 = nI n := (upd_ne _ _ (by decide)).trans hn
      have h2s : (upd PI 2 (nI p2)) 1 = nI s := (upd_ne _ _ (by decide)).trans hs
      have hlt : p2 < n := by omega
      refine x_aload_n (pc := 36) dX0_readNumber_36 rfl ?_
      refine x_get (pc := 37) (ci := 0) (k := 6) (C := RX0) (T := TX0) (N := 7) cell_plan rfl (by decide) rfl nX0 (by decide) mF_X0_32 rfl dX0_readNumber_37 ?_
      try dsimp only
      rw [upd_same]
      refine x_aload_n (pc := 40) dX0_readNumber_40 rfl ?_
      refine x_get (pc := 41) (ci := 0) (k := 4) (C := RX0) (T := TX0) (N := 7) cell_plan rfl (by decide) rfl nX0 (by decide) mF_X0_25 rfl dX0_readNumber_41 ?_
      try dsimp only
      rw [h2n]
      refine x_cmpge (pc := 44) 110 dX0_readNumber_44 (by decide) (fun c44 => absurd ((nI_ltI (by omega) (by omega)).mpr hlt) c44) (fun c44 => ?_)
      refine x_iload (pc := 47) dX0_readNumber_47 rfl ?_
      refine x_ifle (pc := 49) 110 dX0_readNumber_49 (by decide) (fun c49 => ?_) (fun c49 => ?_)
      · have e : rnL L n g (f + 1) p2 v = (p2, v) := by
          simp only [rnL]
          first
          | (have t := id (α := ¬ 0 < v) c49; exact if_neg (fun z => t z.2.1))
          | (have t := id (α := dgV L n p2 < 0) c60; exact if_neg (fun z => z.2.2.1 t))
          | (have t := c78; exact if_neg (fun z => z.2.2.2 t))
        rw [e]
        refine x_aload_n (pc := 110) dX0_readNumber_110 rfl ?_
        refine x_aload_n (pc := 111) dX0_readNumber_111 rfl ?_
        refine x_get (pc := 112) (ci := 0) (k := 5) (C := RX0) (T := TX0) (N := 7) cell_plan rfl (by decide) rfl nX0 (by decide) mF_X0_29 rfl dX0_readNumber_112 ?_
        try dsimp only
        rw [h2s]
        refine x_iload (pc := 115) dX0_readNumber_115 rfl ?_
        refine t_stFirsts (pc := 117) s hs30 rfl dX0_readNumber_117 ?_
        try dsimp only
        refine x_iconst (pc := 118) (1) dX0_readNumber_118 (by decide) ?_
        exact x_zret rfl rfl dX0_readNumber_119 ⟨by rfl, rfl, rfl⟩
      · refine x_aload_n (pc := 52) dX0_readNumber_52 rfl ?_
        refine x_aload_n (pc := 53) dX0_readNumber_53 rfl ?_
        refine x_get (pc := 54) (ci := 0) (k := 6) (C := RX0) (T := TX0) (N := 7) cell_plan rfl (by decide) rfl nX0 (by decide) mF_X0_32 rfl dX0_readNumber_54 ?_
        try dsimp only
        rw [upd_same]
        refine t_Vi (pc := 57) (c_X0_digitAt h2n h60 _ (by omega)) qV_X0_digitAt mL_X0_49 dX0_readNumber_57 rfl cell_plan (by decide) rfl rfl rfl ⟨by decide, by decide⟩ (Nat.le_of_ble_eq_true rfl) (Nat.le_of_ble_eq_true rfl) (Nat.le_of_ble_eq_true rfl) ?_
        refine x_iflt (pc := 60) 110 dX0_readNumber_60 (by decide) (fun c60 => ?_) (fun c60 => ?_)
        · have e : rnL L n g (f + 1) p2 v = (p2, v) := by
            simp only [rnL]
            first
            | (have t := id (α := ¬ 0 < v) c49; exact if_neg (fun z => t z.2.1))
            | (have t := id (α := dgV L n p2 < 0) c60; exact if_neg (fun z => z.2.2.1 t))
            | (have t := c78; exact if_neg (fun z => z.2.2.2 t))
          rw [e]
          refine x_aload_n (pc := 110) dX0_readNumber_110 rfl ?_
          refine x_aload_n (pc := 111) dX0_readNumber_111 rfl ?_
          refine x_get (pc := 112) (ci := 0) (k := 5) (C := RX0) (T := TX0) (N := 7) cell_plan rfl (by decide) rfl nX0 (by decide) mF_X0_29 rfl dX0_readNumber_112 ?_
          try dsimp only
          rw [h2s]
          refine x_iload (pc := 115) dX0_readNumber_115 rfl ?_
          refine t_stFirsts (pc := 117) s hs30 rfl dX0_readNumber_117 ?_
          try dsimp only
          refine x_iconst (pc := 118) (1) dX0_readNumber_118 (by decide) ?_
          exact x_zret rfl rfl dX0_readNumber_119 ⟨by rfl, rfl, rfl⟩
        · refine x_bipush (pc := 63) (10) dX0_readNumber_63 (by decide) ?_
          refine x_iload (pc := 65) dX0_readNumber_65 rfl ?_
          refine x_imul (pc := 67) dX0_readNumber_67 ?_
          refine x_aload_n (pc := 68) dX0_readNumber_68 rfl ?_
          refine x_aload_n (pc := 69) dX0_readNumber_69 rfl ?_
          refine x_get (pc := 70) (ci := 0) (k := 6) (C := RX0) (T := TX0) (N := 7) cell_plan rfl (by decide) rfl nX0 (by decide) mF_X0_32 rfl dX0_readNumber_70 ?_
          try dsimp only
          rw [upd_same]
          refine t_Vi (pc := 73) (c_X0_digitAt h2n h60 _ (by omega)) qV_X0_digitAt mL_X0_49 dX0_readNumber_73 rfl cell_plan (by decide) rfl rfl rfl ⟨by decide, by decide⟩ (Nat.le_of_ble_eq_true rfl) (Nat.le_of_ble_eq_true rfl) (Nat.le_of_ble_eq_true rfl) ?_
          refine x_iadd (pc := 76) dX0_readNumber_76 ?_
          refine x_iload_n (pc := 77) dX0_readNumber_77 rfl ?_
          refine x_cmpgt (pc := 78) 110 dX0_readNumber_78 (by decide) (fun c78 => ?_) (fun c78 => ?_)
          · have e : rnL L n g (f + 1) p2 v = (p2, v) := by
              simp only [rnL]
              first
              | (have t := id (α := ¬ 0 < v) c49; exact if_neg (fun z => t z.2.1))
              | (have t := id (α := dgV L n p2 < 0) c60; exact if_neg (fun z => z.2.2.1 t))
              | (have t := c78; exact if_neg (fun z => z.2.2.2 t))
            rw [e]
            refine x_aload_n (pc := 110) dX0_readNumber_110 rfl ?_
            refine x_aload_n (pc := 111) dX0_readNumber_111 rfl ?_
            refine x_get (pc := 112) (ci := 0) (k := 5) (C := RX0) (T := TX0) (N := 7) cell_plan rfl (by decide) rfl nX0 (by decide) mF_X0_29 rfl dX0_readNumber_112 ?_
            try dsimp only
            rw [h2s]
            refine x_iload (pc := 115) dX0_readNumber_115 rfl ?_
            refine t_stFirsts (pc := 117) s hs30 rfl dX0_readNumber_117 ?_
            try dsimp only
            refine x_iconst (pc := 118) (1) dX0_readNumber_118 (by decide) ?_
            exact x_zret rfl rfl dX0_readNumber_119 ⟨by rfl, rfl, rfl⟩
          · refine x_bipush (pc := 81) (10) dX0_readNumber_81 (by decide) ?_
            refine x_iload (pc := 83) dX0_readNumber_83 rfl ?_
            refine x_imul (pc := 85) dX0_readNumber_85 ?_
            refine x_aload_n (pc := 86) dX0_readNumber_86 rfl ?_
            refine x_aload_n (pc := 87) dX0_readNumber_87 rfl ?_
            refine x_get (pc := 88) (ci := 0) (k := 6) (C := RX0) (T := TX0) (N := 7) cell_plan rfl (by decide) rfl nX0 (by decide) mF_X0_32 rfl dX0_readNumber_88 ?_
            try dsimp only
            rw [upd_same]
            refine t_Vi (pc := 91) (c_X0_digitAt h2n h60 _ (by omega)) qV_X0_digitAt mL_X0_49 dX0_readNumber_91 rfl cell_plan (by decide) rfl rfl rfl ⟨by decide, by decide⟩ (Nat.le_of_ble_eq_true rfl) (Nat.le_of_ble_eq_true rfl) (Nat.le_of_ble_eq_true rfl) ?_
            refine x_iadd (pc := 94) dX0_readNumber_94 ?_
            refine x_istore (pc := 95) dX0_readNumber_95 (by decide) ?_
            refine x_aload_n (pc := 97) dX0_readNumber_97 rfl ?_
            refine x_dup (pc := 98) dX0_readNumber_98 rfl ?_
            refine x_get (pc := 99) (ci := 0) (k := 6) (C := RX0) (T := TX0) (N := 7) cell_plan rfl (by decide) rfl nX0 (by decide) mF_X0_32 rfl dX0_readNumber_99 ?_
            try dsimp only
            rw [upd_same]
            refine x_iconst (pc := 102) (1) dX0_readNumber_102 (by decide) ?_
            refine x_iadd (pc := 103) dX0_readNumber_103 ?_
            refine t_putPlan (pc := 104) 2 (by decide) mF_X0_32 dX0_readNumber_104 ?_
            try dsimp only
            simp only [updu]
            refine x_goto (pc := 107) 36 dX0_readNumber_107 (by decide) ?_
            have e : rnL L n g (f + 1) p2 v = rnL L n g f (p2 + 1) (10 * v + dgV L n p2) := by simp only [rnL, hlt, c49, c60, c78, not_false_eq_true, and_self, if_true]
            have e2 := ih (p2 + 1) (10 * v + dgV L n p2) (by omega)
            rw [← e, ← nI_1 p2] at e2
            exact x_back e2 ⟨rfl, rfl, rfl, rfl, trivial⟩
  refine x_aload_n (pc := 0) dX0_readNumber_0 rfl ?_
  refine x_aload_n (pc := 1) dX0_readNumber_1 rfl ?_
  refine x_get (pc := 2) (ci := 0) (k := 6) (C := RX0) (T := TX0) (N := 7) cell_plan rfl (by decide) rfl nX0 (by decide) mF_X0_32 rfl dX0_readNumber_2 ?_
  try dsimp only
  rw [hp]
  refine t_Vi (pc := 5) (c_X0_digitAt hn h60 p (by omega)) qV_X0_digitAt mL_X0_49 dX0_readNumber_5 rfl cell_plan (by decide) rfl rfl rfl ⟨by decide, by decide⟩ (Nat.le_of_ble_eq_true rfl) (Nat.le_of_ble_eq_true rfl) (Nat.le_of_ble_eq_true rfl) ?_
  refine x_istore (pc := 8) dX0_readNumber_8 (by decide) ?_
  refine x_iload (pc := 10) dX0_readNumber_10 rfl ?_
  refine x_iload_n (pc := 12) dX0_readNumber_12 rfl ?_
  refine x_iconst (pc := 13) (0) dX0_readNumber_13 (by decide) ?_
  refine x_max (pc := 14) mL_X0_53 (by decide) (Nat.le_of_ble_eq_true rfl) (Nat.le_of_ble_eq_true rfl) (Nat.le_of_ble_eq_true rfl) dX0_readNumber_14 ?_
  refine x_iload_n (pc := 17) dX0_readNumber_17 rfl ?_
  refine t_Ni (pc := 18) (c_X3_isIn _ _ _) qS_X3_isIn (fun s h => h.2.2.2.2) dX0_readNumber_18 rfl rfl rfl ⟨by decide, by decide⟩ (Nat.le_of_ble_eq_true rfl) (Nat.le_of_ble_eq_true rfl) (Nat.le_of_ble_eq_true rfl) ?_
  refine x_ifne (pc := 21) 26 dX0_readNumber_21 (by decide) (fun c21 => ?_) (fun c21 => ?_)
  · refine x_aload_n (pc := 26) dX0_readNumber_26 rfl ?_
    refine x_dup (pc := 27) dX0_readNumber_27 rfl ?_
    refine x_get (pc := 28) (ci := 0) (k := 6) (C := RX0) (T := TX0) (N := 7) cell_plan rfl (by decide) rfl nX0 (by decide) mF_X0_32 rfl dX0_readNumber_28 ?_
    try dsimp only
    rw [hp]
    refine x_iconst (pc := 31) (1) dX0_readNumber_31 (by decide) ?_
    refine x_iadd (pc := 32) dX0_readNumber_32 ?_
    refine t_putPlan (pc := 33) 2 (by decide) mF_X0_32 dX0_readNumber_33 ?_
    try dsimp only
    have t := b01_ne c21
    have hlt : p < n := betw0_lt (lo := lo) t
    have e : rN L n p lo g = some (rnX L n g (p + 1) (dgV L n p)) := by simp only [rN]; exact if_pos t
    rw [e]
    have e2 := lp (n - (p + 1)) (p + 1) (dgV L n p) (by omega)
    rw [← nI_1 p] at e2
    exact x_back e2 ⟨rfl, rfl, rfl, rfl, trivial⟩
  · refine x_iconst (pc := 24) (0) dX0_readNumber_24 (by decide) ?_
    have t := b01_eq c21
    have e : rN L n p lo g = none := by simp only [rN]; exact if_neg (by rw [show betw (dgV L n p) (imx lo 0) g = false from t]; decide)
    rw [e]
    exact x_zret rfl rfl dX0_readNumber_25 ⟨rfl, rfl, rfl⟩
set_option maxHeartbeats 4000000 in
set_option maxRecDepth 100000 in
theorem c_X0_readSecond (hn : PI 0 = nI n) (h60 : n ≤ 60) (hp : PI 2 = nI p) (hpn : p ≤ 60) (hs : PI 1 = nI s) (hs30 : s < 30) (lo g : Int32) : Ct G yX0_readNumber YX0_readNumber 0 0 [.ref (gB G + 242), .ref (gB G + 246), .int lo, .int g] 255 (cellOf G S (B.1, B.2.1, PI, L, K, F, Q) M) (Rt G (some (.int (b01 (rN L n p lo g).isSome))) S (match rN L n p lo g with | none => (B.1, B.2.1, PI, L, K, F, Q) | some q => (B.1, B.2.1, (upd PI 2 (nI q.1)), L, K, F, (upd Q s (q.2)))) M) := by
  refine ct_of (by decide +kernel) rfl rfl (Nat.le_of_ble_eq_true rfl) (by simp [Value.category]) ?_
  refine x_sub (l' := [(0, .ref (gB G + 242)), (1, .ref (gB G + 246)), (2, .int lo), (3, .int g)]) ⟨rfl, rfl, rfl, rfl, trivial⟩ ?_
  have lp : ∀ f p2 v, p2 + f = n → XJ G YX0_readNumber (fun _ => True) (Zx G (Rt G (some (.int 1)) S (B.1, B.2.1, (upd PI 2 (nI (rnL L n g f p2 v).1)), L, K, F, (upd Q s ((rnL L n g f p2 v).2))) M) 0 0) 36 [(0, .ref (gB G + 242)), (1, .ref (gB G + 246)), (3, .int g), (4, .int v)] [] 255 (cellOf G S (B.1, B.2.1, upd PI 2 (nI p2), L, K, F, Q) M) 0 0 := by
    intro f
    induction f with
    | zero =>
      intro p2 v hf
      have h2n : (upd PI 2 (nI p2)) 0 = nI n := (upd_ne _ _ (by decide)).trans hn
      have h2s : (upd PI 2 (nI p2)) 1 = nI s := (upd_ne _ _ (by decide)).trans hs
      show XJ _ _ _ (Zx G (Rt G (some (.int 1)) S (B.1, B.2.1, (upd PI 2 (nI p2)), L, K, F, (upd Q s (v))) M) 0 0) _ _ _ _ _ _ _
      refine x_aload_n (pc := 36) dX0_readNumber_36 rfl ?_
      refine x_get (pc := 37) (ci := 0) (k := 6) (C := RX0) (T := TX0) (N := 7) cell_plan rfl (by decide) rfl nX0 (by decide) mF_X0_32 rfl dX0_readNumber_37 ?_
      try dsimp only
      rw [upd_same]
      refine x_aload_n (pc := 40) dX0_readNumber_40 rfl ?_
      refine x_get (pc := 41) (ci := 0) (k := 4) (C := RX0) (T := TX0) (N := 7) cell_plan rfl (by decide) rfl nX0 (by decide) mF_X0_25 rfl dX0_readNumber_41 ?_
      try dsimp only
      rw [h2n]
      refine x_cmpge (pc := 44) 110 dX0_readNumber_44 (by decide) (fun c44 => ?_) (fun c44 => absurd ((nI_ltI (by omega) (by omega)).mp c44) (by omega))
      refine x_aload_n (pc := 110) dX0_readNumber_110 rfl ?_
      refine x_aload_n (pc := 111) dX0_readNumber_111 rfl ?_
      refine x_get (pc := 112) (ci := 0) (k := 5) (C := RX0) (T := TX0) (N := 7) cell_plan rfl (by decide) rfl nX0 (by decide) mF_X0_29 rfl dX0_readNumber_112 ?_
      try dsimp only
      rw [h2s]
      refine x_iload (pc := 115) dX0_readNumber_115 rfl ?_
      refine t_stSeconds (pc := 117) s hs30 rfl dX0_readNumber_117 ?_
      try dsimp only
      refine x_iconst (pc := 118) (1) dX0_readNumber_118 (by decide) ?_
      exact x_zret rfl rfl dX0_readNumber_119 ⟨by rfl, rfl, rfl⟩
    | succ f ih =>
      intro p2 v hf
      have h2n : (upd PI 2 (nI p2)) 0 = nI n := (upd_ne _ _ (by decide)).trans hn
      have h2s : (upd PI 2 (nI p2)) 1 = nI s := (upd_ne _ _ (by decide)).trans hs
      have hlt : p2 < n := by omega
      refine x_aload_n (pc := 36) dX0_readNumber_36 rfl ?_
      refine x_get (pc := 37) (ci := 0) (k := 6) (C := RX0) (T := TX0) (N := 7) cell_plan rfl (by decide) rfl nX0 (by decide) mF_X0_32 rfl dX0_readNumber_37 ?_
      try dsimp only
      rw [upd_same]
      refine x_aload_n (pc := 40) dX0_readNumber_40 rfl ?_
      refine x_get (pc := 41) (ci := 0) (k := 4) (C := RX0) (T := TX0) (N := 7) cell_plan rfl (by decide) rfl nX0 (by decide) mF_X0_25 rfl dX0_readNumber_41 ?_
      try dsimp only
      rw [h2n]
      refine x_cmpge (pc := 44) 110 dX0_readNumber_44 (by decide) (fun c44 => absurd ((nI_ltI (by omega) (by omega)).mpr hlt) c44) (fun c44 => ?_)
      refine x_iload (pc := 47) dX0_readNumber_47 rfl ?_
      refine x_ifle (pc := 49) 110 dX0_readNumber_49 (by decide) (fun c49 => ?_) (fun c49 => ?_)
      · have e : rnL L n g (f + 1) p2 v = (p2, v) := by
          simp only [rnL]
          first
          | (have t := id (α := ¬ 0 < v) c49; exact if_neg (fun z => t z.2.1))
          | (have t := id (α := dgV L n p2 < 0) c60; exact if_neg (fun z => z.2.2.1 t))
          | (have t := c78; exact if_neg (fun z => z.2.2.2 t))
        rw [e]
        refine x_aload_n (pc := 110) dX0_readNumber_110 rfl ?_
        refine x_aload_n (pc := 111) dX0_readNumber_111 rfl ?_
        refine x_get (pc := 112) (ci := 0) (k := 5) (C := RX0) (T := TX0) (N := 7) cell_plan rfl (by decide) rfl nX0 (by decide) mF_X0_29 rfl dX0_readNumber_112 ?_
        try dsimp only
        rw [h2s]
        refine x_iload (pc := 115) dX0_readNumber_115 rfl ?_
        refine t_stSeconds (pc := 117) s hs30 rfl dX0_readNumber_117 ?_
        try dsimp only
        refine x_iconst (pc := 118) (1) dX0_readNumber_118 (by decide) ?_
        exact x_zret rfl rfl dX0_readNumber_119 ⟨by rfl, rfl, rfl⟩
      · refine x_aload_n (pc := 52) dX0_readNumber_52 rfl ?_
        refine x_aload_n (pc := 53) dX0_readNumber_53 rfl ?_
        refine x_get (pc := 54) (ci := 0) (k := 6) (C := RX0) (T := TX0) (N := 7) cell_plan rfl (by decide) rfl nX0 (by decide) mF_X0_32 rfl dX0_readNumber_54 ?_
        try dsimp only
        rw [upd_same]
        refine t_Vi (pc := 57) (c_X0_digitAt h2n h60 _ (by omega)) qV_X0_digitAt mL_X0_49 dX0_readNumber_57 rfl cell_plan (by decide) rfl rfl rfl ⟨by decide, by decide⟩ (Nat.le_of_ble_eq_true rfl) (Nat.le_of_ble_eq_true rfl) (Nat.le_of_ble_eq_true rfl) ?_
        refine x_iflt (pc := 60) 110 dX0_readNumber_60 (by decide) (fun c60 => ?_) (fun c60 => ?_)
        · have e : rnL L n g (f + 1) p2 v = (p2, v) := by
            simp only [rnL]
            first
            | (have t := id (α := ¬ 0 < v) c49; exact if_neg (fun z => t z.2.1))
            | (have t := id (α := dgV L n p2 < 0) c60; exact if_neg (fun z => z.2.2.1 t))
            | (have t := c78; exact if_neg (fun z => z.2.2.2 t))
          rw [e]
          refine x_aload_n (pc := 110) dX0_readNumber_110 rfl ?_
          refine x_aload_n (pc := 111) dX0_readNumber_111 rfl ?_
          refine x_get (pc := 112) (ci := 0) (k := 5) (C := RX0) (T := TX0) (N := 7) cell_plan rfl (by decide) rfl nX0 (by decide) mF_X0_29 rfl dX0_readNumber_112 ?_
          try dsimp only
          rw [h2s]
          refine x_iload (pc := 115) dX0_readNumber_115 rfl ?_
          refine t_stSeconds (pc := 117) s hs30 rfl dX0_readNumber_117 ?_
          try dsimp only
          refine x_iconst (pc := 118) (1) dX0_readNumber_118 (by decide) ?_
          exact x_zret rfl rfl dX0_readNumber_119 ⟨by rfl, rfl, rfl⟩
        · refine x_bipush (pc := 63) (10) dX0_readNumber_63 (by decide) ?_
          refine x_iload (pc := 65) dX0_readNumber_65 rfl ?_
          refine x_imul (pc := 67) dX0_readNumber_67 ?_
          refine x_aload_n (pc := 68) dX0_readNumber_68 rfl ?_
          refine x_aload_n (pc := 69) dX0_readNumber_69 rfl ?_
          refine x_get (pc := 70) (ci := 0) (k := 6) (C := RX0) (T := TX0) (N := 7) cell_plan rfl (by decide) rfl nX0 (by decide) mF_X0_32 rfl dX0_readNumber_70 ?_
          try dsimp only
          rw [upd_same]
          refine t_Vi (pc := 73) (c_X0_digitAt h2n h60 _ (by omega)) qV_X0_digitAt mL_X0_49 dX0_readNumber_73 rfl cell_plan (by decide) rfl rfl rfl ⟨by decide, by decide⟩ (Nat.le_of_ble_eq_true rfl) (Nat.le_of_ble_eq_true rfl) (Nat.le_of_ble_eq_true rfl) ?_
          refine x_iadd (pc := 76) dX0_readNumber_76 ?_
          refine x_iload_n (pc := 77) dX0_readNumber_77 rfl ?_
          refine x_cmpgt (pc := 78) 110 dX0_readNumber_78 (by decide) (fun c78 => ?_) (fun c78 => ?_)
          · have e : rnL L n g (f + 1) p2 v = (p2, v) := by
              simp only [rnL]
              first
              | (have t := id (α := ¬ 0 < v) c49; exact if_neg (fun z => t z.2.1))
              | (have t := id (α := dgV L n p2 < 0) c60; exact if_neg (fun z => z.2.2.1 t))
              | (have t := c78; exact if_neg (fun z => z.2.2.2 t))
            rw [e]
            refine x_aload_n (pc := 110) dX0_readNumber_110 rfl ?_
            refine x_aload_n (pc := 111) dX0_readNumber_111 rfl ?_
            refine x_get (pc := 112) (ci := 0) (k := 5) (C := RX0) (T := TX0) (N := 7) cell_plan rfl (by decide) rfl nX0 (by decide) mF_X0_29 rfl dX0_readNumber_112 ?_
            try dsimp only
            rw [h2s]
            refine x_iload (pc := 115) dX0_readNumber_115 rfl ?_
            refine t_stSeconds (pc := 117) s hs30 rfl dX0_readNumber_117 ?_
            try dsimp only
            refine x_iconst (pc := 118) (1) dX0_readNumber_118 (by decide) ?_
            exact x_zret rfl rfl dX0_readNumber_119 ⟨by rfl, rfl, rfl⟩
          · refine x_bipush (pc := 81) (10) dX0_readNumber_81 (by decide) ?_
            refine x_iload (pc := 83) dX0_readNumber_83 rfl ?_
            refine x_imul (pc := 85) dX0_readNumber_85 ?_
            refine x_aload_n (pc := 86) dX0_readNumber_86 rfl ?_
            refine x_aload_n (pc := 87) dX0_readNumber_87 rfl ?_
            refine x_get (pc := 88) (ci := 0) (k := 6) (C := RX0) (T := TX0) (N := 7) cell_plan rfl (by decide) rfl nX0 (by decide) mF_X0_32 rfl dX0_readNumber_88 ?_
            try dsimp only
            rw [upd_same]
            refine t_Vi (pc := 91) (c_X0_digitAt h2n h60 _ (by omega)) qV_X0_digitAt mL_X0_49 dX0_readNumber_91 rfl cell_plan (by decide) rfl rfl rfl ⟨by decide, by decide⟩ (Nat.le_of_ble_eq_true rfl) (Nat.le_of_ble_eq_true rfl) (Nat.le_of_ble_eq_true rfl) ?_
            refine x_iadd (pc := 94) dX0_readNumber_94 ?_
            refine x_istore (pc := 95) dX0_readNumber_95 (by decide) ?_
            refine x_aload_n (pc := 97) dX0_readNumber_97 rfl ?_
            refine x_dup (pc := 98) dX0_readNumber_98 rfl ?_
            refine x_get (pc := 99) (ci := 0) (k := 6) (C := RX0) (T := TX0) (N := 7) cell_plan rfl (by decide) rfl nX0 (by decide) mF_X0_32 rfl dX0_readNumber_99 ?_
            try dsimp only
            rw [upd_same]
            refine x_iconst (pc := 102) (1) dX0_readNumber_102 (by decide) ?_
            refine x_iadd (pc := 103) dX0_readNumber_103 ?_
            refine t_putPlan (pc := 104) 2 (by decide) mF_X0_32 dX0_readNumber_104 ?_
            try dsimp only
            simp only [updu]
            refine x_goto (pc := 107) 36 dX0_readNumber_107 (by decide) ?_
            have e : rnL L n g (f + 1) p2 v = rnL L n g f (p2 + 1) (10 * v + dgV L n p2) := by simp only [rnL, hlt, c49, c60, c78, not_false_eq_true, and_self, if_true]
            have e2 := ih (p2 + 1) (10 * v + dgV L n p2) (by omega)
            rw [← e, ← nI_1 p2] at e2
            exact x_back e2 ⟨rfl, rfl, rfl, rfl, trivial⟩
  refine x_aload_n (pc := 0) dX0_readNumber_0 rfl ?_
  refine x_aload_n (pc := 1) dX0_readNumber_1 rfl ?_
  refine x_get (pc := 2) (ci := 0) (k := 6) (C := RX0) (T := TX0) (N := 7) cell_plan rfl (by decide) rfl nX0 (by decide) mF_X0_32 rfl dX0_readNumber_2 ?_
  try dsimp only
  rw [hp]
  refine t_Vi (pc := 5) (c_X0_digitAt hn h60 p (by omega)) qV_X0_digitAt mL_X0_49 dX0_readNumber_5 rfl cell_plan (by decide) rfl rfl rfl ⟨by decide, by decide⟩ (Nat.le_of_ble_eq_true rfl) (Nat.le_of_ble_eq_true rfl) (Nat.le_of_ble_eq_true rfl) ?_
  refine x_istore (pc := 8) dX0_readNumber_8 (by decide) ?_
  refine x_iload (pc := 10) dX0_readNumber_10 rfl ?_
  refine x_iload_n (pc := 12) dX0_readNumber_12 rfl ?_
  refine x_iconst (pc := 13) (0) dX0_readNumber_13 (by decide) ?_
  refine x_max (pc := 14) mL_X0_53 (by decide) (Nat.le_of_ble_eq_true rfl) (Nat.le_of_ble_eq_true rfl) (Nat.le_of_ble_eq_true rfl) dX0_readNumber_14 ?_
  refine x_iload_n (pc := 17) dX0_readNumber_17 rfl ?_
  refine t_Ni (pc := 18) (c_X3_isIn _ _ _) qS_X3_isIn (fun s h => h.2.2.2.2) dX0_readNumber_18 rfl rfl rfl ⟨by decide, by decide⟩ (Nat.le_of_ble_eq_true rfl) (Nat.le_of_ble_eq_true rfl) (Nat.le_of_ble_eq_true rfl) ?_
  refine x_ifne (pc := 21) 26 dX0_readNumber_21 (by decide) (fun c21 => ?_) (fun c21 => ?_)
  · refine x_aload_n (pc := 26) dX0_readNumber_26 rfl ?_
    refine x_dup (pc := 27) dX0_readNumber_27 rfl ?_
    refine x_get (pc := 28) (ci := 0) (k := 6) (C := RX0) (T := TX0) (N := 7) cell_plan rfl (by decide) rfl nX0 (by decide) mF_X0_32 rfl dX0_readNumber_28 ?_
    try dsimp only
    rw [hp]
    refine x_iconst (pc := 31) (1) dX0_readNumber_31 (by decide) ?_
    refine x_iadd (pc := 32) dX0_readNumber_32 ?_
    refine t_putPlan (pc := 33) 2 (by decide) mF_X0_32 dX0_readNumber_33 ?_
    try dsimp only
    have t := b01_ne c21
    have hlt : p < n := betw0_lt (lo := lo) t
    have e : rN L n p lo g = some (rnX L n g (p + 1) (dgV L n p)) := by simp only [rN]; exact if_pos t
    rw [e]
    have e2 := lp (n - (p + 1)) (p + 1) (dgV L n p) (by omega)
    rw [← nI_1 p] at e2
    exact x_back e2 ⟨rfl, rfl, rfl, rfl, trivial⟩
  · refine x_iconst (pc := 24) (0) dX0_readNumber_24 (by decide) ?_
    have t := b01_eq c21
    have e : rN L n p lo g = none := by simp only [rN]; exact if_neg (by rw [show betw (dgV L n p) (imx lo 0) g = false from t]; decide)
    rw [e]
    exact x_zret rfl rfl dX0_readNumber_25 ⟨rfl, rfl, rfl⟩
set_option maxHeartbeats 4000000 in
set_option maxRecDepth 100000 in
theorem c_X0_addLetter (hn : PI 0 = nI n) (h60 : n ≤ 60) (c : Int32) (hc : narrow .char (.int c) = .int c) : Ct G yX0_addLetter YX0_addLetter 0 0 [.ref (gB G + 242), .int c] 255 (cellOf G S (B.1, B.2.1, PI, L, K, F, Q) M) (Rt G (some (.int (if n < 60 then nI (n + 1) else -3))) S (B.1, B.2.1, (if n < 60 then upd PI 0 (nI (n + 1)) else PI), (if n < 60 then upd L n c else L), K, F, Q) M) := by
  refine ct_of (by decide +kernel) rfl rfl (Nat.le_of_ble_eq_true rfl) (by simp [Value.category]) ?_
  refine x_sub (l' := [(0, .ref (gB G + 242)), (1, .int c)]) ⟨rfl, rfl, trivial⟩ ?_
  refine x_aload_n (pc := 0) dX0_addLetter_0 rfl ?_
  refine x_get (pc := 1) (ci := 0) (k := 4) (C := RX0) (T := TX0) (N := 7) cell_plan rfl (by decide) rfl nX0 (by decide) mF_X0_25 rfl dX0_addLetter_1 ?_
  try dsimp only
  rw [hn]
  refine x_bipush (pc := 4) (60) dX0_addLetter_4 (by decide) ?_
  refine x_cmplt (pc := 6) 12 dX0_addLetter_6 (by decide) (fun c6 => ?_) (fun c6 => ?_)
  · have hlt : n < 60 := (lt_lit (n := 60) rfl (by decide) (by omega)).mp c6
    refine x_aload_n (pc := 12) dX0_addLetter_12 rfl ?_
    refine x_get (pc := 13) (ci := 0) (k := 0) (C := RX0) (T := TX0) (N := 7) cell_plan rfl (by decide) rfl nX0 (by decide) mF_X0_11 rfl dX0_addLetter_13 ?_
    refine x_aload_n (pc := 16) dX0_addLetter_16 rfl ?_
    refine x_get (pc := 17) (ci := 0) (k := 4) (C := RX0) (T := TX0) (N := 7) cell_plan rfl (by decide) rfl nX0 (by decide) mF_X0_25 rfl dX0_addLetter_17 ?_
    try dsimp only
    rw [hn]
    refine x_iload_n (pc := 20) dX0_addLetter_20 rfl ?_
    refine t_stLetters (pc := 21) n hlt rfl hc dX0_addLetter_21 ?_
    try dsimp only
    refine x_aload_n (pc := 22) dX0_addLetter_22 rfl ?_
    refine x_dup (pc := 23) dX0_addLetter_23 rfl ?_
    refine x_get (pc := 24) (ci := 0) (k := 4) (C := RX0) (T := TX0) (N := 7) cell_plan rfl (by decide) rfl nX0 (by decide) mF_X0_25 rfl dX0_addLetter_24 ?_
    try dsimp only
    rw [hn]
    refine x_iconst (pc := 27) (1) dX0_addLetter_27 (by decide) ?_
    refine x_iadd (pc := 28) dX0_addLetter_28 ?_
    refine t_putPlan (pc := 29) 0 (by decide) mF_X0_25 dX0_addLetter_29 ?_
    try dsimp only
    refine x_aload_n (pc := 32) dX0_addLetter_32 rfl ?_
    refine x_get (pc := 33) (ci := 0) (k := 4) (C := RX0) (T := TX0) (N := 7) cell_plan rfl (by decide) rfl nX0 (by decide) mF_X0_25 rfl dX0_addLetter_33 ?_
    try dsimp only
    rw [upd_same]
    simp only [if_pos hlt]
    rw [← nI_1 n]
    exact x_iret rfl dX0_addLetter_36 ⟨rfl, rfl, rfl⟩
  · have hlt : ¬ n < 60 := fun z => c6 ((lt_lit (n := 60) rfl (by decide) (by omega)).mpr z)
    refine x_bipush (pc := 9) (-3) dX0_addLetter_9 (by decide) ?_
    simp only [if_neg hlt]
    exact x_iret rfl dX0_addLetter_11 ⟨rfl, rfl, rfl⟩
set_option maxHeartbeats 4000000 in
set_option maxRecDepth 100000 in
theorem c_X0_dropLetters  : Ct G yX0_dropLetters YX0_dropLetters 0 0 [.ref (gB G + 242)] 255 (cellOf G S (B.1, B.2.1, PI, L, K, F, Q) M) (Rt G (some (.int (PI 0))) S (B.1, B.2.1, upd PI 0 0, L, K, F, Q) M) := by
  refine ct_of (by decide +kernel) rfl rfl (Nat.le_of_ble_eq_true rfl) (by simp [Value.category]) ?_
  refine x_sub (l' := [(0, .ref (gB G + 242))]) ⟨rfl, trivial⟩ ?_
  refine x_aload_n (pc := 0) dX0_dropLetters_0 rfl ?_
  refine x_get (pc := 1) (ci := 0) (k := 4) (C := RX0) (T := TX0) (N := 7) cell_plan rfl (by decide) rfl nX0 (by decide) mF_X0_25 rfl dX0_dropLetters_1 ?_
  refine x_istore_n (pc := 4) dX0_dropLetters_4 (by decide) ?_
  refine x_aload_n (pc := 5) dX0_dropLetters_5 rfl ?_
  refine x_iconst (pc := 6) (0) dX0_dropLetters_6 (by decide) ?_
  refine t_putPlan (pc := 7) 0 (by decide) mF_X0_25 dX0_dropLetters_7 ?_
  try dsimp only
  refine x_iload_n (pc := 10) dX0_dropLetters_10 rfl ?_
  exact x_iret rfl dX0_dropLetters_11 ⟨by rfl, rfl, rfl⟩
end PLAN
