/-! the class: Plan, second part (rows laid by wip/whole/p18.py) -/
def thM (k f s : Int32) (t : Th) : Prop := k = t.1 ∧ (t.1 ≠ 3 → f = t.2.1) ∧ (t.1 = 1 → s = t.2.2)
theorem narrow_b01 (b : Bool) : narrow .boolean (.int (b01 b)) = .int (b01 b) := by cases b <;> rfl
theorem upd_self (f : Fs) (k : Nat) {v : Int32} (h : f k = v) : upd f k v = f := by
  funext q
  by_cases e : q = k
  · subst e; rw [upd_same, h]
  · rw [upd_ne _ _ e]
def rTP (K F Q K' F' Q' : Fs) (s : Nat) (r : Bool × Nat × Th) : Prop := (∀ q, q ≠ s → K' q = K q ∧ F' q = F q ∧ Q' q = Q q) ∧ (r.1 = true → thM (K' s) (F' s) (Q' s) r.2.2)
theorem rTP_k {K F Q : Fs} {s : Nat} {k : Int32} {r : Bool × Nat × Th} (h : r.1 = false) : rTP K F Q (upd K s k) F Q s r := ⟨fun q hq => ⟨upd_ne _ _ hq, rfl, rfl⟩, fun z => by rw [h] at z; cases z⟩
theorem rTP_kf {K F Q : Fs} {s : Nat} {k f : Int32} {r : Bool × Nat × Th} (h : r.1 = false) : rTP K F Q (upd K s k) (upd F s f) Q s r := ⟨fun q hq => ⟨upd_ne _ _ hq, upd_ne _ _ hq, rfl⟩, fun z => by rw [h] at z; cases z⟩
theorem rTP_1 {K F Q : Fs} {s : Nat} {k f : Int32} {r : Bool × Nat × Th} (h1 : k = r.2.2.1) (h2 : f = r.2.2.2.1) (h3 : r.2.2.1 ≠ 1) : rTP K F Q (upd K s k) (upd F s f) Q s r := ⟨fun q hq => ⟨upd_ne _ _ hq, upd_ne _ _ hq, rfl⟩, fun _ => ⟨(upd_same _ _ _).trans h1, fun _ => (upd_same _ _ _).trans h2, fun z => absurd z h3⟩⟩
theorem rTP_2 {K F Q : Fs} {s : Nat} {k f g : Int32} {r : Bool × Nat × Th} (h1 : k = r.2.2.1) (h2 : f = r.2.2.2.1) (h3 : g = r.2.2.2.2) : rTP K F Q (upd K s k) (upd F s f) (upd Q s g) s r := ⟨fun q hq => ⟨upd_ne _ _ hq, upd_ne _ _ hq, upd_ne _ _ hq⟩, fun _ => ⟨(upd_same _ _ _).trans h1, fun _ => (upd_same _ _ _).trans h2, fun _ => (upd_same _ _ _).trans h3⟩⟩
theorem rTP_3 {K F Q : Fs} {s : Nat} {r : Bool × Nat × Th} (h1 : 3 = r.2.2.1) : rTP K F Q (upd K s 3) F Q s r := ⟨fun q hq => ⟨upd_ne _ _ hq, rfl, rfl⟩, fun _ => ⟨(upd_same _ _ _).trans h1, fun z => absurd h1.symm z, fun z => absurd (h1.symm.symm.trans z) (by decide)⟩⟩
theorem updu2 (f : Fs) (k : Nat) (a b : Int32) : upd (upd f k a) k b = upd f k b := updu f k a b
section PLAN2
variable {G : GX} {S : Nat → Sh} {B : Bc} {M : Md} {j i : Nat} {σ : Sh}
variable {n p s : Nat} {PI L K F Q : Fs} {A : Ab}
set_option maxHeartbeats 4000000 in
set_option maxRecDepth 100000 in
theorem c_X0_readThing (hn : PI 0 = nI n) (h60 : n ≤ 60) (hp : PI 2 = nI p) (hpn : p ≤ 60) (hs : PI 1 = nI s) (hs30 : s < 30) : Ct G yX0_readThing YX0_readThing 0 0 [.ref (gB G + 242)] 255 (cellOf G S (B.1, B.2.1, PI, L, K, F, Q) M) (Re G (some (.int (b01 (rT L n p).1))) (fun _ : Fs × Fs × Fs => S) (fun a => (B.1, B.2.1, upd PI 2 (nI (rT L n p).2.1), L, a.1, a.2.1, a.2.2)) (fun _ => M) (fun a => rTP K F Q a.1 a.2.1 a.2.2 s (rT L n p))) := by
  refine ct_of (by decide +kernel) rfl rfl (Nat.le_of_ble_eq_true rfl) (by simp [Value.category]) ?_
  refine x_sub (l' := [(0, .ref (gB G + 242))]) ⟨rfl, trivial⟩ ?_
  refine x_aload_n (pc := 0) dX0_readThing_0 rfl ?_
  refine x_bipush (pc := 1) (99) dX0_readThing_1 (by decide) ?_
  refine t_Vi (pc := 3) (c_X0_readLetter (p := p) hn h60 hp (by omega) _) qV_X0_readLetter mL_X0_39 dX0_readThing_3 rfl cell_plan (by decide) rfl rfl rfl ⟨by decide, by decide⟩ (Nat.le_of_ble_eq_true rfl) (Nat.le_of_ble_eq_true rfl) (Nat.le_of_ble_eq_true rfl) ?_
  refine x_ifeq (pc := 6) 31 dX0_readThing_6 (by decide) (fun c6 => ?_) (fun c6 => ?_)
  · have t1 := b01_eq c6
    simp only [t1, Bool.false_eq_true, if_false]
    refine x_aload_n (pc := 31) dX0_readThing_31 rfl ?_
    refine x_bipush (pc := 32) (108) dX0_readThing_32 (by decide) ?_
    refine t_Vi (pc := 34) (c_X0_readLetter (p := p) hn h60 hp (by omega) _) qV_X0_readLetter mL_X0_39 dX0_readThing_34 rfl cell_plan (by decide) rfl rfl rfl ⟨by decide, by decide⟩ (Nat.le_of_ble_eq_true rfl) (Nat.le_of_ble_eq_true rfl) (Nat.le_of_ble_eq_true rfl) ?_
    refine x_ifeq (pc := 37) 92 dX0_readThing_37 (by decide) (fun c37 => ?_) (fun c37 => ?_)
    · have t2 := b01_eq c37
      simp only [t2, Bool.false_eq_true, if_false]
      refine x_aload_n (pc := 92) dX0_readThing_92 rfl ?_
      refine x_bipush (pc := 93) (119) dX0_readThing_93 (by decide) ?_
      refine t_Vi (pc := 95) (c_X0_readLetter (p := p) hn h60 hp (by omega) _) qV_X0_readLetter mL_X0_39 dX0_readThing_95 rfl cell_plan (by decide) rfl rfl rfl ⟨by decide, by decide⟩ (Nat.le_of_ble_eq_true rfl) (Nat.le_of_ble_eq_true rfl) (Nat.le_of_ble_eq_true rfl) ?_
      refine x_ifeq (pc := 98) 124 dX0_readThing_98 (by decide) (fun c98 => ?_) (fun c98 => ?_)
      · have t3 := b01_eq c98
        simp only [t3, Bool.false_eq_true, if_false]
        refine x_aload_n (pc := 124) dX0_readThing_124 rfl ?_
        refine x_get (pc := 125) (ci := 0) (k := 1) (C := RX0) (T := TX0) (N := 7) cell_plan rfl (by decide) rfl nX0 (by decide) mF_X0_15 rfl dX0_readThing_125 ?_
        refine x_aload_n (pc := 128) dX0_readThing_128 rfl ?_
        refine x_get (pc := 129) (ci := 0) (k := 5) (C := RX0) (T := TX0) (N := 7) cell_plan rfl (by decide) rfl nX0 (by decide) mF_X0_29 rfl dX0_readThing_129 ?_
        try dsimp only
        rw [hs]
        refine x_iconst (pc := 132) (3) dX0_readThing_132 (by decide) ?_
        refine t_stKinds (pc := 133) s hs30 rfl dX0_readThing_133 ?_
        try dsimp only
        refine x_aload_n (pc := 134) dX0_readThing_134 rfl ?_
        refine x_bipush (pc := 135) (107) dX0_readThing_135 (by decide) ?_
        refine t_Vi (pc := 137) (c_X0_readLetter (p := p) hn h60 hp (by omega) _) qV_X0_readLetter mL_X0_39 dX0_readThing_137 rfl cell_plan (by decide) rfl rfl rfl ⟨by decide, by decide⟩ (Nat.le_of_ble_eq_true rfl) (Nat.le_of_ble_eq_true rfl) (Nat.le_of_ble_eq_true rfl) ?_
        cases t4 : rlB L n p 107 with
        | false =>
          have er : rT L n p = (false, p, 0, 0, 0) := by simp only [rT, t1, t2, t3, t4, if_true, if_false, Bool.false_eq_true]
          rw [er]
          simp only [Bool.false_eq_true, if_false, upd_self PI 2 hp]
          exact x_zret rfl (narrow_b01 _) dX0_readThing_140 ⟨(_, _, _), rfl, rfl, rfl, rTP_k rfl⟩
        | true =>
          have er : rT L n p = (true, p + 1, 3, 0, 0) := by simp only [rT, t1, t2, t3, t4, if_true, if_false, Bool.false_eq_true]
          rw [er]
          simp only [if_true]
          exact x_zret rfl (narrow_b01 _) dX0_readThing_140 ⟨(_, _, _), rfl, rfl, rfl, rTP_3 rfl⟩
      · have t3 := b01_ne c98
        have hlt := rlB_lt t3
        simp only [t3, if_true]
        have hn1 : (upd PI 2 (nI (p + 1))) 0 = nI n := (upd_ne _ _ (by decide)).trans hn
        have hs1 : (upd PI 2 (nI (p + 1))) 1 = nI s := (upd_ne _ _ (by decide)).trans hs
        refine x_aload_n (pc := 101) dX0_readThing_101 rfl ?_
        refine x_get (pc := 102) (ci := 0) (k := 1) (C := RX0) (T := TX0) (N := 7) cell_plan rfl (by decide) rfl nX0 (by decide) mF_X0_15 rfl dX0_readThing_102 ?_
        refine x_aload_n (pc := 105) dX0_readThing_105 rfl ?_
        refine x_get (pc := 106) (ci := 0) (k := 5) (C := RX0) (T := TX0) (N := 7) cell_plan rfl (by decide) rfl nX0 (by decide) mF_X0_29 rfl dX0_readThing_106 ?_
        try dsimp only
        rw [hs1]
        refine x_iconst (pc := 109) (2) dX0_readThing_109 (by decide) ?_
        refine t_stKinds (pc := 110) s hs30 rfl dX0_readThing_110 ?_
        try dsimp only
        refine x_aload_n (pc := 111) dX0_readThing_111 rfl ?_
        refine x_aload_n (pc := 112) dX0_readThing_112 rfl ?_
        refine x_get (pc := 113) (ci := 0) (k := 2) (C := RX0) (T := TX0) (N := 7) cell_plan rfl (by decide) rfl nX0 (by decide) mF_X0_19 rfl dX0_readThing_113 ?_
        refine x_iconst (pc := 116) (1) dX0_readThing_116 (by decide) ?_
        refine x_sipush (pc := 117) (999) dX0_readThing_117 (by decide) ?_
        refine t_Vi (pc := 120) (c_X0_readFirst hn1 h60 (upd_same _ _ _) (by omega) hs1 hs30 _ _) qV_X0_readNumber mL_X0_43 dX0_readThing_120 rfl cell_plan (by decide) rfl rfl rfl ⟨by decide, by decide⟩ (Nat.le_of_ble_eq_true rfl) (Nat.le_of_ble_eq_true rfl) (Nat.le_of_ble_eq_true rfl) ?_
        cases hq : rN L n (p + 1) 1 999 with
        | none =>
          have er : rT L n p = (false, p + 1, 0, 0, 0) := by simp only [rT, t1, t2, t3, if_true, if_false, Bool.false_eq_true, hq]
          rw [er]
          exact x_zret rfl (narrow_b01 _) dX0_readThing_123 ⟨(_, _, _), rfl, rfl, rfl, rTP_k rfl⟩
        | some q =>
          have er : rT L n p = (true, q.1, 2, q.2, 0) := by simp only [rT, t1, t2, t3, if_true, if_false, Bool.false_eq_true, hq]
          rw [er]
          simp only [updu2]
          exact x_zret rfl (narrow_b01 _) dX0_readThing_123 ⟨(_, _, _), rfl, rfl, rfl, rTP_1 rfl rfl (show (2 : Int32) ≠ 1 by decide)⟩
    · have t2 := b01_ne c37
      have hlt := rlB_lt t2
      simp only [t2, if_true]
      have hn1 : (upd PI 2 (nI (p + 1))) 0 = nI n := (upd_ne _ _ (by decide)).trans hn
      have hs1 : (upd PI 2 (nI (p + 1))) 1 = nI s := (upd_ne _ _ (by decide)).trans hs
      refine x_aload_n (pc := 40) dX0_readThing_40 rfl ?_
      refine x_get (pc := 41) (ci := 0) (k := 1) (C := RX0) (T := TX0) (N := 7) cell_plan rfl (by decide) rfl nX0 (by decide) mF_X0_15 rfl dX0_readThing_41 ?_
      refine x_aload_n (pc := 44) dX0_readThing_44 rfl ?_
      refine x_get (pc := 45) (ci := 0) (k := 5) (C := RX0) (T := TX0) (N := 7) cell_plan rfl (by decide) rfl nX0 (by decide) mF_X0_29 rfl dX0_readThing_45 ?_
      try dsimp only
      rw [hs1]
      refine x_iconst (pc := 48) (1) dX0_readThing_48 (by decide) ?_
      refine t_stKinds (pc := 49) s hs30 rfl dX0_readThing_49 ?_
      try dsimp only
      refine x_aload_n (pc := 50) dX0_readThing_50 rfl ?_
      refine x_aload_n (pc := 51) dX0_readThing_51 rfl ?_
      refine x_get (pc := 52) (ci := 0) (k := 2) (C := RX0) (T := TX0) (N := 7) cell_plan rfl (by decide) rfl nX0 (by decide) mF_X0_19 rfl dX0_readThing_52 ?_
      refine x_iconst (pc := 55) (0) dX0_readThing_55 (by decide) ?_
      refine x_bipush (pc := 56) (11) dX0_readThing_56 (by decide) ?_
      refine t_Vi (pc := 58) (c_X0_readFirst hn1 h60 (upd_same _ _ _) (by omega) hs1 hs30 _ _) qV_X0_readNumber mL_X0_43 dX0_readThing_58 rfl cell_plan (by decide) rfl rfl rfl ⟨by decide, by decide⟩ (Nat.le_of_ble_eq_true rfl) (Nat.le_of_ble_eq_true rfl) (Nat.le_of_ble_eq_true rfl) ?_
      refine x_ifeq (pc := 61) 90 dX0_readThing_61 (by decide) (fun c61 => ?_) (fun c61 => ?_)
      · have hq : rN L n (p + 1) 0 11 = none := by
          cases hq : rN L n (p + 1) 0 11 with
          | none => rfl
          | some q => rw [hq] at c61; exact absurd (show (1 : Int32) = 0 from c61) (by decide)
        simp only [hq]
        have er : rT L n p = (false, p + 1, 0, 0, 0) := by simp only [rT, t1, t2, if_true, if_false, Bool.false_eq_true, hq]
        refine x_iconst (pc := 90) (0) dX0_readThing_90 (by decide) ?_
        rw [er]
        first
        | exact x_zret rfl rfl dX0_readThing_91 ⟨(_, _, _), rfl, rfl, rfl, rTP_k rfl⟩
        | exact x_zret rfl rfl dX0_readThing_91 ⟨(_, _, _), rfl, rfl, rfl, rTP_kf rfl⟩
        | exact x_zret rfl rfl dX0_readThing_91 ⟨(_, _, _), rfl, rfl, rfl, rTP_2 rfl rfl rfl⟩
      · obtain ⟨q, hq⟩ : ∃ q, rN L n (p + 1) 0 11 = some q := by
          cases hq : rN L n (p + 1) 0 11 with
          | none => rw [hq] at c61; exact absurd rfl c61
          | some q => exact ⟨q, rfl⟩
        have hql := rN_le hq
        simp only [hq, updu2]
        have hn2 : (upd PI 2 (nI q.1)) 0 = nI n := (upd_ne _ _ (by decide)).trans hn
        have hs2 : (upd PI 2 (nI q.1)) 1 = nI s := (upd_ne _ _ (by decide)).trans hs
        refine x_aload_n (pc := 64) dX0_readThing_64 rfl ?_
        refine x_bipush (pc := 65) (64) dX0_readThing_65 (by decide) ?_
        refine t_Vi (pc := 67) (c_X0_readLetter (p := q.1) hn2 h60 (upd_same _ _ _) (by omega) _) qV_X0_readLetter mL_X0_39 dX0_readThing_67 rfl cell_plan (by decide) rfl rfl rfl ⟨by decide, by decide⟩ (Nat.le_of_ble_eq_true rfl) (Nat.le_of_ble_eq_true rfl) (Nat.le_of_ble_eq_true rfl) ?_
        refine x_ifeq (pc := 70) 90 dX0_readThing_70 (by decide) (fun c70 => ?_) (fun c70 => ?_)
        · have t4 := b01_eq c70
          simp only [t4, Bool.false_eq_true, if_false]
          have er : rT L n p = (false, q.1, 0, 0, 0) := by simp only [rT, t1, t2, if_true, if_false, Bool.false_eq_true, hq, t4]
          refine x_iconst (pc := 90) (0) dX0_readThing_90 (by decide) ?_
          rw [er]
          first
          | exact x_zret rfl rfl dX0_readThing_91 ⟨(_, _, _), rfl, rfl, rfl, rTP_k rfl⟩
          | exact x_zret rfl rfl dX0_readThing_91 ⟨(_, _, _), rfl, rfl, rfl, rTP_kf rfl⟩
          | exact x_zret rfl rfl dX0_readThing_91 ⟨(_, _, _), rfl, rfl, rfl, rTP_2 rfl rfl rfl⟩
        · have t4 := b01_ne c70
          have hlt4 := rlB_lt t4
          simp only [t4, if_true, updu2]
          have hn3 : (upd PI 2 (nI (q.1 + 1))) 0 = nI n := (upd_ne _ _ (by decide)).trans hn
          have hs3 : (upd PI 2 (nI (q.1 + 1))) 1 = nI s := (upd_ne _ _ (by decide)).trans hs
          refine x_aload_n (pc := 73) dX0_readThing_73 rfl ?_
          refine x_aload_n (pc := 74) dX0_readThing_74 rfl ?_
          refine x_get (pc := 75) (ci := 0) (k := 3) (C := RX0) (T := TX0) (N := 7) cell_plan rfl (by decide) rfl nX0 (by decide) mF_X0_22 rfl dX0_readThing_75 ?_
          refine x_iconst (pc := 78) (0) dX0_readThing_78 (by decide) ?_
          refine x_iconst (pc := 79) (3) dX0_readThing_79 (by decide) ?_
          refine t_Vi (pc := 80) (c_X0_readSecond hn3 h60 (upd_same _ _ _) (by omega) hs3 hs30 _ _) qV_X0_readNumber mL_X0_43 dX0_readThing_80 rfl cell_plan (by decide) rfl rfl rfl ⟨by decide, by decide⟩ (Nat.le_of_ble_eq_true rfl) (Nat.le_of_ble_eq_true rfl) (Nat.le_of_ble_eq_true rfl) ?_
          refine x_ifeq (pc := 83) 90 dX0_readThing_83 (by decide) (fun c83 => ?_) (fun c83 => ?_)
          · have hr : rN L n (q.1 + 1) 0 3 = none := by
              cases hr : rN L n (q.1 + 1) 0 3 with
              | none => rfl
              | some r => rw [hr] at c83; exact absurd (show (1 : Int32) = 0 from c83) (by decide)
            simp only [hr]
            have er : rT L n p = (false, q.1 + 1, 0, 0, 0) := by simp only [rT, t1, t2, if_true, if_false, Bool.false_eq_true, hq, t4, hr]
            refine x_iconst (pc := 90) (0) dX0_readThing_90 (by decide) ?_
            rw [er]
            first
            | exact x_zret rfl rfl dX0_readThing_91 ⟨(_, _, _), rfl, rfl, rfl, rTP_k rfl⟩
            | exact x_zret rfl rfl dX0_readThing_91 ⟨(_, _, _), rfl, rfl, rfl, rTP_kf rfl⟩
            | exact x_zret rfl rfl dX0_readThing_91 ⟨(_, _, _), rfl, rfl, rfl, rTP_2 rfl rfl rfl⟩
          · obtain ⟨r, hr⟩ : ∃ r, rN L n (q.1 + 1) 0 3 = some r := by
              cases hr : rN L n (q.1 + 1) 0 3 with
              | none => rw [hr] at c83; exact absurd rfl c83
              | some r => exact ⟨r, rfl⟩
            simp only [hr, updu2]
            have er : rT L n p = (true, r.1, 1, q.2, r.2) := by simp only [rT, t1, t2, if_true, if_false, Bool.false_eq_true, hq, t4, hr]
            refine x_iconst (pc := 86) (1) dX0_readThing_86 (by decide) ?_
            refine x_goto (pc := 87) 91 dX0_readThing_87 (by decide) ?_
            rw [er]
            first
            | exact x_zret rfl rfl dX0_readThing_91 ⟨(_, _, _), rfl, rfl, rfl, rTP_k rfl⟩
            | exact x_zret rfl rfl dX0_readThing_91 ⟨(_, _, _), rfl, rfl, rfl, rTP_kf rfl⟩
            | exact x_zret rfl rfl dX0_readThing_91 ⟨(_, _, _), rfl, rfl, rfl, rTP_2 rfl rfl rfl⟩
  · have t1 := b01_ne c6
    have hlt := rlB_lt t1
    simp only [t1, if_true]
    have hn1 : (upd PI 2 (nI (p + 1))) 0 = nI n := (upd_ne _ _ (by decide)).trans hn
    have hs1 : (upd PI 2 (nI (p + 1))) 1 = nI s := (upd_ne _ _ (by decide)).trans hs
    refine x_aload_n (pc := 9) dX0_readThing_9 rfl ?_
    refine x_get (pc := 10) (ci := 0) (k := 1) (C := RX0) (T := TX0) (N := 7) cell_plan rfl (by decide) rfl nX0 (by decide) mF_X0_15 rfl dX0_readThing_10 ?_
    refine x_aload_n (pc := 13) dX0_readThing_13 rfl ?_
    refine x_get (pc := 14) (ci := 0) (k := 5) (C := RX0) (T := TX0) (N := 7) cell_plan rfl (by decide) rfl nX0 (by decide) mF_X0_29 rfl dX0_readThing_14 ?_
    try dsimp only
    rw [hs1]
    refine x_iconst (pc := 17) (0) dX0_readThing_17 (by decide) ?_
    refine t_stKinds (pc := 18) s hs30 rfl dX0_readThing_18 ?_
    try dsimp only
    refine x_aload_n (pc := 19) dX0_readThing_19 rfl ?_
    refine x_aload_n (pc := 20) dX0_readThing_20 rfl ?_
    refine x_get (pc := 21) (ci := 0) (k := 2) (C := RX0) (T := TX0) (N := 7) cell_plan rfl (by decide) rfl nX0 (by decide) mF_X0_19 rfl dX0_readThing_21 ?_
    refine x_iconst (pc := 24) (0) dX0_readThing_24 (by decide) ?_
    refine x_bipush (pc := 25) (11) dX0_readThing_25 (by decide) ?_
    refine t_Vi (pc := 27) (c_X0_readFirst hn1 h60 (upd_same _ _ _) (by omega) hs1 hs30 _ _) qV_X0_readNumber mL_X0_43 dX0_readThing_27 rfl cell_plan (by decide) rfl rfl rfl ⟨by decide, by decide⟩ (Nat.le_of_ble_eq_true rfl) (Nat.le_of_ble_eq_true rfl) (Nat.le_of_ble_eq_true rfl) ?_
    cases hq : rN L n (p + 1) 0 11 with
    | none =>
      have er : rT L n p = (false, p + 1, 0, 0, 0) := by simp only [rT, t1, if_true, if_false, Bool.false_eq_true, hq]
      rw [er]
      exact x_zret rfl (narrow_b01 _) dX0_readThing_30 ⟨(_, _, _), rfl, rfl, rfl, rTP_k rfl⟩
    | some q =>
      have er : rT L n p = (true, q.1, 0, q.2, 0) := by simp only [rT, t1, if_true, if_false, Bool.false_eq_true, hq]
      rw [er]
      simp only [updu2]
      exact x_zret rfl (narrow_b01 _) dX0_readThing_30 ⟨(_, _, _), rfl, rfl, rfl, rTP_1 rfl rfl (show (0 : Int32) ≠ 1 by decide)⟩
end PLAN2
