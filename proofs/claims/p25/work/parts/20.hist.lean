/-! the class: BeamCuts, history (rows laid by wip/whole/p20.py) -/
section GENS
variable {G : GX} {S : Nat → Sh} {B : Bc} {M : Md} {j i : Nat} {σ : Sh}
variable {A : Ab}
theorem g_copyFrom {j2 : Nat} (hj : j < 8) (hj2 : j2 < 8) (hne : j2 ≠ j) (hR : RC (S j2) A) : Ct G yX2_copyFrom YX2_copyFrom 0 0 [.ref (gB G + sB j), .ref (gB G + sB j2)] (nN G) (cellOf G S B M) (RS G none S j B M A) := by
  have e := c_X2_copyFrom (G := G) (S := S) (B := B) (M := M) (j := j) (σ := S j) hj hj2 hne hR
  rwa [updS_self] at e
theorem g_addShape (hj : j < 8) (hR : RC (S j) A) (c r w h : Int32) : Ct G yX2_addShape YX2_addShape 0 0 [.ref (gB G + sB j), .int c, .int r, .int w, .int h] (nN G) (cellOf G S B M) (RS G (some (.int (tellX A c r w h).1)) S j B M (tellX A c r w h).2) := by
  have e := c_X2_addShape (G := G) (S := S) (B := B) (M := M) (j := j) (σ := S j) hj hR c r w h
  rwa [updS_self] at e
theorem g_changeLead (hj : j < 8) (hR : RC (S j) A) (v c : Int32) : Ct G yX2_changeLead YX2_changeLead 0 0 [.ref (gB G + sB j), .int v, .int c] (nN G) (cellOf G S B M) (RS G (some (.int (leadX A v c).1)) S j B M (leadX A v c).2) := by
  have e := c_X2_changeLead (G := G) (S := S) (B := B) (M := M) (j := j) (σ := S j) hj hR v c
  rwa [updS_self] at e
theorem g_changeSetting (hj : j < 8) (hR : RC (S j) A) (w v : Int32) : Ct G yX2_changeSetting YX2_changeSetting 0 0 [.ref (gB G + sB j), .int w, .int v] (nN G) (cellOf G S B M) (RS G (some (.int (setX A w v).1)) S j B M (setX A w v).2) := by
  have e := c_X2_changeSetting (G := G) (S := S) (B := B) (M := M) (j := j) (σ := S j) hj hR w v
  rwa [updS_self] at e
theorem g_cutShape (hj : j < 8) (hR : RC (S j) A) (v : Int32) : Ct G yX2_cutShape YX2_cutShape 0 0 [.ref (gB G + sB j), .int v] (nN G) (cellOf G S B M) (RS G (some (.int (cutX A v).1)) S j B M (cutX A v).2) := by
  have e := c_X2_cutShape (G := G) (S := S) (B := B) (M := M) (j := j) (σ := S j) hj hR v
  rwa [updS_self] at e
theorem g_waitFor (hj : j < 8) (hR : RC (S j) A) (v : Int32) : Ct G yX2_waitFor YX2_waitFor 0 0 [.ref (gB G + sB j), .int v] (nN G) (cellOf G S B M) (RS G (some (.int (waitX A v).1)) S j B M (waitX A v).2) := by
  have e := c_X2_waitFor (G := G) (S := S) (B := B) (M := M) (j := j) (σ := S j) hj hR v
  rwa [updS_self] at e
theorem g_cleanLens (hj : j < 8) (hR : RC (S j) A) : Ct G yX2_cleanLens YX2_cleanLens 0 0 [.ref (gB G + sB j)] (nN G) (cellOf G S B M) (RS G (some (.int (cleanX A).1)) S j B M (cleanX A).2) := by
  have e := c_X2_cleanLens (G := G) (S := S) (B := B) (M := M) (j := j) (σ := S j) hj hR 
  rwa [updS_self] at e
theorem g_cutNext (hj : j < 8) (hR : RC (S j) A) : Ct G yX2_cutNext YX2_cutNext 0 0 [.ref (gB G + sB j)] (nN G) (cellOf G S B M) (RS G (some (.int (oV (nextX A).1))) S j B M (nextX A).2) := by
  have e := c_X2_cutNext (G := G) (S := S) (B := B) (M := M) (j := j) (σ := S j) hj hR
  rwa [updS_self] at e
theorem g_knows (hj : j < 8) (hR : RC (S j) A) (v : Int32) : Ct G yX2_knows YX2_knows 0 0 [.ref (gB G + sB j), .int v] (nN G) (cellOf G S B M) (Rt G (some (.int (b01 (knB A v)))) S B M) := by
  have e := c_X2_knows (G := G) (S := S) (B := B) (M := M) (j := j) (σ := S j) hj hR v
  rwa [updS_self] at e
theorem g_factOfShape (hj : j < 8) (hR : RC (S j) A) (v w : Int32) : Ct G yX2_factOfShape YX2_factOfShape 0 0 [.ref (gB G + sB j), .int v, .int w] (nN G) (cellOf G S B M) (Rt G (some (.int (factX A v w))) S B M) := by
  have e := c_X2_factOfShape (G := G) (S := S) (B := B) (M := M) (j := j) (σ := S j) hj hR v w
  rwa [updS_self] at e
theorem g_heatIn (hj : j < 8) (hR : RC (S j) A) (v : Int32) : Ct G yX2_heatIn YX2_heatIn 0 0 [.ref (gB G + sB j), .int v] (nN G) (cellOf G S B M) (Rt G (some (.int (hinV A.2.2.1 v))) S B M) := by
  have e := c_X2_heatIn (G := G) (S := S) (B := B) (M := M) (j := j) (σ := S j) hj hR v
  rwa [updS_self] at e
theorem g_ticksToCut (hj : j < 8) (hR : RC (S j) A) (v : Int32) : Ct G yX2_ticksToCut YX2_ticksToCut 0 0 [.ref (gB G + sB j), .int v] (nN G) (cellOf G S B M) (Rt G (some (.int (tcX A v))) S B M) := by
  have e := c_X2_ticksToCut (G := G) (S := S) (B := B) (M := M) (j := j) (σ := S j) hj hR v
  rwa [updS_self] at e
theorem g_ticksToCool (hj : j < 8) (hR : RC (S j) A) (v : Int32) : Ct G yX2_ticksToCool YX2_ticksToCool 0 0 [.ref (gB G + sB j), .int v] (nN G) (cellOf G S B M) (Rt G (some (.int (kcX A v))) S B M) := by
  have e := c_X2_ticksToCool (G := G) (S := S) (B := B) (M := M) (j := j) (σ := S j) hj hR v
  rwa [updS_self] at e
theorem g_bestShape (hj : j < 8) (hR : RC (S j) A) : Ct G yX2_bestShape YX2_bestShape 0 0 [.ref (gB G + sB j)] (nN G) (cellOf G S B M) (Rt G (some (.int (oV (besO A A.1)))) S B M) := by
  have e := c_X2_bestShape (G := G) (S := S) (B := B) (M := M) (j := j) (σ := S j) hj hR 
  rwa [updS_self] at e
theorem g_shapesThatAre (hj : j < 8) (hR : RC (S j) A) (v : Int32) : Ct G yX2_shapesThatAre YX2_shapesThatAre 0 0 [.ref (gB G + sB j), .int v] (nN G) (cellOf G S B M) (Rt G (some (.int (cntN A.2.2.2.2 v A.1))) S B M) := by
  have e := c_X2_shapesThatAre (G := G) (S := S) (B := B) (M := M) (j := j) (σ := S j) hj hR v
  rwa [updS_self] at e
theorem g_factOfSheet (hj : j < 8) (hR : RC (S j) A) (w : Int32) : Ct G yX2_factOfSheet YX2_factOfSheet 0 0 [.ref (gB G + sB j), .int w] (nN G) (cellOf G S B M) (Rt G (some (.int (sheetX A w))) S B M) := by
  have e := c_X2_factOfSheet (G := G) (S := S) (B := B) (M := M) (j := j) (σ := S j) hj hR w
  rwa [updS_self] at e
theorem g_reasonAgainst (hj : j < 8) (hR : RC (S j) A) (i : Nat) (hi : i < A.1) : Ct G yX2_reasonAgainst YX2_reasonAgainst 0 0 [.ref (gB G + sB j), .int (nI i)] (nN G) (cellOf G S B M) (Rt G (some (.int (whyV A i))) S B M) := by
  have e := c_X2_reasonAgainst (G := G) (S := S) (B := B) (M := M) (j := j) (σ := S j) hj hR hi
  rwa [updS_self] at e
end GENS
def HR (S : Nat → Sh) (B : Bc) (h : List Ab) : Prop := B.1 0 = nI h.length ∧ h.length ≤ 4 ∧ (∀ k, k < 4 → 4 ≤ B.2.1 k ∧ B.2.1 k < 8) ∧ (∀ k q, k < 4 → q < 4 → B.2.1 k = B.2.1 q → k = q) ∧ ∀ k A, h[k]? = some A → RC (S (B.2.1 k)) A
def pushH (h : List Ab) (A : Ab) : List Ab := if h.length = 4 then h.drop 1 ++ [A] else h ++ [A]
theorem HR_S {S S' : Nat → Sh} {B : Bc} {h : List Ab} (hH : HR S B h) (hS : ∀ q, 4 ≤ q → S' q = S q) : HR S' B h := by
  obtain ⟨h1, h2, h3, h4, h5⟩ := hH
  refine ⟨h1, h2, h3, h4, fun k A hk => ?_⟩
  have hl := (List.getElem?_eq_some_iff.mp hk).1
  rw [hS _ (h3 k (by omega)).1]
  exact h5 k A hk
theorem HR_B {S : Nat → Sh} {B B' : Bc} {h : List Ab} (hH : HR S B h) (h1 : B'.1 0 = B.1 0) (h2 : B'.2.1 = B.2.1) : HR S B' h := by
  obtain ⟨a1, a2, a3, a4, a5⟩ := hH
  exact ⟨h1.trans a1, a2, by rw [h2]; exact a3, by rw [h2]; exact a4, by rw [h2]; exact a5⟩
def rotN (f : Nat → Nat) : Nat → Nat := updN (updN (updN (updN f 0 (f 1)) 1 (f 2)) 2 (f 3)) 3 (f 0)
theorem updN_same (f : Nat → Nat) (k v : Nat) : updN f k v k = v := by simp [updN]
theorem updN_ne (f : Nat → Nat) {k j : Nat} (v : Nat) (h : j ≠ k) : updN f k v j = f j := by simp [updN, h]
theorem rotN_0 (f : Nat → Nat) : rotN f 0 = f 1 := rfl
theorem rotN_1 (f : Nat → Nat) : rotN f 1 = f 2 := rfl
theorem rotN_2 (f : Nat → Nat) : rotN f 2 = f 3 := rfl
theorem rotN_3 (f : Nat → Nat) : rotN f 3 = f 0 := rfl
theorem rotN_s (f : Nat → Nat) {k : Nat} (hk : k < 3) : rotN f k = f (k + 1) := by
  match k, hk with
  | 0, _ => rfl
  | 1, _ => rfl
  | 2, _ => rfl
theorem HR_rot {S : Nat → Sh} {B : Bc} {h : List Ab} (hH : HR S B h) (hl : h.length = 4) : HR S (upd B.1 0 3, rotN B.2.1, B.2.2) (h.drop 1) := by
  obtain ⟨h1, h2, h3, h4, h5⟩ := hH
  have key : ∀ k, k < 4 → ∃ q, q < 4 ∧ rotN B.2.1 k = B.2.1 q ∧ q = (k + 1) % 4 := by
    intro k hk
    match k, hk with
    | 0, _ => exact ⟨1, by decide, rfl, rfl⟩
    | 1, _ => exact ⟨2, by decide, rfl, rfl⟩
    | 2, _ => exact ⟨3, by decide, rfl, rfl⟩
    | 3, _ => exact ⟨0, by decide, rfl, rfl⟩
  refine ⟨?_, by rw [List.length_drop]; omega, fun k hk => ?_, fun k q hk hq e => ?_, fun k A hk => ?_⟩
  · show upd B.1 0 3 0 = _
    rw [upd_same, List.length_drop, hl]; rfl
  · obtain ⟨q, hq, e, -⟩ := key k hk
    show 4 ≤ rotN B.2.1 k ∧ rotN B.2.1 k < 8
    rw [e]; exact h3 q hq
  · obtain ⟨a, ha, e1, e2⟩ := key k hk
    obtain ⟨b, hb, f1, f2⟩ := key q hq
    have e : rotN B.2.1 k = rotN B.2.1 q := e
    rw [e1, f1] at e
    have := h4 a b ha hb e
    omega
  · have hk3 : k < 3 := by
      have := (List.getElem?_eq_some_iff.mp hk).1
      rw [List.length_drop] at this
      omega
    show RC (S (rotN B.2.1 k)) A
    rw [rotN_s _ hk3]
    refine h5 (k + 1) A ?_
    rw [List.getElem?_drop] at hk
    rw [Nat.add_comm]; exact hk
theorem HR_add {S : Nat → Sh} {B : Bc} {h : List Ab} (hH : HR S B h) (hl : h.length < 4) {σ : Sh} {A : Ab} (hR : RC σ A) : HR (updS S (B.2.1 h.length) σ) (upd B.1 0 (nI (h.length + 1)), B.2) (h ++ [A]) := by
  obtain ⟨h1, h2, h3, h4, h5⟩ := hH
  refine ⟨?_, by rw [List.length_append]; show h.length + 1 ≤ 4; omega, h3, h4, fun k A' hk => ?_⟩
  · show upd B.1 0 _ 0 = _
    rw [upd_same, List.length_append]; rfl
  · show RC (updS S (B.2.1 h.length) σ (B.2.1 k)) A'
    by_cases e : k < h.length
    · rw [List.getElem?_append_left e] at hk
      rw [updS_ne _ _ (fun z => by have := h4 k h.length (by omega) hl z; omega)]
      exact h5 k A' hk
    · rw [List.getElem?_append_right (by omega)] at hk
      have h0 : k - h.length < 1 := by
        have := (List.getElem?_eq_some_iff.mp hk).1
        simpa using this
      have hkk : k = h.length := by omega
      subst hkk
      rw [Nat.sub_self] at hk
      cases hk
      rw [updS_same]
      exact hR
section REC
variable {G : GX} {S : Nat → Sh} {B : Bc} {M : Md} {j i : Nat} {σ : Sh}
variable {A : Ab} {h : List Ab}
set_option maxHeartbeats 4000000 in
set_option maxRecDepth 100000 in
theorem c_X3_dropOldestState (h0 : B.2.1 0 < 8) (h1 : B.2.1 1 < 8) (h2 : B.2.1 2 < 8) (h3 : B.2.1 3 < 8) : Ct G yX3_dropOldestState YX3_dropOldestState 0 0 [.ref (gB G + 0)] (nN G) (cellOf G S B M) (Rt G none S (upd B.1 0 3, rotN B.2.1, B.2.2) M) := by
  refine ct_of (by decide +kernel) rfl rfl (Nat.le_of_ble_eq_true rfl) (by simp [Value.category]) ?_
  refine x_sub (l' := [(0, .ref (gB G + 0))]) ⟨rfl, trivial⟩ ?_
  refine x_aload_n (pc := 0) dX3_dropOldestState_0 rfl ?_
  refine x_get (pc := 1) (ci := 3) (k := 4) (C := RX3) (T := TX3) (N := 10) cell_bc rfl (nN_lt (by decide)) rfl nX3 (by decide) mF_X3_25 rfl dX3_dropOldestState_1 ?_
  refine x_iconst (pc := 4) (0) dX3_dropOldestState_4 (by decide) ?_
  refine t_hist (pc := 5) 0 (by decide) (by decide) dX3_dropOldestState_5 ?_
  refine x_astore_n (pc := 6) dX3_dropOldestState_6 (by decide) ?_
  refine x_iconst (pc := 7) (1) dX3_dropOldestState_7 (by decide) ?_
  refine x_istore_n (pc := 8) dX3_dropOldestState_8 (by decide) ?_
  refine x_iload_n (pc := 9) dX3_dropOldestState_9 rfl ?_
  refine x_iconst (pc := 10) (4) dX3_dropOldestState_10 (by decide) ?_
  refine x_cmpge (pc := 11) 34 dX3_dropOldestState_11 (by decide) (fun h => absurd h (by decide)) (fun _ => ?_)
  refine x_aload_n (pc := 14) dX3_dropOldestState_14 rfl ?_
  refine x_get (pc := 15) (ci := 3) (k := 4) (C := RX3) (T := TX3) (N := 10) cell_bc rfl (nN_lt (by decide)) rfl nX3 (by decide) mF_X3_25 rfl dX3_dropOldestState_15 ?_
  refine x_iload_n (pc := 18) dX3_dropOldestState_18 rfl ?_
  refine x_iconst (pc := 19) (1) dX3_dropOldestState_19 (by decide) ?_
  refine x_isub (pc := 20) dX3_dropOldestState_20 ?_
  refine x_aload_n (pc := 21) dX3_dropOldestState_21 rfl ?_
  refine x_get (pc := 22) (ci := 3) (k := 4) (C := RX3) (T := TX3) (N := 10) cell_bc rfl (nN_lt (by decide)) rfl nX3 (by decide) mF_X3_25 rfl dX3_dropOldestState_22 ?_
  refine x_iload_n (pc := 25) dX3_dropOldestState_25 rfl ?_
  refine t_hist (pc := 26) 1 (by decide) (by decide) dX3_dropOldestState_26 ?_
  try dsimp only
  try simp only [updN_ne _ _ (show (2 : Nat) ≠ 0 by decide), updN_ne _ _ (show (3 : Nat) ≠ 1 by decide), updN_ne _ _ (show (3 : Nat) ≠ 0 by decide)]
  refine t_stHist (pc := 27) 0 _ (by decide) (by first | assumption | omega) (by decide) dX3_dropOldestState_27 ?_
  try dsimp only
  refine x_iinc (pc := 28) (_ + (1)) dX3_dropOldestState_28 rfl rfl (by decide) ?_
  refine x_goto (pc := 31) 9 dX3_dropOldestState_31 (by decide) ?_
  refine x_iload_n (pc := 9) dX3_dropOldestState_9 rfl ?_
  refine x_iconst (pc := 10) (4) dX3_dropOldestState_10 (by decide) ?_
  refine x_cmpge (pc := 11) 34 dX3_dropOldestState_11 (by decide) (fun h => absurd h (by decide)) (fun _ => ?_)
  refine x_aload_n (pc := 14) dX3_dropOldestState_14 rfl ?_
  refine x_get (pc := 15) (ci := 3) (k := 4) (C := RX3) (T := TX3) (N := 10) cell_bc rfl (nN_lt (by decide)) rfl nX3 (by decide) mF_X3_25 rfl dX3_dropOldestState_15 ?_
  refine x_iload_n (pc := 18) dX3_dropOldestState_18 rfl ?_
  refine x_iconst (pc := 19) (1) dX3_dropOldestState_19 (by decide) ?_
  refine x_isub (pc := 20) dX3_dropOldestState_20 ?_
  refine x_aload_n (pc := 21) dX3_dropOldestState_21 rfl ?_
  refine x_get (pc := 22) (ci := 3) (k := 4) (C := RX3) (T := TX3) (N := 10) cell_bc rfl (nN_lt (by decide)) rfl nX3 (by decide) mF_X3_25 rfl dX3_dropOldestState_22 ?_
  refine x_iload_n (pc := 25) dX3_dropOldestState_25 rfl ?_
  refine t_hist (pc := 26) 2 (by decide) (by decide) dX3_dropOldestState_26 ?_
  try dsimp only
  try simp only [updN_ne _ _ (show (2 : Nat) ≠ 0 by decide), updN_ne _ _ (show (3 : Nat) ≠ 1 by decide), updN_ne _ _ (show (3 : Nat) ≠ 0 by decide)]
  refine t_stHist (pc := 27) 1 _ (by decide) (by first | assumption | omega) (by decide) dX3_dropOldestState_27 ?_
  try dsimp only
  refine x_iinc (pc := 28) (_ + (1)) dX3_dropOldestState_28 rfl rfl (by decide) ?_
  refine x_goto (pc := 31) 9 dX3_dropOldestState_31 (by decide) ?_
  refine x_iload_n (pc := 9) dX3_dropOldestState_9 rfl ?_
  refine x_iconst (pc := 10) (4) dX3_dropOldestState_10 (by decide) ?_
  refine x_cmpge (pc := 11) 34 dX3_dropOldestState_11 (by decide) (fun h => absurd h (by decide)) (fun _ => ?_)
  refine x_aload_n (pc := 14) dX3_dropOldestState_14 rfl ?_
  refine x_get (pc := 15) (ci := 3) (k := 4) (C := RX3) (T := TX3) (N := 10) cell_bc rfl (nN_lt (by decide)) rfl nX3 (by decide) mF_X3_25 rfl dX3_dropOldestState_15 ?_
  refine x_iload_n (pc := 18) dX3_dropOldestState_18 rfl ?_
  refine x_iconst (pc := 19) (1) dX3_dropOldestState_19 (by decide) ?_
  refine x_isub (pc := 20) dX3_dropOldestState_20 ?_
  refine x_aload_n (pc := 21) dX3_dropOldestState_21 rfl ?_
  refine x_get (pc := 22) (ci := 3) (k := 4) (C := RX3) (T := TX3) (N := 10) cell_bc rfl (nN_lt (by decide)) rfl nX3 (by decide) mF_X3_25 rfl dX3_dropOldestState_22 ?_
  refine x_iload_n (pc := 25) dX3_dropOldestState_25 rfl ?_
  refine t_hist (pc := 26) 3 (by decide) (by decide) dX3_dropOldestState_26 ?_
  try dsimp only
  try simp only [updN_ne _ _ (show (2 : Nat) ≠ 0 by decide), updN_ne _ _ (show (3 : Nat) ≠ 1 by decide), updN_ne _ _ (show (3 : Nat) ≠ 0 by decide)]
  refine t_stHist (pc := 27) 2 _ (by decide) (by first | assumption | omega) (by decide) dX3_dropOldestState_27 ?_
  try dsimp only
  refine x_iinc (pc := 28) (_ + (1)) dX3_dropOldestState_28 rfl rfl (by decide) ?_
  refine x_goto (pc := 31) 9 dX3_dropOldestState_31 (by decide) ?_
  refine x_iload_n (pc := 9) dX3_dropOldestState_9 rfl ?_
  refine x_iconst (pc := 10) (4) dX3_dropOldestState_10 (by decide) ?_
  refine x_cmpge (pc := 11) 34 dX3_dropOldestState_11 (by decide) (fun _ => ?_) (fun h => absurd h (by decide))
  refine x_aload_n (pc := 34) dX3_dropOldestState_34 rfl ?_
  refine x_get (pc := 35) (ci := 3) (k := 4) (C := RX3) (T := TX3) (N := 10) cell_bc rfl (nN_lt (by decide)) rfl nX3 (by decide) mF_X3_25 rfl dX3_dropOldestState_35 ?_
  refine x_iconst (pc := 38) (3) dX3_dropOldestState_38 (by decide) ?_
  refine x_aload_n (pc := 39) dX3_dropOldestState_39 rfl ?_
  refine t_stHist (pc := 40) 3 _ (by decide) (by first | assumption | omega) (by decide) dX3_dropOldestState_40 ?_
  try dsimp only
  refine x_aload_n (pc := 41) dX3_dropOldestState_41 rfl ?_
  refine x_iconst (pc := 42) (3) dX3_dropOldestState_42 (by decide) ?_
  refine t_putBc (pc := 43) 0 (by decide) rfl rfl mF_X3_36 dX3_dropOldestState_43 ?_
  try dsimp only
  exact x_vret rfl dX3_dropOldestState_46 ⟨rfl, rfl, rfl⟩
set_option maxHeartbeats 4000000 in
set_option maxRecDepth 100000 in
theorem tl_X3_recorded {h' : List Ab} (hH : HR S B h') (hl : h'.length < 4) (hR : RC (S 1) A) (v : Int32) : XJ G YX3_recorded (fun _ => True) (Zx G (Re G (some (.int v)) (fun a : (Nat → Sh) × Bc => a.1) (fun a => a.2) (fun _ => M) (fun a => a.1 0 = S 0 ∧ a.1 3 = S 3 ∧ (∀ k, k ≠ 0 → a.2.1 k = B.1 k) ∧ a.2.2.2 = B.2.2 ∧ HR a.1 a.2 (h' ++ [A]))) 0 0) 16 [(0, .ref (gB G + 0)), (1, .int v)] [] (nN G) (cellOf G S B M) 0 0 := by
  have hb := hH.2.2.1 h'.length hl
  have hb8 := hb.2
  refine x_aload_n (pc := 16) dX3_recorded_16 rfl ?_
  refine x_get (pc := 17) (ci := 3) (k := 4) (C := RX3) (T := TX3) (N := 10) cell_bc rfl (nN_lt (by decide)) rfl nX3 (by decide) mF_X3_25 rfl dX3_recorded_17 ?_
  refine x_aload_n (pc := 20) dX3_recorded_20 rfl ?_
  refine x_get (pc := 21) (ci := 3) (k := 6) (C := RX3) (T := TX3) (N := 10) cell_bc rfl (nN_lt (by decide)) rfl nX3 (by decide) mF_X3_36 rfl dX3_recorded_21 ?_
  try dsimp only
  rw [hH.1]
  refine t_hist (pc := 24) h'.length rfl hl dX3_recorded_24 ?_
  refine x_aload_n (pc := 25) dX3_recorded_25 rfl ?_
  refine x_get (pc := 26) (ci := 3) (k := 1) (C := RX3) (T := TX3) (N := 10) cell_bc rfl (nN_lt (by decide)) rfl nX3 (by decide) mF_X3_16 rfl dX3_recorded_26 ?_
  refine e_Vv (pc := 29) (g_copyFrom (j := B.2.1 h'.length) (j2 := 1) hb8 (by decide) (by omega) hR) qV_X2_copyFrom mL_X3_50 dX3_recorded_29 rfl (cell_sheet' (by first | assumption | omega)) (sB_255 (by first | assumption | omega)) rfl rfl rfl ⟨by decide, by decide⟩ (Nat.le_of_ble_eq_true rfl) (Nat.le_of_ble_eq_true rfl) (Nat.le_of_ble_eq_true rfl) ?_
  intro σ1 R1
  refine x_aload_n (pc := 32) dX3_recorded_32 rfl ?_
  refine x_dup (pc := 33) dX3_recorded_33 rfl ?_
  refine x_get (pc := 34) (ci := 3) (k := 6) (C := RX3) (T := TX3) (N := 10) cell_bc rfl (nN_lt (by decide)) rfl nX3 (by decide) mF_X3_36 rfl dX3_recorded_34 ?_
  try dsimp only
  rw [hH.1]
  refine x_iconst (pc := 37) (1) dX3_recorded_37 (by decide) ?_
  refine x_iadd (pc := 38) dX3_recorded_38 ?_
  refine t_putBc (pc := 39) 0 (by decide) rfl rfl mF_X3_36 dX3_recorded_39 ?_
  try dsimp only
  refine x_iload_n (pc := 42) dX3_recorded_42 rfl ?_
  have e := HR_add hH hl R1
  rw [nI_1]
  exact x_iret rfl dX3_recorded_43 ⟨(_, _), rfl, rfl, rfl, updS_ne _ _ (by omega), updS_ne _ _ (by omega), fun k hk => upd_ne _ _ hk, rfl, e⟩
set_option maxHeartbeats 4000000 in
set_option maxRecDepth 100000 in
theorem c_X3_recorded (hH : HR S B h) (hR : RC (S 1) A) (v : Int32) : Ct G yX3_recorded YX3_recorded 0 0 [.ref (gB G + 0), .int v] (nN G) (cellOf G S B M) (Re G (some (.int v)) (fun a : (Nat → Sh) × Bc => a.1) (fun a => a.2) (fun _ => M) (fun a => a.1 0 = S 0 ∧ a.1 3 = S 3 ∧ (∀ k, k ≠ 0 → a.2.1 k = B.1 k) ∧ a.2.2.2 = B.2.2 ∧ HR a.1 a.2 (if v < 0 then h else pushH h A))) := by
  refine ct_of (by decide +kernel) rfl rfl (Nat.le_of_ble_eq_true rfl) (by simp [Value.category]) ?_
  refine x_sub (l' := [(0, .ref (gB G + 0)), (1, .int v)]) ⟨rfl, rfl, trivial⟩ ?_
  have h4 := hH.2.1
  have hb := hH.2.2.1
  refine x_iload_n (pc := 0) dX3_recorded_0 rfl ?_
  refine x_iflt (pc := 1) 42 dX3_recorded_1 (by decide) (fun c1 => ?_) (fun c1 => ?_)
  · refine x_iload_n (pc := 42) dX3_recorded_42 rfl ?_
    exact x_iret rfl dX3_recorded_43 ⟨(_, _), rfl, rfl, rfl, rfl, rfl, fun _ _ => rfl, rfl, by rw [if_pos c1]; exact hH⟩
  · refine x_aload_n (pc := 4) dX3_recorded_4 rfl ?_
    refine x_get (pc := 5) (ci := 3) (k := 6) (C := RX3) (T := TX3) (N := 10) cell_bc rfl (nN_lt (by decide)) rfl nX3 (by decide) mF_X3_36 rfl dX3_recorded_5 ?_
    try dsimp only
    rw [hH.1]
    refine x_iconst (pc := 8) (4) dX3_recorded_8 (by decide) ?_
    refine x_cmplt (pc := 9) 16 dX3_recorded_9 (by decide) (fun c9 => ?_) (fun c9 => ?_)
    · have hl : h.length < 4 := (lt_lit (n := 4) rfl (by decide) (by omega)).mp c9
      first
      | (have hlt : h.length < 4 := hl
         have e := tl_X3_recorded (G := G) (M := M) hH hlt hR v
         have ep : pushH h A = h ++ [A] := if_neg (by omega)
         rw [← ep, ← if_neg (c := v < 0) (t := h) (e := pushH h A) c1] at e
         exact x_back e ⟨rfl, rfl, trivial⟩)
      | (have e := tl_X3_recorded (G := G) (M := M) (HR_rot hH hl) (by rw [List.length_drop]; omega) hR v
         have ep : pushH h A = h.drop 1 ++ [A] := if_pos hl
         rw [← ep, ← if_neg (c := v < 0) (t := h) (e := pushH h A) c1] at e
         refine x_back (x_post e ?_) ⟨rfl, rfl, trivial⟩
         intro v n cs hh
         obtain ⟨a, q1, q2, q3, q4, q5, q6, q7, q8⟩ := hh
         exact ⟨a, q1, q2, q3, q4, q5, fun k hk => (q6 k hk).trans (upd_ne _ _ hk), q7, q8⟩)
    · have hl : h.length = 4 := by have := mt (lt_lit (n := 4) (x := 4) rfl (by decide) (by omega)).mpr c9; omega
      refine x_aload_n (pc := 12) dX3_recorded_12 rfl ?_
      refine t_Vv (pc := 13) (c_X3_dropOldestState (hb 0 (by decide)).2 (hb 1 (by decide)).2 (hb 2 (by decide)).2 (hb 3 (by decide)).2) qV_X3_dropOldestState mL_X3_138 dX3_recorded_13 rfl cell_bc (nN_lt (by decide)) rfl rfl rfl ⟨by decide, by decide⟩ (Nat.le_of_ble_eq_true rfl) (Nat.le_of_ble_eq_true rfl) (Nat.le_of_ble_eq_true rfl) ?_
      first
      | (have hlt : h.length < 4 := hl
         have e := tl_X3_recorded (G := G) (M := M) hH hlt hR v
         have ep : pushH h A = h ++ [A] := if_neg (by omega)
         rw [← ep, ← if_neg (c := v < 0) (t := h) (e := pushH h A) c1] at e
         exact x_back e ⟨rfl, rfl, trivial⟩)
      | (have e := tl_X3_recorded (G := G) (M := M) (HR_rot hH hl) (by rw [List.length_drop]; omega) hR v
         have ep : pushH h A = h.drop 1 ++ [A] := if_pos hl
         rw [← ep, ← if_neg (c := v < 0) (t := h) (e := pushH h A) c1] at e
         refine x_back (x_post e ?_) ⟨rfl, rfl, trivial⟩
         intro v n cs hh
         obtain ⟨a, q1, q2, q3, q4, q5, q6, q7, q8⟩ := hh
         exact ⟨a, q1, q2, q3, q4, q5, fun k hk => (q6 k hk).trans (upd_ne _ _ hk), q7, q8⟩)
end REC
