/-! rows over the state -/
section TROWS
variable {G : GX} {y : YX} {E : State → Prop} {Z : ZX} {pc : Nat} {l : List (Nat × Value)} {stk : List Value} {n : Nat} {cs : Nat → va_E} {ck sk : Nat}
variable {S : Nat → Sh} {B : Bc} {M : Md} {j i : Nat} {σ : Sh}
theorem nn_narrow (v : Int32) : narrow .int (.int v) = .int v := rfl
theorem in_of {i : Int32} {k N : Nat} (hi : i = nI k) (hk : k < N) (hN : N < 2 ^ 31) : vp_in i N := by rw [hi]; exact vp_in_nI hk hN
theorem cl_of {i : Int32} {k N : Nat} (hi : i = nI k) (hk : k < N) (hN : N < 2 ^ 31) : i.toNatClampNeg = k := by rw [hi]; exact nI_clamp (Nat.lt_trans hk hN)
theorem t_ild {o N : Nat} {f : Fs} {i : Int32} (k : Nat) (hcell : cs o = .inl (gI G, N, .inl f)) (ho : o < n) (hi : i = nI k) (hk : k < N) (hN : N < 2 ^ 31) (hd : decode y.1 pc = .ok (.iaload, 1)) (kk : XJ G y E Z (pc + 1) l (.int (f k) :: stk) n cs ck sk) : XJ G y E Z pc l (.int i :: .ref (gB G + o) :: stk) n cs ck sk :=
  x_iald hcell ho (in_of hi hk hN) hd (by rw [cl_of hi hk hN]; exact kk)
theorem t_cld {o N : Nat} {f : Fs} {i : Int32} (k : Nat) (hcell : cs o = .inl (gC G, N, .inl f)) (ho : o < n) (hi : i = nI k) (hk : k < N) (hN : N < 2 ^ 31) (hd : decode y.1 pc = .ok (.caload, 1)) (kk : XJ G y E Z (pc + 1) l (.int (f k) :: stk) n cs ck sk) : XJ G y E Z pc l (.int i :: .ref (gB G + o) :: stk) n cs ck sk :=
  x_cald hcell ho (in_of hi hk hN) hd (by rw [cl_of hi hk hN]; exact kk)
theorem sB_255 (hj : j < 8) : sB j < nN G := nN_lt (by unfold sB; split <;> omega)
theorem shO_255 (hj : j < 8) (hi : i < 13) : shO j i < nN G := nN_lt (by unfold shO sB; split <;> omega)
theorem egO_255 (hj : j < 8) (hi : i < 13) : egO j i < nN G := nN_lt (by unfold egO sB; split <;> omega)
theorem htO_255 (hj : j < 8) : htO j < nN G := nN_lt (by unfold htO sB; split <;> omega)
theorem stO_255 (hj : j < 8) : stO j < nN G := nN_lt (by unfold stO sB; split <;> omega)
theorem arO_255 (hj : j < 8) : arO j < nN G := nN_lt (by unfold arO sB; split <;> omega)
/-- shapes[k] -/
theorem t_shapes {i : Int32} (k : Nat) (hj : j < 8) (hi : i = nI k) (hk : k < 13) (hd : decode y.1 pc = .ok (.aaload, 1)) (kk : XJ G y E Z (pc + 1) l (.ref (gB G + shO j k) :: stk) (nN G) (cellOf G S B M) ck sk) : XJ G y E Z pc l (.int i :: .ref (gB G + arO j) :: stk) (nN G) (cellOf G S B M) ck sk :=
  x_aaldS (cell_arr hj) (arO_255 hj) (in_of hi hk (by decide)) (by rw [cl_of hi hk (by decide)]) hd kk
/-- history[k] -/
theorem t_hist {i : Int32} (k : Nat) (hi : i = nI k) (hk : k < 4) (hd : decode y.1 pc = .ok (.aaload, 1)) (kk : XJ G y E Z (pc + 1) l (.ref (gB G + sB (B.2.1 k)) :: stk) (nN G) (cellOf G S B M) ck sk) : XJ G y E Z pc l (.int i :: .ref (gB G + 121) :: stk) (nN G) (cellOf G S B M) ck sk :=
  x_aaldT cell_hist (nN_lt (by decide)) (in_of hi hk (by decide)) (by rw [cl_of hi hk (by decide)]) hd kk
theorem fld2 : ∀ k, k < 7 → (TX2 (3 + k)).1 = RX2 ∧ (TX2 (3 + k)).2.2.2 = false ∧ tyX2 (3 + k) = .int := by decide +kernel
theorem t_putSh (hj : j < 8) (k : Nat) (hk : k < 7) {v : Int32} {idx : Nat} (hlink : Cond.fieldLink y.2.2.1 idx RX2 (TX2 (3 + k)).2.1 (TX2 (3 + k)).2.2.1 ∈ WS) (hd : decode y.1 pc = .ok (.putfield idx, 3)) (kk : XJ G y E Z (pc + 3) l stk (nN G) (cellOf G (updS S j (upd σ.1 k v, σ.2)) B M) ck sk) : XJ G y E Z pc l (.int v :: .ref (gB G + sB j) :: stk) (nN G) (cellOf G (updS S j σ) B M) ck sk := by
  obtain ⟨f1, f2, f3⟩ := fld2 k hk
  refine x_put (ci := 2) (k := 3 + k) (C := RX2) (T := TX2) (N := 10) (ty := .int) (cell_sheet hj) (sB_255 hj) rfl nX2 tyX2 tyX2_ok nmX2 (by omega) hlink f1 f2 f3 rfl rfl (by simp; omega) hd _ (set_sh (σ' := (upd σ.1 k v, σ.2)) hj (show 0 < 30 by omega) ?_ ?_) kk
  · match k, hk with
    | 0, _ => rfl
    | 1, _ => rfl
    | 2, _ => rfl
    | 3, _ => rfl
    | 4, _ => rfl
    | 5, _ => rfl
    | 6, _ => rfl
  · intro r' _ h
    unfold shCell
    rw [if_neg h, if_neg h]
def shpF (σ : Sh) (i : Nat) (f : Fs) : Sh := (σ.1, σ.2.1, σ.2.2.1, updF σ.2.2.2.1 i f, σ.2.2.2.2)
def edgF (σ : Sh) (i : Nat) (f : Fs) : Sh := (σ.1, σ.2.1, σ.2.2.1, σ.2.2.2.1, updF σ.2.2.2.2 i f)
theorem fld1 : ∀ k, k < 8 → (TX1 k).1 = RX1 ∧ (TX1 k).2.2.2 = false ∧ tyX1 k = .int := by decide +kernel
theorem t_putShape (hj : j < 8) (hi : i < 13) (k : Nat) (hk : k < 8) {v : Int32} {idx : Nat} (hlink : Cond.fieldLink y.2.2.1 idx RX1 (TX1 k).2.1 (TX1 k).2.2.1 ∈ WS) (hd : decode y.1 pc = .ok (.putfield idx, 3)) (kk : XJ G y E Z (pc + 3) l stk (nN G) (cellOf G (updS S j (shpF σ i (upd (σ.2.2.2.1 i) k v))) B M) ck sk) : XJ G y E Z pc l (.int v :: .ref (gB G + shO j i) :: stk) (nN G) (cellOf G (updS S j σ) B M) ck sk := by
  obtain ⟨f1, f2, f3⟩ := fld1 k hk
  refine x_put (ci := 1) (k := k) (C := RX1) (T := TX1) (N := 9) (ty := .int) (cell_shape hj hi) (shO_255 hj hi) rfl nX1 tyX1 tyX1_ok nmX1 (by omega) hlink f1 f2 f3 rfl rfl (by simp; omega) hd _ (set_sh (σ' := shpF σ i (upd (σ.2.2.2.1 i) k v)) hj (show 2 + 2 * i < 30 by omega) ?_ ?_) kk
  · rw [shCell_shape _ hi]
    simp only [shpF, updF_same]
    match k, hk with
    | 0, _ => rfl
    | 1, _ => rfl
    | 2, _ => rfl
    | 3, _ => rfl
    | 4, _ => rfl
    | 5, _ => rfl
    | 6, _ => rfl
    | 7, _ => rfl
  · intro r' hr' h
    unfold shCell
    by_cases h0 : r' = 0
    · rw [if_pos h0, if_pos h0]; rfl
    by_cases h1 : r' = 1
    · rw [if_neg h0, if_neg h0, if_pos h1, if_pos h1]
    by_cases h28 : r' = 28
    · rw [if_neg h0, if_neg h0, if_neg h1, if_neg h1, if_pos h28, if_pos h28]; rfl
    by_cases h29 : r' = 29
    · rw [if_neg h0, if_neg h0, if_neg h1, if_neg h1, if_neg h28, if_neg h28, if_pos h29, if_pos h29]; rfl
    rw [if_neg h0, if_neg h0, if_neg h1, if_neg h1, if_neg h28, if_neg h28, if_neg h29, if_neg h29]
    by_cases he : r' % 2 = 0
    · rw [if_pos he, if_pos he]
      simp only [shpF, updF_ne _ _ (show r' / 2 - 1 ≠ i by omega)]
    · rw [if_neg he, if_neg he]; rfl
theorem t_stEdge (hj : j < 8) (hi : i < 13) (k : Nat) (hk : k < 12) {ix v : Int32} (hix : ix = nI k) (hd : decode y.1 pc = .ok (.iastore, 1)) (kk : XJ G y E Z (pc + 1) l stk (nN G) (cellOf G (updS S j (edgF σ i (upd (σ.2.2.2.2 i) k v))) B M) ck sk) : XJ G y E Z pc l (.int v :: .int ix :: .ref (gB G + egO j i) :: stk) (nN G) (cellOf G (updS S j σ) B M) ck sk := by
  refine x_iast (cell_edge hj hi) (egO_255 hj hi) (in_of hix hk (by decide)) hd _ (set_sh (σ' := edgF σ i (upd (σ.2.2.2.2 i) k v)) hj (show 3 + 2 * i < 30 by omega) ?_ ?_) kk
  · rw [shCell_edge _ hi, cl_of hix hk (by decide)]
    simp only [edgF, updF_same]
  · intro r' hr' h
    unfold shCell
    by_cases h0 : r' = 0
    · rw [if_pos h0, if_pos h0]; rfl
    by_cases h1 : r' = 1
    · rw [if_neg h0, if_neg h0, if_pos h1, if_pos h1]
    by_cases h28 : r' = 28
    · rw [if_neg h0, if_neg h0, if_neg h1, if_neg h1, if_pos h28, if_pos h28]; rfl
    by_cases h29 : r' = 29
    · rw [if_neg h0, if_neg h0, if_neg h1, if_neg h1, if_neg h28, if_neg h28, if_pos h29, if_pos h29]; rfl
    rw [if_neg h0, if_neg h0, if_neg h1, if_neg h1, if_neg h28, if_neg h28, if_neg h29, if_neg h29]
    by_cases he : r' % 2 = 0
    · rw [if_pos he, if_pos he]; rfl
    · rw [if_neg he, if_neg he]
      simp only [edgF, updF_ne _ _ (show r' / 2 - 1 ≠ i by omega)]
theorem t_stHeats (hj : j < 8) (k : Nat) (hk : k < 12) {ix v : Int32} (hix : ix = nI k) (hd : decode y.1 pc = .ok (.iastore, 1)) (kk : XJ G y E Z (pc + 1) l stk (nN G) (cellOf G (updS S j (σ.1, upd σ.2.1 k v, σ.2.2)) B M) ck sk) : XJ G y E Z pc l (.int v :: .int ix :: .ref (gB G + htO j) :: stk) (nN G) (cellOf G (updS S j σ) B M) ck sk := by
  refine x_iast (cell_heats hj) (htO_255 hj) (in_of hix hk (by decide)) hd _ (set_sh (σ' := (σ.1, upd σ.2.1 k v, σ.2.2)) hj (show 28 < 30 by omega) ?_ ?_) kk
  · rw [cl_of hix hk (by decide)]; rfl
  · intro r' hr' h
    unfold shCell
    by_cases h0 : r' = 0
    · rw [if_pos h0, if_pos h0]
    by_cases h1 : r' = 1
    · rw [if_neg h0, if_neg h0, if_pos h1, if_pos h1]
    rw [if_neg h0, if_neg h0, if_neg h1, if_neg h1, if_neg h, if_neg h]
theorem t_stSets (hj : j < 8) (k : Nat) (hk : k < 4) {ix v : Int32} (hix : ix = nI k) (hd : decode y.1 pc = .ok (.iastore, 1)) (kk : XJ G y E Z (pc + 1) l stk (nN G) (cellOf G (updS S j (σ.1, σ.2.1, upd σ.2.2.1 k v, σ.2.2.2)) B M) ck sk) : XJ G y E Z pc l (.int v :: .int ix :: .ref (gB G + stO j) :: stk) (nN G) (cellOf G (updS S j σ) B M) ck sk := by
  refine x_iast (cell_sets hj) (stO_255 hj) (in_of hix hk (by decide)) hd _ (set_sh (σ' := (σ.1, σ.2.1, upd σ.2.2.1 k v, σ.2.2.2)) hj (show 29 < 30 by omega) ?_ ?_) kk
  · rw [cl_of hix hk (by decide)]; rfl
  · intro r' hr' h
    unfold shCell
    by_cases h0 : r' = 0
    · rw [if_pos h0, if_pos h0]
    by_cases h1 : r' = 1
    · rw [if_neg h0, if_neg h0, if_pos h1, if_pos h1]
    by_cases h28 : r' = 28
    · rw [if_neg h0, if_neg h0, if_neg h1, if_neg h1, if_pos h28, if_pos h28]
    rw [if_neg h0, if_neg h0, if_neg h1, if_neg h1, if_neg h28, if_neg h28, if_neg h, if_neg h]
theorem fld3 : ∀ k, k < 4 → (TX3 (6 + k)).1 = RX3 ∧ (TX3 (6 + k)).2.2.2 = false := by decide +kernel
theorem t_putBc (k : Nat) (hk : k < 4) {v : Int32} {idx : Nat} (hn : narrow (tyX3 (6 + k)) (.int v) = .int v) (hf : fits (tyX3 (6 + k)) (.int v) = true) (hlink : Cond.fieldLink y.2.2.1 idx RX3 (TX3 (6 + k)).2.1 (TX3 (6 + k)).2.2.1 ∈ WS) (hd : decode y.1 pc = .ok (.putfield idx, 3)) (kk : XJ G y E Z (pc + 3) l stk (nN G) (cellOf G S (upd B.1 k v, B.2) M) ck sk) : XJ G y E Z pc l (.int v :: .ref (gB G + 0) :: stk) (nN G) (cellOf G S B M) ck sk := by
  obtain ⟨f1, f2⟩ := fld3 k hk
  refine x_put (ci := 3) (k := 6 + k) (C := RX3) (T := TX3) (N := 10) (ty := tyX3 (6 + k)) cell_bc (nN_lt (by decide)) rfl nX3 tyX3 tyX3_ok nmX3 (by omega) hlink f1 f2 rfl hn hf (by simp; omega) hd _ ?_ kk
  intro o' ho'
  by_cases h : o' = 0
  · subst h
    rw [if_pos rfl]
    match k, hk with
    | 0, _ => rfl
    | 1, _ => rfl
    | 2, _ => rfl
    | 3, _ => rfl
  · rw [if_neg h]
    simp only [cellOf, if_neg h]
    rfl
theorem fld0 : ∀ k, k < 3 → (TX0 (4 + k)).1 = RX0 ∧ (TX0 (4 + k)).2.2.2 = false ∧ tyX0 (4 + k) = .int := by decide +kernel
theorem t_putPlan (k : Nat) (hk : k < 3) {v : Int32} {idx : Nat} (hlink : Cond.fieldLink y.2.2.1 idx RX0 (TX0 (4 + k)).2.1 (TX0 (4 + k)).2.2.1 ∈ WS) (hd : decode y.1 pc = .ok (.putfield idx, 3)) (kk : XJ G y E Z (pc + 3) l stk (nN G) (cellOf G S (B.1, B.2.1, upd B.2.2.1 k v, B.2.2.2) M) ck sk) : XJ G y E Z pc l (.int v :: .ref (gB G + 242) :: stk) (nN G) (cellOf G S B M) ck sk := by
  obtain ⟨f1, f2, f3⟩ := fld0 k hk
  refine x_put (ci := 0) (k := 4 + k) (C := RX0) (T := TX0) (N := 7) (ty := .int) cell_plan (nN_lt (by decide)) rfl nX0 tyX0 tyX0_ok nmX0 (by omega) hlink f1 f2 f3 rfl rfl (by simp; omega) hd _ ?_ kk
  intro o' ho'
  by_cases h : o' = 242
  · subst h
    rw [if_pos rfl]
    match k, hk with
    | 0, _ => rfl
    | 1, _ => rfl
    | 2, _ => rfl
  · rw [if_neg h]
    simp only [cellOf, if_neg h]
    rfl
theorem t_stHist (k jj : Nat) (hk : k < 4) (hjj : jj < 8) {ix : Int32} (hix : ix = nI k) (hd : decode y.1 pc = .ok (.aastore, 1)) (kk : XJ G y E Z (pc + 1) l stk (nN G) (cellOf G S (B.1, updN B.2.1 k jj, B.2.2) M) ck sk) : XJ G y E Z pc l (.ref (gB G + sB jj) :: .int ix :: .ref (gB G + 121) :: stk) (nN G) (cellOf G S B M) ck sk := by
  refine x_aast (C := "BeamCuts$Sheet") (fun s h => (h.1.2 3 _ rfl).2) cell_hist (nN_lt (by decide)) (cell_sheet' hjj) (sB_255 hjj) (ci := 2) rfl (in_of hix hk (by decide)) hd _ ?_ kk
  intro o' ho'
  by_cases h : o' = 121
  · subst h
    rw [if_pos rfl, cl_of hix hk (by decide)]
    have e : (fun q => some (gB G + sB (updN B.2.1 k jj q))) = va_up (fun q => some (gB G + sB (B.2.1 q))) k (some (gB G + sB jj)) := by
      funext q
      by_cases hq : q = k
      · subst hq; simp [va_up, updN]
      · simp [va_up, updN, hq]
    rw [← e]
    rfl
  · rw [if_neg h]
    simp only [cellOf, if_neg h]
    rfl
theorem t_stLetters (k : Nat) (hk : k < 60) {ix v : Int32} (hix : ix = nI k) (hv : narrow .char (.int v) = .int v) (hd : decode y.1 pc = .ok (.castore, 1)) (kk : XJ G y E Z (pc + 1) l stk (nN G) (cellOf G S (B.1, B.2.1, B.2.2.1, upd B.2.2.2.1 k v, B.2.2.2.2) M) ck sk) : XJ G y E Z pc l (.int v :: .int ix :: .ref (gB G + 243) :: stk) (nN G) (cellOf G S B M) ck sk := by
  refine x_cast cell_letters (nN_lt (by decide)) (in_of hix hk (by decide)) hv hd _ ?_ kk
  intro o' ho'
  by_cases h : o' = 243
  · subst h
    rw [if_pos rfl, cl_of hix hk (by decide)]; rfl
  · rw [if_neg h]
    simp only [cellOf, if_neg h]
    rfl
theorem t_stKinds (k : Nat) (hk : k < 30) {ix v : Int32} (hix : ix = nI k) (hd : decode y.1 pc = .ok (.iastore, 1)) (kk : XJ G y E Z (pc + 1) l stk (nN G) (cellOf G S (B.1, B.2.1, B.2.2.1, B.2.2.2.1, upd B.2.2.2.2.1 k v, B.2.2.2.2.2) M) ck sk) : XJ G y E Z pc l (.int v :: .int ix :: .ref (gB G + 244) :: stk) (nN G) (cellOf G S B M) ck sk := by
  refine x_iast cell_kinds (nN_lt (by decide)) (in_of hix hk (by decide)) hd _ ?_ kk
  intro o' ho'
  by_cases h : o' = 244
  · subst h
    rw [if_pos rfl, cl_of hix hk (by decide)]; rfl
  · rw [if_neg h]
    simp only [cellOf, if_neg h]
    rfl
theorem t_stFirsts (k : Nat) (hk : k < 30) {ix v : Int32} (hix : ix = nI k) (hd : decode y.1 pc = .ok (.iastore, 1)) (kk : XJ G y E Z (pc + 1) l stk (nN G) (cellOf G S (B.1, B.2.1, B.2.2.1, B.2.2.2.1, B.2.2.2.2.1, upd B.2.2.2.2.2.1 k v, B.2.2.2.2.2.2) M) ck sk) : XJ G y E Z pc l (.int v :: .int ix :: .ref (gB G + 245) :: stk) (nN G) (cellOf G S B M) ck sk := by
  refine x_iast cell_firsts (nN_lt (by decide)) (in_of hix hk (by decide)) hd _ ?_ kk
  intro o' ho'
  by_cases h : o' = 245
  · subst h
    rw [if_pos rfl, cl_of hix hk (by decide)]; rfl
  · rw [if_neg h]
    simp only [cellOf, if_neg h]
    rfl
theorem t_stSeconds (k : Nat) (hk : k < 30) {ix v : Int32} (hix : ix = nI k) (hd : decode y.1 pc = .ok (.iastore, 1)) (kk : XJ G y E Z (pc + 1) l stk (nN G) (cellOf G S (B.1, B.2.1, B.2.2.1, B.2.2.2.1, B.2.2.2.2.1, B.2.2.2.2.2.1, upd B.2.2.2.2.2.2 k v) M) ck sk) : XJ G y E Z pc l (.int v :: .int ix :: .ref (gB G + 246) :: stk) (nN G) (cellOf G S B M) ck sk := by
  refine x_iast cell_seconds (nN_lt (by decide)) (in_of hix hk (by decide)) hd _ ?_ kk
  intro o' ho'
  by_cases h : o' = 246
  · subst h
    rw [if_pos rfl, cl_of hix hk (by decide)]; rfl
  · rw [if_neg h]
    simp only [cellOf, if_neg h]
    rfl
/-- what a method of the state answers -/
abbrev Rt (G : GX) (v : Option Value) (S : Nat → Sh) (B : Bc) (M : Md) : Option Value → Nat → (Nat → va_E) → Prop := fun w n cs => w = v ∧ n = (nN G) ∧ cs = cellOf G S B M
abbrev Cs (G : GX) (ynm : MethodName) (yc : YX) (As : List Value) (S : Nat → Sh) (B : Bc) (M : Md) (v : Option Value) (S' : Nat → Sh) (B' : Bc) (M' : Md) : Prop := Ct G ynm yc 0 0 As (nN G) (cellOf G S B M) (Rt G v S' B' M')
end TROWS
