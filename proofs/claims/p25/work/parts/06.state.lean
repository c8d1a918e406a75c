/-! the state of class and reference, as rows of numbers, and the heap that it is -/
abbrev Fs : Type := Nat → Int32
/-- a sheet: its ints (told, column, row, dirt, ticks, burningTicks, cuts), heats, settings, its shapes' ints, their edges -/
abbrev Sh : Type := Fs × Fs × Fs × (Nat → Fs) × (Nat → Fs)
/-- the class: its ints (states, hasSnapshot, stopNumber, stopError), history, the plan's ints (length, size, at), letters, kinds, firsts, seconds -/
abbrev Bc : Type := Fs × (Nat → Nat) × Fs × Fs × Fs × Fs × Fs
/-- the cells behind the object's -/
abbrev Md : Type := Nat → va_E
def sB (j : Nat) : Nat := if j < 4 then 1 + 30 * j else 2 + 30 * j
def arO (j : Nat) : Nat := sB j + 1
def htO (j : Nat) : Nat := sB j + 28
def stO (j : Nat) : Nat := sB j + 29
def shO (j i : Nat) : Nat := sB j + (2 + 2 * i)
def egO (j i : Nat) : Nat := sB j + (3 + 2 * i)
def updS (S : Nat → Sh) (j : Nat) (σ : Sh) : Nat → Sh := fun k => if k = j then σ else S k
def updF (f : Nat → Fs) (i : Nat) (g : Fs) : Nat → Fs := fun k => if k = i then g else f k
def updN (f : Nat → Nat) (i : Nat) (v : Nat) : Nat → Nat := fun k => if k = i then v else f k
theorem updS_same (S : Nat → Sh) (j : Nat) (σ : Sh) : updS S j σ j = σ := by simp [updS]
theorem updS_ne (S : Nat → Sh) {j k : Nat} (σ : Sh) (h : k ≠ j) : updS S j σ k = S k := by simp [updS, h]
theorem updS_upd (S : Nat → Sh) (j : Nat) (σ τ : Sh) : updS (updS S j σ) j τ = updS S j τ := by
  funext k
  by_cases h : k = j <;> simp [updS, h]
theorem updS_self (S : Nat → Sh) (j : Nat) : updS S j (S j) = S := by
  funext k
  by_cases h : k = j
  · subst h; simp [updS]
  · simp [updS, h]
theorem updF_same (f : Nat → Fs) (i : Nat) (g : Fs) : updF f i g i = g := by simp [updF]
theorem updF_ne (f : Nat → Fs) {i k : Nat} (g : Fs) (h : k ≠ i) : updF f i g k = f k := by simp [updF, h]
theorem updF_upd (f : Nat → Fs) (i : Nat) (g h : Fs) : updF (updF f i g) i h = updF f i h := by
  funext k
  by_cases e : k = i <;> simp [updF, e]
theorem updF_self (f : Nat → Fs) (i : Nat) : updF f i (f i) = f := by
  funext k
  by_cases h : k = i
  · subst h; simp [updF]
  · simp [updF, h]
theorem upd_same (f : Fs) (k : Nat) (x : Int32) : upd f k x k = x := by simp [upd]
theorem upd_ne (f : Fs) {k j : Nat} (x : Int32) (h : j ≠ k) : upd f k x j = f j := by simp [upd, h]
def shCell (G : GX) (j : Nat) (σ : Sh) (r : Nat) : va_E :=
  if r = 0 then .inr (2, [.ref (gB G + arO j), .ref (gB G + htO j), .ref (gB G + stO j), .int (σ.1 0), .int (σ.1 1), .int (σ.1 2), .int (σ.1 3), .int (σ.1 4), .int (σ.1 5), .int (σ.1 6)])
  else if r = 1 then .inl (gS G, 13, .inr (.inr (.inr (.inr (fun i => some (gB G + shO j i))))))
  else if r = 28 then .inl (gI G, 12, .inl σ.2.1)
  else if r = 29 then .inl (gI G, 4, .inl σ.2.2.1)
  else if r % 2 = 0 then .inr (1, [.int (σ.2.2.2.1 (r / 2 - 1) 0), .int (σ.2.2.2.1 (r / 2 - 1) 1), .int (σ.2.2.2.1 (r / 2 - 1) 2), .int (σ.2.2.2.1 (r / 2 - 1) 3), .int (σ.2.2.2.1 (r / 2 - 1) 4), .int (σ.2.2.2.1 (r / 2 - 1) 5), .int (σ.2.2.2.1 (r / 2 - 1) 6), .int (σ.2.2.2.1 (r / 2 - 1) 7), .ref (gB G + egO j (r / 2 - 1))])
  else .inl (gI G, 12, .inl (σ.2.2.2.2 (r / 2 - 1)))
def bcCell (G : GX) (B : Bc) : va_E := .inr (3, [.ref (gB G + sB 0), .ref (gB G + sB 1), .ref (gB G + sB 2), .ref (gB G + sB 3), .ref (gB G + 121), .ref (gB G + 242), .int (B.1 0), .int (B.1 1), .int (B.1 2), .int (B.1 3)])
def plCell (G : GX) (B : Bc) : va_E := .inr (0, [.ref (gB G + 243), .ref (gB G + 244), .ref (gB G + 245), .ref (gB G + 246), .int (B.2.2.1 0), .int (B.2.2.1 1), .int (B.2.2.1 2)])
def cellOf (G : GX) (S : Nat → Sh) (B : Bc) (M : Md) (o : Nat) : va_E :=
  if o = 0 then bcCell G B
  else if o < 121 then shCell G ((o - 1) / 30) (S ((o - 1) / 30)) ((o - 1) % 30)
  else if o = 121 then .inl (gT G, 4, .inr (.inr (.inr (.inr (fun k => some (gB G + sB (B.2.1 k)))))))
  else if o < 242 then shCell G ((o - 2) / 30) (S ((o - 2) / 30)) ((o - 2) % 30)
  else if o = 242 then plCell G B
  else if o = 243 then .inl (gC G, 60, .inl B.2.2.2.1)
  else if o = 244 then .inl (gI G, 30, .inl B.2.2.2.2.1)
  else if o = 245 then .inl (gI G, 30, .inl B.2.2.2.2.2.1)
  else if o = 246 then .inl (gI G, 30, .inl B.2.2.2.2.2.2)
  else M o
section CELLS
variable {G : GX} {S : Nat → Sh} {B : Bc} {M : Md} {j i r : Nat} {σ : Sh}
theorem sB_lt (hj : j < 8) (hr : r < 30) : sB j + r < 242 := by unfold sB; split <;> omega
theorem cell_sh (hj : j < 8) (hr : r < 30) : cellOf G S B M (sB j + r) = shCell G j (S j) r := by
  unfold cellOf sB
  by_cases h : j < 4
  · rw [if_pos h, if_neg (by omega), if_pos (by omega)]
    have h1 : (1 + 30 * j + r - 1) / 30 = j := by omega
    have h2 : (1 + 30 * j + r - 1) % 30 = r := by omega
    rw [h1, h2]
  · rw [if_neg h, if_neg (by omega), if_neg (by omega), if_neg (by omega), if_pos (by omega)]
    have h1 : (2 + 30 * j + r - 2) / 30 = j := by omega
    have h2 : (2 + 30 * j + r - 2) % 30 = r := by omega
    rw [h1, h2]
theorem cell_sheet (hj : j < 8) : cellOf G (updS S j σ) B M (sB j) = .inr (2, [.ref (gB G + arO j), .ref (gB G + htO j), .ref (gB G + stO j), .int (σ.1 0), .int (σ.1 1), .int (σ.1 2), .int (σ.1 3), .int (σ.1 4), .int (σ.1 5), .int (σ.1 6)]) := by
  rw [show sB j = sB j + 0 from rfl, cell_sh hj (by omega), updS_same]; rfl
theorem cell_sheet' (hj : j < 8) : cellOf G S B M (sB j) = .inr (2, [.ref (gB G + arO j), .ref (gB G + htO j), .ref (gB G + stO j), .int ((S j).1 0), .int ((S j).1 1), .int ((S j).1 2), .int ((S j).1 3), .int ((S j).1 4), .int ((S j).1 5), .int ((S j).1 6)]) := by
  rw [show sB j = sB j + 0 from rfl, cell_sh hj (by omega)]; rfl
theorem cell_arr (hj : j < 8) : cellOf G S B M (arO j) = .inl (gS G, 13, .inr (.inr (.inr (.inr (fun i => some (gB G + shO j i)))))) := by
  unfold arO; rw [cell_sh hj (by omega)]; rfl
theorem cell_heats (hj : j < 8) : cellOf G (updS S j σ) B M (htO j) = .inl (gI G, 12, .inl σ.2.1) := by
  unfold htO; rw [cell_sh hj (by omega), updS_same]; rfl
theorem cell_sets (hj : j < 8) : cellOf G (updS S j σ) B M (stO j) = .inl (gI G, 4, .inl σ.2.2.1) := by
  unfold stO; rw [cell_sh hj (by omega), updS_same]; rfl
theorem shCell_shape (σ : Sh) (hi : i < 13) : shCell G j σ (2 + 2 * i) = .inr (1, [.int (σ.2.2.2.1 i 0), .int (σ.2.2.2.1 i 1), .int (σ.2.2.2.1 i 2), .int (σ.2.2.2.1 i 3), .int (σ.2.2.2.1 i 4), .int (σ.2.2.2.1 i 5), .int (σ.2.2.2.1 i 6), .int (σ.2.2.2.1 i 7), .ref (gB G + egO j i)]) := by
  unfold shCell
  rw [if_neg (by omega), if_neg (by omega), if_neg (by omega), if_neg (by omega), if_pos (by omega)]
  have h1 : (2 + 2 * i) / 2 - 1 = i := by omega
  rw [h1]
theorem shCell_edge (σ : Sh) (hi : i < 13) : shCell G j σ (3 + 2 * i) = .inl (gI G, 12, .inl (σ.2.2.2.2 i)) := by
  unfold shCell
  rw [if_neg (by omega), if_neg (by omega), if_neg (by omega), if_neg (by omega), if_neg (by omega)]
  have h1 : (3 + 2 * i) / 2 - 1 = i := by omega
  rw [h1]
theorem cell_shape (hj : j < 8) (hi : i < 13) : cellOf G (updS S j σ) B M (shO j i) = .inr (1, [.int (σ.2.2.2.1 i 0), .int (σ.2.2.2.1 i 1), .int (σ.2.2.2.1 i 2), .int (σ.2.2.2.1 i 3), .int (σ.2.2.2.1 i 4), .int (σ.2.2.2.1 i 5), .int (σ.2.2.2.1 i 6), .int (σ.2.2.2.1 i 7), .ref (gB G + egO j i)]) := by
  unfold shO; rw [cell_sh hj (by omega), updS_same, shCell_shape σ hi]
theorem cell_edge (hj : j < 8) (hi : i < 13) : cellOf G (updS S j σ) B M (egO j i) = .inl (gI G, 12, .inl (σ.2.2.2.2 i)) := by
  unfold egO; rw [cell_sh hj (by omega), updS_same, shCell_edge σ hi]
theorem cell_heats' (hj : j < 8) : cellOf G S B M (htO j) = .inl (gI G, 12, .inl (S j).2.1) := by
  unfold htO; rw [cell_sh hj (by omega)]; rfl
theorem cell_sets' (hj : j < 8) : cellOf G S B M (stO j) = .inl (gI G, 4, .inl (S j).2.2.1) := by
  unfold stO; rw [cell_sh hj (by omega)]; rfl
theorem cell_shape' (hj : j < 8) (hi : i < 13) : cellOf G S B M (shO j i) = .inr (1, [.int ((S j).2.2.2.1 i 0), .int ((S j).2.2.2.1 i 1), .int ((S j).2.2.2.1 i 2), .int ((S j).2.2.2.1 i 3), .int ((S j).2.2.2.1 i 4), .int ((S j).2.2.2.1 i 5), .int ((S j).2.2.2.1 i 6), .int ((S j).2.2.2.1 i 7), .ref (gB G + egO j i)]) := by
  unfold shO; rw [cell_sh hj (by omega), shCell_shape _ hi]
theorem cell_edge' (hj : j < 8) (hi : i < 13) : cellOf G S B M (egO j i) = .inl (gI G, 12, .inl ((S j).2.2.2.2 i)) := by
  unfold egO; rw [cell_sh hj (by omega), shCell_edge _ hi]
theorem cell_bc : cellOf G S B M 0 = .inr (3, [.ref (gB G + sB 0), .ref (gB G + sB 1), .ref (gB G + sB 2), .ref (gB G + sB 3), .ref (gB G + 121), .ref (gB G + 242), .int (B.1 0), .int (B.1 1), .int (B.1 2), .int (B.1 3)]) := rfl
theorem cell_hist : cellOf G S B M 121 = .inl (gT G, 4, .inr (.inr (.inr (.inr (fun k => some (gB G + sB (B.2.1 k))))))) := rfl
theorem cell_plan : cellOf G S B M 242 = .inr (0, [.ref (gB G + 243), .ref (gB G + 244), .ref (gB G + 245), .ref (gB G + 246), .int (B.2.2.1 0), .int (B.2.2.1 1), .int (B.2.2.1 2)]) := rfl
theorem cell_letters : cellOf G S B M 243 = .inl (gC G, 60, .inl B.2.2.2.1) := rfl
theorem cell_kinds : cellOf G S B M 244 = .inl (gI G, 30, .inl B.2.2.2.2.1) := rfl
theorem cell_firsts : cellOf G S B M 245 = .inl (gI G, 30, .inl B.2.2.2.2.2.1) := rfl
theorem cell_seconds : cellOf G S B M 246 = .inl (gI G, 30, .inl B.2.2.2.2.2.2) := rfl
/-- a cell of a sheet is written -/
theorem set_sh (hj : j < 8) (hr : r < 30) {σ' : Sh} {e' : va_E} (h1 : shCell G j σ' r = e') (h2 : ∀ r', r' < 30 → r' ≠ r → shCell G j σ' r' = shCell G j σ r') : ∀ o', o' < (nN G) → cellOf G (updS S j σ') B M o' = if o' = sB j + r then e' else cellOf G (updS S j σ) B M o' := by
  intro o' ho'
  have key : ∀ j' r', j' < 8 → r' < 30 → o' = sB j' + r' → cellOf G (updS S j σ') B M o' = if o' = sB j + r then e' else cellOf G (updS S j σ) B M o' := by
    intro j' r' hj' hr' e
    subst e
    rw [cell_sh hj' hr', cell_sh hj' hr']
    by_cases hjj : j' = j
    · subst hjj
      rw [updS_same, updS_same]
      by_cases hrr : r' = r
      · subst hrr; rw [if_pos rfl, h1]
      · rw [if_neg (by omega), h2 r' hr' hrr]
    · rw [updS_ne S _ hjj, updS_ne S _ hjj, if_neg]
      unfold sB
      split <;> split <;> omega
  by_cases a : o' = 0
  · subst a
    rw [if_neg (by unfold sB; split <;> omega)]; rfl
  by_cases b : o' < 121
  · exact key ((o' - 1) / 30) ((o' - 1) % 30) (by omega) (by omega) (by unfold sB; rw [if_pos (by omega)]; omega)
  by_cases c : o' = 121
  · subst c
    rw [if_neg (by unfold sB; split <;> omega)]; rfl
  by_cases d : o' < 242
  · exact key ((o' - 2) / 30) ((o' - 2) % 30) (by omega) (by omega) (by unfold sB; rw [if_neg (by omega)]; omega)
  rw [if_neg (by unfold sB; split <;> omega)]
  unfold cellOf
  rw [if_neg a, if_neg b, if_neg c, if_neg d, if_neg a, if_neg b, if_neg c, if_neg d]
end CELLS
