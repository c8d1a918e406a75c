/-! what both sides compute, over one value: shapes told, ints, heats, settings, shapes' ints -/
abbrev Ab : Type := Nat × Fs × Fs × Fs × (Nat → Fs)
def RC (σ : Sh) (A : Ab) : Prop := A.1 ≤ 12 ∧ σ.1 0 = nI A.1 ∧ (∀ k, 1 ≤ k → k < 7 → σ.1 k = A.2.1 k) ∧ (∀ k, k < 12 → σ.2.1 k = A.2.2.1 k) ∧ (∀ k, k < 4 → σ.2.2.1 k = A.2.2.2.1 k) ∧ (∀ i, i < A.1 → ∀ k, k < 8 → σ.2.2.2.1 i k = A.2.2.2.2 i k) ∧ (∀ i, i < A.1 → ∀ k, k < 12 → σ.2.2.2.2 i k = edgQ (A.2.2.2.2 i) k)
def hotN (H : Fs) : Nat → Nat
  | 0 => 0
  | k + 1 => if H (hotN H k) < H k then k else hotN H k
theorem hotN_lt (H : Fs) : ∀ k, hotN H k < 12 ∨ 12 < k
  | 0 => Or.inl (show 0 < 12 by decide)
  | k + 1 => by
    simp only [hotN]
    rcases hotN_lt H k with h | h
    · split
      · by_cases hk : k < 12
        · exact Or.inl hk
        · exact Or.inr (by omega)
      · exact Or.inl h
    · exact Or.inr (by omega)
def grV (A : Ab) : Int32 := A.2.2.1 (hotN A.2.2.1 12)
def sumN (H : Fs) : Nat → Int32
  | 0 => 0
  | k + 1 => sumN H k + H k
def hmx (e H : Fs) : Nat → Int32
  | 0 => 0
  | k + 1 => if 0 < e k then imx (hmx e H k) (H k) else hmx e H k
def cntN (P : Nat → Fs) (v : Int32) : Nat → Int32
  | 0 => 0
  | k + 1 => if P k 5 = v then cntN P v k + 1 else cntN P v k
def tilN (P : Nat → Fs) : Nat → Int32
  | 0 => 0
  | k + 1 => tilN P k + P k 6
def outO (P : Nat → Fs) (f : Fs) : Nat → Option Nat
  | 0 => none
  | k + 1 => if insB f (P k) && (match outO P f k with | none => true | some q => insB (P k) (P q)) then some k else outO P f k
def oV : Option Nat → Int32
  | none => -5
  | some k => nI k
def setN (P : Nat → Fs) (f : Fs) : Nat → Int32
  | 0 => 0
  | k + 1 => if insB (P k) f then setN P f k ||| ((1 : Int32) <<< (nI k &&& 31)) else setN P f k
def hoB (P : Nat → Fs) (f : Fs) : Nat → Bool
  | 0 => false
  | k + 1 => hoB P f k || (decide (P k 5 = 0) && insB (P k) f)
def okB (f g : Fs) : Bool := if insB f g || insB g f then decide (g 5 = 0) else apaB f g
def fitB (P : Nat → Fs) (f : Fs) : Nat → Bool
  | 0 => true
  | k + 1 => fitB P f k && okB f (P k)
def wayV (A : Ab) (i : Nat) : Int32 := iab (lcV (A.2.2.2.2 i) - A.2.1 1) + iab (lrV (A.2.2.2.2 i) - A.2.1 2)
def burV (A : Ab) (i : Nat) : Int32 := edgV (A.2.2.2.2 i) * (2 + A.2.1 3 / 4)
def hovV (A : Ab) (i : Nat) : Int32 := hmx (edgQ (A.2.2.2.2 i)) A.2.2.1 12 - A.2.2.2.1 2
def whyV (A : Ab) (i : Nat) : Int32 := if A.2.2.2.2 i 5 = 1 then 1 else if A.2.2.2.2 i 5 = 2 then 2 else if A.2.2.2.1 3 = 1 ∧ hoB A.2.2.2.2 (A.2.2.2.2 i) A.1 = true then 3 else if wayV A i * A.2.2.2.1 1 < hovV A i then 4 else 0
def tcV (A : Ab) (i : Nat) : Int32 := if A.2.2.2.2 i 5 = 0 then wayV A i + burV A i else -4
def kcV (A : Ab) (i : Nat) : Int32 := if whyV A i = 0 then 0 else if whyV A i = 4 then (if 0 < A.2.2.2.1 1 then (hovV A i + A.2.2.2.1 1 - 1) / A.2.2.2.1 1 - wayV A i else -5) else -4
def knB (A : Ab) (v : Int32) : Bool := !decide (v < 0) && decide (v < nI A.1) && decide (v < 12)
def besO (A : Ab) : Nat → Option Nat
  | 0 => none
  | k + 1 => if whyV A k = 0 then (match besO A k with | none => some k | some q => if tcV A k < tcV A q then some k else some q) else besO A k
def fewV (A : Ab) : Nat → Int32
  | 0 => -5
  | k + 1 => if kcV A k < 0 then fewV A k else if fewV A k = -5 then kcV A k else if kcV A k < fewV A k then kcV A k else fewV A k
def coolA (A : Ab) (x : Int32) : Ab := (A.1, upd A.2.1 4 (A.2.1 4 + x), fun k => imx (A.2.2.1 k - x * A.2.2.2.1 1) 0, A.2.2.2)
def burnA (A : Ab) (i : Nat) : Ab := (A.1, upd (upd (upd A.2.1 4 (A.2.1 4 + burV A i)) 5 (A.2.1 5 + burV A i)) 3 (A.2.1 3 + 1), fun k => A.2.2.1 k + edgQ (A.2.2.2.2 i) k, A.2.2.2)
def goA (A : Ab) (i : Nat) : Ab := (A.1, upd (upd A.2.1 1 (lcV (A.2.2.2.2 i))) 2 (lrV (A.2.2.2.2 i)), A.2.2)
def losP (P : Nat → Fs) (f : Fs) (k : Nat) : Nat → Fs := fun q => if q < k ∧ P q 5 = 0 ∧ insB (P q) f = true then upd (P q) 5 2 else P q
def losN (P : Nat → Fs) (f : Fs) : Nat → Int32
  | 0 => 0
  | k + 1 => if P k 5 = 0 ∧ insB (P k) f = true then losN P f k + 1 else losN P f k
def hinV (H : Fs) (v : Int32) : Int32 := if betw v 0 11 then H v.toNatClampNeg else -1
/-- behind the burning: it is cut, it has its rank, it tilted or not -/
def markA (A : Ab) (i : Nat) : Ab := (A.1, upd A.2.1 6 (A.2.1 6 + 1), A.2.2.1, A.2.2.2.1, updF A.2.2.2.2 i (upd (upd (upd (A.2.2.2.2 i) 5 1) 7 (A.2.1 6)) 6 (if hinV A.2.2.1 (lsV (A.2.2.2.2 i)) = grV A then 1 else 0)))
def preA (A : Ab) (i : Nat) : Ab := markA (burnA (goA (coolA A (wayV A i)) i) i) i
def losA (A : Ab) (i : Nat) : Ab := (A.1, A.2.1, A.2.2.1, A.2.2.2.1, losP A.2.2.2.2 (A.2.2.2.2 i) A.1)
def cutA (A : Ab) (i : Nat) : Ab := losA (preA A i) i
def cutN (A : Ab) (i : Nat) : Int32 := losN (preA A i).2.2.2.2 ((preA A i).2.2.2.2 i) A.1
/-- the acts, with any argument: what comes back, what stands then -/
def cutX (A : Ab) (v : Int32) : Int32 × Ab := if knB A v then (if whyV A v.toNatClampNeg = 0 then (cutN A v.toNatClampNeg, cutA A v.toNatClampNeg) else (-10 - whyV A v.toNatClampNeg, A)) else (-1, A)
def leadX (A : Ab) (v c : Int32) : Int32 × Ab := if knB A v && betw c 0 3 then (if A.2.2.2.2 v.toNatClampNeg 5 = 0 then (if A.2.2.2.2 v.toNatClampNeg 4 = c then (-5, A) else (A.2.2.2.2 v.toNatClampNeg 4, (A.1, A.2.1, A.2.2.1, A.2.2.2.1, updF A.2.2.2.2 v.toNatClampNeg (upd (A.2.2.2.2 v.toNatClampNeg) 4 c)))) else (-4, A)) else (-1, A)
def setX (A : Ab) (w v : Int32) : Int32 × Ab := if betw w 0 3 then (if betw v (leastF w.toNatClampNeg) (greatF w.toNatClampNeg) then (if A.2.2.2.1 w.toNatClampNeg = v then (-5, A) else (A.2.2.2.1 w.toNatClampNeg, (A.1, A.2.1, A.2.2.1, upd A.2.2.2.1 w.toNatClampNeg v, A.2.2.2.2))) else (-2, A)) else (-1, A)
def waitX (A : Ab) (v : Int32) : Int32 × Ab := if betw v 1 999 then (grV (coolA A v), coolA A v) else (-2, A)
def cleanX (A : Ab) : Int32 × Ab := if A.2.1 3 = 0 then (-5, A) else (A.2.1 3, ((coolA A (A.2.2.2.1 0)).1, upd (coolA A (A.2.2.2.1 0)).2.1 3 0, (coolA A (A.2.2.2.1 0)).2.2))
def plF (f : Fs) (c r w h : Int32) : Fs := upd (upd (upd (upd (upd (upd (upd (upd f 0 c) 1 r) 2 w) 3 h) 4 0) 5 0) 6 0) 7 (-5)
def badB (c r w h : Int32) : Bool := !(betw c 0 31 && betw r 0 23 && betw w 2 32 && betw h 2 24 && !decide (32 < c + w) && !decide (24 < r + h))
def tellX (A : Ab) (c r w h : Int32) : Int32 × Ab := if badB c r w h then (-2, A) else if fitB A.2.2.2.2 (plF (fun _ => 0) c r w h) A.1 then (if A.1 < 12 then (nI A.1, (A.1 + 1, A.2.1, A.2.2.1, A.2.2.2.1, updF A.2.2.2.2 A.1 (plF (fun _ => 0) c r w h))) else (-3, A)) else (-4, A)
/-- one step of the order -/
def nextX (A : Ab) : Option Nat × Ab := match besO A A.1 with
  | some k => (some k, cutA A k)
  | none => if fewV A A.1 = -5 then (none, A) else (match besO (coolA A (fewV A A.1)) A.1 with
    | some k => (some k, cutA (coolA A (fewV A A.1)) k)
    | none => (none, coolA A (fewV A A.1)))
def factX (A : Ab) (v w : Int32) : Int32 := if knB A v then (if betw w 0 5 then A.2.2.2.2 v.toNatClampNeg w.toNatClampNeg else if w = 6 then oV (outO A.2.2.2.2 (A.2.2.2.2 v.toNatClampNeg) A.1) else if w = 7 then setN A.2.2.2.2 (A.2.2.2.2 v.toNatClampNeg) A.1 else if w = 8 then edgV (A.2.2.2.2 v.toNatClampNeg) else if w = 9 then A.2.2.2.2 v.toNatClampNeg 6 else if w = 10 then A.2.2.2.2 v.toNatClampNeg 7 else -2) else -1
def sheetX (A : Ab) (w : Int32) : Int32 := if w = 0 then nI A.1 else if w = 1 then cntN A.2.2.2.2 0 A.1 else if w = 2 then cntN A.2.2.2.2 1 A.1 else if w = 3 then cntN A.2.2.2.2 2 A.1 else if w = 4 then tilN A.2.2.2.2 A.1 else if w = 5 then A.2.1 3 else if w = 6 then A.2.1 1 else if w = 7 then A.2.1 2 else if w = 8 then A.2.1 4 else if w = 9 then A.2.1 5 else if w = 10 then grV A else if w = 11 then nI (hotN A.2.2.1 12) else if w = 12 then sumN A.2.2.1 12 else if w = 13 then A.2.2.2.1 0 else if w = 14 then A.2.2.2.1 1 else if w = 15 then A.2.2.2.1 2 else if w = 16 then A.2.2.2.1 3 else -2
/-! helpers -/
theorem RC.le {σ : Sh} {A : Ab} (h : RC σ A) : A.1 ≤ 12 := h.1
theorem RC.told {σ : Sh} {A : Ab} (h : RC σ A) : σ.1 0 = nI A.1 := h.2.1
theorem RC.int {σ : Sh} {A : Ab} (h : RC σ A) (k : Nat) (h1 : 1 ≤ k := by decide) (h2 : k < 7 := by decide) : σ.1 k = A.2.1 k := h.2.2.1 k h1 h2
theorem RC.heat {σ : Sh} {A : Ab} (h : RC σ A) (k : Nat) (h1 : k < 12) : σ.2.1 k = A.2.2.1 k := h.2.2.2.1 k h1
theorem RC.sett {σ : Sh} {A : Ab} (h : RC σ A) (k : Nat) (h1 : k < 4 := by decide) : σ.2.2.1 k = A.2.2.2.1 k := h.2.2.2.2.1 k h1
theorem RC.shp {σ : Sh} {A : Ab} (h : RC σ A) {i : Nat} (hi : i < A.1) (k : Nat) (h1 : k < 8 := by decide) : σ.2.2.2.1 i k = A.2.2.2.2 i k := h.2.2.2.2.2.1 i hi k h1
theorem RC.edg {σ : Sh} {A : Ab} (h : RC σ A) {i : Nat} (hi : i < A.1) (k : Nat) (h1 : k < 12) : σ.2.2.2.2 i k = edgQ (A.2.2.2.2 i) k := h.2.2.2.2.2.2 i hi k h1
theorem told_lt {σ : Sh} {A : Ab} (h : RC σ A) {k : Nat} (hk : k ≤ A.1) : nI k < σ.1 0 ↔ k < A.1 := by
  have h12 := h.le
  rw [h.told]
  exact nI_ltI (by omega) (by omega)
theorem lt_lit {k n : Nat} {x : Int32} (hx : x = nI n) (hn : n < 2 ^ 31) (hk : k < 2 ^ 31) : nI k < x ↔ k < n := by rw [hx]; exact nI_ltI hk hn
theorem knB_some {A : Ab} {v : Int32} (ht : A.1 ≤ 12) (h : knB A v = true) : ∃ i, i < A.1 ∧ v = nI i ∧ v.toNatClampNeg = i := by
  simp only [knB, Bool.and_eq_true, Bool.not_eq_true', decide_eq_false_iff_not, decide_eq_true_eq] at h
  obtain ⟨⟨h1, h2⟩, h3⟩ := h
  obtain ⟨i, hi, rfl⟩ := nI_of h1
  have h4 : i < A.1 := (nI_ltI hi (by omega)).mp h2
  exact ⟨i, h4, rfl, nI_clamp hi⟩
theorem knB_nI {A : Ab} {i : Nat} (ht : A.1 ≤ 12) (hi : i < A.1) : knB A (nI i) = true := by
  simp only [knB, Bool.and_eq_true, Bool.not_eq_true', decide_eq_false_iff_not, decide_eq_true_eq]
  refine ⟨⟨nI_pos (by omega), (nI_ltI (by omega) (by omega)).mpr hi⟩, ?_⟩
  rw [show (12 : Int32) = nI 12 from rfl]
  exact (nI_ltI (by omega) (by omega)).mpr (by omega)
theorem betw_some {v : Int32} {n : Nat} {b : Int32} (hb : b = nI n) (hn : n < 2 ^ 31) (h : betw v 0 b = true) : ∃ i, i ≤ n ∧ v = nI i ∧ v.toNatClampNeg = i := by
  simp only [betw, Bool.and_eq_true, Bool.not_eq_true', decide_eq_false_iff_not] at h
  obtain ⟨h1, h2⟩ := h
  obtain ⟨i, hi, rfl⟩ := nI_of h1
  rw [hb] at h2
  have h3 : ¬ n < i := fun q => h2 ((nI_ltI hn hi).mpr q)
  exact ⟨i, by omega, rfl, nI_clamp hi⟩
theorem iinc_nI (k : Nat) : nI k + Int32.ofInt 1 = nI (k + 1) := nI_1 k
theorem loopD {Pr : Nat → Prop} (n : Nat) (h : ∀ k, k ≤ n → (k < n → Pr (k + 1)) → Pr k) : ∀ k, k ≤ n → Pr k := by
  have key : ∀ d k, k + d = n → Pr k := by
    intro d
    induction d with
    | zero => exact fun k hk => h k (by omega) (fun q => absurd q (by omega))
    | succ d ih => exact fun k hk => h k (by omega) (fun _ => ih (k + 1) (by omega))
  exact fun k hk => key (n - k) k (by omega)
theorem b01_1 : b01 true = 1 := rfl
theorem b01_0 : b01 false = 0 := rfl
theorem b01_ne {b : Bool} (h : ¬ b01 b = 0) : b = true := by cases b; exact absurd rfl h; rfl
theorem b01_eq {b : Bool} (h : b01 b = 0) : b = false := by cases b; rfl; exact absurd h (by decide)
/-- a row with more behind its end: what comes back, and some state of a kind -/
def Re {α : Type} (G : GX) (w : Option Value) (S' : α → Nat → Sh) (B' : α → Bc) (M' : α → Md) (Pp : α → Prop) : Option Value → Nat → (Nat → va_E) → Prop := fun v n cs => ∃ a : α, v = w ∧ n = (nN G) ∧ cs = cellOf G (S' a) (B' a) (M' a) ∧ Pp a
abbrev RS (G : GX) (w : Option Value) (S : Nat → Sh) (j : Nat) (B : Bc) (M : Md) (A' : Ab) : Option Value → Nat → (Nat → va_E) → Prop := Re G w (fun σ' : Sh => updS S j σ') (fun _ => B) (fun _ => M) (fun σ' => RC σ' A')
/-- a weaker end serves -/
theorem x_post {G : GX} {y : YX} {E : State → Prop} {pc : Nat} {l : List (Nat × Value)} {stk : List Value} {n : Nat} {cs : Nat → va_E} {ck sk mc ms : Nat} {r r' : Option Value → Nat → (Nat → va_E) → Prop} (h : XJ G y E (Zx G r mc ms) pc l stk n cs ck sk) (hr : ∀ v n cs, r v n cs → r' v n cs) : XJ G y E (Zx G r' mc ms) pc l stk n cs ck sk := by
  intro p e s m args below meth c H locs ls F e1 S P L T hT X
  obtain ⟨t, a, o, b1, b2, ⟨⟨v, n', cs', q1, q2, q3⟩, q4⟩, b4⟩ := h p e s m args below meth c H locs ls F e1 S P L T hT X
  exact ⟨t, a, o, b1, b2, ⟨⟨v, n', cs', q1, hr _ _ _ q2, q3⟩, q4⟩, b4⟩
section TCALLSE
variable {G : GX} {y : YX} {E : State → Prop} {Z : ZX} {pc : Nat} {l : List (Nat × Value)} {stk : List Value} {ck sk : Nat}
variable {S : Nat → Sh} {B : Bc} {M : Md} {α : Type} {S' : α → Nat → Sh} {B' : α → Bc} {M' : α → Md} {Pp : α → Prop}
theorem e_Vi {ynm : MethodName} {yc : YX} {idx o ci : Nat} {fs As rest : List Value} {T : u_T} {N : Nat} {w : Int32} (hM : Ct G ynm yc 0 0 (.ref (gB G + o) :: As) (nN G) (cellOf G S B M) (Re G (some (.int w)) S' B' M' Pp)) (hq : MqV ynm yc As.length) (hlink : Cond.methodLink y.2.2.1 idx ynm ∈ WS) (hd : decode y.1 pc = .ok (.invokevirtual idx, 3)) (hstk : stk = As.reverse ++ .ref (gB G + o) :: rest) (hcell : cellOf G S B M o = .inr (ci, fs)) (ho : o < (nN G)) (hc : vwCl[ci]? = some (ynm.cls, T, N)) (hrc : yc.2.2.2.1.cells = 0) (hrs : yc.2.2.2.1.slots = 0) (hR : yc.2.2.2.1.frames + 1 ≤ y.2.2.2.1.frames ∧ 8 + (yc.2.1 + 11) + yc.2.2.2.1.locals ≤ y.2.2.2.1.locals) (hW : (rest.map fun v => v.category).sum ≤ 8) (h1 : ck ≤ y.2.2.2.1.cells) (h2 : sk ≤ y.2.2.2.1.slots)
    (kk : ∀ a, Pp a → XJ G y E Z (pc + 3) l (.int w :: rest) (nN G) (cellOf G (S' a) (B' a) (M' a)) ck sk) : XJ G y E Z pc l stk (nN G) (cellOf G S B M) ck sk :=
  x_callV hM hq hlink hd hstk hcell ho hc hrc hrs hR hW h1 h2 (fun v n' cs' h => by obtain ⟨a, rfl, rfl, rfl, h⟩ := h; exact kk a h)
theorem e_Vv {ynm : MethodName} {yc : YX} {idx o ci : Nat} {fs As rest : List Value} {T : u_T} {N : Nat} (hM : Ct G ynm yc 0 0 (.ref (gB G + o) :: As) (nN G) (cellOf G S B M) (Re G none S' B' M' Pp)) (hq : MqV ynm yc As.length) (hlink : Cond.methodLink y.2.2.1 idx ynm ∈ WS) (hd : decode y.1 pc = .ok (.invokevirtual idx, 3)) (hstk : stk = As.reverse ++ .ref (gB G + o) :: rest) (hcell : cellOf G S B M o = .inr (ci, fs)) (ho : o < (nN G)) (hc : vwCl[ci]? = some (ynm.cls, T, N)) (hrc : yc.2.2.2.1.cells = 0) (hrs : yc.2.2.2.1.slots = 0) (hR : yc.2.2.2.1.frames + 1 ≤ y.2.2.2.1.frames ∧ 8 + (yc.2.1 + 11) + yc.2.2.2.1.locals ≤ y.2.2.2.1.locals) (hW : (rest.map fun v => v.category).sum ≤ 8) (h1 : ck ≤ y.2.2.2.1.cells) (h2 : sk ≤ y.2.2.2.1.slots)
    (kk : ∀ a, Pp a → XJ G y E Z (pc + 3) l rest (nN G) (cellOf G (S' a) (B' a) (M' a)) ck sk) : XJ G y E Z pc l stk (nN G) (cellOf G S B M) ck sk :=
  x_callV hM hq hlink hd hstk hcell ho hc hrc hrs hR hW h1 h2 (fun v n' cs' h => by obtain ⟨a, rfl, rfl, rfl, h⟩ := h; exact kk a h)
end TCALLSE
