/-! calls over the state: the answer and the state behind it told by name -/
section TCALLS
variable {G : GX} {y : YX} {E : State → Prop} {Z : ZX} {pc : Nat} {l : List (Nat × Value)} {stk : List Value} {ck sk : Nat}
variable {S S' : Nat → Sh} {B B' : Bc} {M M' : Md}
theorem x_back {n : Nat} {cs : Nat → va_E} {l' : List (Nat × Value)} (kk : XJ G y E Z pc l' stk n cs ck sk) (h : lsub l' l) : XJ G y E Z pc l stk n cs ck sk := x_sub h kk
theorem t_Vi {ynm : MethodName} {yc : YX} {idx o ci : Nat} {fs As rest : List Value} {T : u_T} {N : Nat} {w : Int32} (hM : Cs G ynm yc (.ref (gB G + o) :: As) S B M (some (.int w)) S' B' M') (hq : MqV ynm yc As.length) (hlink : Cond.methodLink y.2.2.1 idx ynm ∈ WS) (hd : decode y.1 pc = .ok (.invokevirtual idx, 3)) (hstk : stk = As.reverse ++ .ref (gB G + o) :: rest) (hcell : cellOf G S B M o = .inr (ci, fs)) (ho : o < (nN G)) (hc : vwCl[ci]? = some (ynm.cls, T, N)) (hrc : yc.2.2.2.1.cells = 0) (hrs : yc.2.2.2.1.slots = 0) (hR : yc.2.2.2.1.frames + 1 ≤ y.2.2.2.1.frames ∧ 8 + (yc.2.1 + 11) + yc.2.2.2.1.locals ≤ y.2.2.2.1.locals) (hW : (rest.map fun v => v.category).sum ≤ 8) (h1 : ck ≤ y.2.2.2.1.cells) (h2 : sk ≤ y.2.2.2.1.slots)
    (kk : XJ G y E Z (pc + 3) l (.int w :: rest) (nN G) (cellOf G S' B' M') ck sk) : XJ G y E Z pc l stk (nN G) (cellOf G S B M) ck sk :=
  x_callV hM hq hlink hd hstk hcell ho hc hrc hrs hR hW h1 h2 (fun v n' cs' h => by obtain ⟨rfl, rfl, rfl⟩ := h; exact kk)
theorem t_Vv {ynm : MethodName} {yc : YX} {idx o ci : Nat} {fs As rest : List Value} {T : u_T} {N : Nat} (hM : Cs G ynm yc (.ref (gB G + o) :: As) S B M none S' B' M') (hq : MqV ynm yc As.length) (hlink : Cond.methodLink y.2.2.1 idx ynm ∈ WS) (hd : decode y.1 pc = .ok (.invokevirtual idx, 3)) (hstk : stk = As.reverse ++ .ref (gB G + o) :: rest) (hcell : cellOf G S B M o = .inr (ci, fs)) (ho : o < (nN G)) (hc : vwCl[ci]? = some (ynm.cls, T, N)) (hrc : yc.2.2.2.1.cells = 0) (hrs : yc.2.2.2.1.slots = 0) (hR : yc.2.2.2.1.frames + 1 ≤ y.2.2.2.1.frames ∧ 8 + (yc.2.1 + 11) + yc.2.2.2.1.locals ≤ y.2.2.2.1.locals) (hW : (rest.map fun v => v.category).sum ≤ 8) (h1 : ck ≤ y.2.2.2.1.cells) (h2 : sk ≤ y.2.2.2.1.slots)
    (kk : XJ G y E Z (pc + 3) l rest (nN G) (cellOf G S' B' M') ck sk) : XJ G y E Z pc l stk (nN G) (cellOf G S B M) ck sk :=
  x_callV hM hq hlink hd hstk hcell ho hc hrc hrs hR hW h1 h2 (fun v n' cs' h => by obtain ⟨rfl, rfl, rfl⟩ := h; exact kk)
theorem t_Si {ynm : MethodName} {yc : YX} {idx : Nat} {As rest : List Value} {w : Int32} (hM : Cs G ynm yc As S B M (some (.int w)) S' B' M') (hq : MqS ynm yc As.length) (hlink : Cond.methodLink y.2.2.1 idx ynm ∈ WS) (hd : decode y.1 pc = .ok (.invokestatic idx, 3)) (hstk : stk = As.reverse ++ rest) (hrc : yc.2.2.2.1.cells = 0) (hrs : yc.2.2.2.1.slots = 0) (hR : yc.2.2.2.1.frames + 1 ≤ y.2.2.2.1.frames ∧ 8 + (yc.2.1 + 11) + yc.2.2.2.1.locals ≤ y.2.2.2.1.locals) (hW : (rest.map fun v => v.category).sum ≤ 8) (h1 : ck ≤ y.2.2.2.1.cells) (h2 : sk ≤ y.2.2.2.1.slots)
    (kk : XJ G y E Z (pc + 3) l (.int w :: rest) (nN G) (cellOf G S' B' M') ck sk) : XJ G y E Z pc l stk (nN G) (cellOf G S B M) ck sk :=
  x_callS hM hq hlink hd hstk hrc hrs hR hW h1 h2 (fun v n' cs' h => by obtain ⟨rfl, rfl, rfl⟩ := h; exact kk)
theorem t_Ni {ynm : MethodName} {yc : YX} {idx : Nat} {As rest : List Value} {w : Int32} {host : String} (hM : Cs G ynm yc As S B M (some (.int w)) S' B' M') (hq : MqS ynm yc As.length) (hlink : ∀ s, Kx G s → va_Nw (.methodLinkNest y.2.2.1 idx ynm host) s) (hd : decode y.1 pc = .ok (.invokestatic idx, 3)) (hstk : stk = As.reverse ++ rest) (hrc : yc.2.2.2.1.cells = 0) (hrs : yc.2.2.2.1.slots = 0) (hR : yc.2.2.2.1.frames + 1 ≤ y.2.2.2.1.frames ∧ 8 + (yc.2.1 + 11) + yc.2.2.2.1.locals ≤ y.2.2.2.1.locals) (hW : (rest.map fun v => v.category).sum ≤ 8) (h1 : ck ≤ y.2.2.2.1.cells) (h2 : sk ≤ y.2.2.2.1.slots)
    (kk : XJ G y E Z (pc + 3) l (.int w :: rest) (nN G) (cellOf G S' B' M') ck sk) : XJ G y E Z pc l stk (nN G) (cellOf G S B M) ck sk :=
  x_callN hM hq hlink hd hstk hrc hrs hR hW h1 h2 (fun v n' cs' h => by obtain ⟨rfl, rfl, rfl⟩ := h; exact kk)
end TCALLS
/-! numbers -/
def imx (a b : Int32) : Int32 := if a < b then b else a
def imn (a b : Int32) : Int32 := if b < a then b else a
def iab (a : Int32) : Int32 := if 0 ≤ a then a else 0 - a
def bI (b : Bool) : Int32 := if b then 1 else 0
def b01 (b : Bool) : Int32 := if b then 1 else 0
def betw (v a b : Int32) : Bool := !decide (v < a) && !decide (b < v)
theorem not_lt' {a b : Int32} (h : ¬ a < b) : b ≤ a := Int32.not_lt.mp h
theorem inc_nI (k : Nat) : nI k + 1 = nI (k + 1) := nI_1 k
theorem lt_nI {a b : Nat} (ha : a < 2 ^ 31) (hb : b < 2 ^ 31) : nI a < nI b ↔ a < b := nI_ltI ha hb
