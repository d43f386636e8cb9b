/-! what the class holds, when the reference holds M: ad t i the address of what is of kind t, number i; gi what M doesn't tell -/
abbrev AD : Type := Nat → Nat → Nat
abbrev GI : Type := Nat → Nat → Nat → Int32
def rIA (ad : AD) (x : Int32) : Option Nat := if x = 0 then none else some (ad 11 x.toNatClampNeg)
def sAd (M : MS) (ad : AD) (t : Int32) : Option Nat := (mo_pl M t).map (ad 13)
def c9 (M : MS) (gi : GI) (k : Nat) : Int32 := if M.2.2 8 k = 0 then gi 0 k 0 else if M.2.2 8 k = 1 then M.2.2 12 k else if M.2.2 8 k = 2 then wdt (M.2.2 9 k) else 0
def cSI (M : MS) (gi : GI) (k : Nat) : Nat → Int32 := fun j => match j with
  | 0 => M.2.2 8 k
  | 1 => M.2.2 10 k
  | 2 => M.2.2 9 k
  | 3 => M.2.2 6 k
  | 4 => M.2.2 11 k
  | 5 => M.2.2 13 k
  | 6 => M.2.2 14 k
  | 9 => c9 M gi k
  | 10 => M.2.2 19 k
  | _ => 0
def cX (M : MS) (ad : AD) (k : Nat) : Option Nat := if M.2.2 8 k = 0 then some (ad 14 k) else if M.2.2 8 k = 1 then rIA ad (M.2.2 15 k) else if M.2.2 8 k = 2 then some (ad 15 (M.2.2 16 k).toNatClampNeg) else some (ad 22 k)
def cR (M : MS) (ad : AD) : Nat → Option Nat := fun k => if k < 8 then rIA ad (M.2.2 1 k) else none
def cG (M : MS) (ad : AD) : Nat → Option Nat := fun k => if k < 4 ∧ 0 ≤ M.2.2 23 k then some (ad 20 k) else none
def cS (M : MS) (ad : AD) : Nat → Option Nat := fun k => if k < 8 ∧ 0 < M.2.2 6 k then some (ad 13 k) else none
def cF (M : MS) (ad : AD) : Nat → Option Nat := fun k => if (k : Int) < (M.1 29).toInt then some (ad 17 k) else none
/-- an item of an array: numbers as they are, references one less -/
def dec (so x : Int32) : Int32 := if so ≤ 2 then x else x - 1
def cArr (M : MS) (u : Nat) : Nat → Int32 := fun j => if j < (M.2.2 3 u).toNatClampNeg then dec (M.2.2 2 u) (M.2.2 4 (40 * u + j - 40)) else 0
def cGiv (M : MS) (k : Nat) : Nat → Int32 := fun j => if j < (M.2.2 23 k).toNatClampNeg then M.2.2 24 (40 * k + j) else 0
def cel (G : GG) (M : MS) (ad : AD) (gi : GI) : Nat → Nat → va_E := fun t i => match t with
  | 1 => rA (gA G 4) 8 (cR M ad)
  | 2 => rA (gA G 4) 4 (cG M ad)
  | 3 => rA (gA G 5) 8 (cS M ad)
  | 4 => rA (gA G 6) 20 (cF M ad)
  | 5 => .inr (6, [.ref (ad 9 0), .int (M.1 27), .int (M.1 28)])
  | 6 => .inr (2, [.int (M.1 39), .int (M.1 40), .int (gi 3 0 0), .ref (ad 7 0), .int (M.1 44), .int (M.1 45), .ref (ad 8 0)])
  | 7 => .inl (gA G 0, 2, .inl (M.2.2 42))
  | 8 => .inl (gA G 0, 8, .inl (M.2.2 43))
  | 9 => .inr (1, [.ref (ad 10 0), .int 0, .int (gi 7 0 0), .int (M.1 26)])
  | 10 => .inl (gA G 1, 16, .inl (gi 4 0))
  | 11 => .inr (4, [.int (M.2.2 2 i), .ref (ad 12 i)])
  | 12 => .inl (gA G 0, (M.2.2 3 i).toNatClampNeg, .inl (cArr M i))
  | 13 => sC (cSI M gi i) (sAd M ad (M.2.2 17 i)) (cX M ad i)
  | 14 => .inl (gA G 0, 20, .inl (gi 1 i))
  | 15 => .inr (10, [.ref (ad 16 i), .int (M.2.2 36 i), .int (M.2.2 35 i)])
  | 16 => .inl (gA G 1, 60, .inl (gi 2 i))
  | 17 => .inr (8, [.int (M.2.2 30 i), .ref (if M.2.2 33 i = 0 then ad 18 i else gK G 1), .int (M.2.2 33 i), .ref (ad 15 (M.2.2 34 i).toNatClampNeg)])
  | 18 => .inr (0, [.ref (ad 19 i), .int 0, .int 0, .int 0])
  | 19 => .inl (gA G 1, (M.2.2 32 i).toNatClampNeg, .inl (gi 5 i))
  | 20 => .inr (4, [.int 2, .ref (ad 21 i)])
  | 21 => .inl (gA G 0, (M.2.2 23 i).toNatClampNeg, .inl (cGiv M i))
  | 22 => .inr (4, [.int 2, .ref (ad 23 i)])
  | 23 => .inl (gA G 0, (M.2.2 12 i).toNatClampNeg, .inl (gi 6 i))
  | _ => oC (ad 1 0) (ad 2 0) (ad 3 0) (ad 4 0) (ad 5 0) (ad 6 0) (sAd M ad (M.1 20)) (M.1 7) (M.1 29) (M.1 38) (M.2.1 21).toInt32 (M.2.1 22).toInt32 (M.1 5)
def usd (M : MS) (u : Nat) : Prop := 1 ≤ u ∧ u ≤ 24 ∧ uA M (nI u) 8 = true
def opn (M : MS) (k : Nat) : Prop := k < 8 ∧ 0 < M.2.2 6 k
def isr (M : MS) (r : Nat) : Prop := (r : Int) < (M.1 29).toInt
def lvT (M : MS) : Nat → Nat → Prop := fun t i => match t with
  | 11 => usd M i
  | 12 => usd M i
  | 13 => opn M i
  | 14 => opn M i ∧ M.2.2 8 i = 0
  | 15 => isr M i ∧ M.2.2 34 i = nI i
  | 16 => isr M i ∧ M.2.2 34 i = nI i
  | 17 => isr M i
  | 18 => isr M i ∧ M.2.2 33 i = 0
  | 19 => isr M i ∧ M.2.2 33 i = 0
  | 20 => i < 4 ∧ 0 ≤ M.2.2 23 i
  | 21 => i < 4 ∧ 0 ≤ M.2.2 23 i
  | 22 => opn M i ∧ M.2.2 8 i = 3
  | 23 => opn M i ∧ M.2.2 8 i = 3
  | n => n ≤ 10 ∧ i = 0
/-- the kinds that are only read: they may share what they hold -/
def rdo (t : Nat) : Bool := decide (20 ≤ t)
def apt (M : MS) (ad : AD) : Prop := ∀ t i t' i' : Nat, lvT M t i → lvT M t' i' → ad t i = ad t' i' → (t = t' ∧ i = i') ∨ (rdo t = true ∧ rdo t' = true)
def clS (G : GG) (M : MS) (ad : AD) (gi : GI) (w : WM) : Prop := ∀ t i : Nat, lvT M t i → w (ad t i) = some (cel G M ad gi t i)
/-- what gi is to M -/
def sd_p (M : MS) (gi : GI) : Prop := ∀ k, opn M k → M.2.2 8 k = 0 → bt (gi 0 k 0) 0 19 = true ∧ ∀ i : Nat, (i : Int) < (M.2.2 19 k).toInt → gi 1 k (((gi 0 k 0).toNatClampNeg + 39 - i) % 20) = M.2.2 18 (40 * k + i)
def sd_f (M : MS) (gi : GI) : Prop := ∀ f, f < 20 → ∀ j, j < 60 → (gi 2 f j) &&& 255 = M.2.2 37 (60 * f + j)
def sd_t (M : MS) (gi : GI) : Prop := 0 ≤ (M.1 41).toInt ∧ (M.1 41).toInt ≤ (M.1 39).toInt ∧ (0 < (M.1 40).toInt → (gi 3 0 0).toInt = (M.1 40).toInt - ((M.1 39).toInt - (M.1 41).toInt) % (M.1 40).toInt)
def sd_n (M : MS) (gi : GI) : Prop := ∀ j : Nat, (j : Int) < (M.1 26).toInt → gi 4 0 j = M.2.2 25 j
def sd_s (M : MS) (gi : GI) : Prop := ∀ r, isr M r → M.2.2 33 r = 0 → ∀ j : Nat, (j : Int) < (M.2.2 32 r).toInt → gi 5 r j = M.2.2 31 (8 * r + j)
def sd_r (M : MS) (gi : GI) : Prop := ∀ k, opn M k → M.2.2 8 k = 3 → ∀ j : Nat, (j : Int) < (M.2.2 12 k).toInt → M.2.2 18 (40 * k + j) = (if M.2.2 9 k = 0 ∧ 255 < gi 6 k j then 63 else gi 6 k j)
def sdS (M : MS) (gi : GI) : Prop := sd_p M gi ∧ sd_f M gi ∧ sd_t M gi ∧ sd_n M gi ∧ sd_s M gi ∧ sd_r M gi
def RLa (G : GG) (M : MS) (ad : AD) (gi : GI) (w : WM) : Prop := clS G M ad gi w ∧ apt M ad ∧ sdS M gi
theorem rl_ne {G : GG} {M : MS} {ad : AD} {gi : GI} {w : WM} (h : RLa G M ad gi w) {t i t' i' : Nat} (h1 : lvT M t i) (h2 : lvT M t' i') (hr : rdo t = false ∨ rdo t' = false) (hn : ¬ (t = t' ∧ i = i')) : ad t i ≠ ad t' i' := by
  intro z
  rcases h.2.1 t i t' i' h1 h2 z with h | ⟨h3, h4⟩
  · exact hn h
  · rcases hr with hr | hr
    · rw [hr] at h3; cases h3
    · rw [hr] at h4; cases h4
/-- one thing is written -/
theorem rl_w1 {G : GG} {M M' : MS} {ad : AD} {gi gi' : GI} {w w' : WM} (h : RLa G M ad gi w) (t0 i0 : Nat) (hl0 : lvT M t0 i0) (hr0 : rdo t0 = false) (hw : ∀ b, b ≠ ad t0 i0 → w' b = w b) (hlv : ∀ t i, lvT M' t i → lvT M t i) (hc : ∀ t i, lvT M' t i → ¬ (t = t0 ∧ i = i0) → cel G M' ad gi' t i = cel G M ad gi t i) (he : w' (ad t0 i0) = some (cel G M' ad gi' t0 i0)) (hs : sdS M' gi') : RLa G M' ad gi' w' := by
  refine ⟨fun t i hl => ?_, fun t i t' i' h1 h2 h3 => h.2.1 t i t' i' (hlv t i h1) (hlv t' i' h2) h3, hs⟩
  by_cases hti : t = t0 ∧ i = i0
  · obtain ⟨rfl, rfl⟩ := hti
    exact he
  · rw [hw _ (rl_ne h (hlv t i hl) hl0 (Or.inr hr0) hti), h.1 t i (hlv t i hl), hc t i hl hti]
/-- nothing is written -/
theorem rl_w0 {G : GG} {M M' : MS} {ad : AD} {gi gi' : GI} {w : WM} (h : RLa G M ad gi w) (hlv : ∀ t i, lvT M' t i → lvT M t i) (hc : ∀ t i, lvT M' t i → cel G M' ad gi' t i = cel G M ad gi t i) (hs : sdS M' gi') : RLa G M' ad gi' w :=
  ⟨fun t i hl => by rw [h.1 t i (hlv t i hl), hc t i hl], fun t i t' i' h1 h2 h3 => h.2.1 t i t' i' (hlv t i h1) (hlv t' i' h2) h3, hs⟩
/-- two things are written -/
theorem rl_w2 {G : GG} {M M' : MS} {ad : AD} {gi gi' : GI} {w w' : WM} (h : RLa G M ad gi w) (t0 i0 t1 i1 : Nat) (hl0 : lvT M t0 i0) (hr0 : rdo t0 = false) (hl1 : lvT M t1 i1) (hr1 : rdo t1 = false) (hw : ∀ b, b ≠ ad t0 i0 → b ≠ ad t1 i1 → w' b = w b) (hlv : ∀ t i, lvT M' t i → lvT M t i) (hc : ∀ t i, lvT M' t i → ¬ (t = t0 ∧ i = i0) → ¬ (t = t1 ∧ i = i1) → cel G M' ad gi' t i = cel G M ad gi t i) (he : w' (ad t0 i0) = some (cel G M' ad gi' t0 i0)) (he1 : w' (ad t1 i1) = some (cel G M' ad gi' t1 i1)) (hs : sdS M' gi') : RLa G M' ad gi' w' := by
  refine ⟨fun t i hl => ?_, fun t i t' i' h1 h2 h3 => h.2.1 t i t' i' (hlv t i h1) (hlv t' i' h2) h3, hs⟩
  by_cases hti : t = t0 ∧ i = i0
  · obtain ⟨rfl, rfl⟩ := hti
    exact he
  · by_cases htj : t = t1 ∧ i = i1
    · obtain ⟨rfl, rfl⟩ := htj
      exact he1
    · rw [hw _ (rl_ne h (hlv t i hl) hl0 (Or.inr hr0) hti) (rl_ne h (hlv t i hl) hl1 (Or.inr hr1) htj), h.1 t i (hlv t i hl), hc t i hl hti htj]
/-- thrown is nothing to the class -/
theorem lvT_0 {M : MS} {x : Int32} {t i : Nat} : lvT (sI M 0 x) t i = lvT M t i := rfl
theorem cel_0 {G : GG} {M : MS} {ad : AD} {gi : GI} {x : Int32} {t i : Nat} : cel G (sI M 0 x) ad gi t i = cel G M ad gi t i := rfl
theorem rl_0 {G : GG} {M : MS} {ad : AD} {gi : GI} {w : WM} (h : RLa G M ad gi w) : RLa G (sI M 0 0) ad gi w := h
