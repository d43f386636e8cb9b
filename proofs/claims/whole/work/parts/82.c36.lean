/-! copy -/
def cp4 (M : MS) (u t a b N : Nat) : Nat → Int32 := fun x => if 40 * t - 40 + b ≤ x ∧ x < 40 * t - 40 + b + N then M.2.2 4 (40 * u - 40 + a + (x - (40 * t - 40 + b))) else M.2.2 4 x
def cpok (u t a b n : Nat) : Prop := (1 ≤ u ∧ u ≤ 24) ∧ (1 ≤ t ∧ t ≤ 24) ∧ a + n ≤ 40 ∧ b + n ≤ 40
theorem cix {u a i : Nat} (hu : 1 ≤ u ∧ u ≤ 24) (h : a + i < 40) : ((((40 : Int32) * nI u) + nI a) + nI i - 40).toNatClampNeg = 40 * u - 40 + a + i := by
  have h1 := ti_mul (a := 40) (b := nI u) (x := 40) rfl (nI_toInt (by omega)) (by omega)
  have h2 := ti_add h1 (b := nI a) (nI_toInt (by omega)) (by omega)
  have h3 := ti_add h2 (b := nI i) (nI_toInt (by omega)) (by omega)
  have h4 := ti_sub h3 (b := 40) (y := 40) rfl (by omega)
  have h5 := cl_toInt (x := (((40 : Int32) * nI u) + nI a) + nI i - 40) (by omega)
  omega
theorem cp4_0 {M : MS} {u t a b : Nat} : cp4 M u t a b 0 = M.2.2 4 := by
  funext x
  unfold cp4
  rw [if_neg (by omega)]
/-- one more item -/
theorem cp4_s {M : MS} {u t a b i n : Nat} (h : cpok u t a b n) (hi : i < n) (hd : u ≠ t ∨ b ≤ a) : upd (cp4 M u t a b i) (40 * t - 40 + b + i) (cp4 M u t a b i (40 * u - 40 + a + i)) = cp4 M u t a b (i + 1) := by
  obtain ⟨h1, h2, h3, h4⟩ := h
  have e : cp4 M u t a b i (40 * u - 40 + a + i) = M.2.2 4 (40 * u - 40 + a + i) := if_neg (by omega)
  rw [e]
  funext x
  unfold upd cp4
  by_cases hx : x = 40 * t - 40 + b + i
  · rw [if_pos hx, if_pos (by omega), hx, show 40 * t - 40 + b + i - (40 * t - 40 + b) = i by omega]
  · rw [if_neg hx]
    by_cases hy : 40 * t - 40 + b ≤ x ∧ x < 40 * t - 40 + b + i
    · rw [if_pos hy, if_pos (by omega)]
    · rw [if_neg hy, if_neg (by omega)]
def bad (M : MS) (u t a i : Nat) : Bool := decide (M.2.2 2 u = 3) && (decide (M.2.2 2 t = 4) && (!decide (M.2.2 4 (40 * u - 40 + a + i) ≤ 0) && decide (M.2.2 33 (M.2.2 4 (40 * u - 40 + a + i) - 1).toNatClampNeg = 0)))
theorem cs_bad {M : MS} {u t a b i n : Nat} (h : cpok u t a b n) (hi : i < n) (hd : u ≠ t ∨ b ≤ a) : mo_cs (sA M 4 (cp4 M u t a b i)) (nI u) (nI a) (nI t) i = bad M u t a i := by
  obtain ⟨h1, h2, h3, h4⟩ := h
  unfold mo_cs bad mo_cv
  rw [cix h1 (by omega), nI_clamp (show u < 2 ^ 31 by omega), nI_clamp (show t < 2 ^ 31 by omega)]
  have e : (sA M 4 (cp4 M u t a b i)).2.2 4 (40 * u - 40 + a + i) = M.2.2 4 (40 * u - 40 + a + i) := (if_neg (by omega) : cp4 M u t a b i (40 * u - 40 + a + i) = _)
  rw [e]
  rfl
theorem cf_run {M : MS} {u t a b n : Nat} (h : cpok u t a b n) (hd : u ≠ t ∨ b ≤ a) : ∀ (m i : Nat), i + m = n → mo_cf (nI u) (nI a) (nI t) (nI b) m i (sA M 4 (cp4 M u t a b i)) = (match (List.range' i m).find? (fun x => bad M u t a x) with
    | none => (1, sA M 4 (cp4 M u t a b n))
    | some g => ((-10) - 5, sI (sA M 4 (cp4 M u t a b g)) 5 5))
  | 0, i, hi => by
    have : i = n := by omega
    subst this
    rfl
  | m + 1, i, hi => by
    show (if mo_cs (sA M 4 (cp4 M u t a b i)) (nI u) (nI a) (nI t) i then ((-10) - 5, sI (sA M 4 (cp4 M u t a b i)) 5 5) else mo_cf (nI u) (nI a) (nI t) (nI b) m (i + 1) (sF (sA M 4 (cp4 M u t a b i)) 4 ((((40 * nI t) + nI b) + nI i) - 40).toNatClampNeg (mo_cv (sA M 4 (cp4 M u t a b i)) (nI u) (nI a) i))) = _
    rw [cs_bad h (by omega) hd]
    obtain ⟨h1, h2, h3, h4⟩ := h
    rw [List.range'_succ, List.find?_cons]
    cases hb : bad M u t a i with
    | true => rfl
    | false =>
      rw [if_neg (by decide)]
      have e : sF (sA M 4 (cp4 M u t a b i)) 4 ((((40 * nI t) + nI b) + nI i) - 40).toNatClampNeg (mo_cv (sA M 4 (cp4 M u t a b i)) (nI u) (nI a) i) = sA M 4 (cp4 M u t a b (i + 1)) := by
        unfold mo_cv
        rw [cix h1 (by omega), cix h2 (by omega), ← cp4_s (n := n) ⟨h1, h2, h3, h4⟩ (by omega) hd]
        exact sA_sA
      rw [e]
      exact cf_run ⟨h1, h2, h3, h4⟩ hd m (i + 1) (by omega)
/-- backwards, within one array -/
def cpb (M : MS) (u a b N j : Nat) : Nat → Int32 := fun x => if 40 * u - 40 + b + (N - j) ≤ x ∧ x < 40 * u - 40 + b + N then M.2.2 4 (40 * u - 40 + a + (x - (40 * u - 40 + b))) else M.2.2 4 x
theorem cb_run {M : MS} {u a b n : Nat} (h : cpok u u a b n) (hd : a ≤ b) : ∀ j, j ≤ n → mo_cb M (nI u) (nI a) (nI u) (nI b) n j = sA M 4 (cpb M u a b n j)
  | 0, _ => by
    have e : cpb M u a b n 0 = M.2.2 4 := by
      funext x
      unfold cpb
      rw [if_neg (by omega)]
    rw [e]
    exact sA_self.symm
  | j + 1, hj => by
    obtain ⟨h1, h2, h3, h4⟩ := h
    show sF (mo_cb M (nI u) (nI a) (nI u) (nI b) n j) 4 ((((40 * nI u) + nI b) + nI (n - 1 - j)) - 40).toNatClampNeg ((mo_cb M (nI u) (nI a) (nI u) (nI b) n j).2.2 4 ((((40 * nI u) + nI a) + nI (n - 1 - j)) - 40).toNatClampNeg) = _
    rw [cb_run ⟨h1, h2, h3, h4⟩ hd j (by omega), cix h1 (by omega), cix h1 (by omega)]
    have e2 : (sA M 4 (cpb M u a b n j)).2.2 4 (40 * u - 40 + a + (n - 1 - j)) = M.2.2 4 (40 * u - 40 + a + (n - 1 - j)) := by
      show (if 40 * u - 40 + b + (n - j) ≤ 40 * u - 40 + a + (n - 1 - j) ∧ _ then _ else _) = _
      rw [if_neg (by omega)]
    rw [e2]
    refine (sA_sA (M := M) (k := 4)).trans ?_
    have e3 : upd (cpb M u a b n j) (40 * u - 40 + b + (n - 1 - j)) (M.2.2 4 (40 * u - 40 + a + (n - 1 - j))) = cpb M u a b n (j + 1) := by
      funext x
      unfold upd cpb
      by_cases hx : x = 40 * u - 40 + b + (n - 1 - j)
      · rw [if_pos hx, if_pos (by omega), hx, show 40 * u - 40 + b + (n - 1 - j) - (40 * u - 40 + b) = n - 1 - j by omega]
      · rw [if_neg hx]
        by_cases hy : 40 * u - 40 + b + (n - j) ≤ x ∧ x < 40 * u - 40 + b + n
        · rw [if_pos hy, if_pos (by omega)]
        · rw [if_neg hy, if_neg (by omega)]
    exact congrArg (sA M 4) e3
theorem cpb_n {M : MS} {u a b n : Nat} : cpb M u a b n n = cp4 M u u a b n := by
  funext x
  unfold cpb cp4
  rw [Nat.sub_self, Nat.add_zero]
theorem cArr_o {M M' : MS} {u t a b N i : Nat} (m2 : M'.2.2 2 = M.2.2 2) (m3 : M'.2.2 3 = M.2.2 3) (f4 : M'.2.2 4 = cp4 M u t a b N) (hS : mi_size M) (hi : 1 ≤ i) (hi2 : i ≤ 24) (ht : 1 ≤ t) (hit : i ≠ t) (hb : b + N ≤ 40) : cArr M' i = cArr M i := by
  funext j
  unfold cArr
  rw [m2, m3, f4]
  split
  · rename_i hj
    have h := bt_iff.mp (hS i (by omega))
    have := cl_toInt h.1
    unfold cp4
    rw [if_neg (by omega)]
  · rfl
theorem rl_cp {G : GG} {M : MS} {ad : AD} {gi : GI} {w w' : WM} {u tg a b N : Nat} (hL : RLa G M ad gi w) (hS : mi_size M) (hu : usd M u) (ht : usd M tg) (hn1 : a + N ≤ (M.2.2 3 u).toNatClampNeg) (hn2 : b + N ≤ (M.2.2 3 tg).toNatClampNeg) (hdec : ∀ x, dec (M.2.2 2 tg) x = dec (M.2.2 2 u) x) (h1 : w' (ad 12 tg) = some (.inl (gA G 0, (M.2.2 3 tg).toNatClampNeg, .inl (va_cpy (cArr M u) (cArr M tg) a b N)))) (h2 : ∀ c, c ≠ ad 12 tg → w' c = w c) : RLa G (sA (sI M 0 0) 4 (cp4 M u tg a b N)) ad gi w' := by
  have hst := n40 (hS tg (by have := ht.2.1; omega))
  have hsu := n40 (hS u (by have := hu.2.1; omega))
  have hb : b + N ≤ 40 := by omega
  have f4 : (sA (sI M 0 0) 4 (cp4 M u tg a b N)).2.2 4 = cp4 M u tg a b N := rfl
  generalize hM' : sA (sI M 0 0) 4 (cp4 M u tg a b N) = M' at *
  have m1 : M'.2.2 1 = M.2.2 1 := hM' ▸ (rfl : (sA (sI M 0 0) 4 (cp4 M u tg a b N)).2.2 1 = M.2.2 1)
  have m2 : M'.2.2 2 = M.2.2 2 := hM' ▸ (rfl : (sA (sI M 0 0) 4 (cp4 M u tg a b N)).2.2 2 = M.2.2 2)
  have m3 : M'.2.2 3 = M.2.2 3 := hM' ▸ (rfl : (sA (sI M 0 0) 4 (cp4 M u tg a b N)).2.2 3 = M.2.2 3)
  have m6 : M'.2.2 6 = M.2.2 6 := hM' ▸ (rfl : (sA (sI M 0 0) 4 (cp4 M u tg a b N)).2.2 6 = M.2.2 6)
  have m8 : M'.2.2 8 = M.2.2 8 := hM' ▸ (rfl : (sA (sI M 0 0) 4 (cp4 M u tg a b N)).2.2 8 = M.2.2 8)
  have m9 : M'.2.2 9 = M.2.2 9 := hM' ▸ (rfl : (sA (sI M 0 0) 4 (cp4 M u tg a b N)).2.2 9 = M.2.2 9)
  have m10 : M'.2.2 10 = M.2.2 10 := hM' ▸ (rfl : (sA (sI M 0 0) 4 (cp4 M u tg a b N)).2.2 10 = M.2.2 10)
  have m11 : M'.2.2 11 = M.2.2 11 := hM' ▸ (rfl : (sA (sI M 0 0) 4 (cp4 M u tg a b N)).2.2 11 = M.2.2 11)
  have m12 : M'.2.2 12 = M.2.2 12 := hM' ▸ (rfl : (sA (sI M 0 0) 4 (cp4 M u tg a b N)).2.2 12 = M.2.2 12)
  have m13 : M'.2.2 13 = M.2.2 13 := hM' ▸ (rfl : (sA (sI M 0 0) 4 (cp4 M u tg a b N)).2.2 13 = M.2.2 13)
  have m14 : M'.2.2 14 = M.2.2 14 := hM' ▸ (rfl : (sA (sI M 0 0) 4 (cp4 M u tg a b N)).2.2 14 = M.2.2 14)
  have m15 : M'.2.2 15 = M.2.2 15 := hM' ▸ (rfl : (sA (sI M 0 0) 4 (cp4 M u tg a b N)).2.2 15 = M.2.2 15)
  have m16 : M'.2.2 16 = M.2.2 16 := hM' ▸ (rfl : (sA (sI M 0 0) 4 (cp4 M u tg a b N)).2.2 16 = M.2.2 16)
  have m17 : M'.2.2 17 = M.2.2 17 := hM' ▸ (rfl : (sA (sI M 0 0) 4 (cp4 M u tg a b N)).2.2 17 = M.2.2 17)
  have m18 : M'.2.2 18 = M.2.2 18 := hM' ▸ (rfl : (sA (sI M 0 0) 4 (cp4 M u tg a b N)).2.2 18 = M.2.2 18)
  have m19 : M'.2.2 19 = M.2.2 19 := hM' ▸ (rfl : (sA (sI M 0 0) 4 (cp4 M u tg a b N)).2.2 19 = M.2.2 19)
  have m23 : M'.2.2 23 = M.2.2 23 := hM' ▸ (rfl : (sA (sI M 0 0) 4 (cp4 M u tg a b N)).2.2 23 = M.2.2 23)
  have m24 : M'.2.2 24 = M.2.2 24 := hM' ▸ (rfl : (sA (sI M 0 0) 4 (cp4 M u tg a b N)).2.2 24 = M.2.2 24)
  have m25 : M'.2.2 25 = M.2.2 25 := hM' ▸ (rfl : (sA (sI M 0 0) 4 (cp4 M u tg a b N)).2.2 25 = M.2.2 25)
  have m30 : M'.2.2 30 = M.2.2 30 := hM' ▸ (rfl : (sA (sI M 0 0) 4 (cp4 M u tg a b N)).2.2 30 = M.2.2 30)
  have m31 : M'.2.2 31 = M.2.2 31 := hM' ▸ (rfl : (sA (sI M 0 0) 4 (cp4 M u tg a b N)).2.2 31 = M.2.2 31)
  have m32 : M'.2.2 32 = M.2.2 32 := hM' ▸ (rfl : (sA (sI M 0 0) 4 (cp4 M u tg a b N)).2.2 32 = M.2.2 32)
  have m33 : M'.2.2 33 = M.2.2 33 := hM' ▸ (rfl : (sA (sI M 0 0) 4 (cp4 M u tg a b N)).2.2 33 = M.2.2 33)
  have m34 : M'.2.2 34 = M.2.2 34 := hM' ▸ (rfl : (sA (sI M 0 0) 4 (cp4 M u tg a b N)).2.2 34 = M.2.2 34)
  have m35 : M'.2.2 35 = M.2.2 35 := hM' ▸ (rfl : (sA (sI M 0 0) 4 (cp4 M u tg a b N)).2.2 35 = M.2.2 35)
  have m36 : M'.2.2 36 = M.2.2 36 := hM' ▸ (rfl : (sA (sI M 0 0) 4 (cp4 M u tg a b N)).2.2 36 = M.2.2 36)
  have m37 : M'.2.2 37 = M.2.2 37 := hM' ▸ (rfl : (sA (sI M 0 0) 4 (cp4 M u tg a b N)).2.2 37 = M.2.2 37)
  have m42 : M'.2.2 42 = M.2.2 42 := hM' ▸ (rfl : (sA (sI M 0 0) 4 (cp4 M u tg a b N)).2.2 42 = M.2.2 42)
  have m43 : M'.2.2 43 = M.2.2 43 := hM' ▸ (rfl : (sA (sI M 0 0) 4 (cp4 M u tg a b N)).2.2 43 = M.2.2 43)
  have i5 : M'.1 5 = M.1 5 := hM' ▸ (rfl : (sA (sI M 0 0) 4 (cp4 M u tg a b N)).1 5 = M.1 5)
  have i7 : M'.1 7 = M.1 7 := hM' ▸ (rfl : (sA (sI M 0 0) 4 (cp4 M u tg a b N)).1 7 = M.1 7)
  have i20 : M'.1 20 = M.1 20 := hM' ▸ (rfl : (sA (sI M 0 0) 4 (cp4 M u tg a b N)).1 20 = M.1 20)
  have i26 : M'.1 26 = M.1 26 := hM' ▸ (rfl : (sA (sI M 0 0) 4 (cp4 M u tg a b N)).1 26 = M.1 26)
  have i27 : M'.1 27 = M.1 27 := hM' ▸ (rfl : (sA (sI M 0 0) 4 (cp4 M u tg a b N)).1 27 = M.1 27)
  have i28 : M'.1 28 = M.1 28 := hM' ▸ (rfl : (sA (sI M 0 0) 4 (cp4 M u tg a b N)).1 28 = M.1 28)
  have i29 : M'.1 29 = M.1 29 := hM' ▸ (rfl : (sA (sI M 0 0) 4 (cp4 M u tg a b N)).1 29 = M.1 29)
  have i38 : M'.1 38 = M.1 38 := hM' ▸ (rfl : (sA (sI M 0 0) 4 (cp4 M u tg a b N)).1 38 = M.1 38)
  have i39 : M'.1 39 = M.1 39 := hM' ▸ (rfl : (sA (sI M 0 0) 4 (cp4 M u tg a b N)).1 39 = M.1 39)
  have i40 : M'.1 40 = M.1 40 := hM' ▸ (rfl : (sA (sI M 0 0) 4 (cp4 M u tg a b N)).1 40 = M.1 40)
  have i41 : M'.1 41 = M.1 41 := hM' ▸ (rfl : (sA (sI M 0 0) 4 (cp4 M u tg a b N)).1 41 = M.1 41)
  have i44 : M'.1 44 = M.1 44 := hM' ▸ (rfl : (sA (sI M 0 0) 4 (cp4 M u tg a b N)).1 44 = M.1 44)
  have i45 : M'.1 45 = M.1 45 := hM' ▸ (rfl : (sA (sI M 0 0) 4 (cp4 M u tg a b N)).1 45 = M.1 45)
  have l0 : M'.2.1 = M.2.1 := hM' ▸ (rfl : (sA (sI M 0 0) 4 (cp4 M u tg a b N)).2.1 = M.2.1)
  refine rl_addP hL (fun _ _ => False) (fun _ _ => False) (fun x i => x = 12 ∧ i = tg) (fun _ _ h => h.elim) (fun _ _ _ _ h => h.elim) (fun _ _ h => h.elim) (fun t i hl hn0 hn1 => by
    match t, hl, hn0, hn1 with
    | 0, hl, hn0, hn1 => (have h := (show _ ∧ i = 0 from hl).2; subst h; exact ⟨lvf 0 (by decide), rfl⟩)
    | 1, hl, hn0, hn1 => (have h := (show _ ∧ i = 0 from hl).2; subst h; exact ⟨lvf 1 (by decide), rfl⟩)
    | 2, hl, hn0, hn1 => (have h := (show _ ∧ i = 0 from hl).2; subst h; exact ⟨lvf 2 (by decide), rfl⟩)
    | 3, hl, hn0, hn1 => (have h := (show _ ∧ i = 0 from hl).2; subst h; exact ⟨lvf 3 (by decide), rfl⟩)
    | 4, hl, hn0, hn1 => (have h := (show _ ∧ i = 0 from hl).2; subst h; exact ⟨lvf 4 (by decide), rfl⟩)
    | 5, hl, hn0, hn1 => (have h := (show _ ∧ i = 0 from hl).2; subst h; exact ⟨lvf 5 (by decide), rfl⟩)
    | 6, hl, hn0, hn1 => (have h := (show _ ∧ i = 0 from hl).2; subst h; exact ⟨lvf 6 (by decide), rfl⟩)
    | 7, hl, hn0, hn1 => (have h := (show _ ∧ i = 0 from hl).2; subst h; exact ⟨lvf 7 (by decide), rfl⟩)
    | 8, hl, hn0, hn1 => (have h := (show _ ∧ i = 0 from hl).2; subst h; exact ⟨lvf 8 (by decide), rfl⟩)
    | 9, hl, hn0, hn1 => (have h := (show _ ∧ i = 0 from hl).2; subst h; exact ⟨lvf 9 (by decide), rfl⟩)
    | 10, hl, hn0, hn1 => (have h := (show _ ∧ i = 0 from hl).2; subst h; exact ⟨lvf 10 (by decide), rfl⟩)
    | 11, hl, hn0, hn1 => exact ⟨(by have h : usd M' i := hl; unfold usd uA uF at h; rw [m1, m6, m8, m15] at h; exact h), rfl⟩
    | 12, hl, hn0, hn1 => exact ⟨(by have h : usd M' i := hl; unfold usd uA uF at h; rw [m1, m6, m8, m15] at h; exact h), rfl⟩
    | 13, hl, hn0, hn1 => exact ⟨(by have h : opn M' i := hl; unfold opn at h; rw [m6] at h; exact h), rfl⟩
    | 14, hl, hn0, hn1 => exact ⟨(by have h : opn M' i ∧ M'.2.2 8 i = 0 := hl; unfold opn at h; rw [m6, m8] at h; exact h), rfl⟩
    | 15, hl, hn0, hn1 => exact ⟨(by have h : isr M' i ∧ M'.2.2 34 i = nI i := hl; unfold isr at h; rw [i29, m34] at h; exact h), rfl⟩
    | 16, hl, hn0, hn1 => exact ⟨(by have h : isr M' i ∧ M'.2.2 34 i = nI i := hl; unfold isr at h; rw [i29, m34] at h; exact h), rfl⟩
    | 17, hl, hn0, hn1 => exact ⟨(by have h : isr M' i := hl; unfold isr at h; rw [i29] at h; exact h), rfl⟩
    | 18, hl, hn0, hn1 => exact ⟨(by have h : isr M' i ∧ M'.2.2 33 i = 0 := hl; unfold isr at h; rw [i29, m33] at h; exact h), rfl⟩
    | 19, hl, hn0, hn1 => exact ⟨(by have h : isr M' i ∧ M'.2.2 33 i = 0 := hl; unfold isr at h; rw [i29, m33] at h; exact h), rfl⟩
    | 20, hl, hn0, hn1 => exact ⟨(by have h : i < 4 ∧ 0 ≤ M'.2.2 23 i := hl; rw [m23] at h; exact h), rfl⟩
    | 21, hl, hn0, hn1 => exact ⟨(by have h : i < 4 ∧ 0 ≤ M'.2.2 23 i := hl; rw [m23] at h; exact h), rfl⟩
    | 22, hl, hn0, hn1 => exact ⟨(by have h : opn M' i ∧ M'.2.2 8 i = 3 := hl; unfold opn at h; rw [m6, m8] at h; exact h), rfl⟩
    | 23, hl, hn0, hn1 => exact ⟨(by have h : opn M' i ∧ M'.2.2 8 i = 3 := hl; unfold opn at h; rw [m6, m8] at h; exact h), rfl⟩
    | n + 24, hl, hn0, hn1 => exact absurd (show n + 24 ≤ 10 ∧ i = 0 from hl).1 (by omega)) ?_ ?_ (fun t i hl hn0 hn1 hn2 => by
    match t, hl, hn0, hn1, hn2 with
    | 0, hl, hn0, hn1, hn2 => (refine cc_0 ?_; rw [sAd_c m6, i20, i7, i29, i38, l0, i5])
    | 1, hl, hn0, hn1, hn2 => (refine cc_1 ?_; rw [cR_c m1 rfl])
    | 2, hl, hn0, hn1, hn2 => (refine cc_2 ?_; rw [cG_c m23 rfl])
    | 3, hl, hn0, hn1, hn2 => (refine cc_3 ?_; rw [cS_c m6])
    | 4, hl, hn0, hn1, hn2 => (refine cc_4 ?_; rw [cF_c i29 rfl])
    | 5, hl, hn0, hn1, hn2 => (refine cc_5 ?_; rw [i27, i28])
    | 6, hl, hn0, hn1, hn2 => (refine cc_6 ?_; rw [i39, i40, i44, i45])
    | 7, hl, hn0, hn1, hn2 => (refine cc_7 ?_; rw [m42])
    | 8, hl, hn0, hn1, hn2 => (refine cc_8 ?_; rw [m43])
    | 9, hl, hn0, hn1, hn2 => (refine cc_9 ?_; rw [i26])
    | 10, hl, hn0, hn1, hn2 => (refine cc_10 ?_; rfl)
    | 11, hl, hn0, hn1, hn2 => (refine cc_11 ?_; rw [m2])
    | 12, hl, hn0, hn1, hn2 => (have hi : i ≠ tg := fun z => hn2 ⟨rfl, z⟩; have hl2 := (show usd M' i from hl); refine cc_12 ?_; rw [m3, cArr_o m2 m3 f4 hS hl2.1 hl2.2.1 ht.1 hi hb])
    | 13, hl, hn0, hn1, hn2 => (refine cc_13 ?_; rw [cSI_c (M := M) (M' := M') (gi := gi) (gi' := gi) (k := i) (by rw [m8]) (by rw [m10]) (by rw [m9]) (by rw [m6]) (by rw [m11]) (by rw [m13]) (by rw [m14]) (by rw [m12]) (by rw [m19]) rfl, sAd_c m6, m17, cX_c (M := M) (M' := M') (ad := ad) (ad' := ad) (k := i) (by rw [m8]) rfl (fun _ => by rw [m15]) (by rw [m16]) rfl rfl])
    | 14, hl, hn0, hn1, hn2 => (refine cc_14 ?_; rfl)
    | 15, hl, hn0, hn1, hn2 => (refine cc_15 ?_; rw [m36, m35])
    | 16, hl, hn0, hn1, hn2 => (refine cc_16 ?_; rfl)
    | 17, hl, hn0, hn1, hn2 => (refine cc_17 ?_; rw [m30, m33, m34])
    | 18, hl, hn0, hn1, hn2 => (refine cc_18 ?_; rfl)
    | 19, hl, hn0, hn1, hn2 => (refine cc_19 ?_; rw [m32])
    | 20, hl, hn0, hn1, hn2 => (refine cc_20 ?_; rfl)
    | 21, hl, hn0, hn1, hn2 => (refine cc_21 ?_; rw [m23, cGiv_c m23 m24])
    | 22, hl, hn0, hn1, hn2 => (refine cc_22 ?_; rfl)
    | 23, hl, hn0, hn1, hn2 => (refine cc_23 ?_; rw [m12])
    | n + 24, hl, hn0, hn1, hn2 => exact absurd (show n + 24 ≤ 10 ∧ i = 0 from hl).1 (by omega)) (fun _ _ h => h.elim) (fun _ _ h => h.elim) ?_ ⟨by unfold sd_p opn; rw [m6, m8, m19, m18]; exact hL.2.2.1, by unfold sd_f; rw [m37]; exact hL.2.2.2.1, by unfold sd_t; rw [i39, i40, i41]; exact hL.2.2.2.2.1, by unfold sd_n; rw [i26, m25]; exact hL.2.2.2.2.2.1, by unfold sd_s isr; rw [i29, m33, m32, m31]; exact hL.2.2.2.2.2.2.1, by unfold sd_r opn; rw [m6, m8, m12, m18, m9]; exact hL.2.2.2.2.2.2.2⟩
  · rintro x i ⟨rfl, rfl⟩
    exact ⟨ht, rfl⟩
  · intro c _ hl
    exact h2 c (hl 12 tg ⟨rfl, rfl⟩)
  · rintro x i ⟨rfl, rfl⟩ _ _ _
    show w' (ad 12 i) = some (.inl (gA G 0, (M'.2.2 3 i).toNatClampNeg, .inl (cArr M' i)))
    have e : cArr M' i = va_cpy (cArr M u) (cArr M i) a b N := by
      funext j
      unfold va_cpy
      have ec : cArr M' i j = if j < (M.2.2 3 i).toNatClampNeg then dec (M.2.2 2 i) (cp4 M u i a b N (40 * i + j - 40)) else 0 := by
        unfold cArr
        rw [m2, m3, f4]
      rw [ec]
      have hi1 := ht.1
      have hu1 := hu.1
      by_cases hj : b ≤ j ∧ j < b + N
      · rw [if_pos hj, if_pos (by omega)]
        unfold cp4
        rw [if_pos (by omega)]
        unfold cArr
        rw [if_pos (by omega), hdec, show 40 * u - 40 + a + (40 * i + j - 40 - (40 * i - 40 + b)) = 40 * u + (a + (j - b)) - 40 by omega]
      · rw [if_neg hj]
        unfold cArr
        split
        · unfold cp4
          rw [if_neg (by omega)]
        · rfl
    rw [m3, e]
    exact h1
