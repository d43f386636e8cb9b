/-! streams that are begun -/
theorem rl_addP {G : GG} {M M' : MS} {ad ad' : AD} {gi gi' : GI} {w w' : WM} (hL : RLa G M ad gi w) (N S L : Nat → Nat → Prop)
    (fresh : ∀ t i, N t i → ∀ t0 i0, lvT M t0 i0 → ad' t i ≠ ad t0 i0) (hinj : ∀ t i t' i', N t i → N t' i' → ad' t i = ad' t' i' → t = t' ∧ i = i')
    (hS : ∀ t i, S t i → rdo t = true ∧ ∃ t0 i0, lvT M t0 i0 ∧ rdo t0 = true ∧ ad' t i = ad t0 i0)
    (hold : ∀ t i, lvT M' t i → ¬ N t i → ¬ S t i → lvT M t i ∧ ad' t i = ad t i)
    (hLl : ∀ t i, L t i → lvT M t i ∧ rdo t = false)
    (hw : ∀ b, (∀ t i, N t i → b ≠ ad' t i) → (∀ t i, L t i → b ≠ ad t i) → w' b = w b)
    (hc : ∀ t i, lvT M' t i → ¬ N t i → ¬ S t i → ¬ L t i → cel G M' ad' gi' t i = cel G M ad gi t i)
    (heN : ∀ t i, N t i → lvT M' t i → w' (ad' t i) = some (cel G M' ad' gi' t i))
    (heS : ∀ t i, S t i → lvT M' t i → w' (ad' t i) = some (cel G M' ad' gi' t i))
    (heL : ∀ t i, L t i → ¬ N t i → ¬ S t i → lvT M' t i → w' (ad t i) = some (cel G M' ad' gi' t i))
    (hs : sdS M' gi') : RLa G M' ad' gi' w' := by
  refine ⟨fun t i hl => ?_, ?_, hs⟩
  · by_cases hN : N t i
    · exact heN t i hN hl
    · by_cases hSs : S t i
      · exact heS t i hSs hl
      · obtain ⟨h1, h2⟩ := hold t i hl hN hSs
        rw [h2]
        by_cases hLL : L t i
        · exact heL t i hLL hN hSs hl
        · rw [hw _ (fun t0 i0 hp z => fresh t0 i0 hp t i h1 z.symm) (fun t0 i0 hp => rl_ne hL h1 (hLl t0 i0 hp).1 (Or.inr (hLl t0 i0 hp).2) (fun z => hLL (by rw [z.1, z.2]; exact hp))), hL.1 t i h1, hc t i hl hN hSs hLL]
  · intro t i t' i' hl hl' he
    by_cases hN : N t i
    · by_cases hN' : N t' i'
      · exact Or.inl (hinj t i t' i' hN hN' he)
      · exfalso
        by_cases hS' : S t' i'
        · obtain ⟨_, t0, i0, h0, _, h3⟩ := hS t' i' hS'
          exact fresh t i hN t0 i0 h0 (he.trans h3)
        · obtain ⟨h1, h2⟩ := hold t' i' hl' hN' hS'
          exact fresh t i hN t' i' h1 (he.trans h2)
    · by_cases hN' : N t' i'
      · exfalso
        by_cases hS1 : S t i
        · obtain ⟨_, t0, i0, h0, _, h3⟩ := hS t i hS1
          exact fresh t' i' hN' t0 i0 h0 (he.symm.trans h3)
        · obtain ⟨h1, h2⟩ := hold t i hl hN hS1
          exact fresh t' i' hN' t i h1 (he.symm.trans h2)
      · by_cases hS1 : S t i
        · obtain ⟨r1, t0, i0, h0, r0, h3⟩ := hS t i hS1
          by_cases hS' : S t' i'
          · exact Or.inr ⟨r1, (hS t' i' hS').1⟩
          · obtain ⟨h1, h2⟩ := hold t' i' hl' hN' hS'
            rcases hL.2.1 t0 i0 t' i' h0 h1 (h3.symm.trans (he.trans h2)) with z | z
            · exact Or.inr ⟨r1, by rw [← z.1]; exact r0⟩
            · exact Or.inr ⟨r1, z.2⟩
        · obtain ⟨h1, h2⟩ := hold t i hl hN hS1
          by_cases hS' : S t' i'
          · obtain ⟨r1, t0, i0, h0, r0, h3⟩ := hS t' i' hS'
            rcases hL.2.1 t i t0 i0 h1 h0 (h2.symm.trans (he.trans h3)) with z | z
            · exact Or.inr ⟨by rw [z.1]; exact r0, r1⟩
            · exact Or.inr ⟨z.1, r1⟩
          · obtain ⟨h3, h4⟩ := hold t' i' hl' hN' hS'
            exact hL.2.1 t i t' i' h1 h3 (h2.symm.trans (he.trans h4))
theorem fr_ad {G : GG} {M : MS} {ad : AD} {gi : GI} {w : WM} {b : Nat} (hL : RLa G M ad gi w) (h : w b = none) : ∀ t i, lvT M t i → b ≠ ad t i := by
  intro t i hl z
  have h1 := hL.1 t i hl
  rw [← z, h] at h1
  cases h1
/-- cells that nobody holds are nothing to the relation -/
theorem rl_ext {G : GG} {M : MS} {ad : AD} {gi : GI} {w w' : WM} (hL : RLa G M ad gi w) (h : ∀ b, w b ≠ none → w' b = w b) : RLa G M ad gi w' :=
  ⟨fun t i hl => (h _ (by rw [hL.1 t i hl]; exact fun z => by cases z)).trans (hL.1 t i hl), hL.2⟩
theorem cSI_c {M M' : MS} {gi gi' : GI} {k : Nat} (h8 : M'.2.2 8 k = M.2.2 8 k) (h10 : M'.2.2 10 k = M.2.2 10 k) (h9 : M'.2.2 9 k = M.2.2 9 k) (h6 : M'.2.2 6 k = M.2.2 6 k) (h11 : M'.2.2 11 k = M.2.2 11 k) (h13 : M'.2.2 13 k = M.2.2 13 k) (h14 : M'.2.2 14 k = M.2.2 14 k) (h12 : M'.2.2 12 k = M.2.2 12 k) (h19 : M'.2.2 19 k = M.2.2 19 k) (h0 : gi' 0 k 0 = gi 0 k 0) : cSI M' gi' k = cSI M gi k := by
  unfold cSI c9
  rw [h8, h10, h9, h6, h11, h13, h14, h12, h19, h0]
theorem cX_c {M M' : MS} {ad ad' : AD} {k : Nat} (h8 : M'.2.2 8 k = M.2.2 8 k) (h14 : ad' 14 k = ad 14 k) (h15 : M.2.2 8 k = 1 → rIA ad' (M'.2.2 15 k) = rIA ad (M.2.2 15 k)) (h16 : M'.2.2 16 k = M.2.2 16 k) (hf : ad' 15 (M.2.2 16 k).toNatClampNeg = ad 15 (M.2.2 16 k).toNatClampNeg) (h22 : ad' 22 k = ad 22 k) : cX M' ad' k = cX M ad k := by
  unfold cX
  rw [h8, h14, h16, hf, h22]
  by_cases h1 : M.2.2 8 k = 1
  · rw [h15 h1]
  · rw [if_neg h1, if_neg h1]
/-- numbers of streams -/
def mi_num (M : MS) : Prop := (∀ k, k < 8 → (M.2.2 6 k).toInt ≤ (M.1 7).toInt ∧ (M.2.2 17 k).toInt ≤ (M.1 7).toInt) ∧ (M.1 20).toInt ≤ (M.1 7).toInt ∧ 0 ≤ (M.1 7).toInt ∧ (M.1 7).toInt < 2 ^ 30
theorem pl_bg {M M' : MS} {k : Nat} {t : Int32} (h : M'.2.2 6 = upd (M.2.2 6) k (M.1 7 + 1)) (h6 : M.2.2 6 k = 0) (hn : mi_num M) (ht : t.toInt ≤ (M.1 7).toInt) : mo_pl M' t = mo_pl M t := by
  unfold mo_pl
  rw [h]
  have e1 := ti_add (a := M.1 7) (b := 1) (y := 1) rfl rfl (by have := hn.2.2; omega)
  have hf : (fun j => decide (0 < t) && decide (upd (M.2.2 6) k (M.1 7 + 1) j = t)) = fun j => decide (0 < t) && decide (M.2.2 6 j = t) := by
    funext j
    by_cases hj : j = k
    · subst hj
      unfold upd
      rw [if_pos rfl, h6]
      by_cases h0 : 0 < t
      · have n1 : ¬ M.1 7 + 1 = t := fun z => by rw [← z] at ht; omega
        have n2 : ¬ (0 : Int32) = t := fun z => by rw [← z] at h0; exact absurd h0 (by decide)
        rw [decide_eq_false n1, decide_eq_false n2]
      · rw [decide_eq_false h0]
        rfl
    · unfold upd
      rw [if_neg hj]
  rw [hf]
theorem sAd_bg {M M' : MS} {ad ad' : AD} {k : Nat} {t : Int32} (h : M'.2.2 6 = upd (M.2.2 6) k (M.1 7 + 1)) (h6 : M.2.2 6 k = 0) (hn : mi_num M) (ht : t.toInt ≤ (M.1 7).toInt) (ha : ∀ i, i ≠ k → ad' 13 i = ad 13 i) : sAd M' ad' t = sAd M ad t := by
  unfold sAd
  rw [pl_bg h h6 hn ht]
  cases hp : mo_pl M t with
  | none => rfl
  | some j =>
    show some (ad' 13 j) = some (ad 13 j)
    rw [ha j (fun z => by have := (pl_opn hp).1.2; rw [z, h6] at this; exact absurd this (by decide))]
theorem fp_some {M : MS} {k : Nat} (h : mo_fp M = some k) : k < 8 ∧ M.2.2 6 k = 0 := by
  unfold mo_fp at h
  have h1 := List.find?_some h
  exact ⟨List.mem_range.mp (List.mem_of_find?_eq_some h), of_decide_eq_true h1⟩
def BG (M : MS) (k : Nat) (g18 : Nat → Int32) (kd wd md pl ls ar fi : Int32) : MS := sA (sF (sF (sF (sF (sF (sF (sF (sF (sF (sF (sF (sF (sI M 7 (M.1 7 + 1)) 6 k (M.1 7 + 1)) 8 k kd) 9 k wd) 10 k md) 11 k pl) 12 k ls) 13 k 0) 14 k 0) 15 k ar) 16 k fi) 17 k 0) 19 k 0) 18 g18
theorem va_upS {α : Type} {f : Nat → α} {k : Nat} : va_up f k (f k) = f := by
  funext j
  unfold va_up
  split
  · rename_i h; rw [h]
  · rfl
theorem sA_self {M : MS} {k : Nat} : sA M k (M.2.2 k) = M := Prod.ext rfl (Prod.ext rfl va_upS)
theorem sA_sA {M : MS} {k : Nat} {f g : Nat → Int32} : sA (sA M k f) k g = sA M k g := by
  refine Prod.ext rfl (Prod.ext rfl (funext fun j => ?_))
  show va_up (va_up M.2.2 k f) k g j = va_up M.2.2 k g j
  unfold va_up
  split
  · rfl
  · rfl
theorem sA_cm {M : MS} {a b : Nat} {f g : Nat → Int32} (h : a ≠ b) : sA (sA M a f) b g = sA (sA M b g) a f := by
  refine Prod.ext rfl (Prod.ext rfl (funext fun j => ?_))
  show va_up (va_up M.2.2 a f) b g j = va_up (va_up M.2.2 b g) a f j
  unfold va_up
  by_cases h1 : j = a
  · rw [if_pos h1, if_neg (by omega), if_pos h1]
  · rw [if_neg h1, if_neg h1]
theorem upd_upd {f : Nat → Int32} {k : Nat} {x y : Int32} : upd (upd f k x) k y = upd f k y := by
  funext j
  unfold upd
  split
  · rfl
  · rfl
theorem bg_0 {M : MS} {k : Nat} {kd wd md : Int32} : mo_begin M k kd wd md = BG M k (M.2.2 18) kd wd md 0 0 0 (-1) := (sA_self (M := mo_begin M k kd wd md) (k := 18)).symm
theorem vu_c {α : Type} {f g : Nat → α} {a j : Nat} {v : α} (h : f j = g j) : va_up f a v j = va_up g a v j := by unfold va_up; rw [h]
theorem vu_n {α : Type} {f : Nat → α} {a j : Nat} {x y : α} (h : ¬ j = a) : va_up f a x j = va_up f a y j := by unfold va_up; rw [if_neg h, if_neg h]
theorem bg_15 {M : MS} {k : Nat} {g18 : Nat → Int32} {kd wd md pl ls ar fi x : Int32} : sF (BG M k g18 kd wd md pl ls ar fi) 15 k x = BG M k g18 kd wd md pl ls x fi := by
  refine Prod.ext rfl (Prod.ext rfl (funext fun j => ?_))
  show va_up (BG M k g18 kd wd md pl ls ar fi).2.2 15 (upd ((BG M k g18 kd wd md pl ls ar fi).2.2 15) k x) j = (BG M k g18 kd wd md pl ls x fi).2.2 j
  by_cases h : j = 15
  · subst h
    show upd (upd (M.2.2 15) k ar) k x = upd (M.2.2 15) k x
    exact upd_upd
  · refine Eq.trans (if_neg h) ?_
    show va_up _ 18 _ j = va_up _ 18 _ j
    exact vu_c (vu_c (vu_c (vu_c (vu_n h))))
theorem bg_12 {M : MS} {k : Nat} {g18 : Nat → Int32} {kd wd md pl ls ar fi x : Int32} : sF (BG M k g18 kd wd md pl ls ar fi) 12 k x = BG M k g18 kd wd md pl x ar fi := by
  refine Prod.ext rfl (Prod.ext rfl (funext fun j => ?_))
  show va_up (BG M k g18 kd wd md pl ls ar fi).2.2 12 (upd ((BG M k g18 kd wd md pl ls ar fi).2.2 12) k x) j = (BG M k g18 kd wd md pl x ar fi).2.2 j
  by_cases h : j = 12
  · subst h
    show upd (upd (M.2.2 12) k ls) k x = upd (M.2.2 12) k x
    exact upd_upd
  · refine Eq.trans (if_neg h) ?_
    show va_up _ 18 _ j = va_up _ 18 _ j
    exact vu_c (vu_c (vu_c (vu_c (vu_c (vu_c (vu_c (vu_n h)))))))
theorem bg_16 {M : MS} {k : Nat} {g18 : Nat → Int32} {kd wd md pl ls ar fi x : Int32} : sF (BG M k g18 kd wd md pl ls ar fi) 16 k x = BG M k g18 kd wd md pl ls ar x := by
  refine Prod.ext rfl (Prod.ext rfl (funext fun j => ?_))
  show va_up (BG M k g18 kd wd md pl ls ar fi).2.2 16 (upd ((BG M k g18 kd wd md pl ls ar fi).2.2 16) k x) j = (BG M k g18 kd wd md pl ls ar x).2.2 j
  by_cases h : j = 16
  · subst h
    show upd (upd (M.2.2 16) k fi) k x = upd (M.2.2 16) k x
    exact upd_upd
  · refine Eq.trans (if_neg h) ?_
    show va_up _ 18 _ j = va_up _ 18 _ j
    exact vu_c (vu_c (vu_c (vu_n h)))
theorem bg_11 {M : MS} {k : Nat} {g18 : Nat → Int32} {kd wd md pl ls ar fi x : Int32} : sF (BG M k g18 kd wd md pl ls ar fi) 11 k x = BG M k g18 kd wd md x ls ar fi := by
  refine Prod.ext rfl (Prod.ext rfl (funext fun j => ?_))
  show va_up (BG M k g18 kd wd md pl ls ar fi).2.2 11 (upd ((BG M k g18 kd wd md pl ls ar fi).2.2 11) k x) j = (BG M k g18 kd wd md x ls ar fi).2.2 j
  by_cases h : j = 11
  · subst h
    show upd (upd (M.2.2 11) k pl) k x = upd (M.2.2 11) k x
    exact upd_upd
  · refine Eq.trans (if_neg h) ?_
    show va_up _ 18 _ j = va_up _ 18 _ j
    exact vu_c (vu_c (vu_c (vu_c (vu_c (vu_c (vu_c (vu_c (vu_n h))))))))
theorem bg_18 {M : MS} {k : Nat} {g18 g : Nat → Int32} {kd wd md pl ls ar fi : Int32} : sA (BG M k g18 kd wd md pl ls ar fi) 18 g = BG M k g kd wd md pl ls ar fi := sA_sA
theorem bm_1 {M : MS} {k : Nat} {g18 : Nat → Int32} {kd wd md pl ls ar fi : Int32} : (BG M k g18 kd wd md pl ls ar fi).2.2 1 = M.2.2 1 := rfl
theorem bm_2 {M : MS} {k : Nat} {g18 : Nat → Int32} {kd wd md pl ls ar fi : Int32} : (BG M k g18 kd wd md pl ls ar fi).2.2 2 = M.2.2 2 := rfl
theorem bm_3 {M : MS} {k : Nat} {g18 : Nat → Int32} {kd wd md pl ls ar fi : Int32} : (BG M k g18 kd wd md pl ls ar fi).2.2 3 = M.2.2 3 := rfl
theorem bm_4 {M : MS} {k : Nat} {g18 : Nat → Int32} {kd wd md pl ls ar fi : Int32} : (BG M k g18 kd wd md pl ls ar fi).2.2 4 = M.2.2 4 := rfl
theorem bm_23 {M : MS} {k : Nat} {g18 : Nat → Int32} {kd wd md pl ls ar fi : Int32} : (BG M k g18 kd wd md pl ls ar fi).2.2 23 = M.2.2 23 := rfl
theorem bm_24 {M : MS} {k : Nat} {g18 : Nat → Int32} {kd wd md pl ls ar fi : Int32} : (BG M k g18 kd wd md pl ls ar fi).2.2 24 = M.2.2 24 := rfl
theorem bm_25 {M : MS} {k : Nat} {g18 : Nat → Int32} {kd wd md pl ls ar fi : Int32} : (BG M k g18 kd wd md pl ls ar fi).2.2 25 = M.2.2 25 := rfl
theorem bm_30 {M : MS} {k : Nat} {g18 : Nat → Int32} {kd wd md pl ls ar fi : Int32} : (BG M k g18 kd wd md pl ls ar fi).2.2 30 = M.2.2 30 := rfl
theorem bm_31 {M : MS} {k : Nat} {g18 : Nat → Int32} {kd wd md pl ls ar fi : Int32} : (BG M k g18 kd wd md pl ls ar fi).2.2 31 = M.2.2 31 := rfl
theorem bm_32 {M : MS} {k : Nat} {g18 : Nat → Int32} {kd wd md pl ls ar fi : Int32} : (BG M k g18 kd wd md pl ls ar fi).2.2 32 = M.2.2 32 := rfl
theorem bm_33 {M : MS} {k : Nat} {g18 : Nat → Int32} {kd wd md pl ls ar fi : Int32} : (BG M k g18 kd wd md pl ls ar fi).2.2 33 = M.2.2 33 := rfl
theorem bm_34 {M : MS} {k : Nat} {g18 : Nat → Int32} {kd wd md pl ls ar fi : Int32} : (BG M k g18 kd wd md pl ls ar fi).2.2 34 = M.2.2 34 := rfl
theorem bm_35 {M : MS} {k : Nat} {g18 : Nat → Int32} {kd wd md pl ls ar fi : Int32} : (BG M k g18 kd wd md pl ls ar fi).2.2 35 = M.2.2 35 := rfl
theorem bm_36 {M : MS} {k : Nat} {g18 : Nat → Int32} {kd wd md pl ls ar fi : Int32} : (BG M k g18 kd wd md pl ls ar fi).2.2 36 = M.2.2 36 := rfl
theorem bm_37 {M : MS} {k : Nat} {g18 : Nat → Int32} {kd wd md pl ls ar fi : Int32} : (BG M k g18 kd wd md pl ls ar fi).2.2 37 = M.2.2 37 := rfl
theorem bm_42 {M : MS} {k : Nat} {g18 : Nat → Int32} {kd wd md pl ls ar fi : Int32} : (BG M k g18 kd wd md pl ls ar fi).2.2 42 = M.2.2 42 := rfl
theorem bm_43 {M : MS} {k : Nat} {g18 : Nat → Int32} {kd wd md pl ls ar fi : Int32} : (BG M k g18 kd wd md pl ls ar fi).2.2 43 = M.2.2 43 := rfl
theorem bi_5 {M : MS} {k : Nat} {g18 : Nat → Int32} {kd wd md pl ls ar fi : Int32} : (BG M k g18 kd wd md pl ls ar fi).1 5 = M.1 5 := rfl
theorem bi_20 {M : MS} {k : Nat} {g18 : Nat → Int32} {kd wd md pl ls ar fi : Int32} : (BG M k g18 kd wd md pl ls ar fi).1 20 = M.1 20 := rfl
theorem bi_26 {M : MS} {k : Nat} {g18 : Nat → Int32} {kd wd md pl ls ar fi : Int32} : (BG M k g18 kd wd md pl ls ar fi).1 26 = M.1 26 := rfl
theorem bi_27 {M : MS} {k : Nat} {g18 : Nat → Int32} {kd wd md pl ls ar fi : Int32} : (BG M k g18 kd wd md pl ls ar fi).1 27 = M.1 27 := rfl
theorem bi_28 {M : MS} {k : Nat} {g18 : Nat → Int32} {kd wd md pl ls ar fi : Int32} : (BG M k g18 kd wd md pl ls ar fi).1 28 = M.1 28 := rfl
theorem bi_29 {M : MS} {k : Nat} {g18 : Nat → Int32} {kd wd md pl ls ar fi : Int32} : (BG M k g18 kd wd md pl ls ar fi).1 29 = M.1 29 := rfl
theorem bi_38 {M : MS} {k : Nat} {g18 : Nat → Int32} {kd wd md pl ls ar fi : Int32} : (BG M k g18 kd wd md pl ls ar fi).1 38 = M.1 38 := rfl
theorem bi_39 {M : MS} {k : Nat} {g18 : Nat → Int32} {kd wd md pl ls ar fi : Int32} : (BG M k g18 kd wd md pl ls ar fi).1 39 = M.1 39 := rfl
theorem bi_40 {M : MS} {k : Nat} {g18 : Nat → Int32} {kd wd md pl ls ar fi : Int32} : (BG M k g18 kd wd md pl ls ar fi).1 40 = M.1 40 := rfl
theorem bi_41 {M : MS} {k : Nat} {g18 : Nat → Int32} {kd wd md pl ls ar fi : Int32} : (BG M k g18 kd wd md pl ls ar fi).1 41 = M.1 41 := rfl
theorem bi_44 {M : MS} {k : Nat} {g18 : Nat → Int32} {kd wd md pl ls ar fi : Int32} : (BG M k g18 kd wd md pl ls ar fi).1 44 = M.1 44 := rfl
theorem bi_45 {M : MS} {k : Nat} {g18 : Nat → Int32} {kd wd md pl ls ar fi : Int32} : (BG M k g18 kd wd md pl ls ar fi).1 45 = M.1 45 := rfl
theorem bi_7 {M : MS} {k : Nat} {g18 : Nat → Int32} {kd wd md pl ls ar fi : Int32} : (BG M k g18 kd wd md pl ls ar fi).1 7 = M.1 7 + 1 := rfl
theorem bl_0 {M : MS} {k : Nat} {g18 : Nat → Int32} {kd wd md pl ls ar fi : Int32} : (BG M k g18 kd wd md pl ls ar fi).2.1 = M.2.1 := rfl
theorem b_18 {M : MS} {k : Nat} {g18 : Nat → Int32} {kd wd md pl ls ar fi : Int32} : (BG M k g18 kd wd md pl ls ar fi).2.2 18 = g18 := rfl
theorem bu_6 {M : MS} {k : Nat} {g18 : Nat → Int32} {kd wd md pl ls ar fi : Int32} : (BG M k g18 kd wd md pl ls ar fi).2.2 6 = upd (M.2.2 6) k (M.1 7 + 1) := rfl
theorem bu_8 {M : MS} {k : Nat} {g18 : Nat → Int32} {kd wd md pl ls ar fi : Int32} : (BG M k g18 kd wd md pl ls ar fi).2.2 8 = upd (M.2.2 8) k (kd) := rfl
theorem bu_9 {M : MS} {k : Nat} {g18 : Nat → Int32} {kd wd md pl ls ar fi : Int32} : (BG M k g18 kd wd md pl ls ar fi).2.2 9 = upd (M.2.2 9) k (wd) := rfl
theorem bu_10 {M : MS} {k : Nat} {g18 : Nat → Int32} {kd wd md pl ls ar fi : Int32} : (BG M k g18 kd wd md pl ls ar fi).2.2 10 = upd (M.2.2 10) k (md) := rfl
theorem bu_11 {M : MS} {k : Nat} {g18 : Nat → Int32} {kd wd md pl ls ar fi : Int32} : (BG M k g18 kd wd md pl ls ar fi).2.2 11 = upd (M.2.2 11) k (pl) := rfl
theorem bu_12 {M : MS} {k : Nat} {g18 : Nat → Int32} {kd wd md pl ls ar fi : Int32} : (BG M k g18 kd wd md pl ls ar fi).2.2 12 = upd (M.2.2 12) k (ls) := rfl
theorem bu_13 {M : MS} {k : Nat} {g18 : Nat → Int32} {kd wd md pl ls ar fi : Int32} : (BG M k g18 kd wd md pl ls ar fi).2.2 13 = upd (M.2.2 13) k (0) := rfl
theorem bu_14 {M : MS} {k : Nat} {g18 : Nat → Int32} {kd wd md pl ls ar fi : Int32} : (BG M k g18 kd wd md pl ls ar fi).2.2 14 = upd (M.2.2 14) k (0) := rfl
theorem bu_15 {M : MS} {k : Nat} {g18 : Nat → Int32} {kd wd md pl ls ar fi : Int32} : (BG M k g18 kd wd md pl ls ar fi).2.2 15 = upd (M.2.2 15) k (ar) := rfl
theorem bu_16 {M : MS} {k : Nat} {g18 : Nat → Int32} {kd wd md pl ls ar fi : Int32} : (BG M k g18 kd wd md pl ls ar fi).2.2 16 = upd (M.2.2 16) k (fi) := rfl
theorem bu_17 {M : MS} {k : Nat} {g18 : Nat → Int32} {kd wd md pl ls ar fi : Int32} : (BG M k g18 kd wd md pl ls ar fi).2.2 17 = upd (M.2.2 17) k (0) := rfl
theorem bu_19 {M : MS} {k : Nat} {g18 : Nat → Int32} {kd wd md pl ls ar fi : Int32} : (BG M k g18 kd wd md pl ls ar fi).2.2 19 = upd (M.2.2 19) k (0) := rfl
theorem bd_0 {ad : AD} {k b pa it iv : Nat} : (adu (adu (adu (adu ad 13 k b) 14 k pa) 22 k it) 23 k iv) 0 = ad 0 := rfl
theorem bd_1 {ad : AD} {k b pa it iv : Nat} : (adu (adu (adu (adu ad 13 k b) 14 k pa) 22 k it) 23 k iv) 1 = ad 1 := rfl
theorem bd_2 {ad : AD} {k b pa it iv : Nat} : (adu (adu (adu (adu ad 13 k b) 14 k pa) 22 k it) 23 k iv) 2 = ad 2 := rfl
theorem bd_3 {ad : AD} {k b pa it iv : Nat} : (adu (adu (adu (adu ad 13 k b) 14 k pa) 22 k it) 23 k iv) 3 = ad 3 := rfl
theorem bd_4 {ad : AD} {k b pa it iv : Nat} : (adu (adu (adu (adu ad 13 k b) 14 k pa) 22 k it) 23 k iv) 4 = ad 4 := rfl
theorem bd_5 {ad : AD} {k b pa it iv : Nat} : (adu (adu (adu (adu ad 13 k b) 14 k pa) 22 k it) 23 k iv) 5 = ad 5 := rfl
theorem bd_6 {ad : AD} {k b pa it iv : Nat} : (adu (adu (adu (adu ad 13 k b) 14 k pa) 22 k it) 23 k iv) 6 = ad 6 := rfl
theorem bd_7 {ad : AD} {k b pa it iv : Nat} : (adu (adu (adu (adu ad 13 k b) 14 k pa) 22 k it) 23 k iv) 7 = ad 7 := rfl
theorem bd_8 {ad : AD} {k b pa it iv : Nat} : (adu (adu (adu (adu ad 13 k b) 14 k pa) 22 k it) 23 k iv) 8 = ad 8 := rfl
theorem bd_9 {ad : AD} {k b pa it iv : Nat} : (adu (adu (adu (adu ad 13 k b) 14 k pa) 22 k it) 23 k iv) 9 = ad 9 := rfl
theorem bd_10 {ad : AD} {k b pa it iv : Nat} : (adu (adu (adu (adu ad 13 k b) 14 k pa) 22 k it) 23 k iv) 10 = ad 10 := rfl
theorem bd_11 {ad : AD} {k b pa it iv : Nat} : (adu (adu (adu (adu ad 13 k b) 14 k pa) 22 k it) 23 k iv) 11 = ad 11 := rfl
theorem bd_12 {ad : AD} {k b pa it iv : Nat} : (adu (adu (adu (adu ad 13 k b) 14 k pa) 22 k it) 23 k iv) 12 = ad 12 := rfl
theorem bd_15 {ad : AD} {k b pa it iv : Nat} : (adu (adu (adu (adu ad 13 k b) 14 k pa) 22 k it) 23 k iv) 15 = ad 15 := rfl
theorem bd_16 {ad : AD} {k b pa it iv : Nat} : (adu (adu (adu (adu ad 13 k b) 14 k pa) 22 k it) 23 k iv) 16 = ad 16 := rfl
theorem bd_17 {ad : AD} {k b pa it iv : Nat} : (adu (adu (adu (adu ad 13 k b) 14 k pa) 22 k it) 23 k iv) 17 = ad 17 := rfl
theorem bd_18 {ad : AD} {k b pa it iv : Nat} : (adu (adu (adu (adu ad 13 k b) 14 k pa) 22 k it) 23 k iv) 18 = ad 18 := rfl
theorem bd_19 {ad : AD} {k b pa it iv : Nat} : (adu (adu (adu (adu ad 13 k b) 14 k pa) 22 k it) 23 k iv) 19 = ad 19 := rfl
theorem bd_20 {ad : AD} {k b pa it iv : Nat} : (adu (adu (adu (adu ad 13 k b) 14 k pa) 22 k it) 23 k iv) 20 = ad 20 := rfl
theorem bd_21 {ad : AD} {k b pa it iv : Nat} : (adu (adu (adu (adu ad 13 k b) 14 k pa) 22 k it) 23 k iv) 21 = ad 21 := rfl
theorem bx_2 {gi : GI} {k : Nat} {g6 : Nat → Int32} : (gu (gu (gu gi 0 k (fun _ => 0)) 1 k (fun _ => 0)) 6 k g6) 2 = gi 2 := rfl
theorem bx_3 {gi : GI} {k : Nat} {g6 : Nat → Int32} : (gu (gu (gu gi 0 k (fun _ => 0)) 1 k (fun _ => 0)) 6 k g6) 3 = gi 3 := rfl
theorem bx_4 {gi : GI} {k : Nat} {g6 : Nat → Int32} : (gu (gu (gu gi 0 k (fun _ => 0)) 1 k (fun _ => 0)) 6 k g6) 4 = gi 4 := rfl
theorem bx_7 {gi : GI} {k : Nat} {g6 : Nat → Int32} : (gu (gu (gu gi 0 k (fun _ => 0)) 1 k (fun _ => 0)) 6 k g6) 7 = gi 7 := rfl
theorem bx_5 {gi : GI} {k : Nat} {g6 : Nat → Int32} : (gu (gu (gu gi 0 k (fun _ => 0)) 1 k (fun _ => 0)) 6 k g6) 5 = gi 5 := rfl
theorem upd_n {f : Nat → Int32} {k i : Nat} {x : Int32} (h : i ≠ k) : upd f k x i = f i := if_neg h
theorem upd_s {f : Nat → Int32} {k : Nat} {x : Int32} : upd f k x k = x := if_pos rfl
theorem cR_c {M M' : MS} {ad ad' : AD} (h1 : M'.2.2 1 = M.2.2 1) (h2 : ad' 11 = ad 11) : cR M' ad' = cR M ad := by unfold cR rIA; rw [h1, h2]
theorem cG_c {M M' : MS} {ad ad' : AD} (h1 : M'.2.2 23 = M.2.2 23) (h2 : ad' 20 = ad 20) : cG M' ad' = cG M ad := by unfold cG; rw [h1, h2]
theorem cF_c {M M' : MS} {ad ad' : AD} (h1 : M'.1 29 = M.1 29) (h2 : ad' 17 = ad 17) : cF M' ad' = cF M ad := by unfold cF; rw [h1, h2]
theorem cArr_c {M M' : MS} {i : Nat} (h1 : M'.2.2 2 = M.2.2 2) (h2 : M'.2.2 3 = M.2.2 3) (h3 : M'.2.2 4 = M.2.2 4) : cArr M' i = cArr M i := by unfold cArr; rw [h1, h2, h3]
theorem cGiv_c {M M' : MS} {i : Nat} (h1 : M'.2.2 23 = M.2.2 23) (h2 : M'.2.2 24 = M.2.2 24) : cGiv M' i = cGiv M i := by unfold cGiv; rw [h1, h2]
set_option maxRecDepth 20000 in
theorem rl_bg {G : GG} {M : MS} {ad : AD} {gi : GI} {w w' : WM} {k b pa it iv : Nat} {g18 g6 F : Nat → Int32} {kd wd md pl ls ar fi : Int32} {xo : Option Nat} (hL : RLa G M ad gi w) (hk : k < 8) (h6 : M.2.2 6 k = 0) (hn : mi_num M) (hsg : mi_signs M) (hls : mi_last M)
    (hg18 : ∀ x, (x < 40 * k ∨ 40 * k + 40 ≤ x) → g18 x = M.2.2 18 x)
    (hb : ∀ t i, lvT M t i → b ≠ ad t i)
    (h0 : kd = 0 → (∀ t i, lvT M t i → pa ≠ ad t i) ∧ pa ≠ b ∧ w' pa = some (.inl (gA G 0, 20, .inl (fun _ => 0))))
    (h1 : kd = 1 → ar = 0 ∨ ∃ f, f < 8 ∧ M.2.2 1 f = ar)
    (h3 : kd = 3 → ∃ n, (n < 4 ∧ 0 ≤ M.2.2 23 n) ∧ it = ad 20 n ∧ iv = ad 21 n ∧ ls = M.2.2 23 n ∧ g6 = cGiv M n ∧ ∀ j : Nat, (j : Int) < ls.toInt → g18 (40 * k + j) = (if wd = 0 ∧ 255 < g6 j then 63 else g6 j))
    (hB : w' b = some (sC F none xo))
    (hF : F = cSI (BG M k g18 kd wd md pl ls ar fi) (gu (gu (gu gi 0 k (fun _ => 0)) 1 k (fun _ => 0)) 6 k g6) k)
    (hX : xo = cX (BG M k g18 kd wd md pl ls ar fi) (adu (adu (adu (adu ad 13 k b) 14 k pa) 22 k it) 23 k iv) k)
    (hO : w' (ad 0 0) = some (oC (ad 1 0) (ad 2 0) (ad 3 0) (ad 4 0) (ad 5 0) (ad 6 0) (sAd M ad (M.1 20)) (M.1 7 + 1) (M.1 29) (M.1 38) (M.2.1 21).toInt32 (M.2.1 22).toInt32 (M.1 5)))
    (hT : w' (ad 3 0) = some (rA (gA G 5) 8 (va_up (cS M ad) k (some b))))
    (hR : ∀ c, c ≠ ad 0 0 → c ≠ b → c ≠ ad 3 0 → (kd = 0 → c ≠ pa) → w' c = w c) :
    RLa G (BG M k g18 kd wd md pl ls ar fi) (adu (adu (adu (adu ad 13 k b) 14 k pa) 22 k it) 23 k iv) (gu (gu (gu gi 0 k (fun _ => 0)) 1 k (fun _ => 0)) 6 k g6) w' := by
  generalize hM' : BG M k g18 kd wd md pl ls ar fi = M' at *
  generalize hA' : adu (adu (adu (adu ad 13 k b) 14 k pa) 22 k it) 23 k iv = ad' at *
  generalize hG' : gu (gu (gu gi 0 k (fun _ => 0)) 1 k (fun _ => 0)) 6 k g6 = gi' at *
  have e1 := ti_add (a := M.1 7) (b := 1) (y := 1) rfl rfl (by have := hn.2.2; omega)
  have f6 : M'.2.2 6 = upd (M.2.2 6) k (M.1 7 + 1) := hM' ▸ bu_6
  have fo : ∀ j, (j = 6 ∨ j = 8 ∨ j = 9 ∨ j = 10 ∨ j = 11 ∨ j = 12 ∨ j = 13 ∨ j = 14 ∨ j = 15 ∨ j = 16 ∨ j = 17 ∨ j = 19) → ∀ i, i ≠ k → M'.2.2 j i = M.2.2 j i := by
    intro j hj i hi
    rw [← hM']
    rcases hj with rfl | rfl | rfl | rfl | rfl | rfl | rfl | rfl | rfl | rfl | rfl | rfl
    · rw [bu_6]; exact upd_n hi
    · rw [bu_8]; exact upd_n hi
    · rw [bu_9]; exact upd_n hi
    · rw [bu_10]; exact upd_n hi
    · rw [bu_11]; exact upd_n hi
    · rw [bu_12]; exact upd_n hi
    · rw [bu_13]; exact upd_n hi
    · rw [bu_14]; exact upd_n hi
    · rw [bu_15]; exact upd_n hi
    · rw [bu_16]; exact upd_n hi
    · rw [bu_17]; exact upd_n hi
    · rw [bu_19]; exact upd_n hi
  have fk6 : M'.2.2 6 k = M.1 7 + 1 := by rw [f6]; exact upd_s
  have fk8 : M'.2.2 8 k = kd := by rw [← hM', bu_8]; exact upd_s
  have fk9 : M'.2.2 9 k = wd := by rw [← hM', bu_9]; exact upd_s
  have fk12 : M'.2.2 12 k = ls := by rw [← hM', bu_12]; exact upd_s
  have fk15 : M'.2.2 15 k = ar := by rw [← hM', bu_15]; exact upd_s
  have fk17 : M'.2.2 17 k = 0 := by rw [← hM', bu_17]; exact upd_s
  have fk19 : M'.2.2 19 k = 0 := by rw [← hM', bu_19]; exact upd_s
  have f18 : M'.2.2 18 = g18 := hM' ▸ b_18
  have a13 : ad' 13 k = b := by rw [← hA']; exact (adu_s : adu ad 13 k b 13 k = b)
  have a14 : ad' 14 k = pa := by rw [← hA']; exact (adu_s : adu (adu ad 13 k b) 14 k pa 14 k = pa)
  have a22 : ad' 22 k = it := by rw [← hA']; exact (adu_s : adu (adu (adu ad 13 k b) 14 k pa) 22 k it 22 k = it)
  have a23 : ad' 23 k = iv := by rw [← hA']; exact adu_s
  have n13 : ∀ i, i ≠ k → ad' 13 i = ad 13 i := fun i hi => by rw [← hA']; exact (adu_n hi : adu ad 13 k b 13 i = ad 13 i)
  have n14 : ∀ i, i ≠ k → ad' 14 i = ad 14 i := fun i hi => by rw [← hA']; exact (adu_n hi : adu (adu ad 13 k b) 14 k pa 14 i = (adu ad 13 k b) 14 i)
  have n22 : ∀ i, i ≠ k → ad' 22 i = ad 22 i := fun i hi => by rw [← hA']; exact (adu_n hi : adu (adu (adu ad 13 k b) 14 k pa) 22 k it 22 i = (adu (adu ad 13 k b) 14 k pa) 22 i)
  have n23 : ∀ i, i ≠ k → ad' 23 i = ad 23 i := fun i hi => by rw [← hA']; exact (adu_n hi : adu (adu (adu (adu ad 13 k b) 14 k pa) 22 k it) 23 k iv 23 i = (adu (adu (adu ad 13 k b) 14 k pa) 22 k it) 23 i)
  have g0 : ∀ i, i ≠ k → gi' 0 i = gi 0 i := fun i hi => by rw [← hG']; exact (if_neg (fun z => hi z.2) : gu gi 0 k (fun _ => 0) 0 i = gi 0 i)
  have g1 : ∀ i, i ≠ k → gi' 1 i = gi 1 i := fun i hi => by rw [← hG']; exact (if_neg (fun z => hi z.2) : gu (gu gi 0 k (fun _ => 0)) 1 k (fun _ => 0) 1 i = gi 1 i)
  have g2 : ∀ i, i ≠ k → gi' 6 i = gi 6 i := fun i hi => by rw [← hG']; exact if_neg (fun z => hi z.2)
  have gk0 : gi' 0 k 0 = 0 := by rw [← hG']; exact congrFun (if_pos ⟨rfl, rfl⟩ : gu gi 0 k (fun _ => 0) 0 k = fun _ => 0) 0
  have gk1 : gi' 1 k = fun _ => 0 := by rw [← hG']; exact (if_pos ⟨rfl, rfl⟩ : gu (gu gi 0 k (fun _ => 0)) 1 k (fun _ => 0) 1 k = fun _ => 0)
  have gk6 : gi' 6 k = g6 := by rw [← hG']; exact if_pos ⟨rfl, rfl⟩
  have m1 : M'.2.2 1 = M.2.2 1 := hM' ▸ bm_1
  have m2 : M'.2.2 2 = M.2.2 2 := hM' ▸ bm_2
  have m3 : M'.2.2 3 = M.2.2 3 := hM' ▸ bm_3
  have m4 : M'.2.2 4 = M.2.2 4 := hM' ▸ bm_4
  have m23 : M'.2.2 23 = M.2.2 23 := hM' ▸ bm_23
  have m24 : M'.2.2 24 = M.2.2 24 := hM' ▸ bm_24
  have m25 : M'.2.2 25 = M.2.2 25 := hM' ▸ bm_25
  have m30 : M'.2.2 30 = M.2.2 30 := hM' ▸ bm_30
  have m31 : M'.2.2 31 = M.2.2 31 := hM' ▸ bm_31
  have m32 : M'.2.2 32 = M.2.2 32 := hM' ▸ bm_32
  have m33 : M'.2.2 33 = M.2.2 33 := hM' ▸ bm_33
  have m34 : M'.2.2 34 = M.2.2 34 := hM' ▸ bm_34
  have m35 : M'.2.2 35 = M.2.2 35 := hM' ▸ bm_35
  have m36 : M'.2.2 36 = M.2.2 36 := hM' ▸ bm_36
  have m37 : M'.2.2 37 = M.2.2 37 := hM' ▸ bm_37
  have m42 : M'.2.2 42 = M.2.2 42 := hM' ▸ bm_42
  have m43 : M'.2.2 43 = M.2.2 43 := hM' ▸ bm_43
  have i5 : M'.1 5 = M.1 5 := hM' ▸ bi_5
  have i20 : M'.1 20 = M.1 20 := hM' ▸ bi_20
  have i26 : M'.1 26 = M.1 26 := hM' ▸ bi_26
  have i27 : M'.1 27 = M.1 27 := hM' ▸ bi_27
  have i28 : M'.1 28 = M.1 28 := hM' ▸ bi_28
  have i29 : M'.1 29 = M.1 29 := hM' ▸ bi_29
  have i38 : M'.1 38 = M.1 38 := hM' ▸ bi_38
  have i39 : M'.1 39 = M.1 39 := hM' ▸ bi_39
  have i40 : M'.1 40 = M.1 40 := hM' ▸ bi_40
  have i41 : M'.1 41 = M.1 41 := hM' ▸ bi_41
  have i44 : M'.1 44 = M.1 44 := hM' ▸ bi_44
  have i45 : M'.1 45 = M.1 45 := hM' ▸ bi_45
  have l0 : M'.2.1 = M.2.1 := hM' ▸ bl_0
  have d0 : ad' 0 = ad 0 := hA' ▸ bd_0
  have d1 : ad' 1 = ad 1 := hA' ▸ bd_1
  have d2 : ad' 2 = ad 2 := hA' ▸ bd_2
  have d3 : ad' 3 = ad 3 := hA' ▸ bd_3
  have d4 : ad' 4 = ad 4 := hA' ▸ bd_4
  have d5 : ad' 5 = ad 5 := hA' ▸ bd_5
  have d6 : ad' 6 = ad 6 := hA' ▸ bd_6
  have d7 : ad' 7 = ad 7 := hA' ▸ bd_7
  have d8 : ad' 8 = ad 8 := hA' ▸ bd_8
  have d9 : ad' 9 = ad 9 := hA' ▸ bd_9
  have d10 : ad' 10 = ad 10 := hA' ▸ bd_10
  have d11 : ad' 11 = ad 11 := hA' ▸ bd_11
  have d12 : ad' 12 = ad 12 := hA' ▸ bd_12
  have d15 : ad' 15 = ad 15 := hA' ▸ bd_15
  have d16 : ad' 16 = ad 16 := hA' ▸ bd_16
  have d17 : ad' 17 = ad 17 := hA' ▸ bd_17
  have d18 : ad' 18 = ad 18 := hA' ▸ bd_18
  have d19 : ad' 19 = ad 19 := hA' ▸ bd_19
  have d20 : ad' 20 = ad 20 := hA' ▸ bd_20
  have d21 : ad' 21 = ad 21 := hA' ▸ bd_21
  have x2 : gi' 2 = gi 2 := hG' ▸ bx_2
  have x3 : gi' 3 = gi 3 := hG' ▸ bx_3
  have x4 : gi' 4 = gi 4 := hG' ▸ bx_4
  have x5 : gi' 5 = gi 5 := hG' ▸ bx_5
  have x7 : gi' 7 = gi 7 := hG' ▸ bx_7
  have opk : ∀ i, opn M' i → i ≠ k → opn M i := fun i h hi => ⟨h.1, by have := h.2; rw [fo 6 (by simp) i hi] at this; exact this⟩
  have us : ∀ u, usd M' u → usd M u := by
    rintro u ⟨a1, a2, a3⟩
    refine ⟨a1, a2, uA_iff.mpr ?_⟩
    obtain ⟨j, hj, h⟩ := uA_iff.mp a3
    rw [m1] at h
    rcases h with h | ⟨x1, x2, x3⟩
    · exact ⟨j, hj, Or.inl h⟩
    · by_cases hjk : j = k
      · subst hjk
        rw [fk8] at x2
        rw [fk15] at x3
        rcases h1 x2 with z | ⟨f, z1, z2⟩
        · exfalso
          rw [z] at x3
          have := (i32_eq _ _).mp x3
          rw [nI_toInt (by omega)] at this
          have e0 : (0 : Int32).toInt = 0 := rfl
          omega
        · exact ⟨f, z1, Or.inl (z2.trans x3)⟩
      · rw [fo 6 (by simp) j hjk] at x1
        rw [fo 8 (by simp) j hjk] at x2
        rw [fo 15 (by simp) j hjk] at x3
        exact ⟨j, hj, Or.inr ⟨x1, x2, x3⟩⟩
  have sa : ∀ t : Int32, t.toInt ≤ (M.1 7).toInt → sAd M' ad' t = sAd M ad t := fun t ht => sAd_bg f6 h6 hn ht n13
  have sa0 : sAd M' ad' 0 = none := by unfold sAd; rw [mo_pl0]; rfl
  refine rl_addP hL (fun t i => i = k ∧ (t = 13 ∨ (t = 14 ∧ kd = 0))) (fun t i => i = k ∧ kd = 3 ∧ (t = 22 ∨ t = 23)) (fun t i => i = 0 ∧ (t = 0 ∨ t = 3)) ?_ ?_ ?_ (fun t i hl hn0 hn1 => by
    match t, hl, hn0, hn1 with
    | 0, hl, hn0, hn1 => (have h := (show _ ∧ i = 0 from hl).2; subst h; exact ⟨lvf 0 (by decide), congrFun d0 0⟩)
    | 1, hl, hn0, hn1 => (have h := (show _ ∧ i = 0 from hl).2; subst h; exact ⟨lvf 1 (by decide), congrFun d1 0⟩)
    | 2, hl, hn0, hn1 => (have h := (show _ ∧ i = 0 from hl).2; subst h; exact ⟨lvf 2 (by decide), congrFun d2 0⟩)
    | 3, hl, hn0, hn1 => (have h := (show _ ∧ i = 0 from hl).2; subst h; exact ⟨lvf 3 (by decide), congrFun d3 0⟩)
    | 4, hl, hn0, hn1 => (have h := (show _ ∧ i = 0 from hl).2; subst h; exact ⟨lvf 4 (by decide), congrFun d4 0⟩)
    | 5, hl, hn0, hn1 => (have h := (show _ ∧ i = 0 from hl).2; subst h; exact ⟨lvf 5 (by decide), congrFun d5 0⟩)
    | 6, hl, hn0, hn1 => (have h := (show _ ∧ i = 0 from hl).2; subst h; exact ⟨lvf 6 (by decide), congrFun d6 0⟩)
    | 7, hl, hn0, hn1 => (have h := (show _ ∧ i = 0 from hl).2; subst h; exact ⟨lvf 7 (by decide), congrFun d7 0⟩)
    | 8, hl, hn0, hn1 => (have h := (show _ ∧ i = 0 from hl).2; subst h; exact ⟨lvf 8 (by decide), congrFun d8 0⟩)
    | 9, hl, hn0, hn1 => (have h := (show _ ∧ i = 0 from hl).2; subst h; exact ⟨lvf 9 (by decide), congrFun d9 0⟩)
    | 10, hl, hn0, hn1 => (have h := (show _ ∧ i = 0 from hl).2; subst h; exact ⟨lvf 10 (by decide), congrFun d10 0⟩)
    | 11, hl, hn0, hn1 => exact ⟨us i hl, congrFun d11 i⟩
    | 12, hl, hn0, hn1 => exact ⟨us i hl, congrFun d12 i⟩
    | 13, hl, hn0, hn1 => (by_cases hik : i = k; exact absurd ⟨hik, Or.inl rfl⟩ hn0; exact ⟨opk i hl hik, n13 i hik⟩)
    | 14, hl, hn0, hn1 => (by_cases hik : i = k; exact absurd (⟨hik, Or.inr ⟨rfl, by have h := (show opn M' i ∧ _ from hl).2; rw [hik, fk8] at h; exact h⟩⟩) hn0; exact ⟨⟨opk i (show opn M' i ∧ _ from hl).1 hik, (fo 8 (by simp) i hik).symm.trans (show opn M' i ∧ _ from hl).2⟩, n14 i hik⟩)
    | 15, hl, hn0, hn1 => exact ⟨(by have h : isr M' i ∧ M'.2.2 34 i = nI i := hl; unfold isr at h; rw [i29, m34] at h; exact h), congrFun d15 i⟩
    | 16, hl, hn0, hn1 => exact ⟨(by have h : isr M' i ∧ M'.2.2 34 i = nI i := hl; unfold isr at h; rw [i29, m34] at h; exact h), congrFun d16 i⟩
    | 17, hl, hn0, hn1 => exact ⟨(by have h : isr M' i := hl; unfold isr at h; rw [i29] at h; exact h), congrFun d17 i⟩
    | 18, hl, hn0, hn1 => exact ⟨(by have h : isr M' i ∧ M'.2.2 33 i = 0 := hl; unfold isr at h; rw [i29, m33] at h; exact h), congrFun d18 i⟩
    | 19, hl, hn0, hn1 => exact ⟨(by have h : isr M' i ∧ M'.2.2 33 i = 0 := hl; unfold isr at h; rw [i29, m33] at h; exact h), congrFun d19 i⟩
    | 20, hl, hn0, hn1 => exact ⟨(by have h : i < 4 ∧ 0 ≤ M'.2.2 23 i := hl; rw [m23] at h; exact h), congrFun d20 i⟩
    | 21, hl, hn0, hn1 => exact ⟨(by have h : i < 4 ∧ 0 ≤ M'.2.2 23 i := hl; rw [m23] at h; exact h), congrFun d21 i⟩
    | 22, hl, hn0, hn1 => (by_cases hik : i = k; exact absurd (⟨hik, by have h := (show opn M' i ∧ _ from hl).2; rw [hik, fk8] at h; exact h, Or.inl rfl⟩) hn1; exact ⟨⟨opk i (show opn M' i ∧ _ from hl).1 hik, (fo 8 (by simp) i hik).symm.trans (show opn M' i ∧ _ from hl).2⟩, n22 i hik⟩)
    | 23, hl, hn0, hn1 => (by_cases hik : i = k; exact absurd (⟨hik, by have h := (show opn M' i ∧ _ from hl).2; rw [hik, fk8] at h; exact h, Or.inr rfl⟩) hn1; exact ⟨⟨opk i (show opn M' i ∧ _ from hl).1 hik, (fo 8 (by simp) i hik).symm.trans (show opn M' i ∧ _ from hl).2⟩, n23 i hik⟩)
    | n + 24, hl, hn0, hn1 => exact absurd (show n + 24 ≤ 10 ∧ i = 0 from hl).1 (by omega)) ?_ ?_ (fun t i hl hn0 hn1 hn2 => by
    match t, hl, hn0, hn1, hn2 with
    | 0, hl, hn0, hn1, hn2 => exact absurd ⟨(show _ ∧ i = 0 from hl).2, Or.inl rfl⟩ hn2
    | 1, hl, hn0, hn1, hn2 => (refine cc_1 ?_; rw [cR_c m1 d11])
    | 2, hl, hn0, hn1, hn2 => (refine cc_2 ?_; rw [cG_c m23 d20])
    | 3, hl, hn0, hn1, hn2 => exact absurd ⟨(show _ ∧ i = 0 from hl).2, Or.inr rfl⟩ hn2
    | 4, hl, hn0, hn1, hn2 => (refine cc_4 ?_; rw [cF_c i29 d17])
    | 5, hl, hn0, hn1, hn2 => (refine cc_5 ?_; rw [d9, i27, i28])
    | 6, hl, hn0, hn1, hn2 => (refine cc_6 ?_; rw [i39, i40, x3, d7, i44, i45, d8])
    | 7, hl, hn0, hn1, hn2 => (refine cc_7 ?_; rw [m42])
    | 8, hl, hn0, hn1, hn2 => (refine cc_8 ?_; rw [m43])
    | 9, hl, hn0, hn1, hn2 => (refine cc_9 ?_; rw [d10, i26, x7])
    | 10, hl, hn0, hn1, hn2 => (refine cc_10 ?_; rw [x4])
    | 11, hl, hn0, hn1, hn2 => (refine cc_11 ?_; rw [m2, d12])
    | 12, hl, hn0, hn1, hn2 => (refine cc_12 ?_; rw [m3, cArr_c m2 m3 m4])
    | 13, hl, hn0, hn1, hn2 => (have hik : i ≠ k := fun z => hn0 ⟨z, Or.inl rfl⟩; show sC (cSI M' gi' i) (sAd M' ad' (M'.2.2 17 i)) (cX M' ad' i) = sC (cSI M gi i) (sAd M ad (M.2.2 17 i)) (cX M ad i); rw [cSI_c (fo 8 (by simp) i hik) (fo 10 (by simp) i hik) (fo 9 (by simp) i hik) (fo 6 (by simp) i hik) (fo 11 (by simp) i hik) (fo 13 (by simp) i hik) (fo 14 (by simp) i hik) (fo 12 (by simp) i hik) (fo 19 (by simp) i hik) (congrFun (g0 i hik) 0), (fo 17 (by simp) i hik), sa _ (hn.1 i (show opn M' i from hl).1).2, cX_c (fo 8 (by simp) i hik) (n14 i hik) (fun _ => by unfold rIA; rw [(fo 15 (by simp) i hik), d11]) (fo 16 (by simp) i hik) (congrFun d15 _) (n22 i hik)])
    | 14, hl, hn0, hn1, hn2 => (by_cases hik : i = k; exact absurd ⟨hik, Or.inr ⟨rfl, by have h := (show opn M' i ∧ _ from hl).2; rw [hik, fk8] at h; exact h⟩⟩ hn0; show (Sum.inl (gA G 0, 20, Sum.inl (gi' 1 i)) : va_E) = Sum.inl (gA G 0, 20, Sum.inl (gi 1 i)); rw [g1 i hik])
    | 15, hl, hn0, hn1, hn2 => (refine cc_15 ?_; rw [d16, m36, m35])
    | 16, hl, hn0, hn1, hn2 => (refine cc_16 ?_; rw [x2])
    | 17, hl, hn0, hn1, hn2 => (refine cc_17 ?_; rw [m30, m33, d18, d15, m34])
    | 18, hl, hn0, hn1, hn2 => (refine cc_18 ?_; rw [d19])
    | 19, hl, hn0, hn1, hn2 => (refine cc_19 ?_; rw [m32, x5])
    | 20, hl, hn0, hn1, hn2 => (refine cc_20 ?_; rw [d21])
    | 21, hl, hn0, hn1, hn2 => (refine cc_21 ?_; rw [m23, cGiv_c m23 m24])
    | 22, hl, hn0, hn1, hn2 => (by_cases hik : i = k; exact absurd ⟨hik, by have h := (show opn M' i ∧ _ from hl).2; rw [hik, fk8] at h; exact h, Or.inl rfl⟩ hn1; show (Sum.inr (4, [Value.int 2, Value.ref (ad' 23 i)]) : va_E) = Sum.inr (4, [Value.int 2, Value.ref (ad 23 i)]); rw [n23 i hik])
    | 23, hl, hn0, hn1, hn2 => (by_cases hik : i = k; exact absurd ⟨hik, by have h := (show opn M' i ∧ _ from hl).2; rw [hik, fk8] at h; exact h, Or.inr rfl⟩ hn1; show (Sum.inl (gA G 0, (M'.2.2 12 i).toNatClampNeg, Sum.inl (gi' 6 i)) : va_E) = Sum.inl (gA G 0, (M.2.2 12 i).toNatClampNeg, Sum.inl (gi 6 i)); rw [(fo 12 (by simp) i hik), g2 i hik])
    | n + 24, hl, hn0, hn1, hn2 => exact absurd (show n + 24 ≤ 10 ∧ i = 0 from hl).1 (by omega)) ?_ ?_ ?_ ?_
  · rintro t i ⟨rfl, rfl | ⟨rfl, h⟩⟩
    · rw [a13]; exact hb
    · rw [a14]; exact (h0 h).1
  · rintro t i t' i' ⟨rfl, hN⟩ ⟨rfl, hN'⟩ he
    refine ⟨?_, rfl⟩
    rcases hN with rfl | ⟨rfl, h⟩ <;> rcases hN' with rfl | ⟨rfl, h'⟩
    · rfl
    · rw [a13, a14] at he; exact absurd he.symm (h0 h').2.1
    · rw [a13, a14] at he; exact absurd he (h0 h).2.1
    · rfl
  · rintro t i ⟨rfl, h, rfl | rfl⟩
    · obtain ⟨n, hn1, e2, e3, _⟩ := h3 h
      exact ⟨rfl, 20, n, hn1, rfl, by rw [a22, e2]⟩
    · obtain ⟨n, hn1, e2, e3, _⟩ := h3 h
      exact ⟨rfl, 21, n, hn1, rfl, by rw [a23, e3]⟩
  · rintro t i ⟨rfl, rfl | rfl⟩
    · exact ⟨lvf 0 (by decide), rfl⟩
    · exact ⟨lvf 3 (by decide), rfl⟩
  · intro c hN hl
    refine hR c (hl 0 0 ⟨rfl, Or.inl rfl⟩) ?_ (hl 3 0 ⟨rfl, Or.inr rfl⟩) (fun h => ?_)
    · have := hN 13 k ⟨rfl, Or.inl rfl⟩
      rwa [a13] at this
    · have := hN 14 k ⟨rfl, Or.inr ⟨rfl, h⟩⟩
      rwa [a14] at this
  · rintro t i ⟨rfl, rfl | ⟨rfl, h⟩⟩ _
    · show w' (ad' 13 i) = some (sC (cSI M' gi' i) (sAd M' ad' (M'.2.2 17 i)) (cX M' ad' i))
      rw [a13, fk17, sa0, ← hF, ← hX]
      exact hB
    · show w' (ad' 14 i) = some (.inl (gA G 0, 20, .inl (gi' 1 i)))
      rw [a14, gk1]
      exact (h0 h).2.2
  · rintro t i ⟨rfl, h, rfl | rfl⟩ _
    · obtain ⟨n, hn1, e2, e3, e4, e5, _⟩ := h3 h
      show w' (ad' 22 i) = some (.inr (4, [.int 2, .ref (ad' 23 i)]))
      have d0 : ad 20 n ≠ ad 0 0 := rl_ne hL (t := 20) (i := n) (t' := 0) (i' := 0) hn1 (lvf 0 (by decide)) (Or.inr rfl) (fun z => absurd z.1 (by decide))
      have d3 : ad 20 n ≠ ad 3 0 := rl_ne hL (t := 20) (i := n) (t' := 3) (i' := 0) hn1 (lvf 3 (by decide)) (Or.inr rfl) (fun z => absurd z.1 (by decide))
      rw [a22, a23, e2, e3, hR _ d0 (Ne.symm (hb 20 n hn1)) d3 (fun z => by rw [h] at z; exact absurd z (by decide))]
      exact hL.1 20 n hn1
    · obtain ⟨n, hn1, e2, e3, e4, e5, _⟩ := h3 h
      show w' (ad' 23 i) = some (.inl (gA G 0, (M'.2.2 12 i).toNatClampNeg, .inl (gi' 6 i)))
      have d0 : ad 21 n ≠ ad 0 0 := rl_ne hL (t := 21) (i := n) (t' := 0) (i' := 0) hn1 (lvf 0 (by decide)) (Or.inr rfl) (fun z => absurd z.1 (by decide))
      have d3 : ad 21 n ≠ ad 3 0 := rl_ne hL (t := 21) (i := n) (t' := 3) (i' := 0) hn1 (lvf 3 (by decide)) (Or.inr rfl) (fun z => absurd z.1 (by decide))
      rw [a23, e3, fk12, e4, gk6, e5, hR _ d0 (Ne.symm (hb 21 n hn1)) d3 (fun z => by rw [h] at z; exact absurd z (by decide))]
      exact hL.1 21 n hn1
  · rintro t i ⟨rfl, rfl | rfl⟩ _ _ _
    · have e : cel G M' ad' gi' 0 0 = oC (ad 1 0) (ad 2 0) (ad 3 0) (ad 4 0) (ad 5 0) (ad 6 0) (sAd M' ad' (M.1 20)) (M.1 7 + 1) (M.1 29) (M.1 38) (M.2.1 21).toInt32 (M.2.1 22).toInt32 (M.1 5) := by
        have i7 : M'.1 7 = M.1 7 + 1 := hM' ▸ bi_7
        show oC (ad' 1 0) (ad' 2 0) (ad' 3 0) (ad' 4 0) (ad' 5 0) (ad' 6 0) (sAd M' ad' (M'.1 20)) (M'.1 7) (M'.1 29) (M'.1 38) (M'.2.1 21).toInt32 (M'.2.1 22).toInt32 (M'.1 5) = _
        rw [d1, d2, d3, d4, d5, d6, i20, i7, i29, i38, l0, i5]
      rw [e, sa _ hn.2.1]
      exact hO
    · show w' (ad 3 0) = some (rA (gA G 5) 8 (cS M' ad'))
      have e : cS M' ad' = va_up (cS M ad) k (some b) := by
        funext j
        unfold cS va_up
        by_cases hj : j = k
        · rw [if_pos hj, hj, fk6, a13, if_pos ⟨hk, by rw [i32_lt, e1]; have := hn.2.2; have e0 : (0 : Int32).toInt = 0 := rfl; omega⟩]
        · rw [if_neg hj, fo 6 (by simp) j hj, n13 j hj]
      rw [e]
      exact hT
  · refine ⟨?_, ?_, ?_, ?_, ?_, ?_⟩
    · intro i ho h8
      by_cases hi : i = k
      · subst hi
        rw [gk0, fk19]
        exact ⟨rfl, fun j hj => absurd hj (by have e0 : (0 : Int32).toInt = 0 := rfl; omega)⟩
      · rw [fo 8 (by simp) i hi] at h8
        have h := hL.2.2.1 i (opk i ho hi) h8
        rw [g0 i hi, g1 i hi, fo 19 (by simp) i hi, f18]
        refine ⟨h.1, fun j hj => ?_⟩
        have b19 := bt_iff.mp (hsg i ho.1)
        rw [hg18 _ (by omega)]
        exact h.2 j hj
    · unfold sd_f
      rw [m37, x2]
      exact hL.2.2.2.1
    · unfold sd_t
      rw [i39, i40, i41, x3]
      exact hL.2.2.2.2.1
    · unfold sd_n
      rw [i26, m25, x4]
      exact hL.2.2.2.2.2.1
    · unfold sd_s isr
      rw [i29, m33, m32, m31, x5]
      exact hL.2.2.2.2.2.2.1
    · intro i ho h8 j hj
      by_cases hi : i = k
      · subst hi
        rw [fk8] at h8
        rw [fk12] at hj
        obtain ⟨n, hn1, e2, e3, e4, e5, e6⟩ := h3 h8
        rw [f18, fk9, gk6]
        exact e6 j hj
      · rw [fo 8 (by simp) i hi] at h8
        rw [fo 12 (by simp) i hi] at hj
        have h := hL.2.2.2.2.2.2.2 i (opk i ho hi) h8 j hj
        have b12 := bt_iff.mp (hls i ho.1)
        rw [f18, hg18 _ (by omega), fo 9 (by simp) i hi, g2 i hi]
        exact h
theorem bg_SI {M : MS} {gi' : GI} {k : Nat} {g18 : Nat → Int32} {kd wd md pl ls ar fi : Int32} : cSI (BG M k g18 kd wd md pl ls ar fi) gi' k = fun j => match j with
  | 0 => kd
  | 1 => md
  | 2 => wd
  | 3 => M.1 7 + 1
  | 4 => pl
  | 5 => 0
  | 6 => 0
  | 9 => (if kd = 0 then gi' 0 k 0 else if kd = 1 then ls else if kd = 2 then wdt wd else 0)
  | 10 => 0
  | _ => 0 := by
  have e8 : (BG M k g18 kd wd md pl ls ar fi).2.2 8 k = kd := by rw [bu_8]; exact upd_s
  have e10 : (BG M k g18 kd wd md pl ls ar fi).2.2 10 k = md := by rw [bu_10]; exact upd_s
  have e9 : (BG M k g18 kd wd md pl ls ar fi).2.2 9 k = wd := by rw [bu_9]; exact upd_s
  have e6 : (BG M k g18 kd wd md pl ls ar fi).2.2 6 k = M.1 7 + 1 := by rw [bu_6]; exact upd_s
  have e11 : (BG M k g18 kd wd md pl ls ar fi).2.2 11 k = pl := by rw [bu_11]; exact upd_s
  have e13 : (BG M k g18 kd wd md pl ls ar fi).2.2 13 k = 0 := by rw [bu_13]; exact upd_s
  have e14 : (BG M k g18 kd wd md pl ls ar fi).2.2 14 k = 0 := by rw [bu_14]; exact upd_s
  have e12 : (BG M k g18 kd wd md pl ls ar fi).2.2 12 k = ls := by rw [bu_12]; exact upd_s
  have e19 : (BG M k g18 kd wd md pl ls ar fi).2.2 19 k = 0 := by rw [bu_19]; exact upd_s
  funext j
  unfold cSI c9
  rw [e8, e10, e9, e6, e11, e13, e14, e12, e19]
  rfl
theorem bg_X {M : MS} {ad' : AD} {k : Nat} {g18 : Nat → Int32} {kd wd md pl ls ar fi : Int32} : cX (BG M k g18 kd wd md pl ls ar fi) ad' k = if kd = 0 then some (ad' 14 k) else if kd = 1 then rIA ad' ar else if kd = 2 then some (ad' 15 fi.toNatClampNeg) else some (ad' 22 k) := by
  have e8 : (BG M k g18 kd wd md pl ls ar fi).2.2 8 k = kd := by rw [bu_8]; exact upd_s
  have e15 : (BG M k g18 kd wd md pl ls ar fi).2.2 15 k = ar := by rw [bu_15]; exact upd_s
  have e16 : (BG M k g18 kd wd md pl ls ar fi).2.2 16 k = fi := by rw [bu_16]; exact upd_s
  unfold cX
  rw [e8, e15, e16]
theorem gu_0 {gi : GI} {k : Nat} {z z1 g6 : Nat → Int32} : gu (gu (gu gi 0 k z) 1 k z1) 6 k g6 0 k = z := (if_pos ⟨rfl, rfl⟩ : gu gi 0 k z 0 k = z)
def adm_v (M : MS) : Int32 := if mo_fp M = none then -5 else M.1 7 + 1
theorem adm_n {M : MS} (h : mo_fp M = none) : adm_v M = -5 := if_pos h
theorem adm_s {M : MS} {k : Nat} (h : mo_fp M = some k) : adm_v M = M.1 7 + 1 := if_neg (by rw [h]; exact fun z => by cases z)
theorem fp_ge {M : MS} {k : Nat} (h : mo_fp M = some k) : 0 ≤ oI (mo_fp (sI M 0 0)) := oI_ge (x := mo_fp M) h (by have := (fp_some h).1; omega)
theorem fp_ng {M : MS} (h : mo_fp M = none) : ¬ 0 ≤ oI (mo_fp (sI M 0 0)) := oI_ng (x := mo_fp M) h
theorem fp_cl {M : MS} {k : Nat} (h : mo_fp M = some k) : (oI (mo_fp (sI M 0 0))).toNatClampNeg = k := by
  have e : mo_fp (sI M 0 0) = some k := h
  rw [e]
  exact nI_clamp (by have := (fp_some h).1; omega)
theorem fp_oI {M : MS} {k : Nat} (h : mo_fp M = some k) : oI (mo_fp (sI M 0 0)) = nI k := by
  have e : mo_fp (sI M 0 0) = some k := h
  rw [e]
  rfl
set_option maxRecDepth 100000 in
set_option maxHeartbeats 4000000 in
theorem kX10_admit (G : GG) (l : Launch) (M : MS) (ad : AD) (gi : GI) (w : WM) (hL : RLa G M ad gi w) (hN : mi_nn M) (b : Nat) (f : Nat → Int32) (ec xo : Option Nat) (hB : w b = some (sC f ec xo)) : MC G l yX10_admit cX10_admit 3 ((Option.some .int)) ({ frames := 1, cells := 0, slots := 0, locals := 21 } : Room) [.ref (ad 0 0), .ref b] w (fun v w' => v = some (.int (adm_v M)) ∧ ((mo_fp M = none ∧ w' = w) ∨ ∃ k, mo_fp M = some k ∧ w' (ad 0 0) = some (oC (ad 1 0) (ad 2 0) (ad 3 0) (ad 4 0) (ad 5 0) (ad 6 0) (sAd M ad (M.1 20)) (M.1 7 + 1) (M.1 29) (M.1 38) (M.2.1 21).toInt32 (M.2.1 22).toInt32 (M.1 5)) ∧ w' b = some (sC (upd f 3 (M.1 7 + 1)) ec xo) ∧ w' (ad 3 0) = some (rA (gA G 5) 8 (va_up (cS M ad) k (some b))) ∧ ∀ c, c ≠ ad 0 0 → c ≠ b → c ≠ ad 3 0 → w' c = w c)) := by
  refine mc_int (by decide) (Nat.le_of_ble_eq_true rfl) rfl rfl ?_
  intro p e s m args below meth c A H0 Q X hnm RTN
  have X : Cx G p s m args meth c A H0 cX10_admit 3 RX10 := X
  have k0_ : w (ad 0 0) = some (.inr (11, [.ref (ad 1 0), .ref (ad 2 0), .ref (ad 3 0), .ref (ad 4 0), .ref (ad 5 0), .ref (ad 6 0), va_rf (sAd M ad (M.1 20)), .int (M.1 7), .int (M.1 29), .int (M.1 38), .int ((M.2.1 21).toInt32), .int ((M.2.1 22).toInt32), .int (M.1 5)])) := hL.1 0 0 (lvf 0 (by decide))
  have k3_ : w (ad 3 0) = some (rA (gA G 5) 8 (cS M ad)) := hL.1 3 0 (lvf 3 (by decide))
  refine aw_aload_n X dX10_admit_0 rfl rfl ?_
  refine aw_callV X (kX10_freeSlot _ _ _ _ _ _ hL hN) okm_X10_freeSlot okX10 k0_ ml_X10_142 im_X10_freeSlot se_X10_X10_freeSlot rfl rfl (Nat.le_of_ble_eq_true rfl) ⟨Nat.le_of_ble_eq_true rfl, Nat.le_of_ble_eq_true rfl, Nat.le_of_ble_eq_true rfl, Nat.le_of_ble_eq_true rfl⟩ dX10_admit_1 (fun v w2 hp => ?_)
  obtain ⟨rfl, hw9⟩ := hp
  have hw9 := hw9.symm
  subst hw9
  rcases hp9 : mo_fp M with _ | k9
  · rw [show oI (none : Option Nat) = -1 from rfl]
    refine aw_istore_n (lv' := [(2, _), (0, _), (1, _)]) X dX10_admit_4 rfl (by decide) rfl ?_
    refine aw_iload_n X dX10_admit_5 rfl rfl ?_
    refine aw_iconst X dX10_admit_6 ci_m1 ?_
    refine aw_icmp_ne (tgt := 13) X dX10_admit_7 rfl (fun c7 => ?_) (fun c7 => ?_)
    · exact absurd c7 (by decide)
    · refine aw_bipush X dX10_admit_10 cb_m5 ?_
      refine RTN (some (.int _)) _ _ _ _ _ dX10_admit_12 (⟨_, rfl⟩) (Nat.le_of_ble_eq_true rfl) (Nat.le_of_ble_eq_true rfl) ?_
      exact ⟨by rw [adm_n hp9], Or.inl ⟨hp9, rfl⟩⟩
  · rw [show oI (some k9) = nI k9 from rfl]
    have ho9 := (fp_some hp9).1
    refine aw_istore_n (lv' := [(2, _), (0, _), (1, _)]) X dX10_admit_4 rfl (by decide) rfl ?_
    refine aw_iload_n X dX10_admit_5 rfl rfl ?_
    refine aw_iconst X dX10_admit_6 ci_m1 ?_
    refine aw_icmp_ne (tgt := 13) X dX10_admit_7 rfl (fun c7 => ?_) (fun c7 => ?_)
    · refine aw_aload_n X dX10_admit_13 rfl rfl ?_
      refine aw_dup X dX10_admit_14 rfl ?_
      refine aw_get X okX10 (k := 7) k0_ (Nat.le_of_ble_eq_true rfl) fl_X10_243 (Or.inl rfl) rfl dX10_admit_15 ?_
      refine aw_iconst X dX10_admit_18 ci_1 ?_
      refine aw_iadd X dX10_admit_19 ?_
      refine aw_put2 X okX10 (k := 7) (fs' := [.ref (ad 1 0), .ref (ad 2 0), .ref (ad 3 0), .ref (ad 4 0), .ref (ad 5 0), .ref (ad 6 0), va_rf (sAd M ad (M.1 20)), .int ((M.1 7) + 1), .int (M.1 29), .int (M.1 38), .int ((M.2.1 21).toInt32), .int ((M.2.1 22).toInt32), .int (M.1 5)]) k0_ (Nat.le_of_ble_eq_true rfl) fl_X10_243 (Or.inl rfl) rfl (rfl ) ( rfl) (Nat.le_of_ble_eq_true rfl) rfl dX10_admit_20 (fun w101 hk102 hn103 he104 => ?_)
      have hk105 := (hn103 _ (rl_ne hL (t := 3) (i := 0) (t' := 0) (i' := 0) (lvf 3 (by decide)) (lvf 0 (by decide)) (Or.inl rfl) (fun z => absurd z.1 (by decide)))).trans k3_
      have hk106 := (hn103 _ (sC_ci hB k0_ (by decide))).trans hB
      refine aw_aload_n X dX10_admit_23 rfl rfl ?_
      refine aw_aload_n X dX10_admit_24 rfl rfl ?_
      refine aw_get X okX10 (k := 7) hk102 (Nat.le_of_ble_eq_true rfl) fl_X10_243 (Or.inl rfl) rfl dX10_admit_25 ?_
      refine aw_putS3 X hk106 fl_X10_240 dX10_admit_28 (fun w107 hk108 hn109 he110 => ?_)
      have hk111 := (hn109 _ (Ne.symm (sC_ci hk106 hk102 (by decide)))).trans hk102
      have hk112 := (hn109 _ (Ne.symm (sC_oa hk106 hk105))).trans hk105
      refine aw_aload_n X dX10_admit_31 rfl rfl ?_
      refine aw_get X okX10 (k := 2) hk111 (Nat.le_of_ble_eq_true rfl) fl_X10_22 (Or.inl rfl) rfl dX10_admit_32 ?_
      refine aw_iload_n X dX10_admit_35 rfl rfl ?_
      refine aw_aload_n X dX10_admit_36 rfl rfl ?_
      refine aw_aastS X 5 hk112 rfl hk108 (vp_in_nI ho9 (by decide)) dX10_admit_37 (fun w113 hk114 hn115 he116 => ?_)
      have hk117 := (hn115 _ (rl_ne hL (t := 0) (i := 0) (t' := 3) (i' := 0) (lvf 0 (by decide)) (lvf 3 (by decide)) (Or.inl rfl) (fun z => absurd z.1 (by decide)))).trans hk111
      have hk118 := (hn115 _ (sC_oa hk108 hk112)).trans hk108
      refine aw_aload_n X dX10_admit_38 rfl rfl ?_
      refine aw_get X okX10 (k := 7) hk117 (Nat.le_of_ble_eq_true rfl) fl_X10_243 (Or.inl rfl) rfl dX10_admit_39 ?_
      refine RTN (some (.int _)) _ _ _ _ _ dX10_admit_42 (⟨_, rfl⟩) (Nat.le_of_ble_eq_true rfl) (Nat.le_of_ble_eq_true rfl) ?_
      exact ⟨by rw [adm_s hp9], Or.inr ⟨k9, hp9, hk117, hk118, by rw [hk114, nI_clamp (by omega)], fun c h1 h2 h3 => by rw [he116, wm_upn h3, he110, wm_upn h2, he104, wm_upn h1]⟩⟩
    · exact absurd c7 (oI_n1 (x := some k9) rfl (by omega))
