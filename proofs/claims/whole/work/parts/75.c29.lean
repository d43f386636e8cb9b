/-! what streams into files write -/
theorem rl_pf {G : GG} {M : MS} {ad : AD} {gi : GI} {w w' : WM} {k F : Nat} {ln : Int32} {g gb : Nat → Int32} (hL : RLa G M ad gi w) (ho : opn M k) (h8 : M.2.2 8 k = 2) (hF : lvT M 15 F) (hF2 : F < 20) (hg : ∀ j, j < 60 → gb j &&& 255 = g (60 * F + j)) (hgo : ∀ x, (x < 60 * F ∨ 60 * F + 60 ≤ x) → g x = M.2.2 37 x) (h1 : w' (ad 13 k) = some (sC (upd (cSI M gi k) 4 (M.2.2 11 k + 1)) (sAd M ad (M.2.2 17 k)) (cX M ad k))) (h2 : w' (ad 15 F) = some (.inr (10, [.ref (ad 16 F), .int ln, .int (M.2.2 35 F)]))) (h2b : w' (ad 16 F) = some (.inl (gA G 1, 60, .inl gb))) (h3 : ∀ c, c ≠ ad 13 k → c ≠ ad 15 F → c ≠ ad 16 F → w' c = w c) : RLa G (sF (sF (sA M 37 g) 36 F ln) 11 k (M.2.2 11 k + 1)) ad (gu gi 2 F gb) w' := by
  have f37 : (sF (sF (sA M 37 g) 36 F ln) 11 k (M.2.2 11 k + 1)).2.2 37 = g := rfl
  have f36 : (sF (sF (sA M 37 g) 36 F ln) 11 k (M.2.2 11 k + 1)).2.2 36 = upd (M.2.2 36) F ln := rfl
  have f11 : (sF (sF (sA M 37 g) 36 F ln) 11 k (M.2.2 11 k + 1)).2.2 11 = upd (M.2.2 11) k (M.2.2 11 k + 1) := rfl
  generalize hM' : sF (sF (sA M 37 g) 36 F ln) 11 k (M.2.2 11 k + 1) = M' at *
  have m1 : M'.2.2 1 = M.2.2 1 := hM' ▸ (rfl : (sF (sF (sA M 37 g) 36 F ln) 11 k (M.2.2 11 k + 1)).2.2 1 = M.2.2 1)
  have m2 : M'.2.2 2 = M.2.2 2 := hM' ▸ (rfl : (sF (sF (sA M 37 g) 36 F ln) 11 k (M.2.2 11 k + 1)).2.2 2 = M.2.2 2)
  have m3 : M'.2.2 3 = M.2.2 3 := hM' ▸ (rfl : (sF (sF (sA M 37 g) 36 F ln) 11 k (M.2.2 11 k + 1)).2.2 3 = M.2.2 3)
  have m4 : M'.2.2 4 = M.2.2 4 := hM' ▸ (rfl : (sF (sF (sA M 37 g) 36 F ln) 11 k (M.2.2 11 k + 1)).2.2 4 = M.2.2 4)
  have m6 : M'.2.2 6 = M.2.2 6 := hM' ▸ (rfl : (sF (sF (sA M 37 g) 36 F ln) 11 k (M.2.2 11 k + 1)).2.2 6 = M.2.2 6)
  have m8 : M'.2.2 8 = M.2.2 8 := hM' ▸ (rfl : (sF (sF (sA M 37 g) 36 F ln) 11 k (M.2.2 11 k + 1)).2.2 8 = M.2.2 8)
  have m9 : M'.2.2 9 = M.2.2 9 := hM' ▸ (rfl : (sF (sF (sA M 37 g) 36 F ln) 11 k (M.2.2 11 k + 1)).2.2 9 = M.2.2 9)
  have m10 : M'.2.2 10 = M.2.2 10 := hM' ▸ (rfl : (sF (sF (sA M 37 g) 36 F ln) 11 k (M.2.2 11 k + 1)).2.2 10 = M.2.2 10)
  have m12 : M'.2.2 12 = M.2.2 12 := hM' ▸ (rfl : (sF (sF (sA M 37 g) 36 F ln) 11 k (M.2.2 11 k + 1)).2.2 12 = M.2.2 12)
  have m13 : M'.2.2 13 = M.2.2 13 := hM' ▸ (rfl : (sF (sF (sA M 37 g) 36 F ln) 11 k (M.2.2 11 k + 1)).2.2 13 = M.2.2 13)
  have m14 : M'.2.2 14 = M.2.2 14 := hM' ▸ (rfl : (sF (sF (sA M 37 g) 36 F ln) 11 k (M.2.2 11 k + 1)).2.2 14 = M.2.2 14)
  have m15 : M'.2.2 15 = M.2.2 15 := hM' ▸ (rfl : (sF (sF (sA M 37 g) 36 F ln) 11 k (M.2.2 11 k + 1)).2.2 15 = M.2.2 15)
  have m16 : M'.2.2 16 = M.2.2 16 := hM' ▸ (rfl : (sF (sF (sA M 37 g) 36 F ln) 11 k (M.2.2 11 k + 1)).2.2 16 = M.2.2 16)
  have m17 : M'.2.2 17 = M.2.2 17 := hM' ▸ (rfl : (sF (sF (sA M 37 g) 36 F ln) 11 k (M.2.2 11 k + 1)).2.2 17 = M.2.2 17)
  have m18 : M'.2.2 18 = M.2.2 18 := hM' ▸ (rfl : (sF (sF (sA M 37 g) 36 F ln) 11 k (M.2.2 11 k + 1)).2.2 18 = M.2.2 18)
  have m19 : M'.2.2 19 = M.2.2 19 := hM' ▸ (rfl : (sF (sF (sA M 37 g) 36 F ln) 11 k (M.2.2 11 k + 1)).2.2 19 = M.2.2 19)
  have m23 : M'.2.2 23 = M.2.2 23 := hM' ▸ (rfl : (sF (sF (sA M 37 g) 36 F ln) 11 k (M.2.2 11 k + 1)).2.2 23 = M.2.2 23)
  have m24 : M'.2.2 24 = M.2.2 24 := hM' ▸ (rfl : (sF (sF (sA M 37 g) 36 F ln) 11 k (M.2.2 11 k + 1)).2.2 24 = M.2.2 24)
  have m25 : M'.2.2 25 = M.2.2 25 := hM' ▸ (rfl : (sF (sF (sA M 37 g) 36 F ln) 11 k (M.2.2 11 k + 1)).2.2 25 = M.2.2 25)
  have m30 : M'.2.2 30 = M.2.2 30 := hM' ▸ (rfl : (sF (sF (sA M 37 g) 36 F ln) 11 k (M.2.2 11 k + 1)).2.2 30 = M.2.2 30)
  have m31 : M'.2.2 31 = M.2.2 31 := hM' ▸ (rfl : (sF (sF (sA M 37 g) 36 F ln) 11 k (M.2.2 11 k + 1)).2.2 31 = M.2.2 31)
  have m32 : M'.2.2 32 = M.2.2 32 := hM' ▸ (rfl : (sF (sF (sA M 37 g) 36 F ln) 11 k (M.2.2 11 k + 1)).2.2 32 = M.2.2 32)
  have m33 : M'.2.2 33 = M.2.2 33 := hM' ▸ (rfl : (sF (sF (sA M 37 g) 36 F ln) 11 k (M.2.2 11 k + 1)).2.2 33 = M.2.2 33)
  have m34 : M'.2.2 34 = M.2.2 34 := hM' ▸ (rfl : (sF (sF (sA M 37 g) 36 F ln) 11 k (M.2.2 11 k + 1)).2.2 34 = M.2.2 34)
  have m35 : M'.2.2 35 = M.2.2 35 := hM' ▸ (rfl : (sF (sF (sA M 37 g) 36 F ln) 11 k (M.2.2 11 k + 1)).2.2 35 = M.2.2 35)
  have m42 : M'.2.2 42 = M.2.2 42 := hM' ▸ (rfl : (sF (sF (sA M 37 g) 36 F ln) 11 k (M.2.2 11 k + 1)).2.2 42 = M.2.2 42)
  have m43 : M'.2.2 43 = M.2.2 43 := hM' ▸ (rfl : (sF (sF (sA M 37 g) 36 F ln) 11 k (M.2.2 11 k + 1)).2.2 43 = M.2.2 43)
  have i5 : M'.1 5 = M.1 5 := hM' ▸ (rfl : (sF (sF (sA M 37 g) 36 F ln) 11 k (M.2.2 11 k + 1)).1 5 = M.1 5)
  have i7 : M'.1 7 = M.1 7 := hM' ▸ (rfl : (sF (sF (sA M 37 g) 36 F ln) 11 k (M.2.2 11 k + 1)).1 7 = M.1 7)
  have i20 : M'.1 20 = M.1 20 := hM' ▸ (rfl : (sF (sF (sA M 37 g) 36 F ln) 11 k (M.2.2 11 k + 1)).1 20 = M.1 20)
  have i26 : M'.1 26 = M.1 26 := hM' ▸ (rfl : (sF (sF (sA M 37 g) 36 F ln) 11 k (M.2.2 11 k + 1)).1 26 = M.1 26)
  have i27 : M'.1 27 = M.1 27 := hM' ▸ (rfl : (sF (sF (sA M 37 g) 36 F ln) 11 k (M.2.2 11 k + 1)).1 27 = M.1 27)
  have i28 : M'.1 28 = M.1 28 := hM' ▸ (rfl : (sF (sF (sA M 37 g) 36 F ln) 11 k (M.2.2 11 k + 1)).1 28 = M.1 28)
  have i29 : M'.1 29 = M.1 29 := hM' ▸ (rfl : (sF (sF (sA M 37 g) 36 F ln) 11 k (M.2.2 11 k + 1)).1 29 = M.1 29)
  have i38 : M'.1 38 = M.1 38 := hM' ▸ (rfl : (sF (sF (sA M 37 g) 36 F ln) 11 k (M.2.2 11 k + 1)).1 38 = M.1 38)
  have i39 : M'.1 39 = M.1 39 := hM' ▸ (rfl : (sF (sF (sA M 37 g) 36 F ln) 11 k (M.2.2 11 k + 1)).1 39 = M.1 39)
  have i40 : M'.1 40 = M.1 40 := hM' ▸ (rfl : (sF (sF (sA M 37 g) 36 F ln) 11 k (M.2.2 11 k + 1)).1 40 = M.1 40)
  have i41 : M'.1 41 = M.1 41 := hM' ▸ (rfl : (sF (sF (sA M 37 g) 36 F ln) 11 k (M.2.2 11 k + 1)).1 41 = M.1 41)
  have i44 : M'.1 44 = M.1 44 := hM' ▸ (rfl : (sF (sF (sA M 37 g) 36 F ln) 11 k (M.2.2 11 k + 1)).1 44 = M.1 44)
  have i45 : M'.1 45 = M.1 45 := hM' ▸ (rfl : (sF (sF (sA M 37 g) 36 F ln) 11 k (M.2.2 11 k + 1)).1 45 = M.1 45)
  have l0 : M'.2.1 = M.2.1 := hM' ▸ (rfl : (sF (sF (sA M 37 g) 36 F ln) 11 k (M.2.2 11 k + 1)).2.1 = M.2.1)
  generalize hG' : gu gi 2 F gb = gi' at *
  have g2 : ∀ i, i ≠ F → gi' 2 i = gi 2 i := fun i hi => by rw [← hG']; exact if_neg (fun z => hi z.2)
  have gk2 : gi' 2 F = gb := by rw [← hG']; exact if_pos ⟨rfl, rfl⟩
  have x0 : gi' 0 = gi 0 := by rw [← hG']; rfl
  have x1 : gi' 1 = gi 1 := by rw [← hG']; rfl
  have x3 : gi' 3 = gi 3 := by rw [← hG']; rfl
  have x4 : gi' 4 = gi 4 := by rw [← hG']; rfl
  have x5 : gi' 5 = gi 5 := by rw [← hG']; rfl
  have x6 : gi' 6 = gi 6 := by rw [← hG']; rfl
  have x7 : gi' 7 = gi 7 := by rw [← hG']; rfl
  have n36 : ∀ i, i ≠ F → M'.2.2 36 i = M.2.2 36 i := fun i hi => by rw [f36]; exact upd_n hi
  have n11 : ∀ i, i ≠ k → M'.2.2 11 i = M.2.2 11 i := fun i hi => by rw [f11]; exact upd_n hi
  refine rl_addP hL (fun _ _ => False) (fun _ _ => False) (fun t i => (t = 13 ∧ i = k) ∨ (t = 15 ∧ i = F) ∨ (t = 16 ∧ i = F)) (fun _ _ h => h.elim) (fun _ _ _ _ h => h.elim) (fun _ _ h => h.elim) (fun t i hl hn0 hn1 => by
    match t, hl, hn0, hn1 with
    | 0, hl, hn0, hn1 => (have h := (show _ ∧ i = 0 from hl).2; subst h; exact ⟨lvf 0 (by decide), rfl⟩)
    | 1, hl, hn0, hn1 => (have h := (show _ ∧ i = 0 from hl).2; subst h; exact ⟨lvf 1 (by decide), rfl⟩)
    | 2, hl, hn0, hn1 => (have h := (show _ ∧ i = 0 from hl).2; subst h; exact ⟨lvf 2 (by decide), rfl⟩)
    | 3, hl, hn0, hn1 => (have h := (show _ ∧ i = 0 from hl).2; subst h; exact ⟨lvf 3 (by decide), rfl⟩)
    | 4, hl, hn0, hn1 => (have h := (show _ ∧ i = 0 from hl).2; subst h; exact ⟨lvf 4 (by decide), rfl⟩)
    | 5, hl, hn0, hn1 => (have h := (show _ ∧ i = 0 from hl).2; subst h; exact ⟨lvf 5 (by decide), rfl⟩)
    | 6, hl, hn0, hn1 => (have h := (show _ ∧ i = 0 from hl).2; subst h; exact ⟨lvf 6 (by decide), rfl⟩)
    | 7, hl, hn0, hn1 => (have h := (show _ ∧ i = 0 from hl).2; subst h; exact ⟨lvf 7 (by decide), rfl⟩)
    | 8, hl, hn0, hn1 => (have h := (show _ ∧ i = 0 from hl).2; subst h; exact ⟨lvf 8 (by decide), rfl⟩)
    | 9, hl, hn0, hn1 => (have h := (show _ ∧ i = 0 from hl).2; subst h; exact ⟨lvf 9 (by decide), rfl⟩)
    | 10, hl, hn0, hn1 => (have h := (show _ ∧ i = 0 from hl).2; subst h; exact ⟨lvf 10 (by decide), rfl⟩)
    | 11, hl, hn0, hn1 => exact ⟨(by have h : usd M' i := hl; unfold usd uA uF at h; rw [m1, m6, m8, m15] at h; exact h), rfl⟩
    | 12, hl, hn0, hn1 => exact ⟨(by have h : usd M' i := hl; unfold usd uA uF at h; rw [m1, m6, m8, m15] at h; exact h), rfl⟩
    | 13, hl, hn0, hn1 => exact ⟨(by have h : opn M' i := hl; unfold opn at h; rw [m6] at h; exact h), rfl⟩
    | 14, hl, hn0, hn1 => exact ⟨(by have h : opn M' i ∧ M'.2.2 8 i = 0 := hl; unfold opn at h; rw [m6, m8] at h; exact h), rfl⟩
    | 15, hl, hn0, hn1 => exact ⟨(by have h : isr M' i ∧ M'.2.2 34 i = nI i := hl; unfold isr at h; rw [i29, m34] at h; exact h), rfl⟩
    | 16, hl, hn0, hn1 => exact ⟨(by have h : isr M' i ∧ M'.2.2 34 i = nI i := hl; unfold isr at h; rw [i29, m34] at h; exact h), rfl⟩
    | 17, hl, hn0, hn1 => exact ⟨(by have h : isr M' i := hl; unfold isr at h; rw [i29] at h; exact h), rfl⟩
    | 18, hl, hn0, hn1 => exact ⟨(by have h : isr M' i ∧ M'.2.2 33 i = 0 := hl; unfold isr at h; rw [i29, m33] at h; exact h), rfl⟩
    | 19, hl, hn0, hn1 => exact ⟨(by have h : isr M' i ∧ M'.2.2 33 i = 0 := hl; unfold isr at h; rw [i29, m33] at h; exact h), rfl⟩
    | 20, hl, hn0, hn1 => exact ⟨(by have h : i < 4 ∧ 0 ≤ M'.2.2 23 i := hl; rw [m23] at h; exact h), rfl⟩
    | 21, hl, hn0, hn1 => exact ⟨(by have h : i < 4 ∧ 0 ≤ M'.2.2 23 i := hl; rw [m23] at h; exact h), rfl⟩
    | 22, hl, hn0, hn1 => exact ⟨(by have h : opn M' i ∧ M'.2.2 8 i = 3 := hl; unfold opn at h; rw [m6, m8] at h; exact h), rfl⟩
    | 23, hl, hn0, hn1 => exact ⟨(by have h : opn M' i ∧ M'.2.2 8 i = 3 := hl; unfold opn at h; rw [m6, m8] at h; exact h), rfl⟩
    | n + 24, hl, hn0, hn1 => exact absurd (show n + 24 ≤ 10 ∧ i = 0 from hl).1 (by omega)) ?_ ?_ (fun t i hl hn0 hn1 hn2 => by
    match t, hl, hn0, hn1, hn2 with
    | 0, hl, hn0, hn1, hn2 => (refine cc_0 ?_; rw [sAd_c m6, i20, i7, i29, i38, l0, i5])
    | 1, hl, hn0, hn1, hn2 => (refine cc_1 ?_; rw [cR_c m1 rfl])
    | 2, hl, hn0, hn1, hn2 => (refine cc_2 ?_; rw [cG_c m23 rfl])
    | 3, hl, hn0, hn1, hn2 => (refine cc_3 ?_; rw [cS_c m6])
    | 4, hl, hn0, hn1, hn2 => (refine cc_4 ?_; rw [cF_c i29 rfl])
    | 5, hl, hn0, hn1, hn2 => (refine cc_5 ?_; rw [i27, i28])
    | 6, hl, hn0, hn1, hn2 => (refine cc_6 ?_; rw [i39, i40, i44, i45, x3])
    | 7, hl, hn0, hn1, hn2 => (refine cc_7 ?_; rw [m42])
    | 8, hl, hn0, hn1, hn2 => (refine cc_8 ?_; rw [m43])
    | 9, hl, hn0, hn1, hn2 => (refine cc_9 ?_; rw [i26, x7])
    | 10, hl, hn0, hn1, hn2 => (refine cc_10 ?_; rw [x4])
    | 11, hl, hn0, hn1, hn2 => (refine cc_11 ?_; rw [m2])
    | 12, hl, hn0, hn1, hn2 => (refine cc_12 ?_; rw [m3, cArr_c m2 m3 m4])
    | 13, hl, hn0, hn1, hn2 => (have hi : i ≠ k := fun z => hn2 (Or.inl ⟨rfl, z⟩); refine cc_13 ?_; rw [cSI_c (M := M) (M' := M') (gi := gi) (gi' := gi') (k := i) (by rw [m8]) (by rw [m10]) (by rw [m9]) (by rw [m6]) (n11 i hi) (by rw [m13]) (by rw [m14]) (by rw [m12]) (by rw [m19]) (by rw [x0]), sAd_c m6, m17, cX_c (M := M) (M' := M') (ad := ad) (ad' := ad) (k := i) (by rw [m8]) rfl (fun _ => by rw [m15]) (by rw [m16]) rfl rfl])
    | 14, hl, hn0, hn1, hn2 => (refine cc_14 ?_; rw [x1])
    | 15, hl, hn0, hn1, hn2 => (have hi : i ≠ F := fun z => hn2 (Or.inr (Or.inl ⟨rfl, z⟩)); refine cc_15 ?_; rw [n36 i hi, m35])
    | 16, hl, hn0, hn1, hn2 => (have hi : i ≠ F := fun z => hn2 (Or.inr (Or.inr ⟨rfl, z⟩)); refine cc_16 ?_; rw [g2 i hi])
    | 17, hl, hn0, hn1, hn2 => (refine cc_17 ?_; rw [m30, m33, m34])
    | 18, hl, hn0, hn1, hn2 => (refine cc_18 ?_; rfl)
    | 19, hl, hn0, hn1, hn2 => (refine cc_19 ?_; rw [m32, x5])
    | 20, hl, hn0, hn1, hn2 => (refine cc_20 ?_; rfl)
    | 21, hl, hn0, hn1, hn2 => (refine cc_21 ?_; rw [m23, cGiv_c m23 m24])
    | 22, hl, hn0, hn1, hn2 => (refine cc_22 ?_; rfl)
    | 23, hl, hn0, hn1, hn2 => (refine cc_23 ?_; rw [m12, x6])
    | n + 24, hl, hn0, hn1, hn2 => exact absurd (show n + 24 ≤ 10 ∧ i = 0 from hl).1 (by omega)) (fun _ _ h => h.elim) (fun _ _ h => h.elim) ?_ ?_
  · rintro t i (⟨rfl, rfl⟩ | ⟨rfl, rfl⟩ | ⟨rfl, rfl⟩)
    · exact ⟨ho, rfl⟩
    · exact ⟨hF, rfl⟩
    · exact ⟨hF, rfl⟩
  · intro b _ hl
    exact h3 b (hl 13 k (Or.inl ⟨rfl, rfl⟩)) (hl 15 F (Or.inr (Or.inl ⟨rfl, rfl⟩))) (hl 16 F (Or.inr (Or.inr ⟨rfl, rfl⟩)))
  · rintro q i (⟨rfl, rfl⟩ | ⟨rfl, rfl⟩ | ⟨rfl, rfl⟩) _ _ _
    · show w' (ad 13 i) = some (sC (cSI M' gi' i) (sAd M' ad (M'.2.2 17 i)) (cX M' ad i))
      rw [sAd_c m6, m17, cX_c (M := M) (M' := M') (ad := ad) (ad' := ad) (k := i) (by rw [m8]) rfl (fun _ => by rw [m15]) (by rw [m16]) rfl rfl, h1]
      have e : cSI M' gi' i = upd (cSI M gi i) 4 (M.2.2 11 i + 1) := by
        funext j
        match j with
        | 0 => exact congrFun m8 i
        | 1 => exact congrFun m10 i
        | 2 => exact congrFun m9 i
        | 3 => exact congrFun m6 i
        | 4 => show M'.2.2 11 i = M.2.2 11 i + 1; rw [f11]; exact upd_s
        | 5 => exact congrFun m13 i
        | 6 => exact congrFun m14 i
        | 7 => rfl
        | 8 => rfl
        | 9 => show c9 M' gi' i = c9 M gi i; unfold c9; rw [m8, m12, m9]; rw [x0]
        | 10 => exact congrFun m19 i
        | j + 11 => exact (upd_n (by omega) : upd (cSI M gi i) 4 _ (j + 11) = cSI M gi i (j + 11)).symm
      rw [e]
    · show w' (ad 15 i) = some (.inr (10, [.ref (ad 16 i), .int (M'.2.2 36 i), .int (M'.2.2 35 i)]))
      rw [f36, upd_s, m35, h2]
    · show w' (ad 16 i) = some (.inl (gA G 1, 60, .inl (gi' 2 i)))
      rw [gk2, h2b]
  · refine ⟨?_, ?_, ?_, ?_, ?_, ?_⟩
    · unfold sd_p opn; rw [m6, m8, m19, m18, x0, x1]; exact hL.2.2.1
    · intro f hf j hj
      rw [f37]
      by_cases hz : f = F
      · rw [hz, gk2]; exact hg j hj
      · rw [g2 f hz, hgo _ (by omega)]; exact hL.2.2.2.1 f hf j hj
    · unfold sd_t; rw [i39, i40, i41, x3]; exact hL.2.2.2.2.1
    · unfold sd_n; rw [i26, m25, x4]; exact hL.2.2.2.2.2.1
    · unfold sd_s isr; rw [i29, m33, m32, m31, x5]; exact hL.2.2.2.2.2.2.1
    · unfold sd_r opn; rw [m6, m8, m12, m18, m9, x6]; exact hL.2.2.2.2.2.2.2
/-- the places of a sign's bytes in the reference -/
theorem fb_ix {f p : Int32} {W : Int} {j : Nat} (wd : Int32) (hw : wd.toInt = W) (hW : W = 1 ∨ W = 4) (hf : bt f 0 19) (hp : bt p 0 60) (h1 : (p * wd).toInt = p.toInt * W) (h2 : p.toInt * W + W ≤ 60) (hj : (j : Int) < W) : ((((60 * f) + ((p + 1) * wd)) - 1) - nI j).toNatClampNeg = 60 * f.toNatClampNeg + ((p * wd).toNatClampNeg + (W.toNat - 1 - j)) := by
  have a := bt_iff.mp hf
  have b := bt_iff.mp hp
  have c1 := cl_toInt (x := f) a.1
  have h3 : 0 ≤ p.toInt * W := by rcases hW with hW | hW <;> subst hW <;> omega
  have hj4 : j < 4 := by rcases hW with hW | hW <;> subst hW <;> omega
  have c2 := cl_toInt (x := p * wd) (by omega)
  have t1 := ti_add (a := p) (b := 1) (y := 1) rfl rfl (by omega)
  have t2 : ((p + 1) * wd).toInt = p.toInt * W + W := by
    have := ti_mul t1 hw (by rw [Int.add_mul, Int.one_mul]; omega)
    rw [this, Int.add_mul, Int.one_mul]
  have hW4 : 0 < W ∧ W ≤ 4 := by rcases hW with hW | hW <;> subst hW <;> omega
  generalize p.toInt * W = T at *
  have t3 := ti_mul (a := 60) (b := f) (x := 60) rfl rfl (by omega)
  have t4 := ti_add t3 t2 (by omega)
  have t5 := ti_sub t4 (b := 1) (y := 1) rfl (by omega)
  have t6 := ti_sub t5 (b := nI j) (nI_toInt (by omega)) (by omega)
  have t7 := cl_toInt (x := (((60 * f) + ((p + 1) * wd)) - 1) - nI j) (by omega)
  omega
theorem cl_ix {p : Int32} {W : Int} {j : Nat} (wd i : Int32) (hi : i.toInt = j) (hW : W = 1 ∨ W = 4) (hp : bt p 0 60) (h1 : (p * wd).toInt = p.toInt * W) (h2 : p.toInt * W + W ≤ 60) (hj : (j : Int) < W) : (p * wd + i).toNatClampNeg = (p * wd).toNatClampNeg + j := by
  have b := bt_iff.mp hp
  have h3 : 0 ≤ p.toInt * W := by rcases hW with hW | hW <;> subst hW <;> omega
  have hW4 : 0 < W ∧ W ≤ 4 := by rcases hW with hW | hW <;> subst hW <;> omega
  have c2 := cl_toInt (x := p * wd) (by omega)
  generalize p.toInt * W = T at *
  have t1 := ti_add h1 hi (by omega)
  have t7 := cl_toInt (x := p * wd + i) (by omega)
  omega
theorem pw_b {p wd : Int32} {W : Int} (hW : W = 1 ∨ W = 4) (hp : bt p 0 60) (h1 : (p * wd).toInt = p.toInt * W) (h2 : p.toInt * W + W ≤ 60) : (((p * wd).toNatClampNeg : Nat) : Int) + W ≤ 60 := by
  have b := bt_iff.mp hp
  have h3 : 0 ≤ p.toInt * W := by rcases hW with hW | hW <;> subst hW <;> omega
  have c2 := cl_toInt (x := p * wd) (by omega)
  omega

