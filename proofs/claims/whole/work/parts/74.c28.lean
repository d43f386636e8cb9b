/-! what streams into memory and files write -/
theorem cA_n2 {M M' : MS} {i x : Nat} {y : Int32} (m2 : M'.2.2 2 = M.2.2 2) (m3 : M'.2.2 3 = M.2.2 3) (m4 : M'.2.2 4 = upd (M.2.2 4) x y) (hS : mi_size M) (hi : i ≤ 24) (hx : x < 40 * i - 40 ∨ 40 * i ≤ x) (hi1 : 1 ≤ i) : cArr M' i = cArr M i := by
  funext j
  unfold cArr
  rw [m2, m3, m4]
  split
  · rename_i hj
    have h := bt_iff.mp (hS i (by omega))
    have := cl_toInt h.1
    rw [upd_n (by omega)]
  · rfl
theorem cA_s2 {M M' : MS} {u k x : Nat} {y v : Int32} (m2 : M'.2.2 2 = M.2.2 2) (m3 : M'.2.2 3 = M.2.2 3) (m4 : M'.2.2 4 = upd (M.2.2 4) x y) (hu : 1 ≤ u) (hk : k < (M.2.2 3 u).toNatClampNeg) (hx : x = 40 * u + k - 40) (hv : v = dec (M.2.2 2 u) y) : cArr M' u = upd (cArr M u) k v := by
  funext j
  unfold cArr
  rw [m2, m3, m4]
  by_cases hj : j = k
  · rw [hj, upd_s, if_pos hk, ← hx, upd_s, hv]
  · rw [upd_n hj]
    show _ = if j < (M.2.2 3 u).toNatClampNeg then dec (M.2.2 2 u) (M.2.2 4 (40 * u + j - 40)) else 0
    by_cases h9 : j < (M.2.2 3 u).toNatClampNeg
    · rw [if_pos h9, if_pos h9, upd_n (by omega)]
    · rw [if_neg h9, if_neg h9]
theorem rl_pm {G : GG} {M : MS} {ad : AD} {gi : GI} {w w' : WM} {k u p x : Nat} {y v : Int32} (hL : RLa G M ad gi w) (hS : mi_size M) (ho : opn M k) (h8 : M.2.2 8 k = 1) (hu : usd M u) (hp : p < (M.2.2 3 u).toNatClampNeg) (hx : x = 40 * u + p - 40) (hv : v = dec (M.2.2 2 u) y) (h1 : w' (ad 13 k) = some (sC (upd (cSI M gi k) 4 (M.2.2 11 k + 1)) (sAd M ad (M.2.2 17 k)) (cX M ad k))) (h2 : w' (ad 12 u) = some (.inl (gA G 0, (M.2.2 3 u).toNatClampNeg, .inl (upd (cArr M u) p v)))) (h3 : ∀ c, c ≠ ad 13 k → c ≠ ad 12 u → w' c = w c) : RLa G (sF (sF M 4 x y) 11 k (M.2.2 11 k + 1)) ad gi w' := by
  have hs := bt_iff.mp (hS u (by have := hu.2.1; omega))
  have hs2 := cl_toInt hs.1
  have f4 : (sF (sF M 4 x y) 11 k (M.2.2 11 k + 1)).2.2 4 = upd (M.2.2 4) x y := rfl
  have f11 : (sF (sF M 4 x y) 11 k (M.2.2 11 k + 1)).2.2 11 = upd (M.2.2 11) k (M.2.2 11 k + 1) := rfl
  generalize hM' : sF (sF M 4 x y) 11 k (M.2.2 11 k + 1) = M' at *
  have m1 : M'.2.2 1 = M.2.2 1 := hM' ▸ (rfl : (sF (sF M 4 x y) 11 k (M.2.2 11 k + 1)).2.2 1 = M.2.2 1)
  have m2 : M'.2.2 2 = M.2.2 2 := hM' ▸ (rfl : (sF (sF M 4 x y) 11 k (M.2.2 11 k + 1)).2.2 2 = M.2.2 2)
  have m3 : M'.2.2 3 = M.2.2 3 := hM' ▸ (rfl : (sF (sF M 4 x y) 11 k (M.2.2 11 k + 1)).2.2 3 = M.2.2 3)
  have m6 : M'.2.2 6 = M.2.2 6 := hM' ▸ (rfl : (sF (sF M 4 x y) 11 k (M.2.2 11 k + 1)).2.2 6 = M.2.2 6)
  have m8 : M'.2.2 8 = M.2.2 8 := hM' ▸ (rfl : (sF (sF M 4 x y) 11 k (M.2.2 11 k + 1)).2.2 8 = M.2.2 8)
  have m9 : M'.2.2 9 = M.2.2 9 := hM' ▸ (rfl : (sF (sF M 4 x y) 11 k (M.2.2 11 k + 1)).2.2 9 = M.2.2 9)
  have m10 : M'.2.2 10 = M.2.2 10 := hM' ▸ (rfl : (sF (sF M 4 x y) 11 k (M.2.2 11 k + 1)).2.2 10 = M.2.2 10)
  have m12 : M'.2.2 12 = M.2.2 12 := hM' ▸ (rfl : (sF (sF M 4 x y) 11 k (M.2.2 11 k + 1)).2.2 12 = M.2.2 12)
  have m13 : M'.2.2 13 = M.2.2 13 := hM' ▸ (rfl : (sF (sF M 4 x y) 11 k (M.2.2 11 k + 1)).2.2 13 = M.2.2 13)
  have m14 : M'.2.2 14 = M.2.2 14 := hM' ▸ (rfl : (sF (sF M 4 x y) 11 k (M.2.2 11 k + 1)).2.2 14 = M.2.2 14)
  have m15 : M'.2.2 15 = M.2.2 15 := hM' ▸ (rfl : (sF (sF M 4 x y) 11 k (M.2.2 11 k + 1)).2.2 15 = M.2.2 15)
  have m16 : M'.2.2 16 = M.2.2 16 := hM' ▸ (rfl : (sF (sF M 4 x y) 11 k (M.2.2 11 k + 1)).2.2 16 = M.2.2 16)
  have m17 : M'.2.2 17 = M.2.2 17 := hM' ▸ (rfl : (sF (sF M 4 x y) 11 k (M.2.2 11 k + 1)).2.2 17 = M.2.2 17)
  have m18 : M'.2.2 18 = M.2.2 18 := hM' ▸ (rfl : (sF (sF M 4 x y) 11 k (M.2.2 11 k + 1)).2.2 18 = M.2.2 18)
  have m19 : M'.2.2 19 = M.2.2 19 := hM' ▸ (rfl : (sF (sF M 4 x y) 11 k (M.2.2 11 k + 1)).2.2 19 = M.2.2 19)
  have m23 : M'.2.2 23 = M.2.2 23 := hM' ▸ (rfl : (sF (sF M 4 x y) 11 k (M.2.2 11 k + 1)).2.2 23 = M.2.2 23)
  have m24 : M'.2.2 24 = M.2.2 24 := hM' ▸ (rfl : (sF (sF M 4 x y) 11 k (M.2.2 11 k + 1)).2.2 24 = M.2.2 24)
  have m25 : M'.2.2 25 = M.2.2 25 := hM' ▸ (rfl : (sF (sF M 4 x y) 11 k (M.2.2 11 k + 1)).2.2 25 = M.2.2 25)
  have m30 : M'.2.2 30 = M.2.2 30 := hM' ▸ (rfl : (sF (sF M 4 x y) 11 k (M.2.2 11 k + 1)).2.2 30 = M.2.2 30)
  have m31 : M'.2.2 31 = M.2.2 31 := hM' ▸ (rfl : (sF (sF M 4 x y) 11 k (M.2.2 11 k + 1)).2.2 31 = M.2.2 31)
  have m32 : M'.2.2 32 = M.2.2 32 := hM' ▸ (rfl : (sF (sF M 4 x y) 11 k (M.2.2 11 k + 1)).2.2 32 = M.2.2 32)
  have m33 : M'.2.2 33 = M.2.2 33 := hM' ▸ (rfl : (sF (sF M 4 x y) 11 k (M.2.2 11 k + 1)).2.2 33 = M.2.2 33)
  have m34 : M'.2.2 34 = M.2.2 34 := hM' ▸ (rfl : (sF (sF M 4 x y) 11 k (M.2.2 11 k + 1)).2.2 34 = M.2.2 34)
  have m35 : M'.2.2 35 = M.2.2 35 := hM' ▸ (rfl : (sF (sF M 4 x y) 11 k (M.2.2 11 k + 1)).2.2 35 = M.2.2 35)
  have m36 : M'.2.2 36 = M.2.2 36 := hM' ▸ (rfl : (sF (sF M 4 x y) 11 k (M.2.2 11 k + 1)).2.2 36 = M.2.2 36)
  have m37 : M'.2.2 37 = M.2.2 37 := hM' ▸ (rfl : (sF (sF M 4 x y) 11 k (M.2.2 11 k + 1)).2.2 37 = M.2.2 37)
  have m42 : M'.2.2 42 = M.2.2 42 := hM' ▸ (rfl : (sF (sF M 4 x y) 11 k (M.2.2 11 k + 1)).2.2 42 = M.2.2 42)
  have m43 : M'.2.2 43 = M.2.2 43 := hM' ▸ (rfl : (sF (sF M 4 x y) 11 k (M.2.2 11 k + 1)).2.2 43 = M.2.2 43)
  have i5 : M'.1 5 = M.1 5 := hM' ▸ (rfl : (sF (sF M 4 x y) 11 k (M.2.2 11 k + 1)).1 5 = M.1 5)
  have i7 : M'.1 7 = M.1 7 := hM' ▸ (rfl : (sF (sF M 4 x y) 11 k (M.2.2 11 k + 1)).1 7 = M.1 7)
  have i20 : M'.1 20 = M.1 20 := hM' ▸ (rfl : (sF (sF M 4 x y) 11 k (M.2.2 11 k + 1)).1 20 = M.1 20)
  have i26 : M'.1 26 = M.1 26 := hM' ▸ (rfl : (sF (sF M 4 x y) 11 k (M.2.2 11 k + 1)).1 26 = M.1 26)
  have i27 : M'.1 27 = M.1 27 := hM' ▸ (rfl : (sF (sF M 4 x y) 11 k (M.2.2 11 k + 1)).1 27 = M.1 27)
  have i28 : M'.1 28 = M.1 28 := hM' ▸ (rfl : (sF (sF M 4 x y) 11 k (M.2.2 11 k + 1)).1 28 = M.1 28)
  have i29 : M'.1 29 = M.1 29 := hM' ▸ (rfl : (sF (sF M 4 x y) 11 k (M.2.2 11 k + 1)).1 29 = M.1 29)
  have i38 : M'.1 38 = M.1 38 := hM' ▸ (rfl : (sF (sF M 4 x y) 11 k (M.2.2 11 k + 1)).1 38 = M.1 38)
  have i39 : M'.1 39 = M.1 39 := hM' ▸ (rfl : (sF (sF M 4 x y) 11 k (M.2.2 11 k + 1)).1 39 = M.1 39)
  have i40 : M'.1 40 = M.1 40 := hM' ▸ (rfl : (sF (sF M 4 x y) 11 k (M.2.2 11 k + 1)).1 40 = M.1 40)
  have i41 : M'.1 41 = M.1 41 := hM' ▸ (rfl : (sF (sF M 4 x y) 11 k (M.2.2 11 k + 1)).1 41 = M.1 41)
  have i44 : M'.1 44 = M.1 44 := hM' ▸ (rfl : (sF (sF M 4 x y) 11 k (M.2.2 11 k + 1)).1 44 = M.1 44)
  have i45 : M'.1 45 = M.1 45 := hM' ▸ (rfl : (sF (sF M 4 x y) 11 k (M.2.2 11 k + 1)).1 45 = M.1 45)
  have l0 : M'.2.1 = M.2.1 := hM' ▸ (rfl : (sF (sF M 4 x y) 11 k (M.2.2 11 k + 1)).2.1 = M.2.1)
  have n11 : ∀ i, i ≠ k → M'.2.2 11 i = M.2.2 11 i := fun i hi => by rw [f11]; exact upd_n hi
  refine rl_addP hL (fun _ _ => False) (fun _ _ => False) (fun t i => (t = 13 ∧ i = k) ∨ (t = 12 ∧ i = u)) (fun _ _ h => h.elim) (fun _ _ _ _ h => h.elim) (fun _ _ h => h.elim) (fun t i hl hn0 hn1 => by
    match t, hl, hn0, hn1 with
    | 0, hl, hn0, hn1 => (have h := (show _ ∧ i = 0 from hl).2; subst h; exact ⟨lvf 0 (by decide), rfl⟩)
    | 1, hl, hn0, hn1 => (have h := (show _ ∧ i = 0 from hl).2; subst h; exact ⟨lvf 1 (by decide), rfl⟩)
    | 2, hl, hn0, hn1 => (have h := (show _ ∧ i = 0 from hl).2; subst h; exact ⟨lvf 2 (by decide), rfl⟩)
    | 3, hl, hn0, hn1 => (have h := (show _ ∧ i = 0 from hl).2; subst h; exact ⟨lvf 3 (by decide), rfl⟩)
    | 4, hl, hn0, hn1 => (have h := (show _ ∧ i = 0 from hl).2; subst h; exact ⟨lvf 4 (by decide), rfl⟩)
    | 5, hl, hn0, hn1 => (have h := (show _ ∧ i = 0 from hl).2; subst h; exact ⟨lvf 5 (by decide), rfl⟩)
    | 6, hl, hn0, hn1 => (have h := (show _ ∧ i = 0 from hl).2; subst h; exact ⟨lvf 6 (by decide), rfl⟩)
    | 7, hl, hn0, hn1 => (have h := (show _ ∧ i = 0 from hl).2; subst h; exact ⟨lvf 7 (by decide), rfl⟩)
    | 8, hl, hn0, hn1 => (have h := (show _ ∧ i = 0 from hl).2; subst h; exact ⟨lvf 8 (by decide), rfl⟩)
    | 9, hl, hn0, hn1 => (have h := (show _ ∧ i = 0 from hl).2; subst h; exact ⟨lvf 9 (by decide), rfl⟩)
    | 10, hl, hn0, hn1 => (have h := (show _ ∧ i = 0 from hl).2; subst h; exact ⟨lvf 10 (by decide), rfl⟩)
    | 11, hl, hn0, hn1 => exact ⟨(by have h : usd M' i := hl; unfold usd uA uF at h; rw [m1, m6, m8, m15] at h; exact h), rfl⟩
    | 12, hl, hn0, hn1 => exact ⟨(by have h : usd M' i := hl; unfold usd uA uF at h; rw [m1, m6, m8, m15] at h; exact h), rfl⟩
    | 13, hl, hn0, hn1 => exact ⟨(by have h : opn M' i := hl; unfold opn at h; rw [m6] at h; exact h), rfl⟩
    | 14, hl, hn0, hn1 => exact ⟨(by have h : opn M' i ∧ M'.2.2 8 i = 0 := hl; unfold opn at h; rw [m6, m8] at h; exact h), rfl⟩
    | 15, hl, hn0, hn1 => exact ⟨(by have h : isr M' i ∧ M'.2.2 34 i = nI i := hl; unfold isr at h; rw [i29, m34] at h; exact h), rfl⟩
    | 16, hl, hn0, hn1 => exact ⟨(by have h : isr M' i ∧ M'.2.2 34 i = nI i := hl; unfold isr at h; rw [i29, m34] at h; exact h), rfl⟩
    | 17, hl, hn0, hn1 => exact ⟨(by have h : isr M' i := hl; unfold isr at h; rw [i29] at h; exact h), rfl⟩
    | 18, hl, hn0, hn1 => exact ⟨(by have h : isr M' i ∧ M'.2.2 33 i = 0 := hl; unfold isr at h; rw [i29, m33] at h; exact h), rfl⟩
    | 19, hl, hn0, hn1 => exact ⟨(by have h : isr M' i ∧ M'.2.2 33 i = 0 := hl; unfold isr at h; rw [i29, m33] at h; exact h), rfl⟩
    | 20, hl, hn0, hn1 => exact ⟨(by have h : i < 4 ∧ 0 ≤ M'.2.2 23 i := hl; rw [m23] at h; exact h), rfl⟩
    | 21, hl, hn0, hn1 => exact ⟨(by have h : i < 4 ∧ 0 ≤ M'.2.2 23 i := hl; rw [m23] at h; exact h), rfl⟩
    | 22, hl, hn0, hn1 => exact ⟨(by have h : opn M' i ∧ M'.2.2 8 i = 3 := hl; unfold opn at h; rw [m6, m8] at h; exact h), rfl⟩
    | 23, hl, hn0, hn1 => exact ⟨(by have h : opn M' i ∧ M'.2.2 8 i = 3 := hl; unfold opn at h; rw [m6, m8] at h; exact h), rfl⟩
    | n + 24, hl, hn0, hn1 => exact absurd (show n + 24 ≤ 10 ∧ i = 0 from hl).1 (by omega)) ?_ ?_ (fun t i hl hn0 hn1 hn2 => by
    match t, hl, hn0, hn1, hn2 with
    | 0, hl, hn0, hn1, hn2 => (refine cc_0 ?_; rw [sAd_c m6, i20, i7, i29, i38, l0, i5])
    | 1, hl, hn0, hn1, hn2 => (refine cc_1 ?_; rw [cR_c m1 rfl])
    | 2, hl, hn0, hn1, hn2 => (refine cc_2 ?_; rw [cG_c m23 rfl])
    | 3, hl, hn0, hn1, hn2 => (refine cc_3 ?_; rw [cS_c m6])
    | 4, hl, hn0, hn1, hn2 => (refine cc_4 ?_; rw [cF_c i29 rfl])
    | 5, hl, hn0, hn1, hn2 => (refine cc_5 ?_; rw [i27, i28])
    | 6, hl, hn0, hn1, hn2 => (refine cc_6 ?_; rw [i39, i40, i44, i45])
    | 7, hl, hn0, hn1, hn2 => (refine cc_7 ?_; rw [m42])
    | 8, hl, hn0, hn1, hn2 => (refine cc_8 ?_; rw [m43])
    | 9, hl, hn0, hn1, hn2 => (refine cc_9 ?_; rw [i26])
    | 10, hl, hn0, hn1, hn2 => (refine cc_10 ?_; rfl)
    | 11, hl, hn0, hn1, hn2 => (refine cc_11 ?_; rw [m2])
    | 12, hl, hn0, hn1, hn2 => (have hi : i ≠ u := fun z => hn2 (Or.inr ⟨rfl, z⟩); have hl2 := (show usd M' i from hl); refine cc_12 ?_; rw [m3, cA_n2 m2 m3 f4 hS hl2.2.1 (by have h1 := hl2.1; have h3 := hu.1; omega) hl2.1])
    | 13, hl, hn0, hn1, hn2 => (have hi : i ≠ k := fun z => hn2 (Or.inl ⟨rfl, z⟩); refine cc_13 ?_; rw [cSI_c (M := M) (M' := M') (gi := gi) (gi' := gi) (k := i) (by rw [m8]) (by rw [m10]) (by rw [m9]) (by rw [m6]) (n11 i hi) (by rw [m13]) (by rw [m14]) (by rw [m12]) (by rw [m19]) rfl, sAd_c m6, m17, cX_c (M := M) (M' := M') (ad := ad) (ad' := ad) (k := i) (by rw [m8]) rfl (fun _ => by rw [m15]) (by rw [m16]) rfl rfl])
    | 14, hl, hn0, hn1, hn2 => (refine cc_14 ?_; rfl)
    | 15, hl, hn0, hn1, hn2 => (refine cc_15 ?_; rw [m36, m35])
    | 16, hl, hn0, hn1, hn2 => (refine cc_16 ?_; rfl)
    | 17, hl, hn0, hn1, hn2 => (refine cc_17 ?_; rw [m30, m33, m34])
    | 18, hl, hn0, hn1, hn2 => (refine cc_18 ?_; rfl)
    | 19, hl, hn0, hn1, hn2 => (refine cc_19 ?_; rw [m32])
    | 20, hl, hn0, hn1, hn2 => (refine cc_20 ?_; rfl)
    | 21, hl, hn0, hn1, hn2 => (refine cc_21 ?_; rw [m23, cGiv_c m23 m24])
    | 22, hl, hn0, hn1, hn2 => (refine cc_22 ?_; rfl)
    | 23, hl, hn0, hn1, hn2 => (refine cc_23 ?_; rw [m12])
    | n + 24, hl, hn0, hn1, hn2 => exact absurd (show n + 24 ≤ 10 ∧ i = 0 from hl).1 (by omega)) (fun _ _ h => h.elim) (fun _ _ h => h.elim) ?_ ⟨by unfold sd_p opn; rw [m6, m8, m19, m18]; exact hL.2.2.1, by unfold sd_f; rw [m37]; exact hL.2.2.2.1, by unfold sd_t; rw [i39, i40, i41]; exact hL.2.2.2.2.1, by unfold sd_n; rw [i26, m25]; exact hL.2.2.2.2.2.1, by unfold sd_s isr; rw [i29, m33, m32, m31]; exact hL.2.2.2.2.2.2.1, by unfold sd_r opn; rw [m6, m8, m12, m18, m9]; exact hL.2.2.2.2.2.2.2⟩
  · rintro t i (⟨rfl, rfl⟩ | ⟨rfl, rfl⟩)
    · exact ⟨ho, rfl⟩
    · exact ⟨hu, rfl⟩
  · intro b _ hl
    exact h3 b (hl 13 k (Or.inl ⟨rfl, rfl⟩)) (hl 12 u (Or.inr ⟨rfl, rfl⟩))
  · rintro q i (⟨rfl, rfl⟩ | ⟨rfl, rfl⟩) _ _ _
    · show w' (ad 13 i) = some (sC (cSI M' gi i) (sAd M' ad (M'.2.2 17 i)) (cX M' ad i))
      rw [sAd_c m6, m17, cX_c (M := M) (M' := M') (ad := ad) (ad' := ad) (k := i) (by rw [m8]) rfl (fun _ => by rw [m15]) (by rw [m16]) rfl rfl, h1]
      have e : cSI M' gi i = upd (cSI M gi i) 4 (M.2.2 11 i + 1) := by
        funext j
        match j with
        | 0 => exact congrFun m8 i
        | 1 => exact congrFun m10 i
        | 2 => exact congrFun m9 i
        | 3 => exact congrFun m6 i
        | 4 => show M'.2.2 11 i = M.2.2 11 i + 1; rw [f11]; exact upd_s
        | 5 => exact congrFun m13 i
        | 6 => exact congrFun m14 i
        | 7 => rfl
        | 8 => rfl
        | 9 => show c9 M' gi i = c9 M gi i; unfold c9; rw [m8, m12, m9]
        | 10 => exact congrFun m19 i
        | j + 11 => exact (upd_n (by omega) : upd (cSI M gi i) 4 _ (j + 11) = cSI M gi i (j + 11)).symm
      rw [e]
    · show w' (ad 12 i) = some (.inl (gA G 0, (M'.2.2 3 i).toNatClampNeg, .inl (cArr M' i)))
      rw [m3, cA_s2 m2 m3 f4 hu.1 hp hx hv, h2]
theorem w255 {x : Int32} : (x &&& 255).toInt = x.toInt % 256 := by
  have h1 : (x &&& 255).toBitVec.toNat = x.toBitVec.toNat % 256 := by
    rw [Int32.toBitVec_and, BitVec.toNat_and]
    exact Nat.and_two_pow_sub_one_eq_mod _ 8
  have h3 : (x &&& 255).toInt = (x &&& 255).toBitVec.toInt := rfl
  have h4 : x.toInt = x.toBitVec.toInt := rfl
  have h5 := x.toBitVec.isLt
  rw [h3, h4, BitVec.toInt_eq_toNat_of_lt (by omega), h1, BitVec.toInt_eq_toNat_cond]
  split
  · omega
  · have : (2 ^ 32 : Nat) = 4294967296 := rfl
    omega
theorem n255 {x : Int32} : vp_nar .byte (x.toInt8.toInt32) &&& 255 = x &&& 255 := by
  have e : ∀ y : Int32, y.toInt8.toInt32 &&& 255 = y &&& 255 := by
    intro y
    rw [i32_eq, w255, w255, Int8.toInt_toInt32, Int32.toInt_toInt8]
    exact Int.bmod_emod
  show x.toInt8.toInt32.toInt8.toInt32 &&& 255 = _
  rw [e, e]

