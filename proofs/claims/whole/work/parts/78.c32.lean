/-! putting -/
/-- echoes are of panes only -/
def mi_ep (M : MS) : Prop := ∀ k, k < 8 → ¬ M.2.2 8 k = 0 → M.2.2 17 k = 0
def IV (M : MS) : Prop := PI M ∧ mi_signs M ∧ mi_sf M ∧ mi_eo M ∧ mi_ep M ∧ mi_pm M
theorem IV_0 {M : MS} (h : IV M) : IV (sI M 0 0) := h
theorem pi_j (M : MS) (k c : Int32) {j : Nat} (h : j ∉ [4, 11, 13, 18, 19, 36, 37]) : (mo_pi M k c).2.2.2 j = M.2.2 j := by
  simp only [List.mem_cons, List.not_mem_nil, or_false, not_or] at h
  exact pi_f M k c h.1 h.2.1 h.2.2.1 h.2.2.2.1 h.2.2.2.2.1 h.2.2.2.2.2.1 h.2.2.2.2.2.2
theorem cnt_1 (M : MS) (k : Nat) : (mo_cnt M k).1 = M.1 := rfl
theorem pp_1 (M : MS) {k : Nat} (v : Int32) (hk : k < 8) : (mo_pp M (nI k) v).1 = M.1 := by
  rw [pp_eq hk]
theorem pfl_1 (M : MS) (k v : Int32) : (mo_pfl M k v).1 = M.1 := by
  unfold mo_pfl mo_fl
  show (mo_fb M _ _ _ _).1 = _
  rw [fb_1]
theorem pi_i (M : MS) {k : Nat} (hk : k < 8) (c : Int32) {j : Nat} (h : j ≠ 5) : (mo_pi M (nI k) c).2.1 j = M.1 j := by
  unfold mo_pi
  split
  · rfl
  · split
    · show (mo_cnt (mo_pp M (nI k) (nrw (M.2.2 9 (nI k).toNatClampNeg) c)) (nI k).toNatClampNeg).1 j = _
      rw [cnt_1, pp_1 _ _ hk]
    · split
      · split
        · split
          · rfl
          · show va_up M.1 5 _ j = _
            rw [va_up_ne _ _ h]
        · rfl
      · split
        · show (mo_cnt (mo_pfl M (nI k) (nrw (M.2.2 9 (nI k).toNatClampNeg) c)) (nI k).toNatClampNeg).1 j = _
          rw [cnt_1, pfl_1]
        · rfl
theorem pi_sg {M : MS} {k c : Int32} (h : mi_signs M) : mi_signs (mo_pi M k c).2 := by
  intro i hi
  unfold mo_pi
  split
  · exact h i hi
  · split
    · show bt ((mo_cnt _ _).2.2 19 i) 0 20 = true
      rw [cnt_f _ _ (by decide)]; unfold mo_pp
      rw [sF_us, sF_f _ _ _ _ (by decide), sh_f _ _ (by decide)]
      by_cases hz : i = k.toNatClampNeg
      · rw [← hz, upd_s]
        have b := bt_iff.mp (h i hi)
        have e20 : (20 : Int32).toInt = 20 := rfl
        by_cases h20 : 20 ≤ M.2.2 19 i
        · rw [if_pos h20, Int32.add_zero]; exact h i hi
        · rw [if_neg h20]
          rw [i32_le] at h20
          have t1 := ti_add (a := M.2.2 19 i) (b := 1) (y := 1) rfl rfl (by omega)
          exact bt_iff.mpr ⟨by omega, by omega⟩
      · rw [upd_n hz]; exact h i hi
    · split
      · split
        · split
          · show bt ((mo_cnt _ _).2.2 19 i) 0 20 = true
            rw [cnt_f _ _ (by decide)]; unfold mo_pm
            rw [sF_f _ _ _ _ (by decide), sF_f _ _ _ _ (by decide)]
            exact h i hi
          · exact h i hi
        · show bt ((mo_cnt _ _).2.2 19 i) 0 20 = true
          rw [cnt_f _ _ (by decide)]
          exact h i hi
      · split
        · show bt ((mo_cnt _ _).2.2 19 i) 0 20 = true
          rw [cnt_f _ _ (by decide)]; unfold mo_pfl mo_fl
          rw [sF_f _ _ _ _ (by decide), sF_f _ _ _ _ (by decide), fb_f _ _ _ _ (by decide)]
          exact h i hi
        · exact h i hi
theorem nI_b7 {j : Nat} (h : j < 8) : bt (nI j) 0 7 = true := (bt_nI (by omega)).mpr ⟨by omega, by omega⟩
theorem pi_IV {M : MS} {k : Nat} {c : Int32} (h : IV M) (hk : k < 8) : IV (mo_pi M (nI k) c).2 := by
  obtain ⟨h1, h2, h3, h4, h5, h6⟩ := h
  have f6 := pi_j M (nI k) c (j := 6) (by decide)
  have f8 := pi_j M (nI k) c (j := 8) (by decide)
  have f10 := pi_j M (nI k) c (j := 10) (by decide)
  have f16 := pi_j M (nI k) c (j := 16) (by decide)
  have f17 := pi_j M (nI k) c (j := 17) (by decide)
  have f34 := pi_j M (nI k) c (j := 34) (by decide)
  have i29 := pi_i M hk c (j := 29) (by decide)
  refine ⟨pi_PI h1 (nI_b7 hk), pi_sg h2, ?_, ?_, ?_, ?_⟩
  · intro i ho h8
    unfold opn at ho
    rw [f6] at ho
    rw [f8] at h8
    rw [f16]
    have := h3 i ho h8
    exact ⟨this.1, lv15_c i29 f34 this.2⟩
  · intro i hi
    rw [f17, pl_congr f6]
    exact h4 i hi
  · intro i hi h8
    rw [f8] at h8
    rw [f17]
    exact h5 i hi h8
  · intro i ho h8
    unfold opn at ho
    rw [f6] at ho
    rw [f8] at h8
    rw [f10]
    exact h6 i ho h8
theorem wM_6 {M : MS} {k : Nat} {v : Int32} : (wM M k v).2.2 6 = M.2.2 6 := by
  unfold wM
  split
  · unfold mo_pp
    rw [sF_f _ _ _ _ (by decide), sF_f _ _ _ _ (by decide), sh_f _ _ (by decide)]
  · split
    · split
      · split
        · unfold mo_pm
          rw [sF_f _ _ _ _ (by decide), sF_f _ _ _ _ (by decide)]
        · rfl
      · rfl
    · split
      · unfold mo_pfl mo_fl
        rw [sF_f _ _ _ _ (by decide), sF_f _ _ _ _ (by decide), fb_f _ _ _ _ (by decide)]
      · rfl
theorem pi_w {M : MS} {k : Nat} {c : Int32} (hk : k < 8) (hm : ¬ M.2.2 10 k = 2) : mo_pi M (nI k) c = (if wv M k < -10 then (wv M k, sI (wM M k (nrw (M.2.2 9 k) c)) 5 ((-10) - wv M k)) else if wv M k = -5 then (-5, wM M k (nrw (M.2.2 9 k) c)) else if wv M k = 0 then (1, mo_cnt (sL (wM M k (nrw (M.2.2 9 k) c)) 22 ((wM M k (nrw (M.2.2 9 k) c)).2.1 22 + 1)) k) else (1, mo_cnt (wM M k (nrw (M.2.2 9 k) c)) k)) := by
  have ek : (nI k).toNatClampNeg = k := nI_clamp (by omega)
  unfold mo_pi wv wM
  rw [ek, if_neg hm]
  by_cases h0 : M.2.2 8 k = 0
  · rw [if_pos h0, if_pos h0, if_pos h0, if_neg (by decide), if_neg (by decide), if_neg (by decide)]
  · rw [if_neg h0, if_neg h0, if_neg h0]
    by_cases h1 : M.2.2 8 k = 1
    · rw [if_pos h1, if_pos h1, if_pos h1]
      by_cases h2 : M.2.2 11 k < M.2.2 12 k
      · rw [if_pos h2, if_pos h2, if_pos h2]
        by_cases h3 : mo_pf M k ≤ 0
        · rw [if_pos h3, if_pos h3, if_pos h3, if_neg (by decide), if_neg (by decide), if_neg (by decide)]
        · rw [if_neg h3, if_neg h3, if_neg h3]
          have hz : mo_pf M k = 1 ∨ mo_pf M k = 2 ∨ mo_pf M k = 3 := by
            rcases ag_4 (M := M) (a := M.2.2 15 k) (sort := if M.2.2 9 k = 0 then 1 else 2) (k := M.2.2 11 k) with z | z
            · exact absurd (ag_le.mpr z) h3
            · exact z
          rcases hz with z | z | z <;> rw [z] <;> rw [if_pos (by decide)] <;> rfl
      · rw [if_neg h2, if_neg h2, if_neg h2, if_neg (by decide), if_neg (by decide), if_pos rfl]
    · rw [if_neg h1, if_neg h1, if_neg h1]
      by_cases h2 : mo_en M k ≤ 60
      · rw [if_pos h2, if_pos h2, if_pos h2, if_neg (by decide), if_neg (by decide), if_neg (by decide)]
      · rw [if_neg h2, if_neg h2, if_neg h2, if_neg (by decide), if_pos rfl]
/-- the chain of echoes, by slots -/
def nxt (M : MS) (j : Nat) : Option Nat := if M.2.2 8 j = 0 then mo_pl M (M.2.2 17 j) else none
def cv (c : Int32) : Nat → MS → Option Nat → Int32 × MS
  | 0, M, _ => (1, M)
  | _ + 1, M, none => (1, M)
  | n + 1, M, some j => if (-10) ≤ (mo_pi M (nI j) c).1 then cv c n (mo_pi M (nI j) c).2 (nxt (mo_pi M (nI j) c).2 j) else mo_pi M (nI j) c
theorem cv_none {c : Int32} {M : MS} : ∀ n, cv c n M none = (1, M)
  | 0 => rfl
  | _ + 1 => rfl
theorem ch_cv {c : Int32} : ∀ (n : Nat) (M : MS) (j : Nat), IV M → j < 8 → mo_ch n M (nI j) c = cv c n M (nxt M j)
  | 0, M, j, _, _ => by cases nxt M j <;> rfl
  | n + 1, M, j, hI, hj => by
    have ej : (nI j).toNatClampNeg = j := nI_clamp (by omega)
    show (if M.2.2 8 (nI j).toNatClampNeg = 0 ∧ 0 < M.2.2 17 (nI j).toNatClampNeg then (if (-10) ≤ (mo_pi M (oI (mo_pl M (M.2.2 17 (nI j).toNatClampNeg))) c).1 then mo_ch n (mo_pi M (oI (mo_pl M (M.2.2 17 (nI j).toNatClampNeg))) c).2 (oI (mo_pl M (M.2.2 17 (nI j).toNatClampNeg))) c else mo_pi M (oI (mo_pl M (M.2.2 17 (nI j).toNatClampNeg))) c) else (1, M)) = _
    rw [ej]
    unfold nxt
    by_cases h0 : M.2.2 8 j = 0
    · rw [if_pos h0]
      cases hp : mo_pl M (M.2.2 17 j) with
      | none =>
        have he := eo_0 hI.2.2.2.1 hj hp
        rw [if_neg (fun z => by have := z.2; rw [he] at this; exact absurd this (by decide))]
        rfl
      | some t =>
        have ht := pl_opn hp
        rw [if_pos ⟨h0, by rw [← ht.2]; exact ht.1.2⟩]
        show (if (-10) ≤ (mo_pi M (nI t) c).1 then mo_ch n (mo_pi M (nI t) c).2 (nI t) c else mo_pi M (nI t) c) = if (-10) ≤ (mo_pi M (nI t) c).1 then cv c n (mo_pi M (nI t) c).2 (nxt (mo_pi M (nI t) c).2 t) else mo_pi M (nI t) c
        rw [ch_cv n _ t (pi_IV hI ht.1.1) ht.1.1]
    · rw [if_neg (fun z => h0 z.1), if_neg h0, cv_none]
theorem nxt_pl {M : MS} {j : Nat} (h : mi_ep M) (hj : j < 8) : nxt M j = mo_pl M (M.2.2 17 j) := by
  unfold nxt
  by_cases h0 : M.2.2 8 j = 0
  · rw [if_pos h0]
  · rw [if_neg h0, h j hj h0, mo_pl0]
theorem po_n {M : MS} {k : Nat} {c : Int32} (hI : IV M) (ho : opn M k) (h : mo_pl M (M.2.2 17 k) = none) : mo_po M (nI k) c = mo_pi M (nI k) c := by
  unfold mo_po
  split
  · rename_i h0
    have hI2 := pi_IV (c := c) hI ho.1
    rw [ch_cv 8 _ k hI2 ho.1, nxt_pl hI2.2.2.2.2.1 ho.1, pi_j M (nI k) c (j := 17) (by decide), pl_congr (pi_j M (nI k) c (j := 6) (by decide)), h, cv_none]
    have e1 : (mo_pi M (nI k) c).1 = 1 := by
      have ek : (nI k).toNatClampNeg = k := nI_clamp (by have := ho.1; omega)
      unfold mo_pi at h0 ⊢
      rw [ek] at h0 ⊢
      split
      · rename_i hz; rw [if_pos hz] at h0; exact absurd h0 (show ¬ (0 : Int32) ≤ -4 by decide)
      · rename_i hz
        rw [if_neg hz] at h0
        split
        · rfl
        · rename_i h8; rw [if_neg h8] at h0
          split
          · rename_i h1; rw [if_pos h1] at h0
            split
            · rename_i h2; rw [if_pos h2] at h0
              split
              · rfl
              · rename_i h3
                rw [if_neg h3] at h0
                rcases ag_4 (M := M) (a := M.2.2 15 k) (sort := if M.2.2 9 k = 0 then 1 else 2) (k := M.2.2 11 k) with z | z | z | z
                · exact absurd (ag_le.mpr z) h3
                · have z : mo_pf M k = 1 := z
                  rw [z] at h0; exact absurd h0 (show ¬ (0 : Int32) ≤ (-10) - 1 by decide)
                · have z : mo_pf M k = 2 := z
                  rw [z] at h0; exact absurd h0 (show ¬ (0 : Int32) ≤ (-10) - 2 by decide)
                · have z : mo_pf M k = 3 := z
                  rw [z] at h0; exact absurd h0 (show ¬ (0 : Int32) ≤ (-10) - 3 by decide)
            · rfl
          · rename_i h1; rw [if_neg h1] at h0
            split
            · rfl
            · rename_i h2; rw [if_neg h2] at h0; exact absurd h0 (show ¬ (0 : Int32) ≤ -5 by decide)
    exact Prod.ext e1.symm rfl
  · rfl
theorem po_s {M : MS} {k j : Nat} {c : Int32} (hI : IV M) (ho : opn M k) (h : mo_pl M (M.2.2 17 k) = some j) : mo_po M (nI k) c = cv c 8 (mo_pi M (nI k) c).2 (some j) ∧ (mo_pi M (nI k) c).1 = 1 := by
  have hj := pl_opn h
  have h8 : M.2.2 8 k = 0 := Decidable.byContradiction (fun z => by rw [hI.2.2.2.2.1 k ho.1 z, mo_pl0] at h; cases h)
  have hm := hI.2.2.2.2.2 k ho h8
  have e1 : (mo_pi M (nI k) c).1 = 1 := by
    have ek : (nI k).toNatClampNeg = k := nI_clamp (by have := ho.1; omega)
    unfold mo_pi
    rw [ek, if_neg (by rw [hm]; decide), if_pos h8]
  refine ⟨?_, e1⟩
  have hI2 := pi_IV (c := c) hI ho.1
  unfold mo_po
  rw [if_pos (by rw [e1]; decide), ch_cv 8 _ k hI2 ho.1, nxt_pl hI2.2.2.2.2.1 ho.1, pi_j M (nI k) c (j := 17) (by decide), pl_congr (pi_j M (nI k) c (j := 6) (by decide)), h]
theorem tI_1 {x : Int64} : (x + 1).toInt32 = x.toInt32 + 1 := by rw [Int64.toInt32_add]; rfl
theorem rl_c1 {G : GG} {M : MS} {ad : AD} {gi : GI} {w w' : WM} {k : Nat} (hL : RLa G M ad gi w) (ho : opn M k) (h1 : w' (ad 13 k) = some (sC (upd (cSI M gi k) 5 (M.2.2 13 k + 1)) (sAd M ad (M.2.2 17 k)) (cX M ad k))) (h2 : w' (ad 0 0) = some (oC (ad 1 0) (ad 2 0) (ad 3 0) (ad 4 0) (ad 5 0) (ad 6 0) (sAd M ad (M.1 20)) (M.1 7) (M.1 29) (M.1 38) ((M.2.1 21).toInt32 + 1) ((M.2.1 22).toInt32) (M.1 5))) (h3 : ∀ c, c ≠ ad 13 k → c ≠ ad 0 0 → w' c = w c) : RLa G (mo_cnt M k) ad gi w' := by
  have f13 : (mo_cnt M k).2.2 13 = upd (M.2.2 13) k (M.2.2 13 k + 1) := rfl
  have l21 : (mo_cnt M k).2.1 21 = M.2.1 21 + 1 := rfl
  have l22 : ((mo_cnt M k).2.1 22).toInt32 = (M.2.1 22).toInt32 := rfl
  generalize hM' : mo_cnt M k = M' at *
  have m1 : M'.2.2 1 = M.2.2 1 := hM' ▸ (rfl : (mo_cnt M k).2.2 1 = M.2.2 1)
  have m2 : M'.2.2 2 = M.2.2 2 := hM' ▸ (rfl : (mo_cnt M k).2.2 2 = M.2.2 2)
  have m3 : M'.2.2 3 = M.2.2 3 := hM' ▸ (rfl : (mo_cnt M k).2.2 3 = M.2.2 3)
  have m4 : M'.2.2 4 = M.2.2 4 := hM' ▸ (rfl : (mo_cnt M k).2.2 4 = M.2.2 4)
  have m6 : M'.2.2 6 = M.2.2 6 := hM' ▸ (rfl : (mo_cnt M k).2.2 6 = M.2.2 6)
  have m8 : M'.2.2 8 = M.2.2 8 := hM' ▸ (rfl : (mo_cnt M k).2.2 8 = M.2.2 8)
  have m9 : M'.2.2 9 = M.2.2 9 := hM' ▸ (rfl : (mo_cnt M k).2.2 9 = M.2.2 9)
  have m10 : M'.2.2 10 = M.2.2 10 := hM' ▸ (rfl : (mo_cnt M k).2.2 10 = M.2.2 10)
  have m11 : M'.2.2 11 = M.2.2 11 := hM' ▸ (rfl : (mo_cnt M k).2.2 11 = M.2.2 11)
  have m12 : M'.2.2 12 = M.2.2 12 := hM' ▸ (rfl : (mo_cnt M k).2.2 12 = M.2.2 12)
  have m14 : M'.2.2 14 = M.2.2 14 := hM' ▸ (rfl : (mo_cnt M k).2.2 14 = M.2.2 14)
  have m15 : M'.2.2 15 = M.2.2 15 := hM' ▸ (rfl : (mo_cnt M k).2.2 15 = M.2.2 15)
  have m16 : M'.2.2 16 = M.2.2 16 := hM' ▸ (rfl : (mo_cnt M k).2.2 16 = M.2.2 16)
  have m17 : M'.2.2 17 = M.2.2 17 := hM' ▸ (rfl : (mo_cnt M k).2.2 17 = M.2.2 17)
  have m18 : M'.2.2 18 = M.2.2 18 := hM' ▸ (rfl : (mo_cnt M k).2.2 18 = M.2.2 18)
  have m19 : M'.2.2 19 = M.2.2 19 := hM' ▸ (rfl : (mo_cnt M k).2.2 19 = M.2.2 19)
  have m23 : M'.2.2 23 = M.2.2 23 := hM' ▸ (rfl : (mo_cnt M k).2.2 23 = M.2.2 23)
  have m24 : M'.2.2 24 = M.2.2 24 := hM' ▸ (rfl : (mo_cnt M k).2.2 24 = M.2.2 24)
  have m25 : M'.2.2 25 = M.2.2 25 := hM' ▸ (rfl : (mo_cnt M k).2.2 25 = M.2.2 25)
  have m30 : M'.2.2 30 = M.2.2 30 := hM' ▸ (rfl : (mo_cnt M k).2.2 30 = M.2.2 30)
  have m31 : M'.2.2 31 = M.2.2 31 := hM' ▸ (rfl : (mo_cnt M k).2.2 31 = M.2.2 31)
  have m32 : M'.2.2 32 = M.2.2 32 := hM' ▸ (rfl : (mo_cnt M k).2.2 32 = M.2.2 32)
  have m33 : M'.2.2 33 = M.2.2 33 := hM' ▸ (rfl : (mo_cnt M k).2.2 33 = M.2.2 33)
  have m34 : M'.2.2 34 = M.2.2 34 := hM' ▸ (rfl : (mo_cnt M k).2.2 34 = M.2.2 34)
  have m35 : M'.2.2 35 = M.2.2 35 := hM' ▸ (rfl : (mo_cnt M k).2.2 35 = M.2.2 35)
  have m36 : M'.2.2 36 = M.2.2 36 := hM' ▸ (rfl : (mo_cnt M k).2.2 36 = M.2.2 36)
  have m37 : M'.2.2 37 = M.2.2 37 := hM' ▸ (rfl : (mo_cnt M k).2.2 37 = M.2.2 37)
  have m42 : M'.2.2 42 = M.2.2 42 := hM' ▸ (rfl : (mo_cnt M k).2.2 42 = M.2.2 42)
  have m43 : M'.2.2 43 = M.2.2 43 := hM' ▸ (rfl : (mo_cnt M k).2.2 43 = M.2.2 43)
  have i5 : M'.1 5 = M.1 5 := hM' ▸ (rfl : (mo_cnt M k).1 5 = M.1 5)
  have i7 : M'.1 7 = M.1 7 := hM' ▸ (rfl : (mo_cnt M k).1 7 = M.1 7)
  have i20 : M'.1 20 = M.1 20 := hM' ▸ (rfl : (mo_cnt M k).1 20 = M.1 20)
  have i26 : M'.1 26 = M.1 26 := hM' ▸ (rfl : (mo_cnt M k).1 26 = M.1 26)
  have i27 : M'.1 27 = M.1 27 := hM' ▸ (rfl : (mo_cnt M k).1 27 = M.1 27)
  have i28 : M'.1 28 = M.1 28 := hM' ▸ (rfl : (mo_cnt M k).1 28 = M.1 28)
  have i29 : M'.1 29 = M.1 29 := hM' ▸ (rfl : (mo_cnt M k).1 29 = M.1 29)
  have i38 : M'.1 38 = M.1 38 := hM' ▸ (rfl : (mo_cnt M k).1 38 = M.1 38)
  have i39 : M'.1 39 = M.1 39 := hM' ▸ (rfl : (mo_cnt M k).1 39 = M.1 39)
  have i40 : M'.1 40 = M.1 40 := hM' ▸ (rfl : (mo_cnt M k).1 40 = M.1 40)
  have i41 : M'.1 41 = M.1 41 := hM' ▸ (rfl : (mo_cnt M k).1 41 = M.1 41)
  have i44 : M'.1 44 = M.1 44 := hM' ▸ (rfl : (mo_cnt M k).1 44 = M.1 44)
  have i45 : M'.1 45 = M.1 45 := hM' ▸ (rfl : (mo_cnt M k).1 45 = M.1 45)
  have n13 : ∀ i, i ≠ k → M'.2.2 13 i = M.2.2 13 i := fun i hi => by rw [f13]; exact upd_n hi
  refine rl_addP hL (fun _ _ => False) (fun _ _ => False) (fun t i => (t = 13 ∧ i = k) ∨ (t = 0 ∧ i = 0)) (fun _ _ h => h.elim) (fun _ _ _ _ h => h.elim) (fun _ _ h => h.elim) (fun t i hl hn0 hn1 => by
    match t, hl, hn0, hn1 with
    | 0, hl, hn0, hn1 => (have h := (show _ ∧ i = 0 from hl).2; subst h; exact ⟨lvf 0 (by decide), rfl⟩)
    | 1, hl, hn0, hn1 => (have h := (show _ ∧ i = 0 from hl).2; subst h; exact ⟨lvf 1 (by decide), rfl⟩)
    | 2, hl, hn0, hn1 => (have h := (show _ ∧ i = 0 from hl).2; subst h; exact ⟨lvf 2 (by decide), rfl⟩)
    | 3, hl, hn0, hn1 => (have h := (show _ ∧ i = 0 from hl).2; subst h; exact ⟨lvf 3 (by decide), rfl⟩)
    | 4, hl, hn0, hn1 => (have h := (show _ ∧ i = 0 from hl).2; subst h; exact ⟨lvf 4 (by decide), rfl⟩)
    | 5, hl, hn0, hn1 => (have h := (show _ ∧ i = 0 from hl).2; subst h; exact ⟨lvf 5 (by decide), rfl⟩)
    | 6, hl, hn0, hn1 => (have h := (show _ ∧ i = 0 from hl).2; subst h; exact ⟨lvf 6 (by decide), rfl⟩)
    | 7, hl, hn0, hn1 => (have h := (show _ ∧ i = 0 from hl).2; subst h; exact ⟨lvf 7 (by decide), rfl⟩)
    | 8, hl, hn0, hn1 => (have h := (show _ ∧ i = 0 from hl).2; subst h; exact ⟨lvf 8 (by decide), rfl⟩)
    | 9, hl, hn0, hn1 => (have h := (show _ ∧ i = 0 from hl).2; subst h; exact ⟨lvf 9 (by decide), rfl⟩)
    | 10, hl, hn0, hn1 => (have h := (show _ ∧ i = 0 from hl).2; subst h; exact ⟨lvf 10 (by decide), rfl⟩)
    | 11, hl, hn0, hn1 => exact ⟨(by have h : usd M' i := hl; unfold usd uA uF at h; rw [m1, m6, m8, m15] at h; exact h), rfl⟩
    | 12, hl, hn0, hn1 => exact ⟨(by have h : usd M' i := hl; unfold usd uA uF at h; rw [m1, m6, m8, m15] at h; exact h), rfl⟩
    | 13, hl, hn0, hn1 => exact ⟨(by have h : opn M' i := hl; unfold opn at h; rw [m6] at h; exact h), rfl⟩
    | 14, hl, hn0, hn1 => exact ⟨(by have h : opn M' i ∧ M'.2.2 8 i = 0 := hl; unfold opn at h; rw [m6, m8] at h; exact h), rfl⟩
    | 15, hl, hn0, hn1 => exact ⟨(by have h : isr M' i ∧ M'.2.2 34 i = nI i := hl; unfold isr at h; rw [i29, m34] at h; exact h), rfl⟩
    | 16, hl, hn0, hn1 => exact ⟨(by have h : isr M' i ∧ M'.2.2 34 i = nI i := hl; unfold isr at h; rw [i29, m34] at h; exact h), rfl⟩
    | 17, hl, hn0, hn1 => exact ⟨(by have h : isr M' i := hl; unfold isr at h; rw [i29] at h; exact h), rfl⟩
    | 18, hl, hn0, hn1 => exact ⟨(by have h : isr M' i ∧ M'.2.2 33 i = 0 := hl; unfold isr at h; rw [i29, m33] at h; exact h), rfl⟩
    | 19, hl, hn0, hn1 => exact ⟨(by have h : isr M' i ∧ M'.2.2 33 i = 0 := hl; unfold isr at h; rw [i29, m33] at h; exact h), rfl⟩
    | 20, hl, hn0, hn1 => exact ⟨(by have h : i < 4 ∧ 0 ≤ M'.2.2 23 i := hl; rw [m23] at h; exact h), rfl⟩
    | 21, hl, hn0, hn1 => exact ⟨(by have h : i < 4 ∧ 0 ≤ M'.2.2 23 i := hl; rw [m23] at h; exact h), rfl⟩
    | 22, hl, hn0, hn1 => exact ⟨(by have h : opn M' i ∧ M'.2.2 8 i = 3 := hl; unfold opn at h; rw [m6, m8] at h; exact h), rfl⟩
    | 23, hl, hn0, hn1 => exact ⟨(by have h : opn M' i ∧ M'.2.2 8 i = 3 := hl; unfold opn at h; rw [m6, m8] at h; exact h), rfl⟩
    | n + 24, hl, hn0, hn1 => exact absurd (show n + 24 ≤ 10 ∧ i = 0 from hl).1 (by omega)) ?_ ?_ (fun t i hl hn0 hn1 hn2 => by
    match t, hl, hn0, hn1, hn2 with
    | 0, hl, hn0, hn1, hn2 => exact absurd (Or.inr ⟨rfl, (show _ ∧ i = 0 from hl).2⟩) hn2
    | 1, hl, hn0, hn1, hn2 => (refine cc_1 ?_; rw [cR_c m1 rfl])
    | 2, hl, hn0, hn1, hn2 => (refine cc_2 ?_; rw [cG_c m23 rfl])
    | 3, hl, hn0, hn1, hn2 => (refine cc_3 ?_; rw [cS_c m6])
    | 4, hl, hn0, hn1, hn2 => (refine cc_4 ?_; rw [cF_c i29 rfl])
    | 5, hl, hn0, hn1, hn2 => (refine cc_5 ?_; rw [i27, i28])
    | 6, hl, hn0, hn1, hn2 => (refine cc_6 ?_; rw [i39, i40, i44, i45])
    | 7, hl, hn0, hn1, hn2 => (refine cc_7 ?_; rw [m42])
    | 8, hl, hn0, hn1, hn2 => (refine cc_8 ?_; rw [m43])
    | 9, hl, hn0, hn1, hn2 => (refine cc_9 ?_; rw [i26])
    | 10, hl, hn0, hn1, hn2 => (refine cc_10 ?_; rfl)
    | 11, hl, hn0, hn1, hn2 => (refine cc_11 ?_; rw [m2])
    | 12, hl, hn0, hn1, hn2 => (refine cc_12 ?_; rw [m3, cArr_c m2 m3 m4])
    | 13, hl, hn0, hn1, hn2 => (have hi : i ≠ k := fun z => hn2 (Or.inl ⟨rfl, z⟩); refine cc_13 ?_; rw [cSI_c (M := M) (M' := M') (gi := gi) (gi' := gi) (k := i) (by rw [m8]) (by rw [m10]) (by rw [m9]) (by rw [m6]) (by rw [m11]) (n13 i hi) (by rw [m14]) (by rw [m12]) (by rw [m19]) rfl, sAd_c m6, m17, cX_c (M := M) (M' := M') (ad := ad) (ad' := ad) (k := i) (by rw [m8]) rfl (fun _ => by rw [m15]) (by rw [m16]) rfl rfl])
    | 14, hl, hn0, hn1, hn2 => (refine cc_14 ?_; rfl)
    | 15, hl, hn0, hn1, hn2 => (refine cc_15 ?_; rw [m36, m35])
    | 16, hl, hn0, hn1, hn2 => (refine cc_16 ?_; rfl)
    | 17, hl, hn0, hn1, hn2 => (refine cc_17 ?_; rw [m30, m33, m34])
    | 18, hl, hn0, hn1, hn2 => (refine cc_18 ?_; rfl)
    | 19, hl, hn0, hn1, hn2 => (refine cc_19 ?_; rw [m32])
    | 20, hl, hn0, hn1, hn2 => (refine cc_20 ?_; rfl)
    | 21, hl, hn0, hn1, hn2 => (refine cc_21 ?_; rw [m23, cGiv_c m23 m24])
    | 22, hl, hn0, hn1, hn2 => (refine cc_22 ?_; rfl)
    | 23, hl, hn0, hn1, hn2 => (refine cc_23 ?_; rw [m12])
    | n + 24, hl, hn0, hn1, hn2 => exact absurd (show n + 24 ≤ 10 ∧ i = 0 from hl).1 (by omega)) (fun _ _ h => h.elim) (fun _ _ h => h.elim) ?_ ⟨by unfold sd_p opn; rw [m6, m8, m19, m18]; exact hL.2.2.1, by unfold sd_f; rw [m37]; exact hL.2.2.2.1, by unfold sd_t; rw [i39, i40, i41]; exact hL.2.2.2.2.1, by unfold sd_n; rw [i26, m25]; exact hL.2.2.2.2.2.1, by unfold sd_s isr; rw [i29, m33, m32, m31]; exact hL.2.2.2.2.2.2.1, by unfold sd_r opn; rw [m6, m8, m12, m18, m9]; exact hL.2.2.2.2.2.2.2⟩
  · rintro t i (⟨rfl, rfl⟩ | ⟨rfl, rfl⟩)
    · exact ⟨ho, rfl⟩
    · exact ⟨lvf 0 (by decide), rfl⟩
  · intro b _ hl
    exact h3 b (hl 13 k (Or.inl ⟨rfl, rfl⟩)) (hl 0 0 (Or.inr ⟨rfl, rfl⟩))
  · rintro q i (⟨rfl, rfl⟩ | ⟨rfl, rfl⟩) _ _ _
    · show w' (ad 13 i) = some (sC (cSI M' gi i) (sAd M' ad (M'.2.2 17 i)) (cX M' ad i))
      rw [sAd_c m6, m17, cX_c (M := M) (M' := M') (ad := ad) (ad' := ad) (k := i) (by rw [m8]) rfl (fun _ => by rw [m15]) (by rw [m16]) rfl rfl, h1]
      have e : cSI M' gi i = upd (cSI M gi i) 5 (M.2.2 13 i + 1) := by
        funext j
        match j with
        | 0 => exact congrFun m8 i
        | 1 => exact congrFun m10 i
        | 2 => exact congrFun m9 i
        | 3 => exact congrFun m6 i
        | 4 => exact congrFun m11 i
        | 5 => show M'.2.2 13 i = M.2.2 13 i + 1; rw [f13]; exact upd_s
        | 6 => exact congrFun m14 i
        | 7 => rfl
        | 8 => rfl
        | 9 => show c9 M' gi i = c9 M gi i; unfold c9; rw [m8, m12, m9]
        | 10 => exact congrFun m19 i
        | j + 11 => exact (upd_n (by omega) : upd (cSI M gi i) 5 _ (j + 11) = cSI M gi i (j + 11)).symm
      rw [e]
    · show w' (ad 0 0) = some (oC (ad 1 0) (ad 2 0) (ad 3 0) (ad 4 0) (ad 5 0) (ad 6 0) (sAd M' ad (M'.1 20)) (M'.1 7) (M'.1 29) (M'.1 38) (M'.2.1 21).toInt32 (M'.2.1 22).toInt32 (M'.1 5))
      rw [sAd_c m6, i20, i7, i29, i38, l21, tI_1, l22, i5]
      exact h2
theorem rl_c2 {G : GG} {M : MS} {ad : AD} {gi : GI} {w w' : WM} {k : Nat} (hL : RLa G M ad gi w) (ho : opn M k) (h1 : w' (ad 13 k) = some (sC (upd (cSI M gi k) 5 (M.2.2 13 k + 1)) (sAd M ad (M.2.2 17 k)) (cX M ad k))) (h2 : w' (ad 0 0) = some (oC (ad 1 0) (ad 2 0) (ad 3 0) (ad 4 0) (ad 5 0) (ad 6 0) (sAd M ad (M.1 20)) (M.1 7) (M.1 29) (M.1 38) ((M.2.1 21).toInt32 + 1) ((M.2.1 22).toInt32 + 1) (M.1 5))) (h3 : ∀ c, c ≠ ad 13 k → c ≠ ad 0 0 → w' c = w c) : RLa G (mo_cnt (sL M 22 (M.2.1 22 + 1)) k) ad gi w' := by
  have f13 : (mo_cnt (sL M 22 (M.2.1 22 + 1)) k).2.2 13 = upd (M.2.2 13) k (M.2.2 13 k + 1) := rfl
  have l21 : (mo_cnt (sL M 22 (M.2.1 22 + 1)) k).2.1 21 = M.2.1 21 + 1 := rfl
  have l22 : ((mo_cnt (sL M 22 (M.2.1 22 + 1)) k).2.1 22).toInt32 = (M.2.1 22).toInt32 + 1 := tI_1
  generalize hM' : mo_cnt (sL M 22 (M.2.1 22 + 1)) k = M' at *
  have m1 : M'.2.2 1 = M.2.2 1 := hM' ▸ (rfl : (mo_cnt (sL M 22 (M.2.1 22 + 1)) k).2.2 1 = M.2.2 1)
  have m2 : M'.2.2 2 = M.2.2 2 := hM' ▸ (rfl : (mo_cnt (sL M 22 (M.2.1 22 + 1)) k).2.2 2 = M.2.2 2)
  have m3 : M'.2.2 3 = M.2.2 3 := hM' ▸ (rfl : (mo_cnt (sL M 22 (M.2.1 22 + 1)) k).2.2 3 = M.2.2 3)
  have m4 : M'.2.2 4 = M.2.2 4 := hM' ▸ (rfl : (mo_cnt (sL M 22 (M.2.1 22 + 1)) k).2.2 4 = M.2.2 4)
  have m6 : M'.2.2 6 = M.2.2 6 := hM' ▸ (rfl : (mo_cnt (sL M 22 (M.2.1 22 + 1)) k).2.2 6 = M.2.2 6)
  have m8 : M'.2.2 8 = M.2.2 8 := hM' ▸ (rfl : (mo_cnt (sL M 22 (M.2.1 22 + 1)) k).2.2 8 = M.2.2 8)
  have m9 : M'.2.2 9 = M.2.2 9 := hM' ▸ (rfl : (mo_cnt (sL M 22 (M.2.1 22 + 1)) k).2.2 9 = M.2.2 9)
  have m10 : M'.2.2 10 = M.2.2 10 := hM' ▸ (rfl : (mo_cnt (sL M 22 (M.2.1 22 + 1)) k).2.2 10 = M.2.2 10)
  have m11 : M'.2.2 11 = M.2.2 11 := hM' ▸ (rfl : (mo_cnt (sL M 22 (M.2.1 22 + 1)) k).2.2 11 = M.2.2 11)
  have m12 : M'.2.2 12 = M.2.2 12 := hM' ▸ (rfl : (mo_cnt (sL M 22 (M.2.1 22 + 1)) k).2.2 12 = M.2.2 12)
  have m14 : M'.2.2 14 = M.2.2 14 := hM' ▸ (rfl : (mo_cnt (sL M 22 (M.2.1 22 + 1)) k).2.2 14 = M.2.2 14)
  have m15 : M'.2.2 15 = M.2.2 15 := hM' ▸ (rfl : (mo_cnt (sL M 22 (M.2.1 22 + 1)) k).2.2 15 = M.2.2 15)
  have m16 : M'.2.2 16 = M.2.2 16 := hM' ▸ (rfl : (mo_cnt (sL M 22 (M.2.1 22 + 1)) k).2.2 16 = M.2.2 16)
  have m17 : M'.2.2 17 = M.2.2 17 := hM' ▸ (rfl : (mo_cnt (sL M 22 (M.2.1 22 + 1)) k).2.2 17 = M.2.2 17)
  have m18 : M'.2.2 18 = M.2.2 18 := hM' ▸ (rfl : (mo_cnt (sL M 22 (M.2.1 22 + 1)) k).2.2 18 = M.2.2 18)
  have m19 : M'.2.2 19 = M.2.2 19 := hM' ▸ (rfl : (mo_cnt (sL M 22 (M.2.1 22 + 1)) k).2.2 19 = M.2.2 19)
  have m23 : M'.2.2 23 = M.2.2 23 := hM' ▸ (rfl : (mo_cnt (sL M 22 (M.2.1 22 + 1)) k).2.2 23 = M.2.2 23)
  have m24 : M'.2.2 24 = M.2.2 24 := hM' ▸ (rfl : (mo_cnt (sL M 22 (M.2.1 22 + 1)) k).2.2 24 = M.2.2 24)
  have m25 : M'.2.2 25 = M.2.2 25 := hM' ▸ (rfl : (mo_cnt (sL M 22 (M.2.1 22 + 1)) k).2.2 25 = M.2.2 25)
  have m30 : M'.2.2 30 = M.2.2 30 := hM' ▸ (rfl : (mo_cnt (sL M 22 (M.2.1 22 + 1)) k).2.2 30 = M.2.2 30)
  have m31 : M'.2.2 31 = M.2.2 31 := hM' ▸ (rfl : (mo_cnt (sL M 22 (M.2.1 22 + 1)) k).2.2 31 = M.2.2 31)
  have m32 : M'.2.2 32 = M.2.2 32 := hM' ▸ (rfl : (mo_cnt (sL M 22 (M.2.1 22 + 1)) k).2.2 32 = M.2.2 32)
  have m33 : M'.2.2 33 = M.2.2 33 := hM' ▸ (rfl : (mo_cnt (sL M 22 (M.2.1 22 + 1)) k).2.2 33 = M.2.2 33)
  have m34 : M'.2.2 34 = M.2.2 34 := hM' ▸ (rfl : (mo_cnt (sL M 22 (M.2.1 22 + 1)) k).2.2 34 = M.2.2 34)
  have m35 : M'.2.2 35 = M.2.2 35 := hM' ▸ (rfl : (mo_cnt (sL M 22 (M.2.1 22 + 1)) k).2.2 35 = M.2.2 35)
  have m36 : M'.2.2 36 = M.2.2 36 := hM' ▸ (rfl : (mo_cnt (sL M 22 (M.2.1 22 + 1)) k).2.2 36 = M.2.2 36)
  have m37 : M'.2.2 37 = M.2.2 37 := hM' ▸ (rfl : (mo_cnt (sL M 22 (M.2.1 22 + 1)) k).2.2 37 = M.2.2 37)
  have m42 : M'.2.2 42 = M.2.2 42 := hM' ▸ (rfl : (mo_cnt (sL M 22 (M.2.1 22 + 1)) k).2.2 42 = M.2.2 42)
  have m43 : M'.2.2 43 = M.2.2 43 := hM' ▸ (rfl : (mo_cnt (sL M 22 (M.2.1 22 + 1)) k).2.2 43 = M.2.2 43)
  have i5 : M'.1 5 = M.1 5 := hM' ▸ (rfl : (mo_cnt (sL M 22 (M.2.1 22 + 1)) k).1 5 = M.1 5)
  have i7 : M'.1 7 = M.1 7 := hM' ▸ (rfl : (mo_cnt (sL M 22 (M.2.1 22 + 1)) k).1 7 = M.1 7)
  have i20 : M'.1 20 = M.1 20 := hM' ▸ (rfl : (mo_cnt (sL M 22 (M.2.1 22 + 1)) k).1 20 = M.1 20)
  have i26 : M'.1 26 = M.1 26 := hM' ▸ (rfl : (mo_cnt (sL M 22 (M.2.1 22 + 1)) k).1 26 = M.1 26)
  have i27 : M'.1 27 = M.1 27 := hM' ▸ (rfl : (mo_cnt (sL M 22 (M.2.1 22 + 1)) k).1 27 = M.1 27)
  have i28 : M'.1 28 = M.1 28 := hM' ▸ (rfl : (mo_cnt (sL M 22 (M.2.1 22 + 1)) k).1 28 = M.1 28)
  have i29 : M'.1 29 = M.1 29 := hM' ▸ (rfl : (mo_cnt (sL M 22 (M.2.1 22 + 1)) k).1 29 = M.1 29)
  have i38 : M'.1 38 = M.1 38 := hM' ▸ (rfl : (mo_cnt (sL M 22 (M.2.1 22 + 1)) k).1 38 = M.1 38)
  have i39 : M'.1 39 = M.1 39 := hM' ▸ (rfl : (mo_cnt (sL M 22 (M.2.1 22 + 1)) k).1 39 = M.1 39)
  have i40 : M'.1 40 = M.1 40 := hM' ▸ (rfl : (mo_cnt (sL M 22 (M.2.1 22 + 1)) k).1 40 = M.1 40)
  have i41 : M'.1 41 = M.1 41 := hM' ▸ (rfl : (mo_cnt (sL M 22 (M.2.1 22 + 1)) k).1 41 = M.1 41)
  have i44 : M'.1 44 = M.1 44 := hM' ▸ (rfl : (mo_cnt (sL M 22 (M.2.1 22 + 1)) k).1 44 = M.1 44)
  have i45 : M'.1 45 = M.1 45 := hM' ▸ (rfl : (mo_cnt (sL M 22 (M.2.1 22 + 1)) k).1 45 = M.1 45)
  have n13 : ∀ i, i ≠ k → M'.2.2 13 i = M.2.2 13 i := fun i hi => by rw [f13]; exact upd_n hi
  refine rl_addP hL (fun _ _ => False) (fun _ _ => False) (fun t i => (t = 13 ∧ i = k) ∨ (t = 0 ∧ i = 0)) (fun _ _ h => h.elim) (fun _ _ _ _ h => h.elim) (fun _ _ h => h.elim) (fun t i hl hn0 hn1 => by
    match t, hl, hn0, hn1 with
    | 0, hl, hn0, hn1 => (have h := (show _ ∧ i = 0 from hl).2; subst h; exact ⟨lvf 0 (by decide), rfl⟩)
    | 1, hl, hn0, hn1 => (have h := (show _ ∧ i = 0 from hl).2; subst h; exact ⟨lvf 1 (by decide), rfl⟩)
    | 2, hl, hn0, hn1 => (have h := (show _ ∧ i = 0 from hl).2; subst h; exact ⟨lvf 2 (by decide), rfl⟩)
    | 3, hl, hn0, hn1 => (have h := (show _ ∧ i = 0 from hl).2; subst h; exact ⟨lvf 3 (by decide), rfl⟩)
    | 4, hl, hn0, hn1 => (have h := (show _ ∧ i = 0 from hl).2; subst h; exact ⟨lvf 4 (by decide), rfl⟩)
    | 5, hl, hn0, hn1 => (have h := (show _ ∧ i = 0 from hl).2; subst h; exact ⟨lvf 5 (by decide), rfl⟩)
    | 6, hl, hn0, hn1 => (have h := (show _ ∧ i = 0 from hl).2; subst h; exact ⟨lvf 6 (by decide), rfl⟩)
    | 7, hl, hn0, hn1 => (have h := (show _ ∧ i = 0 from hl).2; subst h; exact ⟨lvf 7 (by decide), rfl⟩)
    | 8, hl, hn0, hn1 => (have h := (show _ ∧ i = 0 from hl).2; subst h; exact ⟨lvf 8 (by decide), rfl⟩)
    | 9, hl, hn0, hn1 => (have h := (show _ ∧ i = 0 from hl).2; subst h; exact ⟨lvf 9 (by decide), rfl⟩)
    | 10, hl, hn0, hn1 => (have h := (show _ ∧ i = 0 from hl).2; subst h; exact ⟨lvf 10 (by decide), rfl⟩)
    | 11, hl, hn0, hn1 => exact ⟨(by have h : usd M' i := hl; unfold usd uA uF at h; rw [m1, m6, m8, m15] at h; exact h), rfl⟩
    | 12, hl, hn0, hn1 => exact ⟨(by have h : usd M' i := hl; unfold usd uA uF at h; rw [m1, m6, m8, m15] at h; exact h), rfl⟩
    | 13, hl, hn0, hn1 => exact ⟨(by have h : opn M' i := hl; unfold opn at h; rw [m6] at h; exact h), rfl⟩
    | 14, hl, hn0, hn1 => exact ⟨(by have h : opn M' i ∧ M'.2.2 8 i = 0 := hl; unfold opn at h; rw [m6, m8] at h; exact h), rfl⟩
    | 15, hl, hn0, hn1 => exact ⟨(by have h : isr M' i ∧ M'.2.2 34 i = nI i := hl; unfold isr at h; rw [i29, m34] at h; exact h), rfl⟩
    | 16, hl, hn0, hn1 => exact ⟨(by have h : isr M' i ∧ M'.2.2 34 i = nI i := hl; unfold isr at h; rw [i29, m34] at h; exact h), rfl⟩
    | 17, hl, hn0, hn1 => exact ⟨(by have h : isr M' i := hl; unfold isr at h; rw [i29] at h; exact h), rfl⟩
    | 18, hl, hn0, hn1 => exact ⟨(by have h : isr M' i ∧ M'.2.2 33 i = 0 := hl; unfold isr at h; rw [i29, m33] at h; exact h), rfl⟩
    | 19, hl, hn0, hn1 => exact ⟨(by have h : isr M' i ∧ M'.2.2 33 i = 0 := hl; unfold isr at h; rw [i29, m33] at h; exact h), rfl⟩
    | 20, hl, hn0, hn1 => exact ⟨(by have h : i < 4 ∧ 0 ≤ M'.2.2 23 i := hl; rw [m23] at h; exact h), rfl⟩
    | 21, hl, hn0, hn1 => exact ⟨(by have h : i < 4 ∧ 0 ≤ M'.2.2 23 i := hl; rw [m23] at h; exact h), rfl⟩
    | 22, hl, hn0, hn1 => exact ⟨(by have h : opn M' i ∧ M'.2.2 8 i = 3 := hl; unfold opn at h; rw [m6, m8] at h; exact h), rfl⟩
    | 23, hl, hn0, hn1 => exact ⟨(by have h : opn M' i ∧ M'.2.2 8 i = 3 := hl; unfold opn at h; rw [m6, m8] at h; exact h), rfl⟩
    | n + 24, hl, hn0, hn1 => exact absurd (show n + 24 ≤ 10 ∧ i = 0 from hl).1 (by omega)) ?_ ?_ (fun t i hl hn0 hn1 hn2 => by
    match t, hl, hn0, hn1, hn2 with
    | 0, hl, hn0, hn1, hn2 => exact absurd (Or.inr ⟨rfl, (show _ ∧ i = 0 from hl).2⟩) hn2
    | 1, hl, hn0, hn1, hn2 => (refine cc_1 ?_; rw [cR_c m1 rfl])
    | 2, hl, hn0, hn1, hn2 => (refine cc_2 ?_; rw [cG_c m23 rfl])
    | 3, hl, hn0, hn1, hn2 => (refine cc_3 ?_; rw [cS_c m6])
    | 4, hl, hn0, hn1, hn2 => (refine cc_4 ?_; rw [cF_c i29 rfl])
    | 5, hl, hn0, hn1, hn2 => (refine cc_5 ?_; rw [i27, i28])
    | 6, hl, hn0, hn1, hn2 => (refine cc_6 ?_; rw [i39, i40, i44, i45])
    | 7, hl, hn0, hn1, hn2 => (refine cc_7 ?_; rw [m42])
    | 8, hl, hn0, hn1, hn2 => (refine cc_8 ?_; rw [m43])
    | 9, hl, hn0, hn1, hn2 => (refine cc_9 ?_; rw [i26])
    | 10, hl, hn0, hn1, hn2 => (refine cc_10 ?_; rfl)
    | 11, hl, hn0, hn1, hn2 => (refine cc_11 ?_; rw [m2])
    | 12, hl, hn0, hn1, hn2 => (refine cc_12 ?_; rw [m3, cArr_c m2 m3 m4])
    | 13, hl, hn0, hn1, hn2 => (have hi : i ≠ k := fun z => hn2 (Or.inl ⟨rfl, z⟩); refine cc_13 ?_; rw [cSI_c (M := M) (M' := M') (gi := gi) (gi' := gi) (k := i) (by rw [m8]) (by rw [m10]) (by rw [m9]) (by rw [m6]) (by rw [m11]) (n13 i hi) (by rw [m14]) (by rw [m12]) (by rw [m19]) rfl, sAd_c m6, m17, cX_c (M := M) (M' := M') (ad := ad) (ad' := ad) (k := i) (by rw [m8]) rfl (fun _ => by rw [m15]) (by rw [m16]) rfl rfl])
    | 14, hl, hn0, hn1, hn2 => (refine cc_14 ?_; rfl)
    | 15, hl, hn0, hn1, hn2 => (refine cc_15 ?_; rw [m36, m35])
    | 16, hl, hn0, hn1, hn2 => (refine cc_16 ?_; rfl)
    | 17, hl, hn0, hn1, hn2 => (refine cc_17 ?_; rw [m30, m33, m34])
    | 18, hl, hn0, hn1, hn2 => (refine cc_18 ?_; rfl)
    | 19, hl, hn0, hn1, hn2 => (refine cc_19 ?_; rw [m32])
    | 20, hl, hn0, hn1, hn2 => (refine cc_20 ?_; rfl)
    | 21, hl, hn0, hn1, hn2 => (refine cc_21 ?_; rw [m23, cGiv_c m23 m24])
    | 22, hl, hn0, hn1, hn2 => (refine cc_22 ?_; rfl)
    | 23, hl, hn0, hn1, hn2 => (refine cc_23 ?_; rw [m12])
    | n + 24, hl, hn0, hn1, hn2 => exact absurd (show n + 24 ≤ 10 ∧ i = 0 from hl).1 (by omega)) (fun _ _ h => h.elim) (fun _ _ h => h.elim) ?_ ⟨by unfold sd_p opn; rw [m6, m8, m19, m18]; exact hL.2.2.1, by unfold sd_f; rw [m37]; exact hL.2.2.2.1, by unfold sd_t; rw [i39, i40, i41]; exact hL.2.2.2.2.1, by unfold sd_n; rw [i26, m25]; exact hL.2.2.2.2.2.1, by unfold sd_s isr; rw [i29, m33, m32, m31]; exact hL.2.2.2.2.2.2.1, by unfold sd_r opn; rw [m6, m8, m12, m18, m9]; exact hL.2.2.2.2.2.2.2⟩
  · rintro t i (⟨rfl, rfl⟩ | ⟨rfl, rfl⟩)
    · exact ⟨ho, rfl⟩
    · exact ⟨lvf 0 (by decide), rfl⟩
  · intro b _ hl
    exact h3 b (hl 13 k (Or.inl ⟨rfl, rfl⟩)) (hl 0 0 (Or.inr ⟨rfl, rfl⟩))
  · rintro q i (⟨rfl, rfl⟩ | ⟨rfl, rfl⟩) _ _ _
    · show w' (ad 13 i) = some (sC (cSI M' gi i) (sAd M' ad (M'.2.2 17 i)) (cX M' ad i))
      rw [sAd_c m6, m17, cX_c (M := M) (M' := M') (ad := ad) (ad' := ad) (k := i) (by rw [m8]) rfl (fun _ => by rw [m15]) (by rw [m16]) rfl rfl, h1]
      have e : cSI M' gi i = upd (cSI M gi i) 5 (M.2.2 13 i + 1) := by
        funext j
        match j with
        | 0 => exact congrFun m8 i
        | 1 => exact congrFun m10 i
        | 2 => exact congrFun m9 i
        | 3 => exact congrFun m6 i
        | 4 => exact congrFun m11 i
        | 5 => show M'.2.2 13 i = M.2.2 13 i + 1; rw [f13]; exact upd_s
        | 6 => exact congrFun m14 i
        | 7 => rfl
        | 8 => rfl
        | 9 => show c9 M' gi i = c9 M gi i; unfold c9; rw [m8, m12, m9]
        | 10 => exact congrFun m19 i
        | j + 11 => exact (upd_n (by omega) : upd (cSI M gi i) 5 _ (j + 11) = cSI M gi i (j + 11)).symm
      rw [e]
    · show w' (ad 0 0) = some (oC (ad 1 0) (ad 2 0) (ad 3 0) (ad 4 0) (ad 5 0) (ad 6 0) (sAd M' ad (M'.1 20)) (M'.1 7) (M'.1 29) (M'.1 38) (M'.2.1 21).toInt32 (M'.2.1 22).toInt32 (M'.1 5))
      rw [sAd_c m6, i20, i7, i29, i38, l21, tI_1, l22, i5]
      exact h2
theorem rl_5b {G : GG} {M : MS} {ad : AD} {gi : GI} {w w' : WM} {f : Int32} (hL : RLa G M ad gi w) (hw : w' = wm_up w (ad 0 0) (oC (ad 1 0) (ad 2 0) (ad 3 0) (ad 4 0) (ad 5 0) (ad 6 0) (sAd M ad (M.1 20)) (M.1 7) (M.1 29) (M.1 38) (M.2.1 21).toInt32 (M.2.1 22).toInt32 f)) : RLa G (sI M 5 f) ad gi w' :=
  rl_up hL 0 0 (lvf 0 (by decide)) rfl hw (fun _ _ h => h) (fun t i hl hn0 => by
    match t, hl, hn0 with
    | 0, hl, hn0 => exact absurd ⟨rfl, (show _ ∧ i = 0 from hl).2⟩ hn0
    | 1, _, _ => exact cc_1 rfl
    | 2, _, _ => exact cc_2 rfl
    | 3, _, _ => exact cc_3 rfl
    | 4, _, _ => exact cc_4 rfl
    | 5, _, _ => exact cc_5 rfl
    | 6, _, _ => exact cc_6 rfl
    | 7, _, _ => exact cc_7 rfl
    | 8, _, _ => exact cc_8 rfl
    | 9, _, _ => exact cc_9 rfl
    | 10, _, _ => exact cc_10 rfl
    | 11, _, _ => exact cc_11 rfl
    | 12, _, _ => exact cc_12 rfl
    | 13, _, _ => exact cc_13 rfl
    | 14, _, _ => exact cc_14 rfl
    | 15, _, _ => exact cc_15 rfl
    | 16, _, _ => exact cc_16 rfl
    | 17, _, _ => exact cc_17 rfl
    | 18, _, _ => exact cc_18 rfl
    | 19, _, _ => exact cc_19 rfl
    | 20, _, _ => exact cc_20 rfl
    | 21, _, _ => exact cc_21 rfl
    | 22, _, _ => exact cc_22 rfl
    | 23, _, _ => exact cc_23 rfl
    | n + 24, hl, hn0 => exact absurd (show n + 24 ≤ 10 ∧ i = 0 from hl).1 (by omega)) rfl hL.2.2
set_option maxRecDepth 100000 in
set_option maxHeartbeats 4000000 in
theorem kX10_putInto (G : GG) (l : Launch) (M : MS) (ad : AD) (gi : GI) (w : WM) (hL : RLa G M ad gi w) (hI : IV M) (k : Nat) (ho : opn M k) (c1 : Int32) : MC G l yX10_putInto cX10_putInto 4 ((Option.some .int)) ({ frames := 4, cells := 0, slots := 0, locals := 85 } : Room) [.ref (ad 0 0), .ref (ad 13 k), .int c1] w (fun v w' => v = some (.int (mo_pi M (nI k) c1).1) ∧ ∃ gi', RLa G (mo_pi M (nI k) c1).2 ad gi' w') := by
  refine mc_int (by decide) (Nat.le_of_ble_eq_true rfl) rfl rfl ?_
  intro p e s m args below meth c A H0 Q X hnm RTN
  have X : Cx G p s m args meth c A H0 cX10_putInto 4 RX10 := X
  have k0_ : w (ad 0 0) = some (.inr (11, [.ref (ad 1 0), .ref (ad 2 0), .ref (ad 3 0), .ref (ad 4 0), .ref (ad 5 0), .ref (ad 6 0), va_rf (sAd M ad (M.1 20)), .int (M.1 7), .int (M.1 29), .int (M.1 38), .int ((M.2.1 21).toInt32), .int ((M.2.1 22).toInt32), .int (M.1 5)])) := hL.1 0 0 (lvf 0 (by decide))
  refine aw_aload_n X dX10_putInto_0 rfl rfl ?_
  refine aw_getS X (k := 1) (v := .int (M.2.2 10 k)) (rl_st hL ho) (by decide) fl_X10_221 rfl dX10_putInto_1 ?_
  refine aw_iconst X dX10_putInto_4 ci_2 ?_
  refine aw_icmp_ne (tgt := 11) X dX10_putInto_5 rfl (fun c5 => ?_) (fun c5 => ?_)
  · refine aw_aload_n X dX10_putInto_11 rfl rfl ?_
    refine aw_aload_n X dX10_putInto_12 rfl rfl ?_
    refine aw_iload_n X dX10_putInto_13 rfl rfl ?_
    refine aw_callVS X (kX9_narrowed _ _ _ _ _ _ _ (rl_st hL ho) _) okm_X9_narrowed (rl_st hL ho) ml_X10_251 im_X9_narrowed se_X5_X9_narrowed se_X3_X9_narrowed se_X1_X9_narrowed se_X7_X9_narrowed rfl rfl (Nat.le_of_ble_eq_true rfl) ⟨Nat.le_of_ble_eq_true rfl, Nat.le_of_ble_eq_true rfl, Nat.le_of_ble_eq_true rfl, Nat.le_of_ble_eq_true rfl⟩ dX10_putInto_14 (fun v w2 hp => ?_)
    obtain ⟨rfl, hw9⟩ := hp
    have hw9 := hw9.symm
    subst hw9
    refine aw_callSU (n := 1) X (rl_st hL ho) (fun h => rW5 _ _ _ _ _ _ hL hI.2.1 hI.1.2.2.2.2.2 _ ho _ h) okm_X5_write ⟨Nat.le_of_ble_eq_true rfl, Nat.le_of_ble_eq_true rfl, Nat.le_of_ble_eq_true rfl, Nat.le_of_ble_eq_true rfl⟩ ⟨rfl, rfl⟩ im_X5_write se_X5_X9_write (fun h => rW3 _ _ _ _ _ _ hL hI.1.2.1 hI.1.1 _ ho _ h) okm_X3_write ⟨Nat.le_of_ble_eq_true rfl, Nat.le_of_ble_eq_true rfl, Nat.le_of_ble_eq_true rfl, Nat.le_of_ble_eq_true rfl⟩ ⟨rfl, rfl⟩ im_X3_write se_X3_X9_write (fun h => rW1 _ _ _ _ _ _ hL hI.1.2.2.2.2.1 hI.1.2.2.1 hI.2.2.1 _ ho _ h) okm_X1_write ⟨Nat.le_of_ble_eq_true rfl, Nat.le_of_ble_eq_true rfl, Nat.le_of_ble_eq_true rfl, Nat.le_of_ble_eq_true rfl⟩ ⟨rfl, rfl⟩ im_X1_write se_X1_X9_write (fun h => rW7 _ _ M ad gi _ hI.1.2.2.2.1 _ ho c5 _ h) okm_X7_write ⟨Nat.le_of_ble_eq_true rfl, Nat.le_of_ble_eq_true rfl, Nat.le_of_ble_eq_true rfl, Nat.le_of_ble_eq_true rfl⟩ ⟨rfl, rfl⟩ im_X7_write se_X7_X9_write ml_X10_254 sm_X9_write (va_Decl.abs (X.2.2.2.2.2.2.2.2.1 _ dc_X9_write)) rfl rfl rfl (Nat.le_of_ble_eq_true rfl) dX10_putInto_17 (fun v w2 hp => ?_)
    obtain ⟨rfl, gi2, hL2⟩ := hp
    rw [nar_nrw] at hL2
    obtain ⟨M2, hM2⟩ : ∃ N, N = wM M k (nrw (M.2.2 9 k) c1) := ⟨_, rfl⟩
    rw [← hM2] at hL2
    have ho2 : opn M2 k := ⟨ho.1, by rw [hM2, wM_6]; exact ho.2⟩
    have k0b_ : w2 (ad 0 0) = some (.inr (11, [.ref (ad 1 0), .ref (ad 2 0), .ref (ad 3 0), .ref (ad 4 0), .ref (ad 5 0), .ref (ad 6 0), va_rf (sAd M2 ad (M2.1 20)), .int (M2.1 7), .int (M2.1 29), .int (M2.1 38), .int ((M2.2.1 21).toInt32), .int ((M2.2.1 22).toInt32), .int (M2.1 5)])) := hL2.1 0 0 (lvf 0 (by decide))
    refine aw_istore_n (lv' := [(3, _), (0, _), (1, _), (2, _)]) X dX10_putInto_20 rfl (by decide) rfl ?_
    refine aw_iload_n X dX10_putInto_21 rfl rfl ?_
    refine aw_callS X (kX10_isFault _ _ _ _) okm_X10_isFault ml_X10_190 st_X10_isFault rfl rfl (Nat.le_of_ble_eq_true rfl) ⟨Nat.le_of_ble_eq_true rfl, Nat.le_of_ble_eq_true rfl, Nat.le_of_ble_eq_true rfl, Nat.le_of_ble_eq_true rfl⟩ dX10_putInto_22 (fun v w2 hp => ?_)
    obtain ⟨rfl, hw9⟩ := hp
    have hw9 := hw9.symm
    subst hw9
    refine aw_if_eq (tgt := 37) X dX10_putInto_25 rfl (fun c25 => ?_) (fun c25 => ?_)
    · rw [bI_0] at c25
      refine aw_iload_n X dX10_putInto_37 rfl rfl ?_
      refine aw_bipush X dX10_putInto_38 cb_m5 ?_
      refine aw_icmp_ne (tgt := 46) X dX10_putInto_40 rfl (fun c40 => ?_) (fun c40 => ?_)
      · refine aw_iload_n X dX10_putInto_46 rfl rfl ?_
        refine aw_if_ne (tgt := 60) X dX10_putInto_47 rfl (fun c47 => ?_) (fun c47 => ?_)
        · refine aw_aload_n X dX10_putInto_60 rfl rfl ?_
          refine aw_dup X dX10_putInto_61 rfl ?_
          refine aw_getS X (k := 5) (v := .int (M2.2.2 13 k)) (rl_st hL2 ho2) (by decide) fl_X10_218 rfl dX10_putInto_62 ?_
          refine aw_iconst X dX10_putInto_65 ci_1 ?_
          refine aw_iadd X dX10_putInto_66 ?_
          refine aw_putS5 X (rl_st hL2 ho2) fl_X10_218 dX10_putInto_67 (fun w101 hk102 hn103 he104 => ?_)
          have hk105 := (hn103 _ (rl_ne hL2 (t := 0) (i := 0) (t' := 13) (i' := k) (lvf 0 (by decide)) (ho2) (Or.inl rfl) (fun z => absurd z.1 (by decide)))).trans k0b_
          refine aw_aload_n X dX10_putInto_70 rfl rfl ?_
          refine aw_dup X dX10_putInto_71 rfl ?_
          refine aw_get X okX10 (k := 10) hk105 (Nat.le_of_ble_eq_true rfl) fl_X10_260 (Or.inl rfl) rfl dX10_putInto_72 ?_
          refine aw_iconst X dX10_putInto_75 ci_1 ?_
          refine aw_iadd X dX10_putInto_76 ?_
          refine aw_put2 X okX10 (k := 10) (fs' := [.ref (ad 1 0), .ref (ad 2 0), .ref (ad 3 0), .ref (ad 4 0), .ref (ad 5 0), .ref (ad 6 0), va_rf (sAd M2 ad (M2.1 20)), .int (M2.1 7), .int (M2.1 29), .int (M2.1 38), .int (((M2.2.1 21).toInt32) + 1), .int ((M2.2.1 22).toInt32), .int (M2.1 5)]) hk105 (Nat.le_of_ble_eq_true rfl) fl_X10_260 (Or.inl rfl) rfl (rfl ) ( rfl) (Nat.le_of_ble_eq_true rfl) rfl dX10_putInto_77 (fun w106 hk107 hn108 he109 => ?_)
          have hk110 := (hn108 _ (rl_ne hL2 (t := 13) (i := k) (t' := 0) (i' := 0) (ho2) (lvf 0 (by decide)) (Or.inl rfl) (fun z => absurd z.1 (by decide)))).trans hk102
          refine aw_iconst X dX10_putInto_80 ci_1 ?_
          refine RTN (some (.int _)) _ _ _ _ _ dX10_putInto_81 (⟨_, rfl⟩) (Nat.le_of_ble_eq_true rfl) (Nat.le_of_ble_eq_true rfl) ?_
          rw [pi_w ho.1 c5, ← hM2, if_neg c25, if_neg c40, if_neg c47]
          exact ⟨rfl, gi2, rl_c1 hL2 ho2 hk110 hk107 (fun b h1 h2 => by rw [he109, wm_upn h2, he104, wm_upn h1])⟩
        · refine aw_aload_n X dX10_putInto_50 rfl rfl ?_
          refine aw_dup X dX10_putInto_51 rfl ?_
          refine aw_get X okX10 (k := 11) k0b_ (Nat.le_of_ble_eq_true rfl) fl_X10_257 (Or.inl rfl) rfl dX10_putInto_52 ?_
          refine aw_iconst X dX10_putInto_55 ci_1 ?_
          refine aw_iadd X dX10_putInto_56 ?_
          refine aw_put2 X okX10 (k := 11) (fs' := [.ref (ad 1 0), .ref (ad 2 0), .ref (ad 3 0), .ref (ad 4 0), .ref (ad 5 0), .ref (ad 6 0), va_rf (sAd M2 ad (M2.1 20)), .int (M2.1 7), .int (M2.1 29), .int (M2.1 38), .int ((M2.2.1 21).toInt32), .int (((M2.2.1 22).toInt32) + 1), .int (M2.1 5)]) k0b_ (Nat.le_of_ble_eq_true rfl) fl_X10_257 (Or.inl rfl) rfl (rfl ) ( rfl) (Nat.le_of_ble_eq_true rfl) rfl dX10_putInto_57 (fun w111 hk112 hn113 he114 => ?_)
          have hk115 := (hn113 _ (rl_ne hL2 (t := 13) (i := k) (t' := 0) (i' := 0) (ho2) (lvf 0 (by decide)) (Or.inl rfl) (fun z => absurd z.1 (by decide)))).trans (rl_st hL2 ho2)
          refine aw_aload_n X dX10_putInto_60 rfl rfl ?_
          refine aw_dup X dX10_putInto_61 rfl ?_
          refine aw_getS X (k := 5) (v := .int (M2.2.2 13 k)) hk115 (by decide) fl_X10_218 rfl dX10_putInto_62 ?_
          refine aw_iconst X dX10_putInto_65 ci_1 ?_
          refine aw_iadd X dX10_putInto_66 ?_
          refine aw_putS5 X hk115 fl_X10_218 dX10_putInto_67 (fun w116 hk117 hn118 he119 => ?_)
          have hk120 := (hn118 _ (rl_ne hL2 (t := 0) (i := 0) (t' := 13) (i' := k) (lvf 0 (by decide)) (ho2) (Or.inl rfl) (fun z => absurd z.1 (by decide)))).trans hk112
          refine aw_aload_n X dX10_putInto_70 rfl rfl ?_
          refine aw_dup X dX10_putInto_71 rfl ?_
          refine aw_get X okX10 (k := 10) hk120 (Nat.le_of_ble_eq_true rfl) fl_X10_260 (Or.inl rfl) rfl dX10_putInto_72 ?_
          refine aw_iconst X dX10_putInto_75 ci_1 ?_
          refine aw_iadd X dX10_putInto_76 ?_
          refine aw_put2 X okX10 (k := 10) (fs' := [.ref (ad 1 0), .ref (ad 2 0), .ref (ad 3 0), .ref (ad 4 0), .ref (ad 5 0), .ref (ad 6 0), va_rf (sAd M2 ad (M2.1 20)), .int (M2.1 7), .int (M2.1 29), .int (M2.1 38), .int (((M2.2.1 21).toInt32) + 1), .int (((M2.2.1 22).toInt32) + 1), .int (M2.1 5)]) hk120 (Nat.le_of_ble_eq_true rfl) fl_X10_260 (Or.inl rfl) rfl (rfl ) ( rfl) (Nat.le_of_ble_eq_true rfl) rfl dX10_putInto_77 (fun w121 hk122 hn123 he124 => ?_)
          have hk125 := (hn123 _ (rl_ne hL2 (t := 13) (i := k) (t' := 0) (i' := 0) (ho2) (lvf 0 (by decide)) (Or.inl rfl) (fun z => absurd z.1 (by decide)))).trans hk117
          refine aw_iconst X dX10_putInto_80 ci_1 ?_
          refine RTN (some (.int _)) _ _ _ _ _ dX10_putInto_81 (⟨_, rfl⟩) (Nat.le_of_ble_eq_true rfl) (Nat.le_of_ble_eq_true rfl) ?_
          rw [pi_w ho.1 c5, ← hM2, if_neg c25, if_neg c40, if_pos c47]
          exact ⟨rfl, gi2, rl_c2 hL2 ho2 hk125 hk122 (fun b h1 h2 => by rw [he124, wm_upn h2, he119, wm_upn h1, he114, wm_upn h2])⟩
      · refine aw_bipush X dX10_putInto_43 cb_m5 ?_
        refine RTN (some (.int _)) _ _ _ _ _ dX10_putInto_45 (⟨_, rfl⟩) (Nat.le_of_ble_eq_true rfl) (Nat.le_of_ble_eq_true rfl) ?_
        rw [pi_w ho.1 c5, ← hM2, if_neg c25, if_pos c40]
        exact ⟨rfl, gi2, hL2⟩
    · rw [bI_n0] at c25
      refine aw_aload_n X dX10_putInto_28 rfl rfl ?_
      refine aw_bipush X dX10_putInto_29 cb_m10 ?_
      refine aw_iload_n X dX10_putInto_31 rfl rfl ?_
      refine aw_isub X dX10_putInto_32 ?_
      refine aw_callV X (kX10_faulted _ _ _ _ _ _ _ _ _ _ _ _ _ _ _ _ _ k0b_ _) okm_X10_faulted okX10 k0b_ ml_X10_54 im_X10_faulted se_X10_X10_faulted rfl rfl (Nat.le_of_ble_eq_true rfl) ⟨Nat.le_of_ble_eq_true rfl, Nat.le_of_ble_eq_true rfl, Nat.le_of_ble_eq_true rfl, Nat.le_of_ble_eq_true rfl⟩ dX10_putInto_33 (fun v w2 hp => ?_)
      obtain ⟨rfl, hw126⟩ := hp
      have hk127 := (congrFun hw126 (ad 0 0)).trans wm_ups
      have hk128 := ((congrFun hw126 (ad 13 k)).trans (wm_upn (rl_ne hL2 (t := 13) (i := k) (t' := 0) (i' := 0) (ho2) (lvf 0 (by decide)) (Or.inl rfl) (fun z => absurd z.1 (by decide))))).trans (rl_st hL2 ho2)
      refine RTN (some (.int _)) _ _ _ _ _ dX10_putInto_36 (⟨_, rfl⟩) (Nat.le_of_ble_eq_true rfl) (Nat.le_of_ble_eq_true rfl) ?_
      rw [pi_w ho.1 c5, ← hM2, if_pos c25]
      exact ⟨by rw [show (-10) - ((-10) - wv M k) = wv M k by rw [Int32.sub_eq_add_neg, Int32.neg_sub, Int32.add_comm, Int32.sub_add_cancel]], gi2, rl_5b hL2 hw126⟩
  · refine aw_bipush X dX10_putInto_8 cb_m4 ?_
    refine RTN (some (.int _)) _ _ _ _ _ dX10_putInto_10 (⟨_, rfl⟩) (Nat.le_of_ble_eq_true rfl) (Nat.le_of_ble_eq_true rfl) ?_
    have hm : mo_pi M (nI k) c1 = (-4, M) := by unfold mo_pi; rw [nI_clamp (show k < 2 ^ 31 by have := ho.1; omega), if_pos c5]
    rw [hm]
    exact ⟨rfl, gi, hL⟩
