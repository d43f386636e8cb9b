/-! the name at the relation -/
theorem rl_bld {G : GG} {M M' : MS} {ad : AD} {gi gi' : GI} {w w' : WM} (hL : RLa G M ad gi w) (hA : ∀ k, k ≠ 25 → M'.2.2 k = M.2.2 k) (hI : ∀ k, k ≠ 0 → k ≠ 26 → k ≠ 27 → k ≠ 28 → M'.1 k = M.1 k) (l0 : M'.2.1 = M.2.1) (hg : ∀ t, t ≠ 4 → t ≠ 7 → gi' t = gi t) (h5 : w' (ad 5 0) = some (.inr (6, [.ref (ad 9 0), .int (M'.1 27), .int (M'.1 28)]))) (h9 : w' (ad 9 0) = some (.inr (1, [.ref (ad 10 0), .int 0, .int (gi' 7 0 0), .int (M'.1 26)]))) (h10 : w' (ad 10 0) = some (.inl (gA G 1, 16, .inl (gi' 4 0)))) (hn : sd_n M' gi') (hb : ∀ b, b ≠ ad 5 0 → b ≠ ad 9 0 → b ≠ ad 10 0 → w' b = w b) : RLa G M' ad gi' w' := by
  have m1 : M'.2.2 1 = M.2.2 1 := hA 1 (by decide)
  have m2 : M'.2.2 2 = M.2.2 2 := hA 2 (by decide)
  have m3 : M'.2.2 3 = M.2.2 3 := hA 3 (by decide)
  have m4 : M'.2.2 4 = M.2.2 4 := hA 4 (by decide)
  have m6 : M'.2.2 6 = M.2.2 6 := hA 6 (by decide)
  have m8 : M'.2.2 8 = M.2.2 8 := hA 8 (by decide)
  have m9 : M'.2.2 9 = M.2.2 9 := hA 9 (by decide)
  have m10 : M'.2.2 10 = M.2.2 10 := hA 10 (by decide)
  have m11 : M'.2.2 11 = M.2.2 11 := hA 11 (by decide)
  have m12 : M'.2.2 12 = M.2.2 12 := hA 12 (by decide)
  have m13 : M'.2.2 13 = M.2.2 13 := hA 13 (by decide)
  have m14 : M'.2.2 14 = M.2.2 14 := hA 14 (by decide)
  have m15 : M'.2.2 15 = M.2.2 15 := hA 15 (by decide)
  have m16 : M'.2.2 16 = M.2.2 16 := hA 16 (by decide)
  have m17 : M'.2.2 17 = M.2.2 17 := hA 17 (by decide)
  have m18 : M'.2.2 18 = M.2.2 18 := hA 18 (by decide)
  have m19 : M'.2.2 19 = M.2.2 19 := hA 19 (by decide)
  have m23 : M'.2.2 23 = M.2.2 23 := hA 23 (by decide)
  have m24 : M'.2.2 24 = M.2.2 24 := hA 24 (by decide)
  have m30 : M'.2.2 30 = M.2.2 30 := hA 30 (by decide)
  have m31 : M'.2.2 31 = M.2.2 31 := hA 31 (by decide)
  have m32 : M'.2.2 32 = M.2.2 32 := hA 32 (by decide)
  have m33 : M'.2.2 33 = M.2.2 33 := hA 33 (by decide)
  have m34 : M'.2.2 34 = M.2.2 34 := hA 34 (by decide)
  have m35 : M'.2.2 35 = M.2.2 35 := hA 35 (by decide)
  have m36 : M'.2.2 36 = M.2.2 36 := hA 36 (by decide)
  have m37 : M'.2.2 37 = M.2.2 37 := hA 37 (by decide)
  have m42 : M'.2.2 42 = M.2.2 42 := hA 42 (by decide)
  have m43 : M'.2.2 43 = M.2.2 43 := hA 43 (by decide)
  have i5 : M'.1 5 = M.1 5 := hI 5 (by decide) (by decide) (by decide) (by decide)
  have i7 : M'.1 7 = M.1 7 := hI 7 (by decide) (by decide) (by decide) (by decide)
  have i20 : M'.1 20 = M.1 20 := hI 20 (by decide) (by decide) (by decide) (by decide)
  have i29 : M'.1 29 = M.1 29 := hI 29 (by decide) (by decide) (by decide) (by decide)
  have i38 : M'.1 38 = M.1 38 := hI 38 (by decide) (by decide) (by decide) (by decide)
  have i39 : M'.1 39 = M.1 39 := hI 39 (by decide) (by decide) (by decide) (by decide)
  have i40 : M'.1 40 = M.1 40 := hI 40 (by decide) (by decide) (by decide) (by decide)
  have i41 : M'.1 41 = M.1 41 := hI 41 (by decide) (by decide) (by decide) (by decide)
  have i44 : M'.1 44 = M.1 44 := hI 44 (by decide) (by decide) (by decide) (by decide)
  have i45 : M'.1 45 = M.1 45 := hI 45 (by decide) (by decide) (by decide) (by decide)
  have x0 : gi' 0 = gi 0 := hg 0 (by decide) (by decide)
  have x1 : gi' 1 = gi 1 := hg 1 (by decide) (by decide)
  have x2 : gi' 2 = gi 2 := hg 2 (by decide) (by decide)
  have x3 : gi' 3 = gi 3 := hg 3 (by decide) (by decide)
  have x5 : gi' 5 = gi 5 := hg 5 (by decide) (by decide)
  have x6 : gi' 6 = gi 6 := hg 6 (by decide) (by decide)
  refine rl_addP hL (fun _ _ => False) (fun _ _ => False) (fun t i => i = 0 ∧ (t = 5 ∨ t = 9 ∨ t = 10)) (fun _ _ h => h.elim) (fun _ _ _ _ h => h.elim) (fun _ _ h => h.elim) (fun t i hl hn0 hn1 => by
    match t, hl, hn0, hn1 with
    | 0, hl, hn0, hn1 => (have h := (show _ ∧ i = 0 from hl).2; subst h; exact ⟨lvf 0 (by decide), rfl⟩)
    | 1, hl, hn0, hn1 => (have h := (show _ ∧ i = 0 from hl).2; subst h; exact ⟨lvf 1 (by decide), rfl⟩)
    | 2, hl, hn0, hn1 => (have h := (show _ ∧ i = 0 from hl).2; subst h; exact ⟨lvf 2 (by decide), rfl⟩)
    | 3, hl, hn0, hn1 => (have h := (show _ ∧ i = 0 from hl).2; subst h; exact ⟨lvf 3 (by decide), rfl⟩)
    | 4, hl, hn0, hn1 => (have h := (show _ ∧ i = 0 from hl).2; subst h; exact ⟨lvf 4 (by decide), rfl⟩)
    | 5, hl, hn0, hn1 => (have h := (show _ ∧ i = 0 from hl).2; subst h; exact ⟨lvf 5 (by decide), rfl⟩)
    | 6, hl, hn0, hn1 => (have h := (show _ ∧ i = 0 from hl).2; subst h; exact ⟨lvf 6 (by decide), rfl⟩)
    | 7, hl, hn0, hn1 => (have h := (show _ ∧ i = 0 from hl).2; subst h; exact ⟨lvf 7 (by decide), rfl⟩)
    | 8, hl, hn0, hn1 => (have h := (show _ ∧ i = 0 from hl).2; subst h; exact ⟨lvf 8 (by decide), rfl⟩)
    | 9, hl, hn0, hn1 => (have h := (show _ ∧ i = 0 from hl).2; subst h; exact ⟨lvf 9 (by decide), rfl⟩)
    | 10, hl, hn0, hn1 => (have h := (show _ ∧ i = 0 from hl).2; subst h; exact ⟨lvf 10 (by decide), rfl⟩)
    | 11, hl, hn0, hn1 => exact ⟨(by have h : usd M' i := hl; unfold usd uA uF at h; rw [m1, m6, m8, m15] at h; exact h), rfl⟩
    | 12, hl, hn0, hn1 => exact ⟨(by have h : usd M' i := hl; unfold usd uA uF at h; rw [m1, m6, m8, m15] at h; exact h), rfl⟩
    | 13, hl, hn0, hn1 => exact ⟨(by have h : opn M' i := hl; unfold opn at h; rw [m6] at h; exact h), rfl⟩
    | 14, hl, hn0, hn1 => exact ⟨(by have h : opn M' i ∧ M'.2.2 8 i = 0 := hl; unfold opn at h; rw [m6, m8] at h; exact h), rfl⟩
    | 15, hl, hn0, hn1 => exact ⟨(by have h : isr M' i ∧ M'.2.2 34 i = nI i := hl; unfold isr at h; rw [i29, m34] at h; exact h), rfl⟩
    | 16, hl, hn0, hn1 => exact ⟨(by have h : isr M' i ∧ M'.2.2 34 i = nI i := hl; unfold isr at h; rw [i29, m34] at h; exact h), rfl⟩
    | 17, hl, hn0, hn1 => exact ⟨(by have h : isr M' i := hl; unfold isr at h; rw [i29] at h; exact h), rfl⟩
    | 18, hl, hn0, hn1 => exact ⟨(by have h : isr M' i ∧ M'.2.2 33 i = 0 := hl; unfold isr at h; rw [i29, m33] at h; exact h), rfl⟩
    | 19, hl, hn0, hn1 => exact ⟨(by have h : isr M' i ∧ M'.2.2 33 i = 0 := hl; unfold isr at h; rw [i29, m33] at h; exact h), rfl⟩
    | 20, hl, hn0, hn1 => exact ⟨(by have h : i < 4 ∧ 0 ≤ M'.2.2 23 i := hl; rw [m23] at h; exact h), rfl⟩
    | 21, hl, hn0, hn1 => exact ⟨(by have h : i < 4 ∧ 0 ≤ M'.2.2 23 i := hl; rw [m23] at h; exact h), rfl⟩
    | 22, hl, hn0, hn1 => exact ⟨(by have h : opn M' i ∧ M'.2.2 8 i = 3 := hl; unfold opn at h; rw [m6, m8] at h; exact h), rfl⟩
    | 23, hl, hn0, hn1 => exact ⟨(by have h : opn M' i ∧ M'.2.2 8 i = 3 := hl; unfold opn at h; rw [m6, m8] at h; exact h), rfl⟩
    | n + 24, hl, hn0, hn1 => exact absurd (show n + 24 ≤ 10 ∧ i = 0 from hl).1 (by omega)) ?_ ?_ (fun t i hl hn0 hn1 hn2 => by
    match t, hl, hn0, hn1, hn2 with
    | 0, hl, hn0, hn1, hn2 => (refine cc_0 ?_; rw [sAd_c m6, i20, i7, i29, i38, l0, i5])
    | 1, hl, hn0, hn1, hn2 => (refine cc_1 ?_; rw [cR_c m1 rfl])
    | 2, hl, hn0, hn1, hn2 => (refine cc_2 ?_; rw [cG_c m23 rfl])
    | 3, hl, hn0, hn1, hn2 => (refine cc_3 ?_; rw [cS_c m6])
    | 4, hl, hn0, hn1, hn2 => (refine cc_4 ?_; rw [cF_c i29 rfl])
    | 5, hl, hn0, hn1, hn2 => exact absurd ⟨(show _ ∧ i = 0 from hl).2, Or.inl rfl⟩ hn2
    | 6, hl, hn0, hn1, hn2 => (refine cc_6 ?_; rw [i39, i40, i44, i45, x3])
    | 7, hl, hn0, hn1, hn2 => (refine cc_7 ?_; rw [m42])
    | 8, hl, hn0, hn1, hn2 => (refine cc_8 ?_; rw [m43])
    | 9, hl, hn0, hn1, hn2 => exact absurd ⟨(show _ ∧ i = 0 from hl).2, Or.inr (Or.inl rfl)⟩ hn2
    | 10, hl, hn0, hn1, hn2 => exact absurd ⟨(show _ ∧ i = 0 from hl).2, Or.inr (Or.inr rfl)⟩ hn2
    | 11, hl, hn0, hn1, hn2 => (refine cc_11 ?_; rw [m2])
    | 12, hl, hn0, hn1, hn2 => (refine cc_12 ?_; rw [m3, cArr_c m2 m3 m4])
    | 13, hl, hn0, hn1, hn2 => (refine cc_13 ?_; rw [cSI_c (M := M) (M' := M') (gi := gi) (gi' := gi') (k := i) (by rw [m8]) (by rw [m10]) (by rw [m9]) (by rw [m6]) (by rw [m11]) (by rw [m13]) (by rw [m14]) (by rw [m12]) (by rw [m19]) (by rw [x0]), sAd_c m6, m17, cX_c (M := M) (M' := M') (ad := ad) (ad' := ad) (k := i) (by rw [m8]) rfl (fun _ => by rw [m15]) (by rw [m16]) rfl rfl])
    | 14, hl, hn0, hn1, hn2 => (refine cc_14 ?_; rw [x1])
    | 15, hl, hn0, hn1, hn2 => (refine cc_15 ?_; rw [m36, m35])
    | 16, hl, hn0, hn1, hn2 => (refine cc_16 ?_; rw [x2])
    | 17, hl, hn0, hn1, hn2 => (refine cc_17 ?_; rw [m30, m33, m34])
    | 18, hl, hn0, hn1, hn2 => (refine cc_18 ?_; rfl)
    | 19, hl, hn0, hn1, hn2 => (refine cc_19 ?_; rw [m32, x5])
    | 20, hl, hn0, hn1, hn2 => (refine cc_20 ?_; rfl)
    | 21, hl, hn0, hn1, hn2 => (refine cc_21 ?_; rw [m23, cGiv_c m23 m24])
    | 22, hl, hn0, hn1, hn2 => (refine cc_22 ?_; rfl)
    | 23, hl, hn0, hn1, hn2 => (refine cc_23 ?_; rw [m12, x6])
    | n + 24, hl, hn0, hn1, hn2 => exact absurd (show n + 24 ≤ 10 ∧ i = 0 from hl).1 (by omega)) (fun _ _ h => h.elim) (fun _ _ h => h.elim) ?_ ?_
  · rintro t i ⟨rfl, rfl | rfl | rfl⟩
    · exact ⟨lvf 5 (by decide), rfl⟩
    · exact ⟨lvf 9 (by decide), rfl⟩
    · exact ⟨lvf 10 (by decide), rfl⟩
  · intro b _ hl
    exact hb b (hl 5 0 ⟨rfl, Or.inl rfl⟩) (hl 9 0 ⟨rfl, Or.inr (Or.inl rfl)⟩) (hl 10 0 ⟨rfl, Or.inr (Or.inr rfl)⟩)
  · rintro t i ⟨rfl, rfl | rfl | rfl⟩ _ _ _
    · exact h5
    · exact h9
    · exact h10
  · refine ⟨?_, ?_, ?_, hn, ?_, ?_⟩
    · unfold sd_p opn; rw [m6, m8, m19, m18, x0, x1]; exact hL.2.2.1
    · unfold sd_f; rw [m37, x2]; exact hL.2.2.2.1
    · unfold sd_t; rw [i39, i40, i41, x3]; exact hL.2.2.2.2.1
    · unfold sd_s isr; rw [i29, m33, m32, m31, x5]; exact hL.2.2.2.2.2.2.1
    · unfold sd_r opn; rw [m6, m8, m12, m18, m9, x6]; exact hL.2.2.2.2.2.2.2
def mi_dot (M : MS) : Prop := M.1 27 = 0 ∨ M.1 27 = 1
theorem sI_n {M : MS} {j k : Nat} {y : Int32} (h : k ≠ j) : (sI M j y).1 k = M.1 k := va_up_ne _ _ h
theorem gu_n {gi : GI} {t i : Nat} {f : Nat → Int32} {t' : Nat} (h : t' ≠ t) : gu gi t i f t' = gi t' := by
  funext i' j
  unfold gu
  rw [if_neg (fun z => h z.1)]
theorem gu_e {gi : GI} {t i : Nat} {f : Nat → Int32} : gu gi t i f t i = f := by
  unfold gu
  rw [if_pos ⟨rfl, rfl⟩]
/-- what the name at hand is after a sign, as the reference has it -/
theorem col_mo {M : MS} {gi : GI} {c : Int32} (hd : mi_dot M) (hN : bt (M.1 26) 0 8) (hc : bt c 0 1114111 = true) (hs : sd_n M gi) : (mo_name M c).1 = (col c (M.1 27) (M.1 28) (M.1 26) (gi 4 0)).2.2.1 ∧ (mo_name M c).2.1 27 = (col c (M.1 27) (M.1 28) (M.1 26) (gi 4 0)).1 ∧ (mo_name M c).2.1 28 = (col c (M.1 27) (M.1 28) (M.1 26) (gi 4 0)).2.1 ∧ (mo_name M c).2.1 26 = (col c (M.1 27) (M.1 28) (M.1 26) (gi 4 0)).2.2.1 ∧ (∀ k, k ≠ 25 → (mo_name M c).2.2.2 k = M.2.2 k) ∧ (∀ k, k ≠ 0 → k ≠ 26 → k ≠ 27 → k ≠ 28 → (mo_name M c).2.1 k = M.1 k) ∧ (mo_name M c).2.2.1 = M.2.1 ∧ sd_n (mo_name M c).2 (gu gi 4 0 (col c (M.1 27) (M.1 28) (M.1 26) (gi 4 0)).2.2.2) := by
  have hcut : mo_cut M c = (if c = 46 then 1 else M.1 27) := by
    unfold mo_cut
    rcases hd with h | h <;> rw [h]
    · rw [if_pos rfl]
    · rw [if_neg (by decide)]; split <;> rfl
  unfold mo_name
  rw [if_pos hc]
  by_cases h0 : mo_cut M c = 0
  · rw [if_pos h0]
    have hz : (if c = 46 then (1 : Int32) else M.1 27) = 0 := hcut.symm.trans h0
    by_cases hb : barr c = true
    · have e : col c (M.1 27) (M.1 28) (M.1 26) (gi 4 0) = (0, M.1 28 + 1, M.1 26, gi 4 0) := by
        unfold col
        rw [if_pos (Or.inr hb), hz]
      rw [e, if_pos hb]
      refine ⟨rfl, rfl, rfl, rfl, fun k _ => rfl, fun k h1 h2 h3 h4 => ?_, rfl, ?_⟩
      · exact (sI_n h4).trans ((sI_n h3).trans (sI_n h1))
      · intro j hj
        rw [gu_e]
        exact hs j hj
    · rw [if_neg hb]
      by_cases h8 : 8 ≤ M.1 26
      · have e : col c (M.1 27) (M.1 28) (M.1 26) (gi 4 0) = (0, M.1 28, M.1 26, gi 4 0) := by
          unfold col
          rw [if_neg (fun h => h.elim (fun h => h hz) hb), if_pos h8, hz]
        rw [e, if_pos h8]
        refine ⟨rfl, rfl, rfl, rfl, fun k _ => rfl, fun k h1 h2 h3 h4 => ?_, rfl, ?_⟩
        · exact (sI_n h3).trans (sI_n h1)
        · intro j hj
          rw [gu_e]
          exact hs j hj
      · have e : col c (M.1 27) (M.1 28) (M.1 26) (gi 4 0) = (0, M.1 28, M.1 26 + 1, upd (gi 4 0) (M.1 26).toNatClampNeg c) := by
          unfold col
          rw [if_neg (fun h => h.elim (fun h => h hz) hb), if_neg h8, hz]
        rw [e, if_neg h8]
        refine ⟨rfl, rfl, rfl, rfl, fun k hk => ?_, fun k h1 h2 h3 h4 => ?_, rfl, ?_⟩
        · exact va_up_ne _ _ hk
        · exact (sI_n h2).trans ((show (sI (sI M 0 0) 27 0).1 k = _ from sI_n h3).trans (sI_n h1))
        · intro j hj
          rw [gu_e]
          have hb8 := bt_iff.mp hN
          have t1 := ti_add (a := M.1 26) (b := 1) (y := 1) rfl rfl (by omega)
          have hj : (j : Int) < (M.1 26 + 1).toInt := hj
          have cc := cl_toInt (x := M.1 26) hb8.1
          show upd (gi 4 0) (M.1 26).toNatClampNeg c j = (va_up M.2.2 25 (upd (M.2.2 25) (M.1 26).toNatClampNeg c)) 25 j
          rw [va_us]
          by_cases hz : j = (M.1 26).toNatClampNeg
          · rw [hz, upd_s, upd_s]
          · rw [upd_n hz, upd_n hz]
            exact hs j (by omega)
  · rw [if_neg h0]
    have h1' : (if c = 46 then (1 : Int32) else M.1 27) = 1 := by
      by_cases h46 : c = 46
      · rw [if_pos h46]
      · rw [if_neg h46]
        rw [hcut, if_neg h46] at h0
        exact hd.resolve_left h0
    have e : col c (M.1 27) (M.1 28) (M.1 26) (gi 4 0) = (1, M.1 28 + 1, M.1 26, gi 4 0) := by
      unfold col
      rw [h1', if_pos (Or.inl (by decide))]
    rw [e]
    refine ⟨rfl, rfl, rfl, rfl, fun k _ => rfl, fun k h1 h2 h3 h4 => ?_, rfl, ?_⟩
    · exact (sI_n h4).trans ((sI_n h3).trans (sI_n h1))
    · intro j hj
      rw [gu_e]
      exact hs j hj
set_option maxRecDepth 100000 in
set_option maxHeartbeats 4000000 in
theorem kX10_name (G : GG) (l : Launch) (M : MS) (ad : AD) (gi : GI) (w : WM) (hL : RLa G M ad gi w) (hd : mi_dot M) (hN : bt (M.1 26) 0 8) (ch : Int32) : MC G l yX10_name cX10_name 2 ((Option.some .int)) ({ frames := 9, cells := 0, slots := 0, locals := 200 } : Room) [.ref (ad 0 0), .int ch] w (fun v w' => v = some (.int (mo_name M ch).1) ∧ ∃ ad' gi', RLa G (mo_name M ch).2 ad' gi' w' ∧ ad' 0 0 = ad 0 0) := by
  refine mc_int (by decide) (Nat.le_of_ble_eq_true rfl) rfl rfl ?_
  intro p e s m args below meth c A H0 Q X hnm RTN
  have X : Cx G p s m args meth c A H0 cX10_name 2 RX10 := X
  have k0_ : w (ad 0 0) = some (.inr (11, [.ref (ad 1 0), .ref (ad 2 0), .ref (ad 3 0), .ref (ad 4 0), .ref (ad 5 0), .ref (ad 6 0), va_rf (sAd M ad (M.1 20)), .int (M.1 7), .int (M.1 29), .int (M.1 38), .int ((M.2.1 21).toInt32), .int ((M.2.1 22).toInt32), .int (M.1 5)])) := hL.1 0 0 (lvf 0 (by decide))
  have k5_ : w (ad 5 0) = some (.inr (6, [.ref (ad 9 0), .int (M.1 27), .int (M.1 28)])) := hL.1 5 0 (lvf 5 (by decide))
  have k9_ : w (ad 9 0) = some (.inr (1, [.ref (ad 10 0), .int 0, .int (gi 7 0 0), .int (M.1 26)])) := hL.1 9 0 (lvf 9 (by decide))
  have k10_ : w (ad 10 0) = some (.inl (gA G 1, 16, .inl (gi 4 0))) := hL.1 10 0 (lvf 10 (by decide))
  refine aw_iload_n X dX10_name_0 rfl rfl ?_
  refine aw_callS X (kX10_isSign _ _ _ _) okm_X10_isSign ml_X10_237 st_X10_isSign rfl rfl (Nat.le_of_ble_eq_true rfl) ⟨Nat.le_of_ble_eq_true rfl, Nat.le_of_ble_eq_true rfl, Nat.le_of_ble_eq_true rfl, Nat.le_of_ble_eq_true rfl⟩ dX10_name_1 (fun v w2 hp => ?_)
  obtain ⟨rfl, hw9⟩ := hp
  have hw9 := hw9.symm
  subst hw9
  refine aw_if_ne (tgt := 10) X dX10_name_4 rfl (fun c4 => ?_) (fun c4 => ?_)
  · rw [bI_n0] at c4
    refine aw_aload_n X dX10_name_10 rfl rfl ?_
    refine aw_get X okX10 (k := 4) k0_ (Nat.le_of_ble_eq_true rfl) fl_X10_35 (Or.inl rfl) rfl dX10_name_11 ?_
    refine aw_iload_n X dX10_name_14 rfl rfl ?_
    refine aw_callV X (kX4_collect _ _ _ _ _ _ _ _ _ _ k5_ k9_ _ k10_ _ hN) okm_X4_collect okX4 k5_ ml_X10_263 im_X4_collect se_X4_X4_collect rfl rfl (Nat.le_of_ble_eq_true rfl) ⟨Nat.le_of_ble_eq_true rfl, Nat.le_of_ble_eq_true rfl, Nat.le_of_ble_eq_true rfl, Nat.le_of_ble_eq_true rfl⟩ dX10_name_15 (fun v w2 hp => ?_)
    obtain ⟨rfl, hk101, hk102, hk103, hb104⟩ := hp
    have hk105 := (hb104 (ad 0 0) (rl_ne hL (t := 0) (i := 0) (t' := 5) (i' := 0) (lvf 0 (by decide)) (lvf 5 (by decide)) (Or.inl rfl) (fun z => absurd z.1 (by decide))) (rl_ne hL (t := 0) (i := 0) (t' := 9) (i' := 0) (lvf 0 (by decide)) (lvf 9 (by decide)) (Or.inl rfl) (fun z => absurd z.1 (by decide))) (rl_ne hL (t := 0) (i := 0) (t' := 10) (i' := 0) (lvf 0 (by decide)) (lvf 10 (by decide)) (Or.inl rfl) (fun z => absurd z.1 (by decide)))).trans k0_
    refine aw_aload_n X dX10_name_18 rfl rfl ?_
    refine aw_get X okX10 (k := 4) hk105 (Nat.le_of_ble_eq_true rfl) fl_X10_35 (Or.inl rfl) rfl dX10_name_19 ?_
    refine aw_get X okX4 (k := 0) hk101 (Nat.le_of_ble_eq_true rfl) fl_X10_267 (Or.inl rfl) rfl dX10_name_22 ?_
    refine aw_callV X (kJ4_length_8abf5 _ _ _ _ _ _ _ hk102) okm_J4_length_8abf5 okJ4 hk102 ml_X10_271 im_J4_length_8abf5 se_J4_J4_length_8abf5 rfl rfl (Nat.le_of_ble_eq_true rfl) ⟨Nat.le_of_ble_eq_true rfl, Nat.le_of_ble_eq_true rfl, Nat.le_of_ble_eq_true rfl, Nat.le_of_ble_eq_true rfl⟩ dX10_name_25 (fun v w2 hp => ?_)
    obtain ⟨rfl, hw9⟩ := hp
    have hw9 := hw9.symm
    subst hw9
    refine RTN (some (.int _)) _ _ _ _ _ dX10_name_28 (⟨_, rfl⟩) (Nat.le_of_ble_eq_true rfl) (Nat.le_of_ble_eq_true rfl) ?_
    obtain ⟨e1, e2, e3, e4, e5, e6, e7, e8⟩ := col_mo hd hN c4 hL.2.2.2.2.2.1
    rw [e1]
    exact ⟨rfl, ad, gu gi 4 0 (col ch (M.1 27) (M.1 28) (M.1 26) (gi 4 0)).2.2.2, rl_bld hL e5 e6 e7 (fun t h1 h2 => gu_n h1) (by rw [e2, e3]; exact hk101) (by rw [e4, gu_n (by decide)]; exact hk102) (by rw [gu_e]; exact hk103) e8 hb104, rfl⟩
  · rw [bI_0] at c4
    refine aw_bipush X dX10_name_7 cb_m3 ?_
    refine RTN (some (.int _)) _ _ _ _ _ dX10_name_9 (⟨_, rfl⟩) (Nat.le_of_ble_eq_true rfl) (Nat.le_of_ble_eq_true rfl) ?_
    have hm : mo_name M ch = (-3, sI M 0 0) := by simp only [mo_name, c4, if_true, if_false, not_true_eq_false, not_false_eq_true, and_self, true_and, and_true, false_and, and_false, or_true, true_or, or_false, false_or, reduceCtorEq, ne_eq, va_us, pk_us]
    rw [hm]
    exact ⟨rfl, ad, gi, rl_0 hL, rfl⟩
