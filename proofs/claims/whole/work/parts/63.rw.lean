theorem cc_0 {G : GG} {M M' : MS} {ad ad' : AD} {gi gi' : GI} {i : Nat} (h : oC (ad' 1 0) (ad' 2 0) (ad' 3 0) (ad' 4 0) (ad' 5 0) (ad' 6 0) (sAd M' ad' (M'.1 20)) (M'.1 7) (M'.1 29) (M'.1 38) (M'.2.1 21).toInt32 (M'.2.1 22).toInt32 (M'.1 5) = oC (ad 1 0) (ad 2 0) (ad 3 0) (ad 4 0) (ad 5 0) (ad 6 0) (sAd M ad (M.1 20)) (M.1 7) (M.1 29) (M.1 38) (M.2.1 21).toInt32 (M.2.1 22).toInt32 (M.1 5)) : cel G M' ad' gi' 0 i = cel G M ad gi 0 i := h
theorem cc_1 {G : GG} {M M' : MS} {ad ad' : AD} {gi gi' : GI} {i : Nat} (h : rA (gA G 4) 8 (cR M' ad') = rA (gA G 4) 8 (cR M ad)) : cel G M' ad' gi' 1 i = cel G M ad gi 1 i := h
theorem cc_2 {G : GG} {M M' : MS} {ad ad' : AD} {gi gi' : GI} {i : Nat} (h : rA (gA G 4) 4 (cG M' ad') = rA (gA G 4) 4 (cG M ad)) : cel G M' ad' gi' 2 i = cel G M ad gi 2 i := h
theorem cc_3 {G : GG} {M M' : MS} {ad ad' : AD} {gi gi' : GI} {i : Nat} (h : rA (gA G 5) 8 (cS M' ad') = rA (gA G 5) 8 (cS M ad)) : cel G M' ad' gi' 3 i = cel G M ad gi 3 i := h
theorem cc_4 {G : GG} {M M' : MS} {ad ad' : AD} {gi gi' : GI} {i : Nat} (h : rA (gA G 6) 20 (cF M' ad') = rA (gA G 6) 20 (cF M ad)) : cel G M' ad' gi' 4 i = cel G M ad gi 4 i := h
theorem cc_5 {G : GG} {M M' : MS} {ad ad' : AD} {gi gi' : GI} {i : Nat} (h : (Sum.inr (6, [Value.ref (ad' 9 0), Value.int (M'.1 27), Value.int (M'.1 28)]) : va_E) = (Sum.inr (6, [Value.ref (ad 9 0), Value.int (M.1 27), Value.int (M.1 28)]) : va_E)) : cel G M' ad' gi' 5 i = cel G M ad gi 5 i := h
theorem cc_6 {G : GG} {M M' : MS} {ad ad' : AD} {gi gi' : GI} {i : Nat} (h : (Sum.inr (2, [Value.int (M'.1 39), Value.int (M'.1 40), Value.int (gi' 3 0 0), Value.ref (ad' 7 0), Value.int (M'.1 44), Value.int (M'.1 45), Value.ref (ad' 8 0)]) : va_E) = (Sum.inr (2, [Value.int (M.1 39), Value.int (M.1 40), Value.int (gi 3 0 0), Value.ref (ad 7 0), Value.int (M.1 44), Value.int (M.1 45), Value.ref (ad 8 0)]) : va_E)) : cel G M' ad' gi' 6 i = cel G M ad gi 6 i := h
theorem cc_7 {G : GG} {M M' : MS} {ad ad' : AD} {gi gi' : GI} {i : Nat} (h : (Sum.inl (gA G 0, 2, Sum.inl (M'.2.2 42)) : va_E) = (Sum.inl (gA G 0, 2, Sum.inl (M.2.2 42)) : va_E)) : cel G M' ad' gi' 7 i = cel G M ad gi 7 i := h
theorem cc_8 {G : GG} {M M' : MS} {ad ad' : AD} {gi gi' : GI} {i : Nat} (h : (Sum.inl (gA G 0, 8, Sum.inl (M'.2.2 43)) : va_E) = (Sum.inl (gA G 0, 8, Sum.inl (M.2.2 43)) : va_E)) : cel G M' ad' gi' 8 i = cel G M ad gi 8 i := h
theorem cc_9 {G : GG} {M M' : MS} {ad ad' : AD} {gi gi' : GI} {i : Nat} (h : (Sum.inr (1, [Value.ref (ad' 10 0), Value.int 0, Value.int (gi' 7 0 0), Value.int (M'.1 26)]) : va_E) = (Sum.inr (1, [Value.ref (ad 10 0), Value.int 0, Value.int (gi 7 0 0), Value.int (M.1 26)]) : va_E)) : cel G M' ad' gi' 9 i = cel G M ad gi 9 i := h
theorem cc_10 {G : GG} {M M' : MS} {ad ad' : AD} {gi gi' : GI} {i : Nat} (h : (Sum.inl (gA G 1, 16, Sum.inl (gi' 4 0)) : va_E) = (Sum.inl (gA G 1, 16, Sum.inl (gi 4 0)) : va_E)) : cel G M' ad' gi' 10 i = cel G M ad gi 10 i := h
theorem cc_11 {G : GG} {M M' : MS} {ad ad' : AD} {gi gi' : GI} {i : Nat} (h : (Sum.inr (4, [Value.int (M'.2.2 2 i), Value.ref (ad' 12 i)]) : va_E) = (Sum.inr (4, [Value.int (M.2.2 2 i), Value.ref (ad 12 i)]) : va_E)) : cel G M' ad' gi' 11 i = cel G M ad gi 11 i := h
theorem cc_12 {G : GG} {M M' : MS} {ad ad' : AD} {gi gi' : GI} {i : Nat} (h : (Sum.inl (gA G 0, (M'.2.2 3 i).toNatClampNeg, Sum.inl (cArr M' i)) : va_E) = (Sum.inl (gA G 0, (M.2.2 3 i).toNatClampNeg, Sum.inl (cArr M i)) : va_E)) : cel G M' ad' gi' 12 i = cel G M ad gi 12 i := h
theorem cc_13 {G : GG} {M M' : MS} {ad ad' : AD} {gi gi' : GI} {i : Nat} (h : sC (cSI M' gi' i) (sAd M' ad' (M'.2.2 17 i)) (cX M' ad' i) = sC (cSI M gi i) (sAd M ad (M.2.2 17 i)) (cX M ad i)) : cel G M' ad' gi' 13 i = cel G M ad gi 13 i := h
theorem cc_14 {G : GG} {M M' : MS} {ad ad' : AD} {gi gi' : GI} {i : Nat} (h : (Sum.inl (gA G 0, 20, Sum.inl (gi' 1 i)) : va_E) = (Sum.inl (gA G 0, 20, Sum.inl (gi 1 i)) : va_E)) : cel G M' ad' gi' 14 i = cel G M ad gi 14 i := h
theorem cc_15 {G : GG} {M M' : MS} {ad ad' : AD} {gi gi' : GI} {i : Nat} (h : (Sum.inr (10, [Value.ref (ad' 16 i), Value.int (M'.2.2 36 i), Value.int (M'.2.2 35 i)]) : va_E) = (Sum.inr (10, [Value.ref (ad 16 i), Value.int (M.2.2 36 i), Value.int (M.2.2 35 i)]) : va_E)) : cel G M' ad' gi' 15 i = cel G M ad gi 15 i := h
theorem cc_16 {G : GG} {M M' : MS} {ad ad' : AD} {gi gi' : GI} {i : Nat} (h : (Sum.inl (gA G 1, 60, Sum.inl (gi' 2 i)) : va_E) = (Sum.inl (gA G 1, 60, Sum.inl (gi 2 i)) : va_E)) : cel G M' ad' gi' 16 i = cel G M ad gi 16 i := h
theorem cc_17 {G : GG} {M M' : MS} {ad ad' : AD} {gi gi' : GI} {i : Nat} (h : (Sum.inr (8, [Value.int (M'.2.2 30 i), Value.ref (if M'.2.2 33 i = 0 then ad' 18 i else gK G 1), Value.int (M'.2.2 33 i), Value.ref (ad' 15 (M'.2.2 34 i).toNatClampNeg)]) : va_E) = (Sum.inr (8, [Value.int (M.2.2 30 i), Value.ref (if M.2.2 33 i = 0 then ad 18 i else gK G 1), Value.int (M.2.2 33 i), Value.ref (ad 15 (M.2.2 34 i).toNatClampNeg)]) : va_E)) : cel G M' ad' gi' 17 i = cel G M ad gi 17 i := h
theorem cc_18 {G : GG} {M M' : MS} {ad ad' : AD} {gi gi' : GI} {i : Nat} (h : (Sum.inr (0, [Value.ref (ad' 19 i), Value.int 0, Value.int 0, Value.int 0]) : va_E) = (Sum.inr (0, [Value.ref (ad 19 i), Value.int 0, Value.int 0, Value.int 0]) : va_E)) : cel G M' ad' gi' 18 i = cel G M ad gi 18 i := h
theorem cc_19 {G : GG} {M M' : MS} {ad ad' : AD} {gi gi' : GI} {i : Nat} (h : (Sum.inl (gA G 1, (M'.2.2 32 i).toNatClampNeg, Sum.inl (gi' 5 i)) : va_E) = (Sum.inl (gA G 1, (M.2.2 32 i).toNatClampNeg, Sum.inl (gi 5 i)) : va_E)) : cel G M' ad' gi' 19 i = cel G M ad gi 19 i := h
theorem cc_20 {G : GG} {M M' : MS} {ad ad' : AD} {gi gi' : GI} {i : Nat} (h : (Sum.inr (4, [Value.int 2, Value.ref (ad' 21 i)]) : va_E) = (Sum.inr (4, [Value.int 2, Value.ref (ad 21 i)]) : va_E)) : cel G M' ad' gi' 20 i = cel G M ad gi 20 i := h
theorem cc_21 {G : GG} {M M' : MS} {ad ad' : AD} {gi gi' : GI} {i : Nat} (h : (Sum.inl (gA G 0, (M'.2.2 23 i).toNatClampNeg, Sum.inl (cGiv M' i)) : va_E) = (Sum.inl (gA G 0, (M.2.2 23 i).toNatClampNeg, Sum.inl (cGiv M i)) : va_E)) : cel G M' ad' gi' 21 i = cel G M ad gi 21 i := h
theorem cc_22 {G : GG} {M M' : MS} {ad ad' : AD} {gi gi' : GI} {i : Nat} (h : (Sum.inr (4, [Value.int 2, Value.ref (ad' 23 i)]) : va_E) = (Sum.inr (4, [Value.int 2, Value.ref (ad 23 i)]) : va_E)) : cel G M' ad' gi' 22 i = cel G M ad gi 22 i := h
theorem cc_23 {G : GG} {M M' : MS} {ad ad' : AD} {gi gi' : GI} {i : Nat} (h : (Sum.inl (gA G 0, (M'.2.2 12 i).toNatClampNeg, Sum.inl (gi' 6 i)) : va_E) = (Sum.inl (gA G 0, (M.2.2 12 i).toNatClampNeg, Sum.inl (gi 6 i)) : va_E)) : cel G M' ad' gi' 23 i = cel G M ad gi 23 i := h
/-! rows: the arrays by their addresses -/
theorem uA_iff {M : MS} {a : Int32} : uA M a 8 = true ↔ ∃ k, k < 8 ∧ (M.2.2 1 k = a ∨ (0 < M.2.2 6 k ∧ M.2.2 8 k = 1 ∧ M.2.2 15 k = a)) := by
  unfold uA uF
  rw [List.any_eq_true]
  constructor
  · rintro ⟨k, hk, h⟩
    refine ⟨k, List.mem_range.mp hk, ?_⟩
    simpa only [Bool.or_eq_true, Bool.and_eq_true, decide_eq_true_eq] using h
  · rintro ⟨k, hk, h⟩
    refine ⟨k, List.mem_range.mpr hk, ?_⟩
    simpa only [Bool.or_eq_true, Bool.and_eq_true, decide_eq_true_eq] using h
def iU (M : MS) (ad : AD) (a : Nat) : Nat := ((List.range 25).find? (fun u => decide (1 ≤ u) && (uA M (nI u) 8 && decide (ad 11 u = a)))).getD 0
theorem iU_eq {G : GG} {M : MS} {ad : AD} {gi : GI} {w : WM} (hL : RLa G M ad gi w) {u : Nat} (hu : usd M u) : iU M ad (ad 11 u) = u := by
  have h25 : u < 25 := by have := hu.2.1; omega
  have h : (List.range 25).find? (fun v => decide (1 ≤ v) && (uA M (nI v) 8 && decide (ad 11 v = ad 11 u))) = some u := by
    refine fr_some h25 (fun j hj => ?_) ?_
    · rw [Bool.eq_false_iff]
      intro z
      simp only [Bool.and_eq_true, decide_eq_true_eq] at z
      have hj' : usd M j := ⟨z.1, by omega, z.2.1⟩
      exact rl_ne hL (t := 11) (i := j) (t' := 11) (i' := u) hj' hu (Or.inl rfl) (fun y => by have := y.2; omega) z.2.2
    · simp only [Bool.and_eq_true, decide_eq_true_eq]
      exact ⟨hu.1, hu.2.2, trivial⟩
  unfold iU
  rw [h]
  rfl
theorem iU_lt (M : MS) (ad : AD) (a : Nat) : iU M ad a < 25 := by
  unfold iU
  cases h : (List.range 25).find? (fun u => decide (1 ≤ u) && (uA M (nI u) 8 && decide (ad 11 u = a))) with
  | none => show 0 < 25; omega
  | some k => exact List.mem_range.mp (List.mem_of_find?_eq_some h)
theorem row_usd {M : MS} (hR : mi_row M) {k : Nat} (hk : k < 8) (h : ¬ M.2.2 1 k = 0) : usd M (M.2.2 1 k).toNatClampNeg := by
  have h1 := bt_iff.mp (hR k hk)
  have h2 := cl_toInt (x := M.2.2 1 k) h1.1
  have h3 : (M.2.2 1 k).toInt ≠ 0 := fun z => h ((i32_eq _ 0).mpr z)
  refine ⟨by omega, by omega, uA_iff.mpr ⟨k, hk, Or.inl ?_⟩⟩
  rw [nI_cl h1.1]
theorem mem_usd {M : MS} (hA : mi_arr M) {k : Nat} (hk : opn M k) (h1 : M.2.2 8 k = 1) (h : ¬ M.2.2 15 k = 0) : usd M (M.2.2 15 k).toNatClampNeg := by
  have h2 := bt_iff.mp (hA k hk.1)
  have h4 := cl_toInt (x := M.2.2 15 k) h2.1
  have h3 : (M.2.2 15 k).toInt ≠ 0 := fun z => h ((i32_eq _ 0).mpr z)
  refine ⟨by omega, by omega, uA_iff.mpr ⟨k, hk.1, Or.inr ⟨hk.2, h1, ?_⟩⟩⟩
  rw [nI_cl h2.1]
theorem rIA_some {ad : AD} {x : Int32} {a : Nat} (h : rIA ad x = some a) : ¬ x = 0 ∧ a = ad 11 x.toNatClampNeg := by
  unfold rIA at h
  split at h
  · cases h
  · rename_i h0; exact ⟨h0, (Option.some.inj h).symm⟩
theorem rIA_none {ad : AD} {x : Int32} (h : rIA ad x = none) : x = 0 := by
  unfold rIA at h
  split at h
  · rename_i h0; exact h0
  · cases h
theorem rIA_nz {ad : AD} {x : Int32} (h : ¬ x = 0) : rIA ad x = some (ad 11 x.toNatClampNeg) := if_neg h
theorem cR_k {M : MS} {ad : AD} {k : Nat} (hk : k < 8) : cR M ad k = rIA ad (M.2.2 1 k) := if_pos hk
def iSr (M : MS) (ad : AD) : Nat → Int32 := fun a => M.2.2 2 (iU M ad a)
def iVr (M : MS) (ad : AD) : Nat → Nat := fun a => ad 12 (iU M ad a)
def iNr (M : MS) (ad : AD) : Nat → Nat := fun a => (M.2.2 3 (iU M ad a)).toNatClampNeg
def iFr (M : MS) (ad : AD) : Nat → Nat → Int32 := fun a => cArr M (iU M ad a)
theorem it_all {G : GG} {M : MS} {ad : AD} {gi : GI} {w : WM} (hL : RLa G M ad gi w) (hR : mi_row M) : ∀ k a, k < 8 → cR M ad k = some a → isIt G w (iSr M ad) (iVr M ad) (iNr M ad) (iFr M ad) a := by
  intro k a hk h
  rw [cR_k hk] at h
  obtain ⟨h0, rfl⟩ := rIA_some h
  have hu := row_usd hR hk h0
  unfold isIt iSr iVr iNr iFr
  rw [iU_eq hL hu]
  exact ⟨hL.1 11 _ hu, hL.1 12 _ hu⟩
theorem iN_40 {M : MS} {ad : AD} (hS : mi_size M) (a : Nat) : iNr M ad a ≤ 40 := by
  have h := bt_iff.mp (hS _ (iU_lt M ad a))
  have := cl_toInt h.1
  unfold iNr
  omega
theorem of_ag {so sort : Int32} : it_of so sort = true ↔ (so = sort ∨ (sort = 3 ∧ so = 4)) := by
  unfold it_of
  simp only [Bool.or_eq_true, Bool.and_eq_true, decide_eq_true_eq]
  exact ⟨fun h => h.elim Or.inl (fun h => Or.inr ⟨h.2, h.1⟩), fun h => h.elim Or.inl (fun h => Or.inr ⟨h.2, h.1⟩)⟩
theorem has_ag {n k : Int32} (hn : bt n 0 40) : it_has n.toNatClampNeg k = true ↔ bt k 0 (n - 1).toInt = true := by
  have h1 := bt_iff.mp hn
  have h2 := ti_sub (a := n) (b := 1) (y := 1) rfl rfl (by omega)
  unfold it_has
  rw [bt_iff, nI_cl h1.1, h2]
  simp only [Bool.and_eq_true, Bool.not_eq_true', decide_eq_false_iff_not, i32_lt, i32_le]
  have e0 : (0 : Int32).toInt = 0 := rfl
  omega
theorem ag_it {M : MS} {a sort k : Int32} (ha : ¬ a = 0) (hn : bt (M.2.2 3 a.toNatClampNeg) 0 40) : it_fault (M.2.2 2 a.toNatClampNeg) (M.2.2 3 a.toNatClampNeg).toNatClampNeg sort k = mo_ag M a sort k := by
  unfold it_fault mo_ag
  rw [if_neg ha]
  by_cases h1 : it_of (M.2.2 2 a.toNatClampNeg) sort = true
  · rw [if_pos h1, if_pos (of_ag.mp h1)]
    by_cases h2 : it_has (M.2.2 3 a.toNatClampNeg).toNatClampNeg k = true
    · rw [if_pos h2, if_pos ((has_ag hn).mp h2)]
    · rw [if_neg h2, if_neg (fun z => h2 ((has_ag hn).mpr z))]
  · rw [if_neg h1, if_neg (fun z => h1 (of_ag.mpr z))]
theorem sz_row {M : MS} (hR : mi_row M) (hS : mi_size M) {k : Nat} (hk : k < 8) : bt (M.2.2 3 (M.2.2 1 k).toNatClampNeg) 0 40 := by
  have h1 := bt_iff.mp (hR k hk)
  have h2 := cl_toInt (x := M.2.2 1 k) h1.1
  exact hS _ (by omega)
theorem rf_ag {G : GG} {M : MS} {ad : AD} {gi : GI} {w : WM} (hL : RLa G M ad gi w) (hR : mi_row M) (hS : mi_size M) {r sort k : Int32} (hr : bt r 0 7) : rw_fault (iSr M ad) (iNr M ad) (cR M ad r.toNatClampNeg) sort k = mo_ag M (M.2.2 1 r.toNatClampNeg) sort k := by
  have hk : r.toNatClampNeg < 8 := cl_lt hr (by decide) (by decide)
  rw [cR_k hk]
  by_cases h0 : M.2.2 1 r.toNatClampNeg = 0
  · have e : rIA ad (M.2.2 1 r.toNatClampNeg) = none := if_pos h0
    rw [e]
    unfold mo_ag
    rw [if_pos h0]
    rfl
  · rw [rIA_nz h0]
    show it_fault (iSr M ad _) (iNr M ad _) sort k = _
    unfold iSr iNr
    rw [iU_eq hL (row_usd hR hk h0)]
    exact ag_it h0 (sz_row hR hS hk)
theorem ag_4 {M : MS} {a sort k : Int32} : mo_ag M a sort k = 0 ∨ mo_ag M a sort k = 1 ∨ mo_ag M a sort k = 2 ∨ mo_ag M a sort k = 3 := by
  unfold mo_ag
  split
  · exact Or.inr (Or.inl rfl)
  · split
    · split
      · exact Or.inl rfl
      · exact Or.inr (Or.inr (Or.inr rfl))
    · exact Or.inr (Or.inr (Or.inl rfl))
theorem ag_le {M : MS} {a sort k : Int32} : mo_ag M a sort k ≤ 0 ↔ mo_ag M a sort k = 0 := by
  rcases ag_4 (M := M) (a := a) (sort := sort) (k := k) with h | h | h | h <;> rw [h] <;> decide
theorem ag_z {M : MS} {a sort k : Int32} (h : mo_ag M a sort k = 0) : ¬ a = 0 ∧ (M.2.2 2 a.toNatClampNeg = sort ∨ (sort = 3 ∧ M.2.2 2 a.toNatClampNeg = 4)) ∧ bt k 0 (M.2.2 3 a.toNatClampNeg - 1).toInt = true := by
  unfold mo_ag at h
  split at h
  · exact absurd h (by decide)
  · rename_i h1
    split at h
    · rename_i h2
      split at h
      · rename_i h3
        exact ⟨h1, h2, h3⟩
      · exact absurd h (by decide)
    · exact absurd h (by decide)
/-- the latest fault is told -/
theorem rl_5 {G : GG} {M : MS} {ad : AD} {gi : GI} {w w' : WM} {f : Int32} (hL : RLa G M ad gi w) (hw : w' = wm_up w (ad 0 0) (oC (ad 1 0) (ad 2 0) (ad 3 0) (ad 4 0) (ad 5 0) (ad 6 0) (sAd M ad (M.1 20)) (M.1 7) (M.1 29) (M.1 38) (M.2.1 21).toInt32 (M.2.1 22).toInt32 f)) : RLa G (sI (sI M 0 0) 5 f) ad gi w' :=
  rl_up hL 0 0 (lvf 0 (by decide)) rfl hw (fun _ _ h => h) (fun t i hl hn0 => by
    match t, hl, hn0 with
    | 0, hl, hn0 => exact absurd ⟨rfl, (show _ ∧ i = 0 from hl).2⟩ hn0
    | 1, _, _ => exact cc_1 rfl
    | 2, _, _ => exact cc_2 rfl
    | 3, _, _ => exact cc_3 rfl
    | 4, _, _ => exact cc_4 rfl
    | 5, _, _ => exact cc_5 rfl
    | 6, _, _ => exact cc_6 rfl
    | 7, _, _ => exact cc_7 rfl
    | 8, _, _ => exact cc_8 rfl
    | 9, _, _ => exact cc_9 rfl
    | 10, _, _ => exact cc_10 rfl
    | 11, _, _ => exact cc_11 rfl
    | 12, _, _ => exact cc_12 rfl
    | 13, _, _ => exact cc_13 rfl
    | 14, _, _ => exact cc_14 rfl
    | 15, _, _ => exact cc_15 rfl
    | 16, _, _ => exact cc_16 rfl
    | 17, _, _ => exact cc_17 rfl
    | 18, _, _ => exact cc_18 rfl
    | 19, _, _ => exact cc_19 rfl
    | 20, _, _ => exact cc_20 rfl
    | 21, _, _ => exact cc_21 rfl
    | 22, _, _ => exact cc_22 rfl
    | 23, _, _ => exact cc_23 rfl
    | n + 24, hl, hn0 => exact absurd (show n + 24 ≤ 10 ∧ i = 0 from hl).1 (by omega)) rfl hL.2.2
theorem ix_40 {u k : Int32} (hu : bt u 1 24) (hk : bt k 0 39) : ((40 : Int32) * u + k - 40).toNatClampNeg = 40 * u.toNatClampNeg + k.toNatClampNeg - 40 := by
  have a := bt_iff.mp hu
  have b := bt_iff.mp hk
  have h := ix_i (n := 40) (m := 0) (by decide) (a := u) (k := k) (bt_iff.mpr ⟨by omega, by omega⟩) (bt_iff.mpr ⟨by omega, by omega⟩) rfl
  have c1 := cl_toInt (x := u) (by omega)
  have c2 := cl_toInt (x := k) (by omega)
  have c3 := cl_toInt (x := (40 : Int32) * u + k - 40) (by omega)
  omega
/-- an item is written -/
theorem cA_ne {M : MS} {i x : Nat} {y : Int32} (hS : mi_size M) (hi : i ≤ 24) (hx : x < 40 * i - 40 ∨ 40 * i ≤ x) (hi1 : 1 ≤ i) : cArr (sF (sI M 0 0) 4 x y) i = cArr M i := by
  funext j
  unfold cArr
  show (if j < (M.2.2 3 i).toNatClampNeg then dec (M.2.2 2 i) (upd (M.2.2 4) x y (40 * i + j - 40)) else 0) = _
  split
  · rename_i hj
    have h := bt_iff.mp (hS i (by omega))
    have := cl_toInt h.1
    have hne : 40 * i + j - 40 ≠ x := by omega
    unfold upd
    rw [if_neg hne]
  · rfl
theorem rl_4 {G : GG} {M : MS} {ad : AD} {gi : GI} {w w' : WM} {u k x : Nat} {y v : Int32} (hL : RLa G M ad gi w) (hS : mi_size M) (hu : usd M u) (hk : k < (M.2.2 3 u).toNatClampNeg) (hx : x = 40 * u + k - 40) (hv : v = dec (M.2.2 2 u) y) (hw : w' = wm_up w (ad 12 u) (.inl (gA G 0, (M.2.2 3 u).toNatClampNeg, .inl (upd (cArr M u) k v)))) : RLa G (sF (sI M 0 0) 4 x y) ad gi w' := by
  have hs := bt_iff.mp (hS u (by have := hu.2.1; omega))
  have hs2 := cl_toInt hs.1
  refine rl_up hL 12 u hu rfl hw (fun _ _ h => h) (fun t i hl hn0 => by
    match t, hl, hn0 with
    | 0, _, _ => exact cc_0 rfl
    | 1, _, _ => exact cc_1 rfl
    | 2, _, _ => exact cc_2 rfl
    | 3, _, _ => exact cc_3 rfl
    | 4, _, _ => exact cc_4 rfl
    | 5, _, _ => exact cc_5 rfl
    | 6, _, _ => exact cc_6 rfl
    | 7, _, _ => exact cc_7 rfl
    | 8, _, _ => exact cc_8 rfl
    | 9, _, _ => exact cc_9 rfl
    | 10, _, _ => exact cc_10 rfl
    | 11, _, _ => exact cc_11 rfl
    | 12, hl, hn0 => exact congrArg (fun f => (Sum.inl (gA G 0, (M.2.2 3 i).toNatClampNeg, Sum.inl f) : va_E)) (cA_ne hS (show usd M i from hl).2.1 (by have h1 := (show usd M i from hl).1; have h2 : i ≠ u := fun z => hn0 ⟨rfl, z⟩; have h3 := hu.1; omega) (show usd M i from hl).1)
    | 13, _, _ => exact cc_13 rfl
    | 14, _, _ => exact cc_14 rfl
    | 15, _, _ => exact cc_15 rfl
    | 16, _, _ => exact cc_16 rfl
    | 17, _, _ => exact cc_17 rfl
    | 18, _, _ => exact cc_18 rfl
    | 19, _, _ => exact cc_19 rfl
    | 20, _, _ => exact cc_20 rfl
    | 21, _, _ => exact cc_21 rfl
    | 22, _, _ => exact cc_22 rfl
    | 23, _, _ => exact cc_23 rfl
    | n + 24, hl, hn0 => exact absurd (show n + 24 ≤ 10 ∧ i = 0 from hl).1 (by omega)) ?_ hL.2.2
  have e : upd (cArr M u) k v = cArr (sF (sI M 0 0) 4 x y) u := by
    funext j
    unfold cArr upd
    show _ = if j < (M.2.2 3 u).toNatClampNeg then dec (M.2.2 2 u) (if 40 * u + j - 40 = x then y else M.2.2 4 (40 * u + j - 40)) else 0
    by_cases hj : j = k
    · rw [if_pos hj, hj, if_pos hk, if_pos hx.symm, hv]
    · rw [if_neg hj]
      show (if j < (M.2.2 3 u).toNatClampNeg then dec (M.2.2 2 u) (M.2.2 4 (40 * u + j - 40)) else 0) = _
      by_cases h9 : j < (M.2.2 3 u).toNatClampNeg
      · rw [if_pos h9, if_pos h9, if_neg (by have := hu.1; omega)]
      · rw [if_neg h9, if_neg h9]
  rw [e]
  rfl
/-- a row is given another array -/
theorem rl_1 {G : GG} {M : MS} {ad : AD} {gi : GI} {w w' : WM} {r : Nat} {x : Int32} (hL : RLa G M ad gi w) (hr : r < 8) (hx : x = 0 ∨ ∃ f, f < 8 ∧ M.2.2 1 f = x) (hw : w' = wm_up w (ad 1 0) (rA (gA G 4) 8 (va_up (cR M ad) r (rIA ad x)))) : RLa G (sF (sI M 0 0) 1 r x) ad gi w' := by
  have hl1 : ∀ u, usd (sF (sI M 0 0) 1 r x) u → usd M u := by
    rintro u ⟨h1, h2, h3⟩
    refine ⟨h1, h2, uA_iff.mpr ?_⟩
    obtain ⟨k, hk, h⟩ := uA_iff.mp h3
    rcases h with h | h
    · have h : upd (M.2.2 1) r x k = nI u := h
      unfold upd at h
      split at h
      · rcases hx with hx | ⟨f, hf, hx⟩
        · exfalso
          rw [hx] at h
          have := (i32_eq _ _).mp h
          rw [nI_toInt (by omega)] at this
          have e0 : (0 : Int32).toInt = 0 := rfl
          omega
        · exact ⟨f, hf, Or.inl (hx.trans h)⟩
      · exact ⟨k, hk, Or.inl h⟩
    · exact ⟨k, hk, Or.inr h⟩
  refine rl_up hL 1 0 (lvf 1 (by decide)) rfl hw (fun t i hl => by
    match t, hl with
    | 0, hl => exact hl
    | 1, hl => exact hl
    | 2, hl => exact hl
    | 3, hl => exact hl
    | 4, hl => exact hl
    | 5, hl => exact hl
    | 6, hl => exact hl
    | 7, hl => exact hl
    | 8, hl => exact hl
    | 9, hl => exact hl
    | 10, hl => exact hl
    | 11, hl => exact hl1 i hl
    | 12, hl => exact hl1 i hl
    | 13, hl => exact hl
    | 14, hl => exact hl
    | 15, hl => exact hl
    | 16, hl => exact hl
    | 17, hl => exact hl
    | 18, hl => exact hl
    | 19, hl => exact hl
    | 20, hl => exact hl
    | 21, hl => exact hl
    | 22, hl => exact hl
    | 23, hl => exact hl
    | n + 24, hl => exact absurd (show n + 24 ≤ 10 ∧ i = 0 from hl).1 (by omega)) (fun t i hl hn0 => by
    match t, hl, hn0 with
    | 0, _, _ => exact cc_0 rfl
    | 1, hl, hn0 => exact absurd ⟨rfl, (show _ ∧ i = 0 from hl).2⟩ hn0
    | 2, _, _ => exact cc_2 rfl
    | 3, _, _ => exact cc_3 rfl
    | 4, _, _ => exact cc_4 rfl
    | 5, _, _ => exact cc_5 rfl
    | 6, _, _ => exact cc_6 rfl
    | 7, _, _ => exact cc_7 rfl
    | 8, _, _ => exact cc_8 rfl
    | 9, _, _ => exact cc_9 rfl
    | 10, _, _ => exact cc_10 rfl
    | 11, _, _ => exact cc_11 rfl
    | 12, _, _ => exact cc_12 rfl
    | 13, _, _ => exact cc_13 rfl
    | 14, _, _ => exact cc_14 rfl
    | 15, _, _ => exact cc_15 rfl
    | 16, _, _ => exact cc_16 rfl
    | 17, _, _ => exact cc_17 rfl
    | 18, _, _ => exact cc_18 rfl
    | 19, _, _ => exact cc_19 rfl
    | 20, _, _ => exact cc_20 rfl
    | 21, _, _ => exact cc_21 rfl
    | 22, _, _ => exact cc_22 rfl
    | 23, _, _ => exact cc_23 rfl
    | n + 24, hl, hn0 => exact absurd (show n + 24 ≤ 10 ∧ i = 0 from hl).1 (by omega)) ?_ hL.2.2
  · show rA (gA G 4) 8 (va_up (cR M ad) r (rIA ad x)) = rA (gA G 4) 8 (cR (sF (sI M 0 0) 1 r x) ad)
    have e : va_up (cR M ad) r (rIA ad x) = cR (sF (sI M 0 0) 1 r x) ad := by
      funext k
      unfold va_up cR
      show _ = if k < 8 then rIA ad (upd (M.2.2 1) r x k) else none
      unfold upd
      by_cases hk : k = r
      · rw [if_pos hk, if_pos hk, if_pos (by omega)]
      · rw [if_neg hk, if_neg hk]
    rw [e]
/-- the given contracts, at the relation -/
theorem rX10_lend (G : GG) (l : Launch) (M : MS) (ad : AD) (gi : GI) (w : WM) (hL : RLa G M ad gi w) (hR : mi_row M) (r f : Int32) : MC G l yX10_lend cX10_lend 3 ((Option.some .int)) ({ frames := 2, cells := 0, slots := 0, locals := 42 } : Room) [.ref (ad 0 0), .int r, .int f] w (fun v w' => v = some (.int (mo_lend M r f).1) ∧ ∃ ad' gi', RLa G (mo_lend M r f).2 ad' gi' w' ∧ ad' 0 0 = ad 0 0) := by
  refine mc_imp (kX10_lend G l w (ad 0 0) _ _ _ _ _ _ _ _ _ _ _ _ _ (hL.1 0 0 (lvf 0 (by decide))) (cR M ad) (hL.1 1 0 (lvf 1 (by decide))) _ _ _ _ (it_all hL hR) r f) ?_
  rintro v w' ⟨h1, h2⟩
  unfold mo_lend
  by_cases h : bt r 0 7 = true ∧ bt f 0 7 = true
  · obtain ⟨a1, a2⟩ := h2 h
    rw [if_pos h]
    refine ⟨a1, ad, gi, rl_1 hL (cl_lt h.1 (by decide) (by decide)) (Or.inr ⟨_, cl_lt h.2 (by decide) (by decide), rfl⟩) ?_, rfl⟩
    rw [a2, cR_k (cl_lt h.2 (by decide) (by decide))]
  · obtain ⟨a1, a2⟩ := h1 h
    rw [if_neg h]
    refine ⟨a1, ad, gi, ?_, rfl⟩
    rw [a2]
    exact rl_0 hL
theorem bt_12 {x : Int32} (h : bt x 1 2) : x = 1 ∨ x = 2 := by
  have a := bt_iff.mp h
  have h1 : x.toInt = 1 ∨ x.toInt = 2 := by omega
  rcases h1 with h1 | h1
  · exact Or.inl ((i32_eq _ 1).mpr h1)
  · exact Or.inr ((i32_eq _ 2).mpr h1)
theorem bt_12' {x : Int32} (h : x = 1 ∨ x = 2) : bt x 1 2 = true := by rcases h with h | h <;> rw [h] <;> rfl
theorem rr_1 {G : GG} {M : MS} {ad : AD} {gi : GI} {w : WM} (hL : RLa G M ad gi w) (hR : mi_row M) (hS : mi_size M) {r sort k : Int32} (hr : bt r 0 7) (hs : bt sort 1 2) : rw_ref (iSr M ad) (iNr M ad) (cR M ad) r sort k = if mo_ag M (M.2.2 1 r.toNatClampNeg) sort k = 0 then (0, none) else ((-10) - mo_ag M (M.2.2 1 r.toNatClampNeg) sort k, some (mo_ag M (M.2.2 1 r.toNatClampNeg) sort k)) := by
  unfold rw_ref
  rw [if_pos hr, if_pos (bt_12 hs), rf_ag hL hR hS hr]
theorem n10_0 {M : MS} {a sort k : Int32} (h : ¬ mo_ag M a sort k = 0) : ¬ (-10) - mo_ag M a sort k = 0 := by
  rcases ag_4 (M := M) (a := a) (sort := sort) (k := k) with z | z | z | z
  · exact absurd z h
  · rw [z]; decide
  · rw [z]; decide
  · rw [z]; decide
theorem dec_num {so x : Int32} (h : so = 1 ∨ so = 2) : dec so x = x := by rcases h with h | h <;> rw [h] <;> rfl
/-- what a number's place is -/
theorem ag_pl {M : MS} (hR : mi_row M) (hS : mi_size M) {r sort k : Int32} (hr : bt r 0 7) (h : mo_ag M (M.2.2 1 r.toNatClampNeg) sort k = 0) : usd M (M.2.2 1 r.toNatClampNeg).toNatClampNeg ∧ k.toNatClampNeg < (M.2.2 3 (M.2.2 1 r.toNatClampNeg).toNatClampNeg).toNatClampNeg ∧ ((40 : Int32) * (M.2.2 1 r.toNatClampNeg) + k - 40).toNatClampNeg = 40 * (M.2.2 1 r.toNatClampNeg).toNatClampNeg + k.toNatClampNeg - 40 := by
  have hk8 : r.toNatClampNeg < 8 := cl_lt hr (by decide) (by decide)
  obtain ⟨h0, h1, h2⟩ := ag_z h
  have a := bt_iff.mp (hR _ hk8)
  have h3 : (M.2.2 1 r.toNatClampNeg).toInt ≠ 0 := fun z => h0 ((i32_eq _ 0).mpr z)
  have s := bt_iff.mp (sz_row hR hS hk8)
  have b := bt_iff.mp h2
  have t := ti_sub (a := M.2.2 3 (M.2.2 1 r.toNatClampNeg).toNatClampNeg) (b := 1) (y := 1) rfl rfl (by omega)
  have c1 := cl_toInt (x := k) (by omega)
  have c2 := cl_toInt s.1
  exact ⟨row_usd hR hk8 h0, by omega, ix_40 (bt_iff.mpr ⟨by omega, by omega⟩) (bt_iff.mpr ⟨by omega, by omega⟩)⟩
theorem rX10_set (G : GG) (l : Launch) (M : MS) (ad : AD) (gi : GI) (w : WM) (hL : RLa G M ad gi w) (hR : mi_row M) (hS : mi_size M) (r sort k x : Int32) : MC G l yX10_set cX10_set 6 ((Option.some .int)) ({ frames := 3, cells := 0, slots := 0, locals := 67 } : Room) [.ref (ad 0 0), .int r, .int sort, .int k, .int x] w (fun v w' => v = some (.int (mo_set M r sort k x).1) ∧ ∃ ad' gi', RLa G (mo_set M r sort k x).2 ad' gi' w' ∧ ad' 0 0 = ad 0 0) := by
  refine mc_imp (kX10_set G l w (ad 0 0) _ _ _ _ _ _ _ _ _ _ _ _ _ (hL.1 0 0 (lvf 0 (by decide))) (cR M ad) (hL.1 1 0 (lvf 1 (by decide))) _ _ _ _ (it_all hL hR) (iN_40 hS) r sort k x) ?_
  rintro v w' ⟨h1, h2⟩
  unfold mo_set
  by_cases hr : bt r 0 7 = true
  · rw [if_pos hr]
    by_cases hs : bt sort 1 2 = true
    · rw [if_pos hs]
      rw [rr_1 hL hR hS hr hs] at h1 h2
      by_cases h0 : mo_ag M (M.2.2 1 r.toNatClampNeg) sort k = 0
      · rw [if_pos (show mo_ag (sI M 0 0) (M.2.2 1 r.toNatClampNeg) sort k ≤ 0 from ag_le.mpr h0)]
        rw [if_pos h0] at h1 h2
        obtain ⟨a, ha, hv, hw⟩ := h2 rfl
        obtain ⟨p1, p2, p3⟩ := ag_pl hR hS hr h0
        rw [cR_k (cl_lt hr (by decide) (by decide))] at ha
        obtain ⟨hz, rfl⟩ := rIA_some ha
        unfold iVr iNr iFr at hw
        rw [iU_eq hL p1] at hw
        obtain ⟨_, q2, _⟩ := ag_z h0
        have q3 : M.2.2 2 (M.2.2 1 r.toNatClampNeg).toNatClampNeg = 1 ∨ M.2.2 2 (M.2.2 1 r.toNatClampNeg).toNatClampNeg = 2 := by
          rcases q2 with q | ⟨q, _⟩
          · rw [q]; exact bt_12 hs
          · rw [q] at hs; exact absurd hs (by decide)
        exact ⟨hv, ad, gi, rl_4 hL hS p1 p2 p3 (dec_num q3).symm hw, rfl⟩
      · rw [if_neg (show ¬ mo_ag (sI M 0 0) (M.2.2 1 r.toNatClampNeg) sort k ≤ 0 from fun z => h0 (ag_le.mp z))]
        rw [if_neg h0] at h1
        obtain ⟨hv, hw⟩ := h1 (n10_0 h0)
        exact ⟨hv, ad, gi, rl_5 hL hw, rfl⟩
    · rw [if_neg hs]
      have e : rw_ref (iSr M ad) (iNr M ad) (cR M ad) r sort k = (-3, none) := by unfold rw_ref; rw [if_pos hr, if_neg (fun z => hs (bt_12' z))]
      rw [e] at h1
      obtain ⟨hv, hw⟩ := h1 (by decide)
      exact ⟨hv, ad, gi, (by rw [hw]; exact rl_0 hL), rfl⟩
  · rw [if_neg hr]
    have e : rw_ref (iSr M ad) (iNr M ad) (cR M ad) r sort k = (-2, none) := by unfold rw_ref; rw [if_neg hr]
    rw [e] at h1
    obtain ⟨hv, hw⟩ := h1 (by decide)
    exact ⟨hv, ad, gi, (by rw [hw]; exact rl_0 hL), rfl⟩
theorem i64_tr {x : Int32} (h : x = 0 ∨ x = 1 ∨ x = 2 ∨ x = 3) : (-9223372036854775808 : Int64) - ((-10) - x).toInt64 = (-9223372036854775798) + x.toInt64 := by
  rcases h with h | h | h | h <;> rw [h] <;> rfl
theorem rX10_item (G : GG) (l : Launch) (M : MS) (ad : AD) (gi : GI) (w : WM) (hL : RLa G M ad gi w) (hR : mi_row M) (hS : mi_size M) (r sort k : Int32) : MC G l yX10_item cX10_item 5 ((Option.some .long)) ({ frames := 3, cells := 0, slots := 0, locals := 67 } : Room) [.ref (ad 0 0), .int r, .int sort, .int k] w (fun v w' => v = some (.long (mo_item M r sort k).1) ∧ ∃ ad' gi', RLa G (mo_item M r sort k).2 ad' gi' w' ∧ ad' 0 0 = ad 0 0) := by
  refine mc_imp (kX10_item G l w (ad 0 0) _ _ _ _ _ _ _ _ _ _ _ _ _ (hL.1 0 0 (lvf 0 (by decide))) (cR M ad) (hL.1 1 0 (lvf 1 (by decide))) _ _ _ _ (it_all hL hR) (iN_40 hS) r sort k) ?_
  rintro v w' ⟨h1, h2⟩
  unfold mo_item
  unfold rw_item at h1
  by_cases hr : bt r 0 7 = true
  · rw [if_pos hr]
    by_cases hs : bt sort 1 2 = true
    · rw [if_pos hs]
      rw [rr_1 hL hR hS hr hs] at h1 h2
      by_cases h0 : mo_ag M (M.2.2 1 r.toNatClampNeg) sort k = 0
      · rw [if_pos (show mo_ag (sI M 0 0) (M.2.2 1 r.toNatClampNeg) sort k ≤ 0 from ag_le.mpr h0)]
        rw [if_pos h0] at h1 h2
        obtain ⟨p1, p2, p3⟩ := ag_pl hR hS hr h0
        obtain ⟨q1, q2, _⟩ := ag_z h0
        rw [if_pos rfl, cR_k (cl_lt hr (by decide) (by decide)), rIA_nz q1] at h1
        have e : iFr M ad (ad 11 (M.2.2 1 r.toNatClampNeg).toNatClampNeg) k.toNatClampNeg = M.2.2 4 ((40 : Int32) * (M.2.2 1 r.toNatClampNeg) + k - 40).toNatClampNeg := by
          unfold iFr
          rw [iU_eq hL p1, p3]
          unfold cArr
          rw [if_pos p2]
          refine dec_num ?_
          rcases q2 with q | ⟨q, _⟩
          · rw [q]; exact bt_12 hs
          · rw [q] at hs; exact absurd hs (by decide)
        refine ⟨h1.trans (by rw [← e]; rfl), ad, gi, ?_, rfl⟩
        rw [h2]
        exact rl_0 hL
      · rw [if_neg (show ¬ mo_ag (sI M 0 0) (M.2.2 1 r.toNatClampNeg) sort k ≤ 0 from fun z => h0 (ag_le.mp z))]
        rw [if_neg h0] at h1 h2
        rw [if_neg (n10_0 h0)] at h1
        exact ⟨h1.trans (congrArg (fun z => some (Value.long z)) (i64_tr ag_4)), ad, gi, rl_5 hL h2, rfl⟩
    · rw [if_neg hs]
      have e : rw_ref (iSr M ad) (iNr M ad) (cR M ad) r sort k = (-3, none) := by unfold rw_ref; rw [if_pos hr, if_neg (fun z => hs (bt_12' z))]
      rw [e] at h1 h2
      exact ⟨h1, ad, gi, (by rw [h2]; exact rl_0 hL), rfl⟩
  · rw [if_neg hr]
    have e : rw_ref (iSr M ad) (iNr M ad) (cR M ad) r sort k = (-2, none) := by unfold rw_ref; rw [if_neg hr]
    rw [e] at h1 h2
    exact ⟨h1, ad, gi, (by rw [h2]; exact rl_0 hL), rfl⟩
theorem dec_ref {so x : Int32} (h : so = 3 ∨ so = 4) : dec so x = x - 1 := by rcases h with h | h <;> rw [h] <;> rfl
theorem sub1_m {x : Int32} : x - 1 = -1 ↔ x = 0 := by
  constructor
  · intro h
    have : x - 1 + 1 = -1 + 1 := by rw [h]
    rw [Int32.sub_add_cancel] at this
    exact this
  · intro h; rw [h]; rfl
theorem so_34 {M : MS} {a k : Int32} (h : mo_ag M a 3 k = 0) : M.2.2 2 a.toNatClampNeg = 3 ∨ M.2.2 2 a.toNatClampNeg = 4 := by
  rcases (ag_z h).2.1 with q | ⟨_, q⟩
  · exact Or.inl q
  · exact Or.inr q
theorem rX10_held (G : GG) (l : Launch) (M : MS) (ad : AD) (gi : GI) (w : WM) (hL : RLa G M ad gi w) (hR : mi_row M) (hS : mi_size M) (r k : Int32) : MC G l yX10_held cX10_held 6 ((Option.some .int)) ({ frames := 2, cells := 0, slots := 0, locals := 43 } : Room) [.ref (ad 0 0), .int r, .int k] w (fun v w' => v = some (.int (mo_held M r k).1) ∧ ∃ ad' gi', RLa G (mo_held M r k).2 ad' gi' w' ∧ ad' 0 0 = ad 0 0) := by
  refine mc_imp (kX10_held G l w (ad 0 0) _ _ _ _ _ _ _ _ _ _ _ _ _ (hL.1 0 0 (lvf 0 (by decide))) (cR M ad) (hL.1 1 0 (lvf 1 (by decide))) _ _ _ _ (it_all hL hR) (iN_40 hS) r k) ?_
  rintro v w' ⟨h1, h2⟩
  unfold mo_held
  unfold rw_held at h1 h2
  by_cases hr : bt r 0 7 = true
  · rw [if_pos hr]
    rw [if_pos hr, rf_ag hL hR hS hr] at h1 h2
    have eh : mo_h M r k = if mo_ag M (M.2.2 1 r.toNatClampNeg) 3 k = 0 ∧ M.2.2 4 ((40 : Int32) * (M.2.2 1 r.toNatClampNeg) + k - 40).toNatClampNeg = 0 then 1 else mo_ag M (M.2.2 1 r.toNatClampNeg) 3 k := rfl
    by_cases h0 : mo_ag M (M.2.2 1 r.toNatClampNeg) 3 k = 0
    · rw [if_pos h0] at h1 h2
      obtain ⟨p1, p2, p3⟩ := ag_pl hR hS hr h0
      obtain ⟨q1, q2, _⟩ := ag_z h0
      have e : iFr M ad ((cR M ad r.toNatClampNeg).getD 0) k.toNatClampNeg = M.2.2 4 ((40 : Int32) * (M.2.2 1 r.toNatClampNeg) + k - 40).toNatClampNeg - 1 := by
        rw [cR_k (cl_lt hr (by decide) (by decide)), rIA_nz q1]
        show iFr M ad (ad 11 _) k.toNatClampNeg = _
        unfold iFr
        rw [iU_eq hL p1, p3]
        unfold cArr
        rw [if_pos p2]
        exact dec_ref (so_34 h0)
      rw [e] at h1 h2
      by_cases hz : M.2.2 4 ((40 : Int32) * (M.2.2 1 r.toNatClampNeg) + k - 40).toNatClampNeg = 0
      · rw [if_pos (sub1_m.mpr hz)] at h1 h2
        rw [if_pos ⟨h0, hz⟩] at eh
        rw [eh, if_neg (by decide)]
        exact ⟨h1, ad, gi, rl_5 hL h2, rfl⟩
      · rw [if_neg (fun z => hz (sub1_m.mp z))] at h1 h2
        rw [if_neg (fun z => hz z.2), h0] at eh
        rw [eh, if_pos (by decide)]
        exact ⟨h1, ad, gi, (by rw [h2]; exact rl_0 hL), rfl⟩
    · rw [if_neg h0] at h1 h2
      rw [if_neg (fun z => h0 z.1)] at eh
      rw [eh, if_neg (fun z => h0 (ag_le.mp z))]
      exact ⟨h1, ad, gi, rl_5 hL h2, rfl⟩
  · rw [if_neg hr]
    rw [if_neg hr] at h1 h2
    exact ⟨h1, ad, gi, (by rw [h2]; exact rl_0 hL), rfl⟩
theorem rfs_all {G : GG} {M : MS} {ad : AD} {gi : GI} {w : WM} (hL : RLa G M ad gi w) : ∀ k : Nat, (k : Int) < (M.1 29).toInt → cF M ad k = some (ad 17 k) ∧ w (ad 17 k) = some (.inr (8, [.int (M.2.2 30 k), .ref (if M.2.2 33 k = 0 then ad 18 k else gK G 1), .int (M.2.2 33 k), .ref (ad 15 (M.2.2 34 k).toNatClampNeg)])) := fun k hk => ⟨if_pos hk, hL.1 17 k hk⟩
/-- temporary or not: 0 or 1 -/
def mi_tmp (M : MS) : Prop := ∀ k, M.2.2 33 k = 0 ∨ M.2.2 33 k = 1
theorem ms_mo {M : MS} {so ref : Int32} (hT : mi_tmp M) (hr : ref = -1 ∨ bt ref 0 (M.1 29 - 1).toInt = true) : ms_ (M.1 29) (M.2.2 33) so ref = 0 ↔ so = 4 ∧ 0 ≤ ref ∧ M.2.2 33 ref.toNatClampNeg = 0 := by
  unfold ms_
  by_cases h4 : so = 4
  · rw [if_pos h4]
    rcases hr with hr | hr
    · rw [hr]
      have hb : ¬ bt (-1) 0 (M.1 29 - 1).toInt = true := fun z => absurd (bt_iff.mp z).1 (by decide)
      rw [if_neg hb]
      exact ⟨fun z => absurd z (by decide), fun z => absurd z.2.1 (by decide)⟩
    · rw [if_pos hr]
      exact ⟨fun z => ⟨h4, (by rw [i32_le]; exact (bt_iff.mp hr).1), z⟩, fun z => z.2.2⟩
  · rw [if_neg h4]
    exact ⟨fun z => absurd z (by decide), fun z => absurd z.1 h4⟩
theorem add1_sub {x : Int32} : x = x + 1 - 1 := by rw [Int32.add_sub_cancel]
theorem rX10_hold (G : GG) (l : Launch) (M : MS) (ad : AD) (gi : GI) (w : WM) (hL : RLa G M ad gi w) (hR : mi_row M) (hS : mi_size M) (hT : mi_tmp M) (hrc : mi_refs M) (r k ref : Int32) : MC G l yX10_hold cX10_hold 6 ((Option.some .int)) ({ frames := 3, cells := 0, slots := 0, locals := 65 } : Room) [.ref (ad 0 0), .int r, .int k, .int ref] w (fun v w' => v = some (.int (mo_hold M r k ref).1) ∧ ∃ ad' gi', RLa G (mo_hold M r k ref).2 ad' gi' w' ∧ ad' 0 0 = ad 0 0) := by
  refine mc_imp (kX10_hold G l w (ad 0 0) _ _ _ _ _ _ _ _ _ _ _ _ _ (hL.1 0 0 (lvf 0 (by decide))) (cR M ad) (hL.1 1 0 (lvf 1 (by decide))) _ _ _ _ (it_all hL hR) (iN_40 hS) (cF M ad) (hL.1 4 0 (lvf 4 (by decide))) _ _ _ _ _ hT hrc (rfs_all hL) r k ref) ?_
  intro v w' h
  unfold mo_hold
  rcases h with ⟨h0, hv, hw⟩ | ⟨⟨hr, hf⟩, h⟩
  · by_cases hr : bt r 0 7 = true
    · rw [if_pos hr, if_neg (fun z => h0 ⟨hr, z⟩)]
      exact ⟨hv, ad, gi, (by rw [hw]; exact rl_0 hL), rfl⟩
    · rw [if_neg hr]
      exact ⟨hv, ad, gi, (by rw [hw]; exact rl_0 hL), rfl⟩
  · rw [if_pos hr, if_pos hf]
    have eg : rw_hf (M.1 29) (M.2.2 33) (iSr M ad) (iNr M ad) (cR M ad) r k ref = mo_g M r k ref := by
      unfold rw_hf
      rw [rf_ag hL hR hS hr]
      show _ = if mo_ag M (M.2.2 1 r.toNatClampNeg) 3 k = 0 ∧ M.2.2 2 (M.2.2 1 r.toNatClampNeg).toNatClampNeg = 4 ∧ 0 ≤ ref ∧ M.2.2 33 ref.toNatClampNeg = 0 then 5 else mo_ag M (M.2.2 1 r.toNatClampNeg) 3 k
      by_cases h0 : mo_ag M (M.2.2 1 r.toNatClampNeg) 3 k = 0
      · rw [if_pos h0]
        obtain ⟨p1, p2, p3⟩ := ag_pl hR hS hr h0
        obtain ⟨q1, q2, _⟩ := ag_z h0
        have e : iSr M ad ((cR M ad r.toNatClampNeg).getD 0) = M.2.2 2 (M.2.2 1 r.toNatClampNeg).toNatClampNeg := by
          rw [cR_k (cl_lt hr (by decide) (by decide)), rIA_nz q1]
          show iSr M ad (ad 11 _) = _
          unfold iSr
          rw [iU_eq hL p1]
        rw [e]
        by_cases hm : ms_ (M.1 29) (M.2.2 33) (M.2.2 2 (M.2.2 1 r.toNatClampNeg).toNatClampNeg) ref = 0
        · rw [if_pos hm, if_pos ⟨h0, (ms_mo hT hf).mp hm⟩]
        · rw [if_neg hm, if_neg (fun z => hm ((ms_mo hT hf).mpr z.2)), h0]
      · rw [if_neg h0, if_neg (fun z => h0 z.1)]
    rw [eg] at h
    have g5 : mo_g M r k ref ≤ 0 ↔ mo_g M r k ref = 0 := by
      unfold mo_g
      split
      · decide
      · exact ag_le
    rcases h with ⟨h0, hv, hw⟩ | ⟨h0, hv, a, ha, hw⟩
    · rw [if_neg (fun z => h0 (g5.mp z))]
      exact ⟨hv, ad, gi, rl_5 hL hw, rfl⟩
    · rw [if_pos (g5.mpr h0)]
      have hz : mo_ag M (M.2.2 1 r.toNatClampNeg) 3 k = 0 := by
        unfold mo_g at h0
        split at h0
        · exact absurd h0 (by decide)
        · exact h0
      obtain ⟨p1, p2, p3⟩ := ag_pl hR hS hr hz
      rw [cR_k (cl_lt hr (by decide) (by decide))] at ha
      obtain ⟨_, rfl⟩ := rIA_some ha
      unfold iVr iNr iFr at hw
      rw [iU_eq hL p1] at hw
      exact ⟨hv, ad, gi, rl_4 hL hS p1 p2 p3 (by rw [dec_ref (so_34 hz)]; exact add1_sub) hw, rfl⟩
/-! a new array -/
theorem php : ∀ (m n : Nat) (f : Nat → Nat), (∀ i, i < n → f i < m) → (∀ i j, i < n → j < n → f i = f j → i = j) → n ≤ m
  | 0, n, f, h, _ => by
    cases n with
    | zero => exact Nat.le_refl 0
    | succ n => exact absurd (h 0 (by omega)) (by omega)
  | m + 1, n, f, h, hi => by
    cases n with
    | zero => omega
    | succ n =>
      have := php m n (fun i => if f i = m then f n else f i) ?_ ?_
      · omega
      · intro i h1
        have a := h i (by omega)
        have b := h n (by omega)
        show (if f i = m then f n else f i) < m
        split
        · rename_i e
          have : f n ≠ m := fun z => by have := hi i n (by omega) (by omega) (by omega); omega
          omega
        · omega
      · intro i j h1 h2 he
        have he : (if f i = m then f n else f i) = (if f j = m then f n else f j) := he
        split at he
        · rename_i e1
          split at he
          · rename_i e2
            exact hi i j (by omega) (by omega) (by omega)
          · have := hi n j (by omega) (by omega) he
            omega
        · split at he
          · have := hi i n (by omega) (by omega) he
            omega
          · exact hi i j (by omega) (by omega) he
theorem fa_free (M : MS) : 1 ≤ mo_fa M ∧ mo_fa M ≤ 17 ∧ uA M (nI (mo_fa M)) 8 = false := by
  unfold mo_fa
  cases h : (List.range 17).find? (fun a => !(uA M (nI (a + 1)) 8)) with
  | some k =>
    have h1 := List.find?_some h
    have h2 := List.mem_range.mp (List.mem_of_find?_eq_some h)
    show 1 ≤ k + 1 ∧ k + 1 ≤ 17 ∧ uA M (nI (k + 1)) 8 = false
    refine ⟨by omega, by omega, ?_⟩
    rwa [Bool.not_eq_true'] at h1
  | none =>
    exfalso
    have h1 := List.find?_eq_none.mp h
    have h2 : ∀ a, a < 17 → ∃ k, k < 16 ∧ ((k < 8 ∧ M.2.2 1 k = nI (a + 1)) ∨ (8 ≤ k ∧ M.2.2 15 (k - 8) = nI (a + 1))) := by
      intro a ha
      have h3 := h1 a (List.mem_range.mpr ha)
      rw [Bool.not_eq_true, Bool.not_eq_false'] at h3
      obtain ⟨k, hk, h4⟩ := uA_iff.mp h3
      rcases h4 with h4 | ⟨_, _, h4⟩
      · exact ⟨k, by omega, Or.inl ⟨hk, h4⟩⟩
      · exact ⟨k + 8, by omega, Or.inr ⟨by omega, by rw [Nat.add_sub_cancel]; exact h4⟩⟩
    have h3 : ∀ a, ∃ k, a < 17 → k < 16 ∧ ((k < 8 ∧ M.2.2 1 k = nI (a + 1)) ∨ (8 ≤ k ∧ M.2.2 15 (k - 8) = nI (a + 1))) := by
      intro a
      by_cases ha : a < 17
      · obtain ⟨k, hk⟩ := h2 a ha
        exact ⟨k, fun _ => hk⟩
      · exact ⟨0, fun z => absurd z ha⟩
    obtain ⟨f, hf⟩ := Classical.axiomOfChoice h3
    have := php 16 17 f (fun i hi => (hf i hi).1) ?_
    · omega
    · intro i j hi hj he
      have a := (hf i hi).2
      have b := (hf j hj).2
      rw [← he] at b
      have e : nI (i + 1) = nI (j + 1) := by
        rcases a with ⟨a1, a2⟩ | ⟨a1, a2⟩ <;> rcases b with ⟨b1, b2⟩ | ⟨b1, b2⟩
        · exact a2.symm.trans b2
        · omega
        · omega
        · exact a2.symm.trans b2
      have := (i32_eq _ _).mp e
      rw [nI_toInt (by omega), nI_toInt (by omega)] at this
      omega
def adu (ad : AD) (t i a : Nat) : AD := fun t' i' => if t' = t then (if i' = i then a else ad t' i') else ad t' i'
theorem adu_s {ad : AD} {t i a : Nat} : adu ad t i a t i = a := by unfold adu; rw [if_pos rfl, if_pos rfl]
theorem adu_n {ad : AD} {t i j a : Nat} (h : j ≠ i) : adu ad t i a t j = ad t j := by unfold adu; rw [if_pos rfl, if_neg h]
theorem rl_add {G : GG} {M M' : MS} {ad ad' : AD} {gi gi' : GI} {w w' : WM} (hL : RLa G M ad gi w) (N S L : List (Nat × Nat))
    (hnew : ∀ p ∈ N, w (ad' p.1 p.2) = none) (hinj : ∀ p ∈ N, ∀ p' ∈ N, ad' p.1 p.2 = ad' p'.1 p'.2 → p = p')
    (hS : ∀ p ∈ S, rdo p.1 = true ∧ ∃ t0 i0, lvT M t0 i0 ∧ rdo t0 = true ∧ ad' p.1 p.2 = ad t0 i0)
    (hold : ∀ t i, lvT M' t i → (t, i) ∉ N → (t, i) ∉ S → lvT M t i ∧ ad' t i = ad t i)
    (hLl : ∀ p ∈ L, lvT M p.1 p.2 ∧ rdo p.1 = false)
    (hw : ∀ b, (∀ p ∈ N, b ≠ ad' p.1 p.2) → (∀ p ∈ L, b ≠ ad p.1 p.2) → w' b = w b)
    (hc : ∀ t i, lvT M' t i → (t, i) ∉ N → (t, i) ∉ S → (t, i) ∉ L → cel G M' ad' gi' t i = cel G M ad gi t i)
    (heN : ∀ p ∈ N, lvT M' p.1 p.2 → w' (ad' p.1 p.2) = some (cel G M' ad' gi' p.1 p.2))
    (heS : ∀ p ∈ S, lvT M' p.1 p.2 → w' (ad' p.1 p.2) = some (cel G M' ad' gi' p.1 p.2))
    (heL : ∀ p ∈ L, p ∉ N → p ∉ S → lvT M' p.1 p.2 → w' (ad p.1 p.2) = some (cel G M' ad' gi' p.1 p.2))
    (hs : sdS M' gi') : RLa G M' ad' gi' w' := by
  have fresh : ∀ p ∈ N, ∀ t i, lvT M t i → ad' p.1 p.2 ≠ ad t i := by
    intro p hp t i hl z
    have h1 := hnew p hp
    rw [z, hL.1 t i hl] at h1
    cases h1
  refine ⟨fun t i hl => ?_, ?_, hs⟩
  · by_cases hN : (t, i) ∈ N
    · exact heN (t, i) hN hl
    · by_cases hSs : (t, i) ∈ S
      · exact heS (t, i) hSs hl
      · obtain ⟨h1, h2⟩ := hold t i hl hN hSs
        rw [h2]
        by_cases hLL : (t, i) ∈ L
        · exact heL (t, i) hLL hN hSs hl
        · rw [hw _ (fun p hp z => fresh p hp t i h1 z.symm) (fun p hp => rl_ne hL h1 (hLl p hp).1 (Or.inr (hLl p hp).2) (fun z => hLL (by rw [z.1, z.2]; exact hp))), hL.1 t i h1, hc t i hl hN hSs hLL]
  · intro t i t' i' hl hl' he
    by_cases hN : (t, i) ∈ N
    · by_cases hN' : (t', i') ∈ N
      · have := hinj (t, i) hN (t', i') hN' he
        exact Or.inl ⟨congrArg Prod.fst this, congrArg Prod.snd this⟩
      · exfalso
        by_cases hS' : (t', i') ∈ S
        · obtain ⟨_, t0, i0, h0, _, h3⟩ := hS (t', i') hS'
          exact fresh (t, i) hN t0 i0 h0 (he.trans h3)
        · obtain ⟨h1, h2⟩ := hold t' i' hl' hN' hS'
          exact fresh (t, i) hN t' i' h1 (he.trans h2)
    · by_cases hN' : (t', i') ∈ N
      · exfalso
        by_cases hS1 : (t, i) ∈ S
        · obtain ⟨_, t0, i0, h0, _, h3⟩ := hS (t, i) hS1
          exact fresh (t', i') hN' t0 i0 h0 (he.symm.trans h3)
        · obtain ⟨h1, h2⟩ := hold t i hl hN hS1
          exact fresh (t', i') hN' t i h1 (he.symm.trans h2)
      · by_cases hS1 : (t, i) ∈ S
        · obtain ⟨r1, t0, i0, h0, r0, h3⟩ := hS (t, i) hS1
          by_cases hS' : (t', i') ∈ S
          · exact Or.inr ⟨r1, (hS (t', i') hS').1⟩
          · obtain ⟨h1, h2⟩ := hold t' i' hl' hN' hS'
            rcases hL.2.1 t0 i0 t' i' h0 h1 (h3.symm.trans (he.trans h2)) with z | z
            · exact Or.inr ⟨r1, by rw [← z.1]; exact r0⟩
            · exact Or.inr ⟨r1, z.2⟩
        · obtain ⟨h1, h2⟩ := hold t i hl hN hS1
          by_cases hS' : (t', i') ∈ S
          · obtain ⟨r1, t0, i0, h0, r0, h3⟩ := hS (t', i') hS'
            rcases hL.2.1 t i t0 i0 h1 h0 (h2.symm.trans (he.trans h3)) with z | z
            · exact Or.inr ⟨by rw [z.1]; exact r0, r1⟩
            · exact Or.inr ⟨z.1, r1⟩
          · obtain ⟨h3, h4⟩ := hold t' i' hl' hN' hS'
            exact hL.2.1 t i t' i' h1 h3 (h2.symm.trans (he.trans h4))
theorem nomem {t i : Nat} : (t, i) ∉ ([] : List (Nat × Nat)) := fun z => by cases z
theorem it_fill_eq : ∀ (N : Nat), N ≤ 40 → ∀ j, it_fill N j = if j < N then -1 else 0
  | 0, _, j => by rw [if_neg (by omega)]; rfl
  | N + 1, h, j => by
    show upd (it_fill N) (nI N).toNatClampNeg (-1) j = _
    rw [nI_clamp (by omega)]
    unfold upd
    by_cases hj : j = N
    · rw [if_pos hj, if_pos (by omega)]
    · rw [if_neg hj, it_fill_eq N (by omega) j]
      by_cases h2 : j < N
      · rw [if_pos h2, if_pos (by omega)]
      · rw [if_neg h2, if_neg (by omega)]
def fz (M : MS) (u j : Nat) : Nat → Int32 := fun x => if 40 * u - 40 ≤ x ∧ x < 40 * u - 40 + j then 0 else M.2.2 4 x
theorem fill_eq {N : MS} {u : Nat} (h1 : 1 ≤ u) (h2 : u ≤ 24) : ∀ j, j ≤ 40 → mo_fill N (nI u) j = sA N 4 (fz N u j)
  | 0, _ => by
    have e : fz N u 0 = N.2.2 4 := by
      funext x
      unfold fz
      rw [if_neg (by omega)]
    rw [e]
    refine Prod.ext rfl (Prod.ext rfl (funext fun k => ?_))
    show N.2.2 k = va_up N.2.2 4 (N.2.2 4) k
    unfold va_up
    split
    · rename_i h; rw [h]
    · rfl
  | j + 1, h => by
    show sF (mo_fill N (nI u) j) 4 _ 0 = _
    rw [fill_eq h1 h2 j (by omega), ix_40 ((bt_nI (by omega)).mpr ⟨by omega, by omega⟩) ((bt_nI (by omega)).mpr ⟨by omega, by omega⟩), nI_clamp (by omega), nI_clamp (by omega)]
    refine Prod.ext rfl (Prod.ext rfl (funext fun k => ?_))
    show va_up (va_up N.2.2 4 (fz N u j)) 4 (upd (va_up N.2.2 4 (fz N u j) 4) (40 * u + j - 40) 0) k = va_up N.2.2 4 (fz N u (j + 1)) k
    unfold va_up
    by_cases hk : k = 4
    · rw [if_pos hk, if_pos hk, if_pos rfl]
      funext x
      unfold upd fz
      by_cases hx : x = 40 * u + j - 40
      · rw [if_pos hx, if_pos (by omega)]
      · rw [if_neg hx]
        by_cases hy : 40 * u - 40 ≤ x ∧ x < 40 * u - 40 + j
        · rw [if_pos hy, if_pos (by omega)]
        · rw [if_neg hy, if_neg (by omega)]
    · rw [if_neg hk, if_neg hk, if_neg hk]
def MR (M : MS) (r u : Nat) (so n : Int32) : MS := sF (sA (sF (sF (sI M 0 0) 2 u so) 3 u n) 4 (fz M u 40)) 1 r (nI u)
theorem MR_2 {M : MS} {r u i : Nat} {so n : Int32} (h : i ≠ u) : (MR M r u so n).2.2 2 i = M.2.2 2 i := if_neg h
theorem MR_3 {M : MS} {r u i : Nat} {so n : Int32} (h : i ≠ u) : (MR M r u so n).2.2 3 i = M.2.2 3 i := if_neg h
theorem MR_2s {M : MS} {r u : Nat} {so n : Int32} : (MR M r u so n).2.2 2 u = so := if_pos rfl
theorem MR_3s {M : MS} {r u : Nat} {so n : Int32} : (MR M r u so n).2.2 3 u = n := if_pos rfl
theorem MR_A {M : MS} {r u i : Nat} {so n : Int32} (hS : mi_size M) (hu : 1 ≤ u) (hi : 1 ≤ i) (hi2 : i ≤ 24) (h : i ≠ u) : cArr (MR M r u so n) i = cArr M i := by
  funext j
  unfold cArr
  rw [MR_2 h, MR_3 h]
  split
  · rename_i hj
    have h := bt_iff.mp (hS i (by omega))
    have := cl_toInt h.1
    show dec _ (fz M u 40 (40 * i + j - 40)) = _
    unfold fz
    rw [if_neg (by omega)]
  · rfl
theorem MR_As {M : MS} {r u : Nat} {so n : Int32} (hso : bt so 1 4) (hn : bt n 0 40) (hu : 1 ≤ u) : cArr (MR M r u so n) u = it_new so n.toNatClampNeg := by
  have h := bt_iff.mp hn
  have h2 := cl_toInt h.1
  funext j
  unfold cArr it_new
  rw [MR_2s, MR_3s]
  by_cases hs : so = 3 ∨ so = 4
  · rw [if_pos hs, it_fill_eq _ (by omega)]
    by_cases hj : j < n.toNatClampNeg
    · rw [if_pos hj, if_pos hj, dec_ref hs]
      show fz M u 40 (40 * u + j - 40) - 1 = -1
      unfold fz
      rw [if_pos (by omega)]
      rfl
    · rw [if_neg hj, if_neg hj]
  · rw [if_neg hs]
    by_cases hj : j < n.toNatClampNeg
    · rw [if_pos hj]
      have hd : so = 1 ∨ so = 2 := by
        have b := bt_iff.mp hso
        have h3 : so.toInt ≠ 3 := fun z => hs (Or.inl ((i32_eq _ 3).mpr z))
        have h4 : so.toInt ≠ 4 := fun z => hs (Or.inr ((i32_eq _ 4).mpr z))
        exact bt_12 (bt_iff.mpr ⟨b.1, by omega⟩)
      rw [dec_num hd]
      show fz M u 40 (40 * u + j - 40) = 0
      unfold fz
      rw [if_pos (by omega)]
    · rw [if_neg hj]
theorem nI_ne {a b : Nat} (ha : a < 2 ^ 31) (hb : b < 2 ^ 31) (h : a ≠ b) : nI a ≠ nI b := by
  intro z
  have := (i32_eq _ _).mp z
  rw [nI_toInt ha, nI_toInt hb] at this
  omega
theorem rl_row {G : GG} {M : MS} {ad : AD} {gi : GI} {w w' : WM} {r u q va : Nat} {so n : Int32} (hL : RLa G M ad gi w) (hR : mi_row M) (hA : mi_arr M) (hS : mi_size M) (hr : r < 8) (hu1 : 1 ≤ u) (hu2 : u ≤ 24) (hu : uA M (nI u) 8 = false) (hso : bt so 1 4) (hn : bt n 0 40) (hq : w q = none) (hva : w va = none) (hqv : q ≠ va) (h1 : w' (ad 1 0) = some (rA (gA G 4) 8 (va_up (cR M ad) r (some q)))) (h2 : w' q = some (.inr (4, [.int so, .ref va]))) (h3 : w' va = some (.inl (gA G 0, n.toNatClampNeg, .inl (it_new so n.toNatClampNeg)))) (h4 : ∀ b, b ≠ ad 1 0 → b ≠ q → b ≠ va → w' b = w b) : RLa G (MR M r u so n) (adu (adu ad 11 u q) 12 u va) gi w' := by
  have no : ∀ k, k < 8 → ¬ (M.2.2 1 k = nI u ∨ (0 < M.2.2 6 k ∧ M.2.2 8 k = 1 ∧ M.2.2 15 k = nI u)) := fun k hk z => by
    have := uA_iff.mpr ⟨k, hk, z⟩
    rw [hu] at this
    cases this
  have hlu : ∀ i, usd (MR M r u so n) i → i ≠ u → usd M i := by
    rintro i ⟨a1, a2, a3⟩ hi
    refine ⟨a1, a2, uA_iff.mpr ?_⟩
    obtain ⟨k, hk, h⟩ := uA_iff.mp a3
    rcases h with h | h
    · have h : upd (M.2.2 1) r (nI u) k = nI i := h
      unfold upd at h
      split at h
      · exact absurd h (nI_ne (by omega) (by omega) (Ne.symm hi))
      · exact ⟨k, hk, Or.inl h⟩
    · exact ⟨k, hk, Or.inr h⟩
  have e11 : (adu (adu ad 11 u q) 12 u va) 11 u = q := (adu_s : adu ad 11 u q 11 u = q)
  have e12 : (adu (adu ad 11 u q) 12 u va) 12 u = va := adu_s
  have n11 : ∀ i, i ≠ u → (adu (adu ad 11 u q) 12 u va) 11 i = ad 11 i := fun i hi => (adu_n hi : adu ad 11 u q 11 i = ad 11 i)
  have n12 : ∀ i, i ≠ u → (adu (adu ad 11 u q) 12 u va) 12 i = ad 12 i := fun i hi => adu_n (ad := adu ad 11 u q) hi
  have rI : ∀ x : Int32, 0 ≤ x.toInt → x ≠ nI u → rIA (adu (adu ad 11 u q) 12 u va) x = rIA ad x := by
    intro x hx hxu
    unfold rIA
    split
    · rfl
    · rw [n11]
      intro z
      exact hxu (by rw [← z, nI_cl hx])
  have nu0 : ¬ nI u = 0 := by
    intro z
    have := (i32_eq _ _).mp z
    rw [nI_toInt (by omega)] at this
    have e0 : (0 : Int32).toInt = 0 := rfl
    omega
  have eR : cR (MR M r u so n) (adu (adu ad 11 u q) 12 u va) = va_up (cR M ad) r (some q) := by
    funext k
    unfold cR va_up
    show (if k < 8 then rIA (adu (adu ad 11 u q) 12 u va) (upd (M.2.2 1) r (nI u) k) else none) = _
    unfold upd
    by_cases hk : k = r
    · rw [if_pos hk, if_pos hk, if_pos (by omega), rIA_nz nu0, nI_clamp (by omega), e11]
    · rw [if_neg hk, if_neg hk]
      show _ = if k < 8 then rIA ad (M.2.2 1 k) else none
      by_cases hk8 : k < 8
      · rw [if_pos hk8, if_pos hk8]
        exact rI _ (bt_iff.mp (hR k hk8)).1 (fun z => no k hk8 (Or.inl z))
      · rw [if_neg hk8, if_neg hk8]
  have eX : ∀ i, opn M i → cX (MR M r u so n) (adu (adu ad 11 u q) 12 u va) i = cX M ad i := by
    intro i hi
    show (if M.2.2 8 i = 0 then some (ad 14 i) else if M.2.2 8 i = 1 then rIA (adu (adu ad 11 u q) 12 u va) (M.2.2 15 i) else if M.2.2 8 i = 2 then some (ad 15 (M.2.2 16 i).toNatClampNeg) else some (ad 22 i)) = _
    unfold cX
    split
    · rfl
    · split
      · rename_i hk1
        exact rI _ (bt_iff.mp (hA i hi.1)).1 (fun z => no i hi.1 (Or.inr ⟨hi.2, hk1, z⟩))
      · rfl
  refine rl_add hL [(11, u), (12, u)] [] [(1, 0)] ?_ ?_ (fun p hp => by cases hp) (fun t i hl hn0 hn1 => by
    match t, hl, hn0, hn1 with
    | 0, hl, hn0, hn1 => exact ⟨hl, rfl⟩
    | 1, hl, hn0, hn1 => exact ⟨hl, rfl⟩
    | 2, hl, hn0, hn1 => exact ⟨hl, rfl⟩
    | 3, hl, hn0, hn1 => exact ⟨hl, rfl⟩
    | 4, hl, hn0, hn1 => exact ⟨hl, rfl⟩
    | 5, hl, hn0, hn1 => exact ⟨hl, rfl⟩
    | 6, hl, hn0, hn1 => exact ⟨hl, rfl⟩
    | 7, hl, hn0, hn1 => exact ⟨hl, rfl⟩
    | 8, hl, hn0, hn1 => exact ⟨hl, rfl⟩
    | 9, hl, hn0, hn1 => exact ⟨hl, rfl⟩
    | 10, hl, hn0, hn1 => exact ⟨hl, rfl⟩
    | 11, hl, hn0, hn1 => exact ⟨hlu i hl (fun z => hn0 (by rw [z]; simp)), n11 i (fun z => hn0 (by rw [z]; simp))⟩
    | 12, hl, hn0, hn1 => exact ⟨hlu i hl (fun z => hn0 (by rw [z]; simp)), n12 i (fun z => hn0 (by rw [z]; simp))⟩
    | 13, hl, hn0, hn1 => exact ⟨hl, rfl⟩
    | 14, hl, hn0, hn1 => exact ⟨hl, rfl⟩
    | 15, hl, hn0, hn1 => exact ⟨hl, rfl⟩
    | 16, hl, hn0, hn1 => exact ⟨hl, rfl⟩
    | 17, hl, hn0, hn1 => exact ⟨hl, rfl⟩
    | 18, hl, hn0, hn1 => exact ⟨hl, rfl⟩
    | 19, hl, hn0, hn1 => exact ⟨hl, rfl⟩
    | 20, hl, hn0, hn1 => exact ⟨hl, rfl⟩
    | 21, hl, hn0, hn1 => exact ⟨hl, rfl⟩
    | 22, hl, hn0, hn1 => exact ⟨hl, rfl⟩
    | 23, hl, hn0, hn1 => exact ⟨hl, rfl⟩
    | n + 24, hl, hn0, hn1 => exact absurd (show n + 24 ≤ 10 ∧ i = 0 from hl).1 (by omega)) ?_ ?_ (fun t i hl hn0 hn1 hn2 => by
    match t, hl, hn0, hn1, hn2 with
    | 0, _, _, _, _ => exact cc_0 rfl
    | 1, hl, hn0, hn1, hn2 => exact absurd (by rw [(show _ ∧ i = 0 from hl).2]; simp) hn2
    | 2, _, _, _, _ => exact cc_2 rfl
    | 3, _, _, _, _ => exact cc_3 rfl
    | 4, _, _, _, _ => exact cc_4 rfl
    | 5, _, _, _, _ => exact cc_5 rfl
    | 6, _, _, _, _ => exact cc_6 rfl
    | 7, _, _, _, _ => exact cc_7 rfl
    | 8, _, _, _, _ => exact cc_8 rfl
    | 9, _, _, _, _ => exact cc_9 rfl
    | 10, _, _, _, _ => exact cc_10 rfl
    | 11, hl, hn0, hn1, hn2 => (show (Sum.inr (4, [Value.int ((MR M r u so n).2.2 2 i), Value.ref ((adu (adu ad 11 u q) 12 u va) 12 i)]) : va_E) = Sum.inr (4, [Value.int (M.2.2 2 i), Value.ref (ad 12 i)]); rw [MR_2 (fun z => hn0 (by rw [z]; simp)), n12 i (fun z => hn0 (by rw [z]; simp))])
    | 12, hl, hn0, hn1, hn2 => (show (Sum.inl (gA G 0, ((MR M r u so n).2.2 3 i).toNatClampNeg, Sum.inl (cArr (MR M r u so n) i)) : va_E) = Sum.inl (gA G 0, (M.2.2 3 i).toNatClampNeg, Sum.inl (cArr M i)); rw [MR_3 (fun z => hn0 (by rw [z]; simp)), MR_A hS hu1 (show usd (MR M r u so n) i from hl).1 (show usd (MR M r u so n) i from hl).2.1 (fun z => hn0 (by rw [z]; simp))])
    | 13, hl, hn0, hn1, hn2 => (show sC (cSI M gi i) (sAd M ad (M.2.2 17 i)) (cX (MR M r u so n) (adu (adu ad 11 u q) 12 u va) i) = sC (cSI M gi i) (sAd M ad (M.2.2 17 i)) (cX M ad i); rw [eX i hl])
    | 14, _, _, _, _ => exact cc_14 rfl
    | 15, _, _, _, _ => exact cc_15 rfl
    | 16, _, _, _, _ => exact cc_16 rfl
    | 17, _, _, _, _ => exact cc_17 rfl
    | 18, _, _, _, _ => exact cc_18 rfl
    | 19, _, _, _, _ => exact cc_19 rfl
    | 20, _, _, _, _ => exact cc_20 rfl
    | 21, _, _, _, _ => exact cc_21 rfl
    | 22, _, _, _, _ => exact cc_22 rfl
    | 23, _, _, _, _ => exact cc_23 rfl
    | n + 24, hl, hn0, hn1, hn2 => exact absurd (show n + 24 ≤ 10 ∧ i = 0 from hl).1 (by omega)) ?_ (fun p hp => by cases hp) ?_ hL.2.2
  · intro p hp
    simp only [List.mem_cons, List.not_mem_nil, or_false] at hp
    rcases hp with rfl | rfl
    · show w ((adu (adu ad 11 u q) 12 u va) 11 u) = none
      rw [e11]; exact hq
    · show w ((adu (adu ad 11 u q) 12 u va) 12 u) = none
      rw [e12]; exact hva
  · intro p hp p' hp' he
    simp only [List.mem_cons, List.not_mem_nil, or_false] at hp hp'
    rcases hp with rfl | rfl <;> rcases hp' with rfl | rfl
    · rfl
    · have he : (adu (adu ad 11 u q) 12 u va) 11 u = (adu (adu ad 11 u q) 12 u va) 12 u := he
      rw [e11, e12] at he; exact absurd he hqv
    · have he : (adu (adu ad 11 u q) 12 u va) 12 u = (adu (adu ad 11 u q) 12 u va) 11 u := he
      rw [e11, e12] at he; exact absurd he.symm hqv
    · rfl
  · intro p hp
    simp only [List.mem_cons, List.not_mem_nil, or_false] at hp
    subst hp
    exact ⟨lvf 1 (by decide), rfl⟩
  · intro b hN hl
    have b1 := hN (11, u) (by simp)
    have b2 := hN (12, u) (by simp)
    have b1 : b ≠ (adu (adu ad 11 u q) 12 u va) 11 u := b1
    have b2 : b ≠ (adu (adu ad 11 u q) 12 u va) 12 u := b2
    rw [e11] at b1
    rw [e12] at b2
    exact h4 b (hl (1, 0) (by simp)) b1 b2
  · intro p hp _
    simp only [List.mem_cons, List.not_mem_nil, or_false] at hp
    rcases hp with rfl | rfl
    · show w' ((adu (adu ad 11 u q) 12 u va) 11 u) = some (.inr (4, [.int ((MR M r u so n).2.2 2 u), .ref ((adu (adu ad 11 u q) 12 u va) 12 u)]))
      rw [e11, e12, MR_2s]; exact h2
    · show w' ((adu (adu ad 11 u q) 12 u va) 12 u) = some (.inl (gA G 0, ((MR M r u so n).2.2 3 u).toNatClampNeg, .inl (cArr (MR M r u so n) u)))
      rw [e12, MR_3s, MR_As hso hn hu1]; exact h3
  · intro p hp _ _ _
    simp only [List.mem_cons, List.not_mem_nil, or_false] at hp
    subst hp
    show w' (ad 1 0) = some (rA (gA G 4) 8 (cR (MR M r u so n) (adu (adu ad 11 u q) 12 u va)))
    rw [eR]; exact h1
theorem rX10_row (G : GG) (l : Launch) (M : MS) (ad : AD) (gi : GI) (w : WM) (hL : RLa G M ad gi w) (hR : mi_row M) (hA : mi_arr M) (hS : mi_size M) (r sort n : Int32) : MC G l yX10_row cX10_row 4 ((Option.some .int)) ({ frames := 2, cells := 2, slots := 42, locals := 43 } : Room) [.ref (ad 0 0), .int r, .int sort, .int n] w (fun v w' => v = some (.int (mo_row M r sort n).1) ∧ ∃ ad' gi', RLa G (mo_row M r sort n).2 ad' gi' w' ∧ ad' 0 0 = ad 0 0) := by
  refine mc_imp (kX10_row G l w (ad 0 0) _ _ _ _ _ _ _ _ _ _ _ _ _ (hL.1 0 0 (lvf 0 (by decide))) (cR M ad) (hL.1 1 0 (lvf 1 (by decide))) r sort n) ?_
  intro v w' h
  unfold mo_row
  rcases h with ⟨hr, hv, hw⟩ | ⟨hr, h⟩
  · rw [if_neg hr]
    exact ⟨hv, ad, gi, (by rw [hw]; exact rl_0 hL), rfl⟩
  · rw [if_pos hr]
    rcases h with ⟨hs, hv, hw⟩ | ⟨hs, h⟩
    · rw [if_neg hs]
      exact ⟨hv, ad, gi, (by rw [hw]; exact rl_0 hL), rfl⟩
    · rw [if_pos hs]
      have b := bt_iff.mp hs
      have e0 : (0 : Int32).toInt = 0 := rfl
      rcases h with ⟨h0, hv, hw⟩ | ⟨h0, h⟩
      · rw [if_pos (show sort ≤ 0 by rw [h0]; decide)]
        exact ⟨hv, ad, gi, rl_1 hL (cl_lt hr (by decide) (by decide)) (Or.inl rfl) hw, rfl⟩
      · have hs0 : sort.toInt ≠ 0 := fun z => h0 ((i32_eq _ 0).mpr z)
        rw [if_neg (show ¬ sort ≤ 0 by rw [i32_le]; omega)]
        rcases h with ⟨hn, hv, hw⟩ | ⟨hn, h⟩
        · rw [if_neg hn]
          exact ⟨hv, ad, gi, (by rw [hw]; exact rl_0 hL), rfl⟩
        · rw [if_pos hn]
          rcases h with ⟨hn0, hv, hw⟩ | ⟨hn0, hv, q, va, hq, hva, hqv, g1, g2, g3, g4⟩
          · rw [if_neg hn0]
            exact ⟨hv, ad, gi, rl_5 hL hw, rfl⟩
          · rw [if_pos hn0]
            obtain ⟨u1, u2, u3⟩ := fa_free (sI M 0 0)
            have hb : bt n 0 40 = true := by
              rw [i32_le] at hn hn0
              have e40 : (40 : Int32).toInt = 40 := rfl
              exact bt_iff.mpr ⟨by omega, by omega⟩
            refine ⟨hv, adu (adu ad 11 (mo_fa (sI M 0 0)) q) 12 (mo_fa (sI M 0 0)) va, gi, ?_, rfl⟩
            rw [fill_eq u1 (by omega) 40 (Nat.le_refl 40), nI_clamp (by omega)]
            exact rl_row (u := mo_fa (sI M 0 0)) hL hR hA hS (cl_lt hr (by decide) (by decide)) u1 (by omega) u3 (bt_iff.mpr ⟨by omega, by omega⟩) hb hq hva hqv g1 g2 g3 g4
