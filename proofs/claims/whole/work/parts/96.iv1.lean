/-! what every call keeps of the reference's state: frames -/
def AN (L : List Nat) (M M' : MS) : Prop := ∀ j, j ∉ L → M'.2.2 j = M.2.2 j
def JN (L : List Nat) (M M' : MS) : Prop := ∀ j, j ∉ L → M'.1 j = M.1 j
theorem an_r {L : List Nat} {M : MS} : AN L M M := fun _ _ => rfl
theorem jn_r {L : List Nat} {M : MS} : JN L M M := fun _ _ => rfl
theorem an_I {L : List Nat} {M N : MS} {k : Nat} {v : Int32} (h : AN L M N) : AN L M (sI N k v) := h
theorem an_L {L : List Nat} {M N : MS} {k : Nat} {v : Int64} (h : AN L M N) : AN L M (sL N k v) := h
theorem an_F {L : List Nat} {M N : MS} {a i : Nat} {v : Int32} (h : AN L M N) (ha : a ∈ L) : AN L M (sF N a i v) := fun j hj => (sF_f N a i v (j := j) (fun z => hj (by rw [z]; exact ha))).trans (h j hj)
theorem an_A {L : List Nat} {M N : MS} {a : Nat} {g : Nat → Int32} (h : AN L M N) (ha : a ∈ L) : AN L M (sA N a g) := fun j hj => (va_up_ne N.2.2 (j := j) (k := a) g (fun z => hj (by rw [z]; exact ha))).trans (h j hj)
theorem jn_I {L : List Nat} {M N : MS} {k : Nat} {v : Int32} (h : JN L M N) (hk : k ∈ L) : JN L M (sI N k v) := fun j hj => (va_up_ne N.1 (j := j) (k := k) v (fun z => hj (by rw [z]; exact hk))).trans (h j hj)
theorem jn_L {L : List Nat} {M N : MS} {k : Nat} {v : Int64} (h : JN L M N) : JN L M (sL N k v) := h
theorem jn_F {L : List Nat} {M N : MS} {a i : Nat} {v : Int32} (h : JN L M N) : JN L M (sF N a i v) := h
theorem jn_A {L : List Nat} {M N : MS} {a : Nat} {g : Nat → Int32} (h : JN L M N) : JN L M (sA N a g) := h
/-! rows -/
def G1 (M : MS) : Prop := mi_row M ∧ mi_size M ∧ mi_cell M ∧ mi_so M ∧ mi_cr M
theorem us_iff {M : MS} {u : Nat} : usd M u ↔ 1 ≤ u ∧ u ≤ 24 ∧ ∃ k, k < 8 ∧ (M.2.2 1 k = nI u ∨ (0 < M.2.2 6 k ∧ M.2.2 8 k = 1 ∧ M.2.2 15 k = nI u)) := by
  unfold usd
  rw [uA_iff]
theorem g1_sub {M M' : MS} (h : G1 M) (e2 : M'.2.2 2 = M.2.2 2) (e3 : M'.2.2 3 = M.2.2 3) (e4 : M'.2.2 4 = M.2.2 4) (e33 : M'.2.2 33 = M.2.2 33) (i29 : M'.1 29 = M.1 29) (hr : mi_row M') (hu : ∀ u, usd M' u → usd M u) : G1 M' := by
  obtain ⟨h1, h2, h3, h4, h5⟩ := h
  refine ⟨hr, fun k hk => ?_, fun a j ha ha2 hj hs => ?_, fun u huu => ?_, fun u j huu hs hj => ?_⟩
  · rw [e3]; exact h2 k hk
  · rw [e2] at hs
    rw [e4]
    exact h3 a j ha ha2 hj hs
  · rw [e2]; exact h4 u (hu u huu)
  · rw [e2] at hs
    rw [e3] at hj
    rw [e2, e4, e33, i29]
    exact h5 u j (hu u huu) hs hj
theorem g1_c {M M' : MS} {L K : List Nat} (hA : AN L M M') (hI : JN K M M') (hL : ∀ j ∈ [1, 2, 3, 4, 6, 8, 15, 33], j ∉ L) (hK : 29 ∉ K) (h : G1 M) : G1 M' := by
  have e1 := hA 1 (hL 1 (by decide))
  have e6 := hA 6 (hL 6 (by decide))
  have e8 := hA 8 (hL 8 (by decide))
  have e15 := hA 15 (hL 15 (by decide))
  refine g1_sub h (hA 2 (hL 2 (by decide))) (hA 3 (hL 3 (by decide))) (hA 4 (hL 4 (by decide))) (hA 33 (hL 33 (by decide))) (hI 29 hK) (fun k hk => ?_) (fun u hu => ?_)
  · rw [e1]; exact h.1 k hk
  · rw [us_iff] at hu ⊢
    rw [e1, e6, e8, e15] at hu
    exact hu
theorem g1_lend {M : MS} {i : Nat} {x : Int32} (hx : x = 0 ∨ ∃ f, f < 8 ∧ M.2.2 1 f = x) (h : G1 M) : G1 (sF M 1 i x) := by
  refine g1_sub h rfl rfl rfl rfl rfl (fun k hk => ?_) (fun u hu => ?_)
  · show bt (upd (M.2.2 1) i x k) 0 24 = true
    refine upd_bt (h.1 k hk) ?_
    rcases hx with rfl | ⟨f, hf, rfl⟩
    · decide
    · exact h.1 f hf
  · rw [us_iff] at hu ⊢
    obtain ⟨h1, h2, k, hk, hz⟩ := hu
    refine ⟨h1, h2, ?_⟩
    rcases hz with hz | hz
    · have hz : upd (M.2.2 1) i x k = nI u := hz
      by_cases hki : k = i
      · rw [hki, upd_s] at hz
        rcases hx with rfl | ⟨f, hf, rfl⟩
        · exact absurd hz.symm (nI_ne0 (by omega) (by omega))
        · exact ⟨f, hf, Or.inl hz⟩
      · rw [upd_n hki] at hz
        exact ⟨k, hk, Or.inl hz⟩
    · exact ⟨k, hk, Or.inr hz⟩
/-- one cell of an array is written -/
theorem g1_w {M : MS} {b k : Nat} {v : Int32} (hb1 : 1 ≤ b) (hb2 : b ≤ 24) (hk : k < 40) (hrc : mi_refs M) (hv : 2 < (M.2.2 2 b).toInt → 0 ≤ v.toInt ∧ v.toInt ≤ (M.1 29).toInt ∧ (M.2.2 2 b = 4 → 0 < v.toInt → M.2.2 33 (v - 1).toNatClampNeg = 1)) (h : G1 M) : G1 (sF M 4 (40 * b + k - 40) v) := by
  obtain ⟨h1, h2, h3, h4, h5⟩ := h
  have hrc := bt_iff.mp hrc
  refine ⟨h1, h2, fun a j ha ha2 hj hs => ?_, h4, fun u j huu hs hj => ?_⟩
  · show bt (upd (M.2.2 4) (40 * b + k - 40) v (40 * a + j - 40)) 0 20 = true
    have hs : 2 < (M.2.2 2 a).toInt := hs
    by_cases hz : 40 * a + j - 40 = 40 * b + k - 40
    · have hab : a = b := by omega
      subst hab
      rw [hz, upd_s]
      have := hv hs
      exact bt_iff.mpr ⟨by omega, by omega⟩
    · rw [upd_n hz]
      exact h3 a j ha ha2 hj hs
  · have hs : 2 < (M.2.2 2 u).toInt := hs
    have hj : j < (M.2.2 3 u).toNatClampNeg := hj
    have hu : usd M u := huu
    have hsz := bt_iff.mp (h2 u (by have := hu.2.1; omega))
    have hcl := cl_toInt hsz.1
    have hu1 := hu.1
    show 0 ≤ (upd (M.2.2 4) (40 * b + k - 40) v (40 * u + j - 40)).toInt ∧ (upd (M.2.2 4) (40 * b + k - 40) v (40 * u + j - 40)).toInt ≤ (M.1 29).toInt ∧ (M.2.2 2 u = 4 → 0 < (upd (M.2.2 4) (40 * b + k - 40) v (40 * u + j - 40)).toInt → M.2.2 33 (upd (M.2.2 4) (40 * b + k - 40) v (40 * u + j - 40) - 1).toNatClampNeg = 1)
    by_cases hz : 40 * u + j - 40 = 40 * b + k - 40
    · have hab : u = b := by omega
      subst hab
      rw [hz, upd_s]
      exact hv hs
    · rw [upd_n hz]
      exact h5 u j hu hs hj
theorem g1_row {M : MS} {r u : Nat} {so n : Int32} (hu1 : 1 ≤ u) (hu2 : u ≤ 24) (hso : bt so 1 4) (hn : bt n 0 40) (hrc : mi_refs M) (h : G1 M) : G1 (MR M r u so n) := by
  obtain ⟨h1, h2, h3, h4, h5⟩ := h
  have hrc := bt_iff.mp hrc
  have hus : ∀ i, i ≠ u → usd (MR M r u so n) i → usd M i := by
    intro i hi hz
    rw [us_iff] at hz ⊢
    obtain ⟨a1, a2, k, hk, hz⟩ := hz
    refine ⟨a1, a2, k, hk, ?_⟩
    rcases hz with hz | hz
    · have hz : upd (M.2.2 1) r (nI u) k = nI i := hz
      by_cases hkr : k = r
      · rw [hkr, upd_s] at hz
        exact absurd ((nI_eq (by omega) (by omega)).mp hz).symm hi
      · rw [upd_n hkr] at hz
        exact Or.inl hz
    · exact Or.inr hz
  have f4 : ∀ x, (MR M r u so n).2.2 4 x = fz M u 40 x := fun _ => rfl
  refine ⟨fun k hk => ?_, fun k hk => ?_, fun a j ha ha2 hj hs => ?_, fun i hi => ?_, fun i j hi hs hj => ?_⟩
  · show bt (upd (M.2.2 1) r (nI u) k) 0 24 = true
    exact upd_bt (h1 k hk) ((bt_nI (by omega)).mpr ⟨by omega, by omega⟩)
  · show bt (upd (M.2.2 3) u n k) 0 40 = true
    exact upd_bt (h2 k hk) hn
  · rw [f4]
    unfold fz
    by_cases hau : a = u
    · rw [if_pos (by omega)]; decide
    · rw [if_neg (by omega)]
      rw [MR_2 hau] at hs
      exact h3 a j ha ha2 hj hs
  · by_cases hau : i = u
    · rw [hau, MR_2s]; exact hso
    · rw [MR_2 hau]; exact h4 i (hus i hau hi)
  · rw [f4]
    by_cases hau : i = u
    · have e0 : fz M u 40 (40 * i + j - 40) = 0 := by
        unfold fz
        rw [hau, MR_3s] at hj
        have := bt_iff.mp hn
        have := cl_toInt this.1
        exact if_pos (by omega)
      rw [e0]
      exact ⟨by decide, hrc.1, fun _ z => absurd z (by decide)⟩
    · rw [MR_3 hau] at hj
      rw [MR_2 hau] at hs ⊢
      have hu := hus i hau hi
      have hsz := bt_iff.mp (h2 i (by have := hu.2.1; omega))
      have hcl := cl_toInt hsz.1
      have hi1 := hu.1
      have e0 : fz M u 40 (40 * i + j - 40) = M.2.2 4 (40 * i + j - 40) := if_neg (by omega)
      rw [e0]
      exact h5 i j hu hs hj
