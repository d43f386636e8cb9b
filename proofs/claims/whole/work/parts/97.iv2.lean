theorem g1_5 {M : MS} {v : Int32} (h : G1 M) : G1 (sI M 5 v) := g1_c (M := M) (M' := sI M 5 v) (L := []) (K := [5]) (an_I an_r) (jn_I jn_r (by decide)) (by decide) (by decide) h
/-- copying within one array, from its end -/
theorem g1_cb {M : MS} {a at_ b to_ : Int32} {N : Nat} (hb : bt b 1 24) (hab : a = b) (h0 : ¬ at_ < 0) (h1 : ¬ to_ < 0) (hA : at_.toInt + N ≤ (M.2.2 3 a.toNatClampNeg).toInt) (hB : to_.toInt + N ≤ (M.2.2 3 b.toNatClampNeg).toInt) (hu : usd M a.toNatClampNeg) (hrc : mi_refs M) (h : G1 M) : ∀ t, t ≤ N → G1 (mo_cb M a at_ b to_ N t) ∧ AN [4] M (mo_cb M a at_ b to_ N t) ∧ (mo_cb M a at_ b to_ N t).1 = M.1
  | 0, _ => ⟨h, an_r, rfl⟩
  | t + 1, ht => by
    obtain ⟨k1, k2, k3⟩ := g1_cb hb hab h0 h1 hA hB hu hrc h t (by omega)
    subst hab
    have ha := hb
    have sa := bt_iff.mp (h.2.1 a.toNatClampNeg (by have := hu.2.1; omega))
    have sb := sa
    rw [i32_lt] at h0 h1
    have ez : (0 : Int32).toInt = 0 := rfl
    have c0 := cl_toInt (x := at_) (by omega)
    have c1 := cl_toInt (x := to_) (by omega)
    have ca := cl_toInt sa.1
    refine ⟨?_, an_F k2 (by decide), k3⟩
    show G1 (sF (mo_cb M a at_ a to_ N t) 4 ((((40 * a) + to_) + nI (N - 1 - t)) - 40).toNatClampNeg ((mo_cb M a at_ a to_ N t).2.2 4 ((((40 * a) + at_) + nI (N - 1 - t)) - 40).toNatClampNeg))
    rw [ixcl hb (by rw [i32_lt]; omega) (by omega), ixcl ha (by rw [i32_lt]; omega) (by omega)]
    have hbb := bt_iff.mp hb
    have cb := cl_toInt (x := a) (by omega)
    have hu' : usd (mo_cb M a at_ a to_ N t) a.toNatClampNeg := by
      rw [us_iff] at hu ⊢
      rw [k2 1 (by decide), k2 6 (by decide), k2 8 (by decide), k2 15 (by decide)]
      exact hu
    refine g1_w (by omega) (by omega) (by omega) (by unfold mi_refs; rw [k3]; exact hrc) (fun hs => ?_) k1
    have := k1.2.2.2.2 a.toNatClampNeg (at_.toNatClampNeg + (N - 1 - t)) hu' hs (by rw [k2 3 (by decide)]; omega)
    exact this
theorem g1_cf {a at_ b to_ : Int32} (ha : bt a 1 24) (hb : bt b 1 24) (h0 : ¬ at_ < 0) (h1 : ¬ to_ < 0) : ∀ (m i : Nat) (M : MS), mi_refs M → mi_tmp M → usd M a.toNatClampNeg → (M.2.2 2 a.toNatClampNeg = M.2.2 2 b.toNatClampNeg ∨ (¬ M.2.2 2 a.toNatClampNeg ≤ 2 ∧ 2 < M.2.2 2 b.toNatClampNeg)) → at_.toInt + ((i + m : Nat) : Int) ≤ (M.2.2 3 a.toNatClampNeg).toInt → to_.toInt + ((i + m : Nat) : Int) ≤ (M.2.2 3 b.toNatClampNeg).toInt → G1 M → G1 (mo_cf a at_ b to_ m i M).2
  | 0, _, M, _, _, _, _, _, _, h => h
  | m + 1, i, M, hrc, htm, hu, hso, hA, hB, h => by
    unfold mo_cf
    split
    · exact g1_5 h
    · rename_i hcs
      have hbb := bt_iff.mp hb
      have cb := cl_toInt (x := b) (by omega)
      have sa := bt_iff.mp (h.2.1 a.toNatClampNeg (by have := hu.2.1; omega))
      have sb := bt_iff.mp (h.2.1 b.toNatClampNeg (by omega))
      have h0' := h0
      have h1' := h1
      rw [i32_lt] at h0' h1'
      have ez : (0 : Int32).toInt = 0 := rfl
      have c0 := cl_toInt (x := at_) (by omega)
      have c1 := cl_toInt (x := to_) (by omega)
      have ca := cl_toInt sa.1
      refine g1_cf ha hb h0 h1 m (i + 1) _ hrc htm hu hso (by show at_.toInt + ((i + 1 + m : Nat) : Int) ≤ (M.2.2 3 a.toNatClampNeg).toInt; omega) (by show to_.toInt + ((i + 1 + m : Nat) : Int) ≤ (M.2.2 3 b.toNatClampNeg).toInt; omega) ?_
      have ev : mo_cv M a at_ i = M.2.2 4 (40 * a.toNatClampNeg + (at_.toNatClampNeg + i) - 40) := by
        unfold mo_cv
        rw [ixcl ha h0 (by omega)]
      rw [ixcl hb h1 (by omega)]
      refine g1_w (by omega) (by omega) (by omega) hrc (fun hs => ?_) h
      have e2 : (2 : Int32).toInt = 2 := rfl
      have hs2 : 2 < (M.2.2 2 a.toNatClampNeg).toInt := by
        rcases hso with z | ⟨z, _⟩
        · rw [z]; exact hs
        · rw [i32_le] at z; omega
      have hc := h.2.2.2.2 a.toNatClampNeg (at_.toNatClampNeg + i) hu hs2 (by omega)
      rw [← ev] at hc
      refine ⟨hc.1, hc.2.1, fun h4 hp => ?_⟩
      have hsoA := bt_iff.mp (h.2.2.2.1 a.toNatClampNeg hu)
      by_cases ha4 : M.2.2 2 a.toNatClampNeg = 4
      · exact hc.2.2 ha4 hp
      · have ha3 : M.2.2 2 a.toNatClampNeg = 3 := by
          rw [i32_eq] at ha4 ⊢
          have e3 : (3 : Int32).toInt = 3 := rfl
          have e4 : (4 : Int32).toInt = 4 := rfl
          omega
        rcases htm (mo_cv M a at_ i - 1).toNatClampNeg with z | z
        · exfalso
          apply hcs
          unfold mo_cs
          rw [decide_eq_true ha3, decide_eq_true h4, decide_eq_true z, decide_eq_false (by rw [i32_le]; omega)]
          rfl
        · exact z
/-! streams -/
def nu (M : MS) : Prop := (∀ k, k < 8 → (M.2.2 6 k).toInt ≤ (M.1 7).toInt ∧ (M.2.2 17 k).toInt ≤ (M.1 7).toInt) ∧ (M.1 20).toInt ≤ (M.1 7).toInt ∧ 0 ≤ (M.1 7).toInt
def mi_er (M : MS) : Prop := ∃ r : Nat → Nat, (∀ k, r k < 8) ∧ mi_ech r M
def G2 (M : MS) : Prop := mi_nn M ∧ mi_now M ∧ mi_eo M ∧ mi_er M ∧ nu M
def G3 (M : MS) : Prop := mi_file M ∧ mi_signs M ∧ mi_arr M ∧ mi_kind M ∧ mi_last M ∧ mi_pm M ∧ mi_ep M ∧ mi_place M ∧ mi_res M
theorem nu_num {M : MS} (h : nu M) (hb : (M.1 7).toInt < 2 ^ 30) : mi_num M := ⟨h.1, h.2.1, h.2.2, hb⟩
theorem g2_c {M M' : MS} {L K : List Nat} (hA : AN L M M') (hI : JN K M M') (hL : ∀ j ∈ [6, 17], j ∉ L) (hK : ∀ j ∈ [7, 20], j ∉ K) (h : G2 M) : G2 M' := by
  have e6 := hA 6 (hL 6 (by decide))
  have e17 := hA 17 (hL 17 (by decide))
  have i7 := hI 7 (hK 7 (by decide))
  have i20 := hI 20 (hK 20 (by decide))
  obtain ⟨h1, h2, h3, ⟨r, hr, h4⟩, h5⟩ := h
  refine ⟨fun k hk => ?_, ?_, fun k hk => ?_, ⟨r, hr, fun k hk hp => ?_⟩, fun k hk => ?_, ?_, ?_⟩
  · rw [e6]; exact h1 k hk
  · unfold mi_now; rw [i20, pl_congr e6]; exact h2
  · rw [e17, pl_congr e6]; exact h3 k hk
  · rw [e17] at hp ⊢; rw [pl_congr e6]; exact h4 k hk hp
  · rw [e6, e17, i7]; exact h5.1 k hk
  · rw [i20, i7]; exact h5.2.1
  · rw [i7]; exact h5.2.2
theorem g3_c {M M' : MS} {L : List Nat} (hA : AN L M M') (hL : ∀ j ∈ [6, 8, 10, 11, 12, 15, 16, 17, 18, 19], j ∉ L) (h : G3 M) : G3 M' := by
  have e6 := hA 6 (hL 6 (by decide))
  have e8 := hA 8 (hL 8 (by decide))
  have e10 := hA 10 (hL 10 (by decide))
  have e11 := hA 11 (hL 11 (by decide))
  have e12 := hA 12 (hL 12 (by decide))
  have e15 := hA 15 (hL 15 (by decide))
  have e16 := hA 16 (hL 16 (by decide))
  have e17 := hA 17 (hL 17 (by decide))
  have e18 := hA 18 (hL 18 (by decide))
  have e19 := hA 19 (hL 19 (by decide))
  obtain ⟨h1, h2, h3, h4, h5, h6, h7, h8, h9⟩ := h
  refine ⟨fun k hk z => ?_, fun k hk => ?_, fun k hk => ?_, fun k hk => ?_, fun k hk => ?_, fun k hk z => ?_, fun k hk z => ?_, fun k hk => ?_, fun k hk z j hj => ?_⟩
  · rw [e8] at z; rw [e16]; exact h1 k hk z
  · rw [e19]; exact h2 k hk
  · rw [e15]; exact h3 k hk
  · rw [e8, e10]; exact h4 k hk
  · rw [e12]; exact h5 k hk
  · unfold opn at hk; rw [e6] at hk; rw [e8] at z; rw [e10]; exact h6 k hk z
  · rw [e8] at z; rw [e17]; exact h7 k hk z
  · rw [e11]; exact h8 k hk
  · unfold opn at hk; rw [e6] at hk; rw [e8] at z; rw [e12] at hj; rw [e18]; exact h9 k hk z j hj
/-- a stream begins -/
theorem g2_bg {M : MS} {k : Nat} {g18 : Nat → Int32} {kd wd md pl ls ar fi : Int32} (hf : M.2.2 6 k = 0) (hb : (M.1 7).toInt < 2 ^ 30) (h : G2 M) : G2 (BG M k g18 kd wd md pl ls ar fi) := by
  obtain ⟨h1, h2, h3, ⟨r, hr, h4⟩, h5⟩ := h
  have hn := nu_num h5 hb
  have h7 := h5.2.2
  have e7 := ti_add (a := M.1 7) (b := 1) (y := 1) rfl rfl (by omega)
  have ez : (0 : Int32).toInt = 0 := rfl
  refine ⟨fun i hi => ?_, ?_, fun i hi => ?_, ⟨r, hr, fun i hi hp => ?_⟩, fun i hi => ?_, ?_, ?_⟩
  · rw [bu_6, i32_le]
    by_cases hz : i = k
    · rw [hz, upd_s]; omega
    · rw [upd_n hz, ← i32_le]; exact h1 i hi
  · unfold mi_now
    rw [bi_20, pl_bg bu_6 hf hn h5.2.1]; exact h2
  · rw [bu_17]
    by_cases hz : i = k
    · rw [hz, upd_s]; exact Or.inl rfl
    · rw [upd_n hz, pl_bg bu_6 hf hn (h5.1 i hi).2]; exact h3 i hi
  · rw [bu_17] at hp ⊢
    by_cases hz : i = k
    · rw [hz, upd_s] at hp; exact absurd hp (by decide)
    · rw [upd_n hz] at hp ⊢
      rw [pl_bg bu_6 hf hn (h5.1 i hi).2]; exact h4 i hi hp
  · rw [bu_6, bu_17, bi_7]
    have := h5.1 i hi
    by_cases hz : i = k
    · rw [hz, upd_s, upd_s]; omega
    · rw [upd_n hz, upd_n hz]; omega
  · rw [bi_20, bi_7]; have := h5.2.1; omega
  · rw [bi_7]; omega
theorem g3_bg {M : MS} {k : Nat} {g18 : Nat → Int32} {kd wd md pl ls ar fi : Int32} (hk : k < 8) (hg18 : ∀ x, (x < 40 * k ∨ 40 * k + 40 ≤ x) → g18 x = M.2.2 18 x) (c1 : kd = 2 → bt fi 0 19 = true) (c2 : bt ar 0 24 = true) (c3 : bt kd 0 3 = true ∧ (kd = 3 → md = 2)) (c4 : bt ls 0 40 = true) (c5 : kd = 0 → md = 1) (c6 : bt pl 0 60 = true) (c7 : kd = 3 → ∀ j : Nat, (j : Int) < ls.toInt → 0 ≤ (g18 (40 * k + j)).toInt) (h : G3 M) : G3 (BG M k g18 kd wd md pl ls ar fi) := by
  obtain ⟨h1, h2, h3, h4, h5, h6, h7, h8, h9⟩ := h
  have hop : ∀ i, i ≠ k → opn (BG M k g18 kd wd md pl ls ar fi) i → opn M i := by
    intro i hi ho
    have h2 := ho.2
    rw [bu_6, upd_n hi] at h2
    exact ⟨ho.1, h2⟩
  refine ⟨fun i hi z => ?_, fun i hi => ?_, fun i hi => ?_, fun i hi => ?_, fun i hi => ?_, fun i hi z => ?_, fun i hi z => ?_, fun i hi => ?_, fun i hi z j hj => ?_⟩
  · rw [bu_8] at z; rw [bu_16]
    by_cases hz : i = k
    · rw [hz, upd_s] at z ⊢; exact c1 z
    · rw [upd_n hz] at z ⊢; exact h1 i hi z
  · rw [bu_19]; exact upd_bt (h2 i hi) (by decide)
  · rw [bu_15]; exact upd_bt (h3 i hi) c2
  · rw [bu_8, bu_10]
    by_cases hz : i = k
    · rw [hz, upd_s, upd_s]; exact c3
    · rw [upd_n hz, upd_n hz]; exact h4 i hi
  · rw [bu_12]; exact upd_bt (h5 i hi) c4
  · rw [bu_8] at z; rw [bu_10]
    by_cases hz : i = k
    · rw [hz, upd_s] at z ⊢; exact c5 z
    · rw [upd_n hz] at z ⊢; exact h6 i (hop i hz hi) z
  · rw [bu_8] at z; rw [bu_17]
    by_cases hz : i = k
    · rw [hz, upd_s]
    · rw [upd_n hz] at z ⊢; exact h7 i hi z
  · rw [bu_11]; exact upd_bt (h8 i hi) c6
  · rw [bu_8] at z; rw [bu_12] at hj; rw [b_18]
    by_cases hz : i = k
    · rw [hz, upd_s] at z hj; rw [hz]; exact c7 z j hj
    · rw [upd_n hz] at z hj
      have hl := bt_iff.mp (h5 i (hop i hz hi).1)
      rw [hg18 _ (by omega)]
      exact h9 i (hop i hz hi) z j hj
/-- usd of a begun stream: of memory, its array is a row's -/
theorem g1_bg {M : MS} {k : Nat} {g18 : Nat → Int32} {kd wd md pl ls ar fi : Int32} (hk : k < 8) (c : kd = 1 → ar = 0 ∨ ∃ f, f < 8 ∧ M.2.2 1 f = ar) (h : G1 M) : G1 (BG M k g18 kd wd md pl ls ar fi) := by
  refine g1_sub h bm_2 bm_3 bm_4 bm_33 bi_29 (fun i hi => ?_) (fun u hu => ?_)
  · rw [bm_1]; exact h.1 i hi
  · rw [us_iff] at hu ⊢
    obtain ⟨a1, a2, i, hi, hz⟩ := hu
    refine ⟨a1, a2, ?_⟩
    rw [bm_1, bu_6, bu_8, bu_15] at hz
    rcases hz with hz | ⟨z1, z2, z3⟩
    · exact ⟨i, hi, Or.inl hz⟩
    · by_cases hik : i = k
      · rw [hik, upd_s] at z2 z3
        rcases c z2 with c0 | ⟨f, hf, c0⟩
        · rw [c0] at z3
          exact absurd z3.symm (nI_ne0 (by omega) (by omega))
        · exact ⟨f, hf, Or.inl (c0.trans z3)⟩
      · rw [upd_n hik] at z1 z2 z3
        exact ⟨i, hi, Or.inr ⟨z1, z2, z3⟩⟩
/-! closing -/
theorem pl_x {M M' : MS} {k : Nat} {t t' : Int32} (e6 : M'.2.2 6 = upd (M.2.2 6) k 0) (hk : M.2.2 6 k = t) (hn : ¬ t' = t) : mo_pl M' t' = mo_pl M t' := by
  unfold mo_pl
  rw [e6]
  have hf : (fun j => decide (0 < t') && decide (upd (M.2.2 6) k 0 j = t')) = fun j => decide (0 < t') && decide (M.2.2 6 j = t') := by
    funext j
    by_cases hj : j = k
    · rw [hj, upd_s, hk]
      by_cases h0 : 0 < t'
      · have n2 : ¬ (0 : Int32) = t' := fun z => by rw [← z] at h0; exact absurd h0 (by decide)
        rw [decide_eq_false n2, decide_eq_false (show ¬ t = t' from fun z => hn z.symm)]
      · rw [decide_eq_false h0]
        rfl
    · rw [upd_n hj]
  rw [hf]
def CLM (M : MS) (k : Nat) (t : Int32) : MS := sA (sI (sF M 6 k 0) 20 (if M.1 20 = t then 0 else M.1 20)) 17 (fun x => if x < 8 ∧ M.2.2 17 x = t then 0 else M.2.2 17 x)
theorem clm_op {M : MS} {k i : Nat} {t : Int32} (h : opn (CLM M k t) i) : opn M i := by
  have h2 : 0 < upd (M.2.2 6) k 0 i := h.2
  by_cases hz : i = k
  · rw [hz, upd_s] at h2; exact absurd h2 (by decide)
  · rw [upd_n hz] at h2; exact ⟨h.1, h2⟩
theorem g2_cl {M : MS} {k : Nat} {t : Int32} (hk : M.2.2 6 k = t) (h : G2 M) : G2 (CLM M k t) := by
  obtain ⟨h1, h2, h3, ⟨r, hr, h4⟩, h5⟩ := h
  have e6 : (CLM M k t).2.2 6 = upd (M.2.2 6) k 0 := rfl
  have e17 : (CLM M k t).2.2 17 = fun x => if x < 8 ∧ M.2.2 17 x = t then 0 else M.2.2 17 x := rfl
  have i20 : (CLM M k t).1 20 = if M.1 20 = t then 0 else M.1 20 := rfl
  have i7 : (CLM M k t).1 7 = M.1 7 := rfl
  have ez : (0 : Int32).toInt = 0 := rfl
  have h7 := h5.2.2
  refine ⟨fun i hi => ?_, ?_, fun i hi => ?_, ⟨r, hr, fun i hi hp => ?_⟩, fun i hi => ?_, ?_, ?_⟩
  · rw [e6]
    by_cases hz : i = k
    · rw [hz, upd_s]; decide
    · rw [upd_n hz]; exact h1 i hi
  · unfold mi_now
    rw [i20]
    by_cases hz : M.1 20 = t
    · rw [if_pos hz]; exact Or.inl rfl
    · rw [if_neg hz, pl_x e6 hk hz]; exact h2
  · rw [e17]
    show (if i < 8 ∧ M.2.2 17 i = t then 0 else M.2.2 17 i) = 0 ∨ ∃ j, mo_pl (CLM M k t) (if i < 8 ∧ M.2.2 17 i = t then 0 else M.2.2 17 i) = some j
    by_cases hz : M.2.2 17 i = t
    · rw [if_pos ⟨hi, hz⟩]; exact Or.inl rfl
    · rw [if_neg (fun z => hz z.2), pl_x e6 hk hz]; exact h3 i hi
  · rw [e17] at hp ⊢
    have hp : 0 < (if i < 8 ∧ M.2.2 17 i = t then 0 else M.2.2 17 i) := hp
    show ∃ j, mo_pl (CLM M k t) (if i < 8 ∧ M.2.2 17 i = t then 0 else M.2.2 17 i) = some j ∧ r j < r i
    by_cases hz : M.2.2 17 i = t
    · rw [if_pos ⟨hi, hz⟩] at hp; exact absurd hp (by decide)
    · rw [if_neg (fun z => hz z.2)] at hp ⊢
      rw [pl_x e6 hk hz]; exact h4 i hi hp
  · rw [e6, e17, i7]
    show (upd (M.2.2 6) k 0 i).toInt ≤ _ ∧ (if i < 8 ∧ M.2.2 17 i = t then (0 : Int32) else M.2.2 17 i).toInt ≤ _
    have h6 := h5.1 i hi
    refine ⟨?_, ?_⟩
    · by_cases hz : i = k
      · rw [hz, upd_s]; omega
      · rw [upd_n hz]; omega
    · by_cases hz : i < 8 ∧ M.2.2 17 i = t
      · rw [if_pos hz]; omega
      · rw [if_neg hz]; omega
  · rw [i20, i7]
    have := h5.2.1
    by_cases hz : M.1 20 = t
    · rw [if_pos hz]; omega
    · rw [if_neg hz]; omega
  · rw [i7]; exact h7
theorem g3_cl {M : MS} {k : Nat} {t : Int32} (h : G3 M) : G3 (CLM M k t) := by
  obtain ⟨h1, h2, h3, h4, h5, h6, h7, h8, h9⟩ := h
  refine ⟨h1, h2, h3, h4, h5, fun i hi z => h6 i (clm_op hi) z, fun i hi z => ?_, h8, fun i hi z j hj => h9 i (clm_op hi) z j hj⟩
  show (if i < 8 ∧ M.2.2 17 i = t then 0 else M.2.2 17 i) = 0
  by_cases hz : i < 8 ∧ M.2.2 17 i = t
  · rw [if_pos hz]
  · rw [if_neg hz]; exact h7 i hi z
theorem g1_cl {M : MS} {k : Nat} {t : Int32} (h : G1 M) : G1 (CLM M k t) := by
  refine g1_sub h rfl rfl rfl rfl rfl h.1 (fun u hu => ?_)
  rw [us_iff] at hu ⊢
  obtain ⟨a1, a2, i, hi, hz⟩ := hu
  refine ⟨a1, a2, i, hi, ?_⟩
  rcases hz with hz | ⟨z1, z2, z3⟩
  · exact Or.inl hz
  · exact Or.inr ⟨(clm_op (M := M) (k := k) (t := t) ⟨hi, z1⟩).2, z2, z3⟩
/-! echoing: no rings -/
theorem rq_m1 {M : MS} {k : Int32} : ∀ n, mo_rg M k n (-1) = false
  | 0 => rfl
  | n + 1 => by unfold mo_rg; rw [if_pos (by decide)]
theorem rg_st {M : MS} {r : Nat → Nat} {k : Int32} (hE : mi_ech r M) : ∀ (a x b : Nat), x < 8 → r x < a → r x < b → mo_rg M k a (nI x) = mo_rg M k b (nI x)
  | 0, _, _, _, h, _ => absurd h (by omega)
  | a + 1, x, 0, _, _, h => absurd h (by omega)
  | a + 1, x, b + 1, hx, ha, hb => by
    unfold mo_rg
    rw [nI_clamp (by omega)]
    by_cases h1 : nI x < 0
    · rw [if_pos h1, if_pos h1]
    · rw [if_neg h1, if_neg h1]
      by_cases h2 : nI x = k
      · rw [if_pos h2, if_pos h2]
      · rw [if_neg h2, if_neg h2]
        by_cases h3 : M.2.2 17 x ≤ 0
        · rw [if_pos h3, if_pos h3, rq_m1, rq_m1]
        · rw [if_neg h3, if_neg h3]
          obtain ⟨y, hy, hr⟩ := hE x hx (Int32.not_le.mp h3)
          rw [hy]
          exact rg_st hE a y b (pl_in hy) (by omega) (by omega)
/-- any rank gives one below 8 -/
theorem er_of {M : MS} {r : Nat → Nat} (h : mi_ech r M) : mi_er M := by
  refine ⟨fun k => if k < 8 then ((List.range 8).filter (fun i => decide (r i < r k))).length else 0, fun k => ?_, fun k hk hp => ?_⟩
  · show (if k < 8 then ((List.range 8).filter (fun i => decide (r i < r k))).length else 0) < 8
    by_cases hk : k < 8
    · rw [if_pos hk]
      have hl : ((List.range 8).filter (fun i => decide (r i < r k))).length < (List.range 8).length := by
        rw [List.length_filter_lt_length_iff_exists]
        exact ⟨k, List.mem_range.mpr hk, by simp⟩
      rw [List.length_range] at hl
      exact hl
    · rw [if_neg hk]; decide
  · obtain ⟨t, ht, hr⟩ := h k hk hp
    refine ⟨t, ht, ?_⟩
    show (if t < 8 then ((List.range 8).filter (fun i => decide (r i < r t))).length else 0) < (if k < 8 then ((List.range 8).filter (fun i => decide (r i < r k))).length else 0)
    rw [if_pos (pl_in ht), if_pos hk]
    have e : (List.range 8).filter (fun i => decide (r i < r t)) = ((List.range 8).filter (fun i => decide (r i < r k))).filter (fun i => decide (r i < r t)) := by
      rw [List.filter_filter]
      refine List.filter_congr (fun i _ => ?_)
      by_cases hi : r i < r t
      · rw [decide_eq_true hi, decide_eq_true (by omega)]; rfl
      · rw [decide_eq_false hi]; rfl
    rw [e, List.length_filter_lt_length_iff_exists]
    exact ⟨t, List.mem_filter.mpr ⟨List.mem_range.mpr (pl_in ht), decide_eq_true hr⟩, by simp⟩
theorem er_ec {M : MS} {k : Nat} {to : Int32} (hk : k < 8) (hto : to = 0 ∨ ∃ j, mo_pl M to = some j ∧ mo_rg M (nI k) 10 (nI j) = false) (h : mi_er M) : mi_er (sF M 17 k to) := by
  obtain ⟨r, hr, hE⟩ := h
  have e17 : (sF M 17 k to).2.2 17 = upd (M.2.2 17) k to := rfl
  have ep : ∀ t, mo_pl (sF M 17 k to) t = mo_pl M t := fun t => pl_congr rfl t
  refine er_of (r := fun x => r x + (if mo_rg M (nI k) (r x + 1) (nI x) = true then 8 else 0)) (fun x hx hp => ?_)
  rw [e17] at hp ⊢
  rw [ep]
  by_cases hxk : x = k
  · subst hxk
    rw [upd_s] at hp ⊢
    rcases hto with z | ⟨j, hj, hn⟩
    · rw [z] at hp; exact absurd hp (by decide)
    · refine ⟨j, hj, ?_⟩
      have e1 : mo_rg M (nI x) (r j + 1) (nI j) = false := (rg_st hE (r j + 1) j 10 (pl_in hj) (by omega) (by have := hr j; omega)).trans hn
      have e2 : mo_rg M (nI x) (r x + 1) (nI x) = true := by
        unfold mo_rg
        rw [if_neg (nI_pos (by omega)), if_pos rfl]
      show r j + (if mo_rg M (nI x) (r j + 1) (nI j) = true then 8 else 0) < r x + (if mo_rg M (nI x) (r x + 1) (nI x) = true then 8 else 0)
      rw [e1, e2, if_neg (by decide), if_pos rfl]
      have := hr j
      omega
  · rw [upd_n hxk] at hp ⊢
    obtain ⟨y, hy, hlt⟩ := hE x hx hp
    refine ⟨y, hy, ?_⟩
    have e2 : mo_rg M (nI k) (r x + 1) (nI x) = mo_rg M (nI k) (r y + 1) (nI y) := by
      have : mo_rg M (nI k) (r x + 1) (nI x) = mo_rg M (nI k) (r x) (nI y) := by
        conv => lhs; unfold mo_rg
        rw [if_neg (nI_pos (by omega)), if_neg (fun z => hxk ((nI_eq (by omega) (by omega)).mp z)), nI_clamp (by omega), if_neg (Int32.not_le.mpr hp), hy]
        rfl
      rw [this]
      exact rg_st hE (r x) y (r y + 1) (pl_in hy) hlt (by omega)
    show r y + (if mo_rg M (nI k) (r y + 1) (nI y) = true then 8 else 0) < r x + (if mo_rg M (nI k) (r x + 1) (nI x) = true then 8 else 0)
    rw [e2]
    omega
theorem g2_ec {M : MS} {k : Nat} {to : Int32} (hk : k < 8) (hto : to = 0 ∨ ∃ j, mo_pl M to = some j ∧ mo_rg M (nI k) 10 (nI j) = false) (h : G2 M) : G2 (sF M 17 k to) := by
  obtain ⟨h1, h2, h3, h4, h5⟩ := h
  have e17 : (sF M 17 k to).2.2 17 = upd (M.2.2 17) k to := rfl
  have ep : ∀ t, mo_pl (sF M 17 k to) t = mo_pl M t := fun t => pl_congr rfl t
  have ez : (0 : Int32).toInt = 0 := rfl
  refine ⟨h1, ?_, fun i hi => ?_, er_ec hk hto h4, fun i hi => ⟨(h5.1 i hi).1, ?_⟩, h5.2⟩
  · unfold mi_now; rw [ep]; exact h2
  · rw [e17, ep]
    by_cases hz : i = k
    · rw [hz, upd_s]
      rcases hto with z | ⟨j, hj, _⟩
      · exact Or.inl z
      · exact Or.inr ⟨j, hj⟩
    · rw [upd_n hz]; exact h3 i hi
  · rw [e17]
    show (upd (M.2.2 17) k to i).toInt ≤ (M.1 7).toInt
    by_cases hz : i = k
    · rw [hz, upd_s]
      rcases hto with z | ⟨j, hj, _⟩
      · rw [z]; have := h5.2.2; omega
      · rw [← (pl_opn hj).2]; exact (h5.1 j (pl_in hj)).1
    · rw [upd_n hz]; exact (h5.1 i hi).2
theorem g3_ec {M : MS} {k : Nat} {to : Int32} (h8 : M.2.2 8 k = 0) (h : G3 M) : G3 (sF M 17 k to) := by
  obtain ⟨h1, h2, h3, h4, h5, h6, h7, h8', h9⟩ := h
  refine ⟨h1, h2, h3, h4, h5, h6, fun i hi z => ?_, h8', h9⟩
  show upd (M.2.2 17) k to i = 0
  by_cases hz : i = k
  · have z : ¬ M.2.2 8 i = 0 := z
    rw [hz] at z; exact absurd h8 z
  · rw [upd_n hz]; exact h7 i hi z
theorem g2_cu {M : MS} {t : Int32} (ht : t = 0 ∨ ∃ j, mo_pl M t = some j) (h : G2 M) : G2 (sI M 20 t) := by
  obtain ⟨h1, h2, h3, h4, h5⟩ := h
  refine ⟨h1, ht, h3, h4, h5.1, ?_, h5.2.2⟩
  show t.toInt ≤ (M.1 7).toInt
  have ez : (0 : Int32).toInt = 0 := rfl
  rcases ht with z | ⟨j, hj⟩
  · rw [z]; have := h5.2.2; omega
  · rw [← (pl_opn hj).2]; exact (h5.1 j (pl_in hj)).1
theorem g3_pl {M : MS} {k : Nat} {p : Int32} (hp : bt p 0 60 = true) (h : G3 M) : G3 (sF M 11 k p) := by
  obtain ⟨h1, h2, h3, h4, h5, h6, h7, h8, h9⟩ := h
  exact ⟨h1, h2, h3, h4, h5, h6, h7, fun i hi => upd_bt (h8 i hi) hp, h9⟩
