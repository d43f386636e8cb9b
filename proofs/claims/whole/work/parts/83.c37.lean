/-! storable, copy -/
theorem in_Sys : Cond.initialized "java/lang/System" ∈ lw_g := mem_1i (i := 10) (by decide +kernel) rfl
theorem nI_ad {a b : Nat} : nI a + nI b = nI (a + b) := (Int32.ofNat_add a b).symm
/-- references in arrays are there; temporary ones in those for such -/
def mi_cr (M : MS) : Prop := ∀ u j, usd M u → 2 < (M.2.2 2 u).toInt → j < (M.2.2 3 u).toNatClampNeg → 0 ≤ (M.2.2 4 (40 * u + j - 40)).toInt ∧ (M.2.2 4 (40 * u + j - 40)).toInt ≤ (M.1 29).toInt ∧ (M.2.2 2 u = 4 → 0 < (M.2.2 4 (40 * u + j - 40)).toInt → M.2.2 33 (M.2.2 4 (40 * u + j - 40) - 1).toNatClampNeg = 1)
def stc (M : MS) (u t a N : Nat) : Nat := if M.2.2 2 t = 4 then ((List.range N).find? (fun i => decide (ms_ (M.1 29) (M.2.2 33) (M.2.2 2 t) (cArr M u (a + i)) = 0))).getD N else N
def lik (x y : Int32) : Prop := it_of x y = true ∨ it_of y x = true
theorem st_bad {M : MS} {u t a n : Nat} (hrc : mi_refs M) (hT : mi_tmp M) (hC : mi_cr M) (hu : usd M u) (h4 : M.2.2 2 t = 4) (hlk : lik (M.2.2 2 u) (M.2.2 2 t)) (hsp : a + n ≤ (M.2.2 3 u).toNatClampNeg) {i : Nat} (hi : i < n) : decide (ms_ (M.1 29) (M.2.2 33) (M.2.2 2 t) (cArr M u (a + i)) = 0) = bad M u t a i := by
  have hu34 : M.2.2 2 u = 3 ∨ M.2.2 2 u = 4 := by
    rw [h4] at hlk
    rcases hlk with h | h
    · rcases of_ag.mp h with h | h
      · exact Or.inr h
      · exact absurd h.1 (by decide)
    · rcases of_ag.mp h with h | h
      · exact Or.inr h.symm
      · exact Or.inl h.1
  have hu1 := hu.1
  have h2 : 2 < (M.2.2 2 u).toInt := by rcases hu34 with h | h <;> rw [h] <;> decide
  obtain ⟨c1, c2, c3⟩ := hC u (a + i) hu h2 (by omega)
  have ex : 40 * u + (a + i) - 40 = 40 * u - 40 + a + i := by omega
  rw [ex] at c1 c2 c3
  have hrc' := bt_iff.mp hrc
  have ec : cArr M u (a + i) = M.2.2 4 (40 * u - 40 + a + i) - 1 := by
    unfold cArr
    rw [if_pos (by omega), dec_ref hu34, ex]
  rw [ec]
  unfold bad
  generalize M.2.2 4 (40 * u - 40 + a + i) = x at *
  have t1 := ti_sub (a := x) (b := 1) (y := 1) rfl rfl (by omega)
  have t2 := ti_sub (a := M.1 29) (b := 1) (y := 1) rfl rfl (by omega)
  have e0 : (0 : Int32).toInt = 0 := rfl
  have hx : x - 1 = -1 ∨ bt (x - 1) 0 (M.1 29 - 1).toInt = true := by
    by_cases hz : x.toInt = 0
    · exact Or.inl (sub1_m.mpr ((i32_eq _ 0).mpr hz))
    · exact Or.inr (bt_iff.mpr ⟨by omega, by omega⟩)
  have hm := ms_mo (so := M.2.2 2 t) hT hx
  by_cases h3 : M.2.2 2 u = 3
  · rw [decide_eq_true h3, decide_eq_true h4, Bool.true_and, Bool.true_and]
    by_cases h0 : x ≤ 0
    · rw [decide_eq_true h0]
      rw [decide_eq_false (fun z => by have := (hm.mp z).2.1; rw [i32_le] at this h0; omega)]
      rfl
    · rw [decide_eq_false h0]
      rw [i32_le] at h0
      by_cases h9 : M.2.2 33 (x - 1).toNatClampNeg = 0
      · rw [decide_eq_true h9, decide_eq_true (hm.mpr ⟨h4, by rw [i32_le]; omega, h9⟩)]
        rfl
      · rw [decide_eq_false h9, decide_eq_false (fun z => h9 (hm.mp z).2.2)]
        rfl
  · have h44 : M.2.2 2 u = 4 := hu34.elim (fun z => absurd z h3) id
    rw [decide_eq_false h3, Bool.false_and]
    refine decide_eq_false (fun z => ?_)
    obtain ⟨_, z2, z3⟩ := hm.mp z
    rw [i32_le] at z2
    have := c3 h44 (by omega)
    rw [this] at z3
    exact absurd z3 (by decide)
theorem find_c {P Q : Nat → Bool} : ∀ (l : List Nat), (∀ i ∈ l, P i = Q i) → l.find? P = l.find? Q
  | [], _ => rfl
  | x :: l, h => by
    rw [List.find?_cons, List.find?_cons, h x List.mem_cons_self, find_c l (fun i hi => h i (List.mem_cons_of_mem x hi))]
theorem stc_bad {M : MS} {u t a n : Nat} (hrc : mi_refs M) (hT : mi_tmp M) (hC : mi_cr M) (hu : usd M u) (hlk : lik (M.2.2 2 u) (M.2.2 2 t)) (hsp : a + n ≤ (M.2.2 3 u).toNatClampNeg) : stc M u t a n = ((List.range n).find? (fun x => bad M u t a x)).getD n := by
  unfold stc
  by_cases h4 : M.2.2 2 t = 4
  · rw [if_pos h4]
    rw [find_c (List.range n) (fun i hi => st_bad hrc hT hC hu h4 hlk hsp (List.mem_range.mp hi))]
  · rw [if_neg h4]
    have : (List.range n).find? (fun x => bad M u t a x) = none := fr_none (fun j _ => by unfold bad; rw [decide_eq_false h4, Bool.false_and, Bool.and_false])
    rw [this]
    rfl
theorem stc_le {M : MS} {u t a n : Nat} : stc M u t a n ≤ n := by
  unfold stc
  split
  · cases h : (List.range n).find? (fun i => decide (ms_ (M.1 29) (M.2.2 33) (M.2.2 2 t) (cArr M u (a + i)) = 0)) with
    | none => exact Nat.le_refl n
    | some g => exact Nat.le_of_lt (List.mem_range.mp (List.mem_of_find?_eq_some h))
  · exact Nat.le_refl n
theorem span_nat {n : Nat} {a m : Int32} (hn : n ≤ 40) (h : it_span n a m = true) : ∃ x y : Nat, a = nI x ∧ m = nI y ∧ x + y ≤ n := by
  unfold it_span at h
  simp only [Bool.and_eq_true, Bool.not_eq_true', decide_eq_false_iff_not, i32_lt] at h
  obtain ⟨h1, h2, h3, h4⟩ := h
  have e0 : (0 : Int32).toInt = 0 := rfl
  rw [nI_toInt (by omega)] at h3
  have t1 := ti_sub (a := nI n) (b := a) (nI_toInt (by omega)) rfl (by omega)
  rw [t1] at h4
  refine ⟨a.toNatClampNeg, m.toNatClampNeg, (nI_cl (by omega)).symm, (nI_cl (by omega)).symm, ?_⟩
  have c1 := cl_toInt (x := a) (by omega)
  have c2 := cl_toInt (x := m) (by omega)
  omega
theorem span_no {n : Nat} {a m : Int32} (hn : n ≤ 40) (h : ¬ it_span n a m = true) : a < 0 ∨ m < 0 ∨ (n : Int) < a.toInt + m.toInt := by
  unfold it_span at h
  by_cases h1 : a < 0
  · exact Or.inl h1
  by_cases h2 : m < 0
  · exact Or.inr (Or.inl h2)
  refine Or.inr (Or.inr (Decidable.byContradiction (fun z => h ?_)))
  simp only [Bool.and_eq_true, Bool.not_eq_true', decide_eq_false_iff_not, i32_lt] at h1 h2 ⊢
  have e0 : (0 : Int32).toInt = 0 := rfl
  have t1 := ti_sub (a := nI n) (b := a) (nI_toInt (by omega)) rfl (by omega)
  rw [t1, nI_toInt (by omega)]
  omega
set_option maxRecDepth 100000 in
set_option maxHeartbeats 4000000 in
theorem kX10_storable (G : GG) (l : Launch) (M : MS) (ad : AD) (gi : GI) (w : WM) (hL : RLa G M ad gi w) (hrc : mi_refs M) (hT : mi_tmp M) (u tg : Nat) (hu : usd M u) (ht : usd M tg) (hS : mi_size M) (a N : Nat) (hsp : a + N ≤ (M.2.2 3 u).toNatClampNeg) : MC G l yX10_storable cX10_storable 6 ((Option.some .int)) ({ frames := 3, cells := 0, slots := 0, locals := 65 } : Room) [.ref (ad 0 0), .ref (ad 11 u), .int (nI a), .ref (ad 11 tg), .int (nI N)] w (fun v w' => v = some (.int (nI (stc M u tg a N))) ∧ w' = w) := by
  refine mc_int (by decide) (Nat.le_of_ble_eq_true rfl) rfl rfl ?_
  intro p e s m args below meth c A H0 Q X hnm RTN
  have X : Cx G p s m args meth c A H0 cX10_storable 6 RX10 := X
  have k0_ : w (ad 0 0) = some (.inr (11, [.ref (ad 1 0), .ref (ad 2 0), .ref (ad 3 0), .ref (ad 4 0), .ref (ad 5 0), .ref (ad 6 0), va_rf (sAd M ad (M.1 20)), .int (M.1 7), .int (M.1 29), .int (M.1 38), .int ((M.2.1 21).toInt32), .int ((M.2.1 22).toInt32), .int (M.1 5)])) := hL.1 0 0 (lvf 0 (by decide))
  have k4_ : w (ad 4 0) = some (rA (gA G 6) 20 (cF M ad)) := hL.1 4 0 (lvf 4 (by decide))
  have hsz := n40 (hS u (by have := hu.2.1; omega))
  refine aw_aload_n X dX10_storable_0 rfl rfl ?_
  refine aw_get X okX2 (k := 0) (hL.1 11 tg ht) (Nat.le_of_ble_eq_true rfl) fl_X10_106 (Or.inl rfl) rfl dX10_storable_1 ?_
  refine aw_iconst X dX10_storable_4 ci_4 ?_
  refine aw_icmp_eq (tgt := 11) X dX10_storable_5 rfl (fun c5 => ?_) (fun c5 => ?_)
  · refine aw_iconst X dX10_storable_11 ci_0 ?_
    refine aw_istore (lv' := [(5, _), (0, _), (1, _), (2, _), (3, _), (4, _)]) X dX10_storable_12 (by decide) rfl ?_
    have L : ∀ (nn : Nat) (i : Nat) (x : Int32), (x = nI i) → (i ≤ N) → (∀ j, j < i → decide (ms_ (M.1 29) (M.2.2 33) (M.2.2 2 tg) (cArr M u (a + j)) = 0) = false) → (N + 1 ≤ i + nn) → AW G p l e ({ frames := 3, cells := 0, slots := 0, locals := 65 } : Room) s m args below meth c 6 A H0 Q w 0 0 14 [(5, .int x), (0, .ref (ad 0 0)), (1, .ref (ad 11 u)), (2, .int (nI a)), (3, .ref (ad 11 tg)), (4, .int (nI N))] [] := by
      intro nn
      induction nn with
      | zero => intro i x hx h1 hb h2; exact absurd h2 (by omega)
      | succ nn ih =>
        intro i x hx h1 hb h2
        subst hx
        refine aw_iload X dX10_storable_14 rfl ?_
        refine aw_iload X dX10_storable_16 rfl ?_
        refine aw_icmp_ge (tgt := 44) X dX10_storable_18 rfl (fun c18 => ?_) (fun c18 => ?_)
        · have h9 : i = N := by have := (nI_leI (a := N) (b := i) (by omega) (by omega)).mp c18; omega
          refine aw_iload X dX10_storable_44 rfl ?_
          refine RTN (some (.int _)) _ _ _ _ _ dX10_storable_46 (⟨_, rfl⟩) (Nat.le_of_ble_eq_true rfl) (Nat.le_of_ble_eq_true rfl) ?_
          exact ⟨by unfold stc; rw [if_pos c5, show (List.range N).find? _ = none from fr_none (by rw [← h9]; exact hb), h9]; rfl, rfl⟩
        · have h9 : i < N := Nat.lt_of_not_le (fun h => c18 ((nI_leI (a := N) (b := i) (by omega) (by omega)).mpr h))
          refine aw_aload_n X dX10_storable_21 rfl rfl ?_
          refine aw_aload_n X dX10_storable_22 rfl rfl ?_
          refine aw_aload_n X dX10_storable_23 rfl rfl ?_
          refine aw_get X okX2 (k := 1) (hL.1 11 u hu) (Nat.le_of_ble_eq_true rfl) fl_X10_65 (Or.inl rfl) rfl dX10_storable_24 ?_
          refine aw_iload_n X dX10_storable_27 rfl rfl ?_
          refine aw_iload X dX10_storable_28 rfl ?_
          refine aw_iadd X dX10_storable_30 ?_
          rw [nI_ad]
          refine aw_iald X (hL.1 12 u hu) (vp_in_nI (by omega) (by omega)) dX10_storable_31 ?_
          rw [nI_clamp (show a + i < 2 ^ 31 by omega)]
          refine aw_callV X (kX10_mayStore _ _ _ _ _ _ _ _ _ _ _ _ _ _ _ _ _ k0_ _ k4_ _ _ _ _ _ hT hrc (rfs_all hL) _ _ 0 _ (fun _ => 0) (hL.1 11 tg ht) _) okm_X10_mayStore okX10 k0_ ml_X10_78 im_X10_mayStore se_X10_X10_mayStore rfl rfl (Nat.le_of_ble_eq_true rfl) ⟨Nat.le_of_ble_eq_true rfl, Nat.le_of_ble_eq_true rfl, Nat.le_of_ble_eq_true rfl, Nat.le_of_ble_eq_true rfl⟩ dX10_storable_32 (fun v w2 hp => ?_)
          obtain ⟨rfl, hw9⟩ := hp
          have hw9 := hw9.symm
          subst hw9
          refine aw_if_eq (tgt := 44) X dX10_storable_35 rfl (fun c35 => ?_) (fun c35 => ?_)
          · refine aw_iload X dX10_storable_44 rfl ?_
            refine RTN (some (.int _)) _ _ _ _ _ dX10_storable_46 (⟨_, rfl⟩) (Nat.le_of_ble_eq_true rfl) (Nat.le_of_ble_eq_true rfl) ?_
            exact ⟨by unfold stc; rw [if_pos c5, show (List.range N).find? _ = some i from fr_some h9 hb (decide_eq_true c35)]; rfl, rfl⟩
          · refine aw_iinc (lv' := [(5, _), (0, _), (1, _), (2, _), (3, _), (4, _)]) X dX10_storable_38 rfl (iinc_1 _) (by decide) rfl ?_
            refine aw_goto (tgt := 14) X dX10_storable_41 rfl ?_
            refine aw_lv [0, 1, 2, 3, 4, 5] rfl ?_
            exact ih (i + 1) _ (nI_1 i) (by omega) (fun j hj => by rcases Nat.lt_or_eq_of_le (Nat.le_of_lt_succ hj) with h | h; exact hb j h; rw [h]; exact decide_eq_false c35) (by omega)
    refine aw_lv [0, 1, 2, 3, 4, 5] rfl ?_
    exact L (N + 1) 0 _ rfl (by omega) (fun j hj => absurd hj (Nat.not_lt_zero j)) (by omega)
  · refine aw_iload X dX10_storable_8 rfl ?_
    refine RTN (some (.int _)) _ _ _ _ _ dX10_storable_10 (⟨_, rfl⟩) (Nat.le_of_ble_eq_true rfl) (Nat.le_of_ble_eq_true rfl) ?_
    exact ⟨by unfold stc; rw [if_neg c5], rfl⟩
