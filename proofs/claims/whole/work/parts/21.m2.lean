/-! arrays' numbers -/
theorem pg_len {α : Type} [DecidableEq α] : ∀ (l xs : List α), l.Nodup → (∀ a ∈ l, a ∈ xs) → l.length ≤ xs.length
  | [], _, _, _ => Nat.zero_le _
  | a :: l, xs, hn, h => by
    have ha : a ∈ xs := h a List.mem_cons_self
    have hn' := List.nodup_cons.mp hn
    have h1 := pg_len l (xs.erase a) hn'.2 (fun b hb => (List.mem_erase_of_ne (fun z => hn'.1 (by rw [← z]; exact hb))).mpr (h b (List.mem_cons_of_mem _ hb)))
    have h2 := List.length_erase_of_mem ha
    have h3 : 0 < xs.length := List.length_pos_of_mem ha
    simp only [List.length_cons]
    omega
def uF (M : MS) (a : Int32) (k : Nat) : Bool := decide (M.2.2 1 k = a) || (decide (0 < M.2.2 6 k) && (decide (M.2.2 8 k = 1) && decide (M.2.2 15 k = a)))
def uA (M : MS) (a : Int32) (i : Nat) : Bool := (List.range i).any (uF M a)
theorem uA_0 {M : MS} {a : Int32} : uA M a 0 = false := rfl
theorem uA_s {M : MS} {a : Int32} {i : Nat} : uA M a (i + 1) = (uA M a i || uF M a i) := by unfold uA; rw [List.range_succ, List.any_append]; simp
theorem uA_pg {M : MS} {j : Nat} (hj : j < 2 ^ 30) (h : ∀ b, b < j → uA M (nI (b + 1)) 8 = true) : j ≤ 16 := by
  have h1 := pg_len ((List.range j).map (fun b => nI (b + 1))) ((List.range 8).map (M.2.2 1) ++ (List.range 8).map (M.2.2 15)) ?_ ?_
  · simpa using h1
  · refine List.pairwise_map.mpr ((List.nodup_range (n := j)).imp_of_mem (fun {a b} ha hb hne => ?_))
    intro z
    have h1 := List.mem_range.mp ha
    have h2 := List.mem_range.mp hb
    exact hne (by have := (nI_eq (by omega) (by omega)).mp z; omega)
  · intro a ha
    obtain ⟨b, hb, rfl⟩ := List.mem_map.mp ha
    have h2 := h b (List.mem_range.mp hb)
    unfold uA at h2
    rw [List.any_eq_true] at h2
    obtain ⟨k, hk, h3⟩ := h2
    unfold uF at h3
    simp only [Bool.or_eq_true, Bool.and_eq_true, decide_eq_true_iff] at h3
    rcases h3 with h3 | h3
    · exact List.mem_append_left _ (List.mem_map.mpr ⟨k, hk, h3⟩)
    · exact List.mem_append_right _ (List.mem_map.mpr ⟨k, hk, h3.2.2⟩)
def mo_fa (M : MS) : Nat := ((List.range 17).find? (fun a => !(uA M (nI (a + 1)) 8))).getD 0 + 1
theorem fa_in (M : MS) : 1 ≤ mo_fa M ∧ mo_fa M ≤ 17 := by
  unfold mo_fa
  cases h : (List.range 17).find? (fun a => !(uA M (nI (a + 1)) 8)) with
  | none => simp
  | some k =>
    have := List.mem_range.mp (List.mem_of_find?_eq_some h)
    simp only [Option.getD_some]
    omega
theorem fa_bt (M : MS) : bt (nI (mo_fa M)) 1 24 := by
  have := fa_in M
  exact (bt_nI (by omega)).mpr ⟨by omega, by omega⟩
def mo_fill (M : MS) (a : Int32) : Nat → MS
  | 0 => M
  | n + 1 => sF (mo_fill M a n) 4 ((40 : Int32) * a + nI n - 40).toNatClampNeg 0
def mo_row (M : MS) (r sort n : Int32) : Int32 × MS :=
  if bt r 0 7 then
    if bt sort 0 4 then
      if sort ≤ 0 then (1, sF (sI M 0 0) 1 r.toNatClampNeg 0)
      else if n ≤ 40 then
        if 0 ≤ n then (1, sF (mo_fill (sF (sF (sI M 0 0) 2 (nI (mo_fa (sI M 0 0))).toNatClampNeg sort) 3 (nI (mo_fa (sI M 0 0))).toNatClampNeg n) (nI (mo_fa (sI M 0 0))) 40) 1 r.toNatClampNeg (nI (mo_fa (sI M 0 0))))
        else ((-10) - 4, sI (sI M 0 0) 5 4)
      else (-3, sI M 0 0)
    else (-3, sI M 0 0)
  else (-2, sI M 0 0)
def mi_row (M : MS) : Prop := ∀ k, k < 8 → bt (M.2.2 1 k) 0 24 = true
def mi_size (M : MS) : Prop := ∀ k, k < 25 → bt (M.2.2 3 k) 0 40 = true
theorem cl_lt {x : Int32} {lo hi : Int} {n : Nat} (h : bt x lo hi) (hn : hi < n) (h0 : 0 < n) : x.toNatClampNeg < n := by
  have := (bt_iff.mp h).2
  have h2 : x.toNatClampNeg = x.toInt.toNat := rfl
  omega
theorem ag_ok {M : MS} {a sort k : Int32} (hs : mi_size M) (ha : bt a 0 24) (h : mo_ag M a sort k ≤ 0) : bt a 1 24 ∧ bt k 0 39 := by
  unfold mo_ag at h
  split at h
  · exact absurd h (by decide)
  · rename_i h0
    split at h
    · split at h
      · rename_i hk
        have h1 := bt_iff.mp ha
        have h2 := bt_iff.mp hk
        have h3 := bt_iff.mp (hs a.toNatClampNeg (cl_lt ha (by decide) (by decide)))
        have h4 : a.toInt ≠ 0 := fun z => h0 ((i32_eq a 0).mpr z)
        have h5 := ti_sub (a := M.2.2 3 a.toNatClampNeg) (b := 1) (y := 1) rfl rfl (by omega)
        exact ⟨bt_iff.mpr ⟨by omega, by omega⟩, bt_iff.mpr ⟨by omega, by omega⟩⟩
      · exact absurd h (by decide)
    · exact absurd h (by decide)
theorem ag_ok0 {M : MS} {a sort k : Int32} (hs : mi_size M) (ha : bt a 0 24) (h : mo_ag M a sort k = 0) : bt a 1 24 ∧ bt k 0 39 := ag_ok hs ha (by rw [h]; decide)
theorem fp_bt {M : MS} (h : ¬ oI (mo_fp M) < 0) : bt (oI (mo_fp M)) 0 7 := by
  cases hf : mo_fp M with
  | none => rw [hf] at h; exact absurd (by decide) h
  | some k =>
    have := List.mem_range.mp (List.mem_of_find?_eq_some hf)
    exact (bt_nI (by omega)).mpr ⟨by omega, by omega⟩
theorem fp_bt' {M : MS} (h : 0 ≤ oI (mo_fp M)) : bt (oI (mo_fp M)) 0 7 := fp_bt (Int32.not_lt.mpr h)
theorem pl_bt {M : MS} {t : Int32} (h : ¬ oI (mo_pl M t) < 0) : bt (oI (mo_pl M t)) 0 7 := by
  cases hf : mo_pl M t with
  | none => rw [hf] at h; exact absurd (by decide) h
  | some k =>
    have := List.mem_range.mp (List.mem_of_find?_eq_some hf)
    exact (bt_nI (by omega)).mpr ⟨by omega, by omega⟩
theorem pl_bt' {M : MS} {t : Int32} (h : 0 ≤ oI (mo_pl M t)) : bt (oI (mo_pl M t)) 0 7 := pl_bt (Int32.not_lt.mpr h)
set_option maxRecDepth 100000 in
set_option maxHeartbeats 4000000 in
theorem kX11_freeArray (G : GG) (l : Launch) (q : Nat → Nat) (M : MS) (hq : mInj q) : MC G l yX11_freeArray cX11_freeArray 4 ((Option.some .int)) ({ frames := 0, cells := 0, slots := 0, locals := 0 } : Room) [.ref (q 0)] (mw G q M) (fun v w' => v = some (.int (nI (mo_fa M))) ∧ w' = mw G q M) := by
  refine mc_int (by decide) (Nat.le_of_ble_eq_true rfl) rfl rfl ?_
  intro p e s m args below meth c A H0 Q X hnm RTN
  have X : Cx G p s m args meth c A H0 cX11_freeArray 4 RX11 := X
  have L : ∀ (n j : Nat) (x u : Int32), x = nI (j + 1) → u = 1 → j ≤ 17 → (∀ b, b < j → uA M (nI (b + 1)) 8 = true) → 18 ≤ j + n → AW G p l e ({ frames := 0, cells := 0, slots := 0, locals := 0 } : Room) s m args below meth c 4 A H0 Q (mw G q M) 0 0 4 [(1, .int x), (2, .int u), (0, .ref (q 0))] [] := by
    intro n
    induction n with
    | zero => intro j x u hx hu h1 hb h2; exact absurd h2 (by omega)
    | succ n ih =>
      intro j x u hx hu h1 hb h2
      subst hx
      subst hu
      have h16 := uA_pg (by omega) hb
      have LI : ∀ (n i : Nat) (x3 u3 : Int32), x3 = nI i → u3 = b2 (uA M (nI (j + 1)) i) → i ≤ 8 → 9 ≤ i + n → AW G p l e ({ frames := 0, cells := 0, slots := 0, locals := 0 } : Room) s m args below meth c 4 A H0 Q (mw G q M) 0 0 12 [(3, .int x3), (2, .int u3), (1, .int (nI (j + 1))), (0, .ref (q 0))] [] := by
        intro n
        induction n with
        | zero => intro i x3 u3 hx hu h1 h2; exact absurd h2 (by omega)
        | succ n ih2 =>
          intro i x3 u3 hx hu h1 h2
          subst hx
          subst hu
          refine aw_iload_n X dX11_freeArray_12 rfl rfl ?_
          refine aw_bipush X dX11_freeArray_13 cb_8 ?_
          refine aw_icmp_ge (tgt := 73) X dX11_freeArray_15 rfl (fun c15 => ?_) (fun c15 => ?_)
          · have h9 : i = 8 := by have := ge_i (N := 8) rfl (by omega) (by decide) c15; omega
            subst h9
            refine aw_iload_n X dX11_freeArray_73 rfl rfl ?_
            refine aw_iload_n X dX11_freeArray_74 rfl rfl ?_
            refine aw_if_eq (tgt := 82) X dX11_freeArray_75 rfl (fun c75 => ?_) (fun c75 => ?_)
            · rw [b2_0] at c75
              refine aw_iconst X dX11_freeArray_82 ci_0 ?_
              refine aw_iadd X dX11_freeArray_83 ?_
              refine aw_istore_n (lv' := [(1, _), (3, _), (2, _), (0, _)]) X dX11_freeArray_84 rfl (by decide) rfl ?_
              refine aw_goto (tgt := 4) X dX11_freeArray_85 rfl ?_
              refine aw_iload_n X dX11_freeArray_4 rfl rfl ?_
              refine aw_if_eq (tgt := 88) X dX11_freeArray_5 rfl (fun c5 => ?_) (fun c5 => ?_)
              · rw [b2_0] at c5
                refine aw_iload_n X dX11_freeArray_88 rfl rfl ?_
                refine RTN (some (.int _)) _ _ _ _ _ dX11_freeArray_89 (⟨_, rfl⟩) (Nat.le_of_ble_eq_true rfl) (Nat.le_of_ble_eq_true rfl) ?_
                exact ⟨by rw [Int32.add_zero, mo_fa, fr_some (i := j) (by omega) (fun b h => by rw [hb b h]; rfl) (by rw [c75]; rfl)]; rfl, rfl⟩
              · rw [b2_n0] at c5
                rw [c75] at c5
                exact absurd c5 (by decide)
            · rw [b2_n0] at c75
              refine aw_iconst X dX11_freeArray_78 ci_1 ?_
              refine aw_goto (tgt := 83) X dX11_freeArray_79 rfl ?_
              refine aw_iadd X dX11_freeArray_83 ?_
              refine aw_istore_n (lv' := [(1, _), (3, _), (2, _), (0, _)]) X dX11_freeArray_84 rfl (by decide) rfl ?_
              refine aw_goto (tgt := 4) X dX11_freeArray_85 rfl ?_
              refine aw_lv [0, 2, 3] rfl ?_
              exact ih (j + 1) _ _ (nI_1 (j + 1)) (by rw [c75]; rfl) (by omega) (lt_s hb c75) (by omega)
          · have h9 : i < 8 := lt_i (N := 8) rfl (by omega) (by decide) c15
            refine aw_iload_n X dX11_freeArray_18 rfl rfl ?_
            refine aw_if_ne (tgt := 61) X dX11_freeArray_19 rfl (fun c19 => ?_) (fun c19 => ?_)
            · rw [b2_n0] at c19
              refine aw_iconst X dX11_freeArray_61 ci_1 ?_
              refine aw_goto (tgt := 66) X dX11_freeArray_62 rfl ?_
              refine aw_istore_n (lv' := [(2, _), (3, _), (1, _), (0, _)]) X dX11_freeArray_66 rfl (by decide) rfl ?_
              refine aw_iinc (lv' := [(3, _), (2, _), (1, _), (0, _)]) X dX11_freeArray_67 rfl (iinc_1 _) (by decide) rfl ?_
              refine aw_goto (tgt := 12) X dX11_freeArray_70 rfl ?_
              refine aw_lv [0, 1, 2, 3] rfl ?_
              have hu2 : (1 : Int32) = b2 (uA M (nI (j + 1)) (i + 1)) := by rw [uA_s]; simp [uF, b2, c19]
              exact ih2 (i + 1) _ _ (nI_1 i) hu2 (by omega) (by omega)
            · rw [b2_0] at c19
              refine aw_aload_n X dX11_freeArray_22 rfl rfl ?_
              refine am_get X 1 (Nat.le_of_ble_eq_true rfl) fl_X11_16 rfl rfl dX11_freeArray_23 ?_
              refine aw_iload_n X dX11_freeArray_26 rfl rfl ?_
              refine am_ald X 1 _ (M.2.2 1) hq (by decide) rfl rfl rfl (vp_in_nI h9 (by decide)) dX11_freeArray_27 ?_
              refine aw_iload_n X dX11_freeArray_28 rfl rfl ?_
              refine aw_icmp_eq (tgt := 61) X dX11_freeArray_29 rfl (fun c29 => ?_) (fun c29 => ?_)
              · rw [nI_clamp (by omega)] at c29
                refine aw_iconst X dX11_freeArray_61 ci_1 ?_
                refine aw_goto (tgt := 66) X dX11_freeArray_62 rfl ?_
                refine aw_istore_n (lv' := [(2, _), (3, _), (1, _), (0, _)]) X dX11_freeArray_66 rfl (by decide) rfl ?_
                refine aw_iinc (lv' := [(3, _), (2, _), (1, _), (0, _)]) X dX11_freeArray_67 rfl (iinc_1 _) (by decide) rfl ?_
                refine aw_goto (tgt := 12) X dX11_freeArray_70 rfl ?_
                refine aw_lv [0, 1, 2, 3] rfl ?_
                have hu2 : (1 : Int32) = b2 (uA M (nI (j + 1)) (i + 1)) := by rw [uA_s]; simp [uF, b2, c19, c29]
                exact ih2 (i + 1) _ _ (nI_1 i) hu2 (by omega) (by omega)
              · rw [nI_clamp (by omega)] at c29
                refine aw_aload_n X dX11_freeArray_32 rfl rfl ?_
                refine am_get X 6 (Nat.le_of_ble_eq_true rfl) fl_X11_20 rfl rfl dX11_freeArray_33 ?_
                refine aw_iload_n X dX11_freeArray_36 rfl rfl ?_
                refine am_ald X 6 _ (M.2.2 6) hq (by decide) rfl rfl rfl (vp_in_nI h9 (by decide)) dX11_freeArray_37 ?_
                refine aw_if_le (tgt := 65) X dX11_freeArray_38 rfl (fun c38 => ?_) (fun c38 => ?_)
                · rw [nI_clamp (by omega)] at c38
                  rw [← Int32.not_lt] at c38
                  refine aw_iconst X dX11_freeArray_65 ci_0 ?_
                  refine aw_istore_n (lv' := [(2, _), (3, _), (1, _), (0, _)]) X dX11_freeArray_66 rfl (by decide) rfl ?_
                  refine aw_iinc (lv' := [(3, _), (2, _), (1, _), (0, _)]) X dX11_freeArray_67 rfl (iinc_1 _) (by decide) rfl ?_
                  refine aw_goto (tgt := 12) X dX11_freeArray_70 rfl ?_
                  refine aw_lv [0, 1, 2, 3] rfl ?_
                  have hu2 : (0 : Int32) = b2 (uA M (nI (j + 1)) (i + 1)) := by rw [uA_s]; simp [uF, b2, c19, c29, c38]
                  exact ih2 (i + 1) _ _ (nI_1 i) hu2 (by omega) (by omega)
                · rw [nI_clamp (by omega)] at c38
                  rw [Int32.not_le] at c38
                  refine aw_aload_n X dX11_freeArray_41 rfl rfl ?_
                  refine am_get X 8 (Nat.le_of_ble_eq_true rfl) fl_X11_23 rfl rfl dX11_freeArray_42 ?_
                  refine aw_iload_n X dX11_freeArray_45 rfl rfl ?_
                  refine am_ald X 8 _ (M.2.2 8) hq (by decide) rfl rfl rfl (vp_in_nI h9 (by decide)) dX11_freeArray_46 ?_
                  refine aw_iconst X dX11_freeArray_47 ci_1 ?_
                  refine aw_icmp_ne (tgt := 65) X dX11_freeArray_48 rfl (fun c48 => ?_) (fun c48 => ?_)
                  · rw [nI_clamp (by omega)] at c48
                    refine aw_iconst X dX11_freeArray_65 ci_0 ?_
                    refine aw_istore_n (lv' := [(2, _), (3, _), (1, _), (0, _)]) X dX11_freeArray_66 rfl (by decide) rfl ?_
                    refine aw_iinc (lv' := [(3, _), (2, _), (1, _), (0, _)]) X dX11_freeArray_67 rfl (iinc_1 _) (by decide) rfl ?_
                    refine aw_goto (tgt := 12) X dX11_freeArray_70 rfl ?_
                    refine aw_lv [0, 1, 2, 3] rfl ?_
                    have hu2 : (0 : Int32) = b2 (uA M (nI (j + 1)) (i + 1)) := by rw [uA_s]; simp [uF, b2, c19, c29, c38, c48]
                    exact ih2 (i + 1) _ _ (nI_1 i) hu2 (by omega) (by omega)
                  · rw [nI_clamp (by omega)] at c48
                    refine aw_aload_n X dX11_freeArray_51 rfl rfl ?_
                    refine am_get X 15 (Nat.le_of_ble_eq_true rfl) fl_X11_26 rfl rfl dX11_freeArray_52 ?_
                    refine aw_iload_n X dX11_freeArray_55 rfl rfl ?_
                    refine am_ald X 15 _ (M.2.2 15) hq (by decide) rfl rfl rfl (vp_in_nI h9 (by decide)) dX11_freeArray_56 ?_
                    refine aw_iload_n X dX11_freeArray_57 rfl rfl ?_
                    refine aw_icmp_ne (tgt := 65) X dX11_freeArray_58 rfl (fun c58 => ?_) (fun c58 => ?_)
                    · rw [nI_clamp (by omega)] at c58
                      refine aw_iconst X dX11_freeArray_65 ci_0 ?_
                      refine aw_istore_n (lv' := [(2, _), (3, _), (1, _), (0, _)]) X dX11_freeArray_66 rfl (by decide) rfl ?_
                      refine aw_iinc (lv' := [(3, _), (2, _), (1, _), (0, _)]) X dX11_freeArray_67 rfl (iinc_1 _) (by decide) rfl ?_
                      refine aw_goto (tgt := 12) X dX11_freeArray_70 rfl ?_
                      refine aw_lv [0, 1, 2, 3] rfl ?_
                      have hu2 : (0 : Int32) = b2 (uA M (nI (j + 1)) (i + 1)) := by rw [uA_s]; simp [uF, b2, c19, c29, c38, c48, c58]
                      exact ih2 (i + 1) _ _ (nI_1 i) hu2 (by omega) (by omega)
                    · rw [nI_clamp (by omega)] at c58
                      refine aw_iconst X dX11_freeArray_61 ci_1 ?_
                      refine aw_goto (tgt := 66) X dX11_freeArray_62 rfl ?_
                      refine aw_istore_n (lv' := [(2, _), (3, _), (1, _), (0, _)]) X dX11_freeArray_66 rfl (by decide) rfl ?_
                      refine aw_iinc (lv' := [(3, _), (2, _), (1, _), (0, _)]) X dX11_freeArray_67 rfl (iinc_1 _) (by decide) rfl ?_
                      refine aw_goto (tgt := 12) X dX11_freeArray_70 rfl ?_
                      refine aw_lv [0, 1, 2, 3] rfl ?_
                      have hu2 : (1 : Int32) = b2 (uA M (nI (j + 1)) (i + 1)) := by rw [uA_s]; simp [uF, b2, c19, c29, c38, c48, c58]
                      exact ih2 (i + 1) _ _ (nI_1 i) hu2 (by omega) (by omega)
      refine aw_iload_n X dX11_freeArray_4 rfl rfl ?_
      refine aw_if_eq (tgt := 88) X dX11_freeArray_5 rfl (fun c5 => ?_) (fun c5 => ?_)
      · exact absurd c5 (by decide)
      · refine aw_iconst X dX11_freeArray_8 ci_0 ?_
        refine aw_istore_n (lv' := [(2, _), (1, _), (0, _)]) X dX11_freeArray_9 rfl (by decide) rfl ?_
        refine aw_iconst X dX11_freeArray_10 ci_0 ?_
        refine aw_istore_n (lv' := [(3, _), (2, _), (1, _), (0, _)]) X dX11_freeArray_11 rfl (by decide) rfl ?_
        refine aw_lv [0, 1, 2, 3] rfl ?_
        exact LI 9 0 _ _ rfl rfl (by decide) (by decide)
  refine aw_iconst X dX11_freeArray_0 ci_1 ?_
  refine aw_istore_n (lv' := [(1, _), (0, _)]) X dX11_freeArray_1 rfl (by decide) rfl ?_
  refine aw_iconst X dX11_freeArray_2 ci_1 ?_
  refine aw_istore_n (lv' := [(2, _), (1, _), (0, _)]) X dX11_freeArray_3 rfl (by decide) rfl ?_
  refine aw_lv [1, 0, 2] rfl ?_
  exact L 18 0 _ _ rfl rfl (by decide) (fun j h => absurd h (Nat.not_lt_zero j)) (by decide)
set_option maxRecDepth 100000 in
set_option maxHeartbeats 4000000 in
theorem kX11_row (G : GG) (l : Launch) (q : Nat → Nat) (M : MS) (hq : mInj q) (r sort n : Int32) : MC G l yX11_row cX11_row 6 ((Option.some .int)) ({ frames := 2, cells := 0, slots := 0, locals := 45 } : Room) [.ref (q 0), .int r, .int sort, .int n] (mw G q M) (fun v w' => v = some (.int (mo_row M r sort n).1) ∧ w' = mw G q (mo_row M r sort n).2) := by
  refine mc_int (by decide) (Nat.le_of_ble_eq_true rfl) rfl rfl ?_
  intro p e s m args below meth c A H0 Q X hnm RTN
  have X : Cx G p s m args meth c A H0 cX11_row 6 RX11 := X
  refine aw_aload_n X dX11_row_0 rfl rfl ?_
  refine aw_iconst X dX11_row_1 ci_0 ?_
  refine am_put X 0 (M' := sI _ 0 _) (Nat.le_of_ble_eq_true rfl) fl_X11_1 rfl rfl (rfl) (rfl) (mf_0 _ _ _) rfl dX11_row_2 ?_
  refine aw_iload_n X dX11_row_5 rfl rfl ?_
  refine aw_callS X (kX11_isRow _ _ _ _) okm_X11_isRow ml_X11_29 st_X11_isRow rfl rfl (Nat.le_of_ble_eq_true rfl) ⟨Nat.le_of_ble_eq_true rfl, Nat.le_of_ble_eq_true rfl, Nat.le_of_ble_eq_true rfl, Nat.le_of_ble_eq_true rfl⟩ dX11_row_6 (fun v w2 hp => ?_)
  obtain ⟨rfl, rfl⟩ := hp
  refine aw_if_ne (tgt := 15) X dX11_row_9 rfl (fun c9 => ?_) (fun c9 => ?_)
  · rw [bI_n0] at c9
    refine aw_iload_n X dX11_row_15 rfl rfl ?_
    refine aw_i2l X dX11_row_16 ?_
    refine aw_lconst X dX11_row_17 cl_0 ?_
    refine aw_ldc2 X kl_X11_33 dX11_row_18 ?_
    refine aw_callS X (kX11_inI _ _ _ _ _ _ 0 4 rfl rfl) okm_X11_in ml_X11_12 st_X11_in rfl rfl (Nat.le_of_ble_eq_true rfl) ⟨Nat.le_of_ble_eq_true rfl, Nat.le_of_ble_eq_true rfl, Nat.le_of_ble_eq_true rfl, Nat.le_of_ble_eq_true rfl⟩ dX11_row_21 (fun v w2 hp => ?_)
    obtain ⟨rfl, rfl⟩ := hp
    refine aw_if_eq (tgt := 37) X dX11_row_24 rfl (fun c24 => ?_) (fun c24 => ?_)
    · rw [bI_0] at c24
      refine aw_bipush X dX11_row_37 cb_m3 ?_
      refine RTN (some (.int _)) _ _ _ _ _ dX11_row_39 (⟨_, rfl⟩) (Nat.le_of_ble_eq_true rfl) (Nat.le_of_ble_eq_true rfl) ?_
      first | (constructor <;> ((try simp only [mo_row, c9, c24, if_true, if_false, not_true_eq_false, not_false_eq_true, and_self, true_and, and_true, false_and, and_false, or_true, true_or, or_false, false_or, reduceCtorEq, ne_eq]); (try rfl); done)) | (clear RTN X; constructor <;> ((try simp_all only [mo_row, if_true, if_false, not_true_eq_false, not_false_eq_true, and_self, true_and, and_true, false_and, and_false, or_true, true_or, or_false, false_or, reduceCtorEq, ne_eq]); (try rfl); done))
    · rw [bI_n0] at c24
      refine aw_iload_n X dX11_row_27 rfl rfl ?_
      refine aw_if_le (tgt := 40) X dX11_row_28 rfl (fun c28 => ?_) (fun c28 => ?_)
      · refine aw_iload_n X dX11_row_40 rfl rfl ?_
        refine aw_if_le (tgt := 54) X dX11_row_41 rfl (fun c41 => ?_) (fun c41 => ?_)
        · refine aw_iload_n X dX11_row_54 rfl rfl ?_
          refine aw_if_ne (tgt := 67) X dX11_row_55 rfl (fun c55 => ?_) (fun c55 => ?_)
          · exact absurd (Int32.le_antisymm c28 (by have := (bt_iff.mp c24).1; rw [i32_le]; exact this)) c55
          · refine aw_aload_n X dX11_row_58 rfl rfl ?_
            refine am_get X 1 (Nat.le_of_ble_eq_true rfl) fl_X11_16 rfl rfl dX11_row_59 ?_
            refine aw_iload_n X dX11_row_62 rfl rfl ?_
            refine aw_iconst X dX11_row_63 ci_0 ?_
            refine am_ast X 1 _ hq (by decide) rfl rfl (bt_vp (c9) (by decide) (by decide)) dX11_row_64 ?_
            refine aw_iconst X dX11_row_65 ci_1 ?_
            refine RTN (some (.int _)) _ _ _ _ _ dX11_row_66 (⟨_, rfl⟩) (Nat.le_of_ble_eq_true rfl) (Nat.le_of_ble_eq_true rfl) ?_
            first | (constructor <;> ((try simp only [mo_row, c9, c24, c28, c41, c55, if_true, if_false, not_true_eq_false, not_false_eq_true, and_self, true_and, and_true, false_and, and_false, or_true, true_or, or_false, false_or, reduceCtorEq, ne_eq]); (try rfl); done)) | (clear RTN X; constructor <;> ((try simp_all only [mo_row, if_true, if_false, not_true_eq_false, not_false_eq_true, and_self, true_and, and_true, false_and, and_false, or_true, true_or, or_false, false_or, reduceCtorEq, ne_eq]); (try rfl); done))
        · exact absurd c28 c41
      · refine aw_iload_n X dX11_row_31 rfl rfl ?_
        refine aw_bipush X dX11_row_32 cb_40 ?_
        refine aw_icmp_le (tgt := 40) X dX11_row_34 rfl (fun c34 => ?_) (fun c34 => ?_)
        · refine aw_iload_n X dX11_row_40 rfl rfl ?_
          refine aw_if_le (tgt := 54) X dX11_row_41 rfl (fun c41 => ?_) (fun c41 => ?_)
          · exact absurd c41 c28
          · refine aw_iload_n X dX11_row_44 rfl rfl ?_
            refine aw_if_ge (tgt := 54) X dX11_row_45 rfl (fun c45 => ?_) (fun c45 => ?_)
            · refine aw_iload_n X dX11_row_54 rfl rfl ?_
              refine aw_if_ne (tgt := 67) X dX11_row_55 rfl (fun c55 => ?_) (fun c55 => ?_)
              · refine aw_aload_n X dX11_row_67 rfl rfl ?_
                refine aw_callV X (kX11_freeArray _ _ _ _ hq) okm_X11_freeArray okX11 mw_0 ml_X11_39 im_X11_freeArray se_X11_X11_freeArray rfl rfl (Nat.le_of_ble_eq_true rfl) ⟨Nat.le_of_ble_eq_true rfl, Nat.le_of_ble_eq_true rfl, Nat.le_of_ble_eq_true rfl, Nat.le_of_ble_eq_true rfl⟩ dX11_row_68 (fun v w2 hp => ?_)
                obtain ⟨rfl, rfl⟩ := hp
                refine aw_istore (lv' := [(4, _), (0, _), (1, _), (2, _), (3, _)]) X dX11_row_71 (by decide) rfl ?_
                refine aw_aload_n X dX11_row_73 rfl rfl ?_
                refine am_get X 2 (Nat.le_of_ble_eq_true rfl) fl_X11_43 rfl rfl dX11_row_74 ?_
                refine aw_iload X dX11_row_77 rfl ?_
                refine aw_iload_n X dX11_row_79 rfl rfl ?_
                refine am_ast X 2 _ hq (by decide) rfl rfl (bt_vp (fa_bt _) (by decide) (by decide)) dX11_row_80 ?_
                refine aw_aload_n X dX11_row_81 rfl rfl ?_
                refine am_get X 3 (Nat.le_of_ble_eq_true rfl) fl_X11_46 rfl rfl dX11_row_82 ?_
                refine aw_iload X dX11_row_85 rfl ?_
                refine aw_iload_n X dX11_row_87 rfl rfl ?_
                refine am_ast X 3 _ hq (by decide) rfl rfl (bt_vp (fa_bt _) (by decide) (by decide)) dX11_row_88 ?_
                refine aw_iconst X dX11_row_89 ci_0 ?_
                refine aw_istore (lv' := [(5, _), (4, _), (0, _), (1, _), (2, _), (3, _)]) X dX11_row_90 (by decide) rfl ?_
                have L : ∀ (nn : Nat) (i : Nat) (x : Int32), (x = nI i) → (i ≤ 40) → (41 ≤ i + nn) → AW G p l e ({ frames := 2, cells := 0, slots := 0, locals := 45 } : Room) s m args below meth c 6 A H0 Q (mw G q (mo_fill (sF (sF (sI M 0 0) 2 (nI (mo_fa (sI M 0 0))).toNatClampNeg sort) 3 (nI (mo_fa (sI M 0 0))).toNatClampNeg n) (nI (mo_fa (sI M 0 0))) i)) 0 0 92 [(5, .int x), (4, .int (nI (mo_fa (sI M 0 0)))), (0, .ref (q 0)), (1, .int r), (2, .int sort), (3, .int n)] [] := by
                  intro nn
                  induction nn with
                  | zero => intro i x hx h1 h2; exact absurd h2 (by omega)
                  | succ nn ih =>
                    intro i x hx h1 h2
                    subst hx
                    refine aw_iload X dX11_row_92 rfl ?_
                    refine aw_bipush X dX11_row_94 cb_40 ?_
                    refine aw_icmp_ge (tgt := 122) X dX11_row_96 rfl (fun c96 => ?_) (fun c96 => ?_)
                    · have h9 : i = 40 := by have := ge_i (N := 40) rfl (by omega) (by decide) c96; omega
                      subst h9
                      refine aw_aload_n X dX11_row_122 rfl rfl ?_
                      refine am_get X 1 (Nat.le_of_ble_eq_true rfl) fl_X11_16 rfl rfl dX11_row_123 ?_
                      refine aw_iload_n X dX11_row_126 rfl rfl ?_
                      refine aw_iload X dX11_row_127 rfl ?_
                      refine am_ast X 1 _ hq (by decide) rfl rfl (bt_vp (c9) (by decide) (by decide)) dX11_row_129 ?_
                      refine aw_iconst X dX11_row_130 ci_1 ?_
                      refine RTN (some (.int _)) _ _ _ _ _ dX11_row_131 (⟨_, rfl⟩) (Nat.le_of_ble_eq_true rfl) (Nat.le_of_ble_eq_true rfl) ?_
                      first | (constructor <;> ((try simp only [mo_row, c9, c24, c28, c34, c41, c45, c55, c96, if_true, if_false, not_true_eq_false, not_false_eq_true, and_self, true_and, and_true, false_and, and_false, or_true, true_or, or_false, false_or, reduceCtorEq, ne_eq]); (try rfl); done)) | (clear RTN X; constructor <;> ((try simp_all only [mo_row, c9, c24, c28, c34, c41, c45, c55, if_true, if_false, not_true_eq_false, not_false_eq_true, and_self, true_and, and_true, false_and, and_false, or_true, true_or, or_false, false_or, reduceCtorEq, ne_eq]); (try rfl); done))
                    · have h9 : i < 40 := lt_i (N := 40) rfl (by omega) (by decide) c96
                      refine aw_aload_n X dX11_row_99 rfl rfl ?_
                      refine am_get X 4 (Nat.le_of_ble_eq_true rfl) fl_X11_49 rfl rfl dX11_row_100 ?_
                      refine aw_bipush X dX11_row_103 cb_40 ?_
                      refine aw_iload X dX11_row_105 rfl ?_
                      refine aw_imul X dX11_row_107 ?_
                      refine aw_iload X dX11_row_108 rfl ?_
                      refine aw_iadd X dX11_row_110 ?_
                      refine aw_bipush X dX11_row_111 cb_40 ?_
                      refine aw_isub X dX11_row_113 ?_
                      refine aw_iconst X dX11_row_114 ci_0 ?_
                      refine am_ast X 4 _ hq (by decide) rfl rfl (ix_v (fa_bt _) ((bt_nI (by omega)).mpr ⟨by omega, by omega⟩)) dX11_row_115 ?_
                      refine aw_iinc (lv' := [(5, _), (4, _), (0, _), (1, _), (2, _), (3, _)]) X dX11_row_116 rfl (iinc_1 _) (by decide) rfl ?_
                      refine aw_goto (tgt := 92) X dX11_row_119 rfl ?_
                      refine aw_lv [0, 1, 2, 3, 4, 5] rfl ?_
                      exact ih (i + 1) _ (nI_1 i) (by omega) (by omega)
                refine aw_lv [0, 1, 2, 3, 4, 5] rfl ?_
                exact L 41 0 _ rfl (by decide) (by decide)
              · exact absurd (by rw [c55]; decide) c28
            · refine aw_aload_n X dX11_row_48 rfl rfl ?_
              refine aw_iconst X dX11_row_49 ci_4 ?_
              refine aw_callV X (kX11_fails _ _ _ _ hq _) okm_X11_fails okX11 mw_0 ml_X11_35 im_X11_fails se_X11_X11_fails rfl rfl (Nat.le_of_ble_eq_true rfl) ⟨Nat.le_of_ble_eq_true rfl, Nat.le_of_ble_eq_true rfl, Nat.le_of_ble_eq_true rfl, Nat.le_of_ble_eq_true rfl⟩ dX11_row_50 (fun v w2 hp => ?_)
              obtain ⟨rfl, rfl⟩ := hp
              refine RTN (some (.int _)) _ _ _ _ _ dX11_row_53 (⟨_, rfl⟩) (Nat.le_of_ble_eq_true rfl) (Nat.le_of_ble_eq_true rfl) ?_
              first | (constructor <;> ((try simp only [mo_row, c9, c24, c28, c34, c41, c45, if_true, if_false, not_true_eq_false, not_false_eq_true, and_self, true_and, and_true, false_and, and_false, or_true, true_or, or_false, false_or, reduceCtorEq, ne_eq]); (try rfl); done)) | (clear RTN X; constructor <;> ((try simp_all only [mo_row, if_true, if_false, not_true_eq_false, not_false_eq_true, and_self, true_and, and_true, false_and, and_false, or_true, true_or, or_false, false_or, reduceCtorEq, ne_eq]); (try rfl); done))
        · refine aw_bipush X dX11_row_37 cb_m3 ?_
          refine RTN (some (.int _)) _ _ _ _ _ dX11_row_39 (⟨_, rfl⟩) (Nat.le_of_ble_eq_true rfl) (Nat.le_of_ble_eq_true rfl) ?_
          first | (constructor <;> ((try simp only [mo_row, c9, c24, c28, c34, if_true, if_false, not_true_eq_false, not_false_eq_true, and_self, true_and, and_true, false_and, and_false, or_true, true_or, or_false, false_or, reduceCtorEq, ne_eq]); (try rfl); done)) | (clear RTN X; constructor <;> ((try simp_all only [mo_row, if_true, if_false, not_true_eq_false, not_false_eq_true, and_self, true_and, and_true, false_and, and_false, or_true, true_or, or_false, false_or, reduceCtorEq, ne_eq]); (try rfl); done))
  · rw [bI_0] at c9
    refine aw_bipush X dX11_row_12 cb_m2 ?_
    refine RTN (some (.int _)) _ _ _ _ _ dX11_row_14 (⟨_, rfl⟩) (Nat.le_of_ble_eq_true rfl) (Nat.le_of_ble_eq_true rfl) ?_
    first | (constructor <;> ((try simp only [mo_row, c9, if_true, if_false, not_true_eq_false, not_false_eq_true, and_self, true_and, and_true, false_and, and_false, or_true, true_or, or_false, false_or, reduceCtorEq, ne_eq]); (try rfl); done)) | (clear RTN X; constructor <;> ((try simp_all only [mo_row, if_true, if_false, not_true_eq_false, not_false_eq_true, and_self, true_and, and_true, false_and, and_false, or_true, true_or, or_false, false_or, reduceCtorEq, ne_eq]); (try rfl); done))
