/-! copy -/
theorem lik_iff {x y : Int32} (hx : bt x 1 4) (hy : bt y 1 4) : (it_of x y || it_of y x) = true ↔ (x = y ∨ (¬ x ≤ 2 ∧ 2 < y)) := by
  rw [Bool.or_eq_true, of_ag, of_ag]
  have a := bt_iff.mp hx
  have b := bt_iff.mp hy
  have e2 : (2 : Int32).toInt = 2 := rfl
  have e3 : (3 : Int32).toInt = 3 := rfl
  have e4 : (4 : Int32).toInt = 4 := rfl
  simp only [i32_eq, i32_le, i32_lt, e2, e3, e4]
  omega
theorem dec_lk {x y : Int32} (h : lik x y) (z : Int32) : dec y z = dec x z := by
  rcases h with h | h <;> rcases of_ag.mp h with h | ⟨h1, h2⟩
  · rw [h]
  · rw [h1, h2]; rfl
  · rw [h]
  · rw [h1, h2]; rfl
theorem cp_b {M : MS} {u a b n : Nat} (h : cpok u u a b n) (hd : a ≤ b) : mo_cb (sI M 0 0) (nI u) (nI a) (nI u) (nI b) n n = sA (sI M 0 0) 4 (cp4 M u u a b n) := by
  rw [cb_run h hd n (Nat.le_refl n), cpb_n]
  rfl
theorem cp_f {M : MS} {u t a b n : Nat} (h : cpok u t a b n) (hd : u ≠ t ∨ b ≤ a) : mo_cf (nI u) (nI a) (nI t) (nI b) n 0 (sI M 0 0) = (match (List.range n).find? (fun x => bad M u t a x) with
    | none => (1, sA (sI M 0 0) 4 (cp4 M u t a b n))
    | some g => ((-10) - 5, sI (sA (sI M 0 0) 4 (cp4 M u t a b g)) 5 5)) := by
  have e := cf_run (M := sI M 0 0) h hd n 0 (Nat.zero_add n)
  rw [cp4_0] at e
  have e2 : sA (sI M 0 0) 4 ((sI M 0 0).2.2 4) = sI M 0 0 := sA_self
  rw [e2] at e
  rw [e, List.range_eq_range']
  rfl
/-- a copy within one array has no bad items -/
theorem bad_own {M : MS} {u a i : Nat} : bad M u u a i = false := by
  unfold bad
  by_cases h : M.2.2 2 u = 3
  · rw [decide_eq_false (show ¬ M.2.2 2 u = 4 by rw [h]; decide), Bool.false_and, Bool.and_false]
  · rw [decide_eq_false h, Bool.false_and]
/-- what copy comes to, once nothing refuses it -/
theorem copy_eq {M : MS} {r sr : Int32} {a b n : Nat} (hR : mi_row M) (hr : bt r 0 7) (hs : bt sr 0 7) (hu : ¬ (M.2.2 1 r.toNatClampNeg) = 0) (hv : ¬ (M.2.2 1 sr.toNatClampNeg) = 0) (hlk : M.2.2 2 (M.2.2 1 r.toNatClampNeg).toNatClampNeg = M.2.2 2 (M.2.2 1 sr.toNatClampNeg).toNatClampNeg ∨ (¬ M.2.2 2 (M.2.2 1 r.toNatClampNeg).toNatClampNeg ≤ 2 ∧ 2 < M.2.2 2 (M.2.2 1 sr.toNatClampNeg).toNatClampNeg)) (hS : mi_size M) (h1 : a + n ≤ (M.2.2 3 (M.2.2 1 r.toNatClampNeg).toNatClampNeg).toNatClampNeg) (h2 : b + n ≤ (M.2.2 3 (M.2.2 1 sr.toNatClampNeg).toNatClampNeg).toNatClampNeg) : mo_copy M r (nI a) sr (nI b) (nI n) = (match (List.range n).find? (fun x => bad M (M.2.2 1 r.toNatClampNeg).toNatClampNeg (M.2.2 1 sr.toNatClampNeg).toNatClampNeg a x) with
    | none => (1, sA (sI M 0 0) 4 (cp4 M (M.2.2 1 r.toNatClampNeg).toNatClampNeg (M.2.2 1 sr.toNatClampNeg).toNatClampNeg a b n))
    | some g => ((-10) - 5, sI (sA (sI M 0 0) 4 (cp4 M (M.2.2 1 r.toNatClampNeg).toNatClampNeg (M.2.2 1 sr.toNatClampNeg).toNatClampNeg a b g)) 5 5)) := by
  have hr8 : r.toNatClampNeg < 8 := cl_lt hr (by decide) (by decide)
  have hs8 : sr.toNatClampNeg < 8 := cl_lt hs (by decide) (by decide)
  have u1 := row_usd hR hr8 hu
  have v1 := row_usd hR hs8 hv
  have bu := bt_iff.mp (hR _ hr8)
  have bv := bt_iff.mp (hR _ hs8)
  have eu : nI (M.2.2 1 r.toNatClampNeg).toNatClampNeg = (M.2.2 1 r.toNatClampNeg) := nI_cl bu.1
  have ev : nI (M.2.2 1 sr.toNatClampNeg).toNatClampNeg = (M.2.2 1 sr.toNatClampNeg) := nI_cl bv.1
  have su := sz_row hR hS hr8
  have sv := sz_row hR hS hs8
  have bsu := bt_iff.mp su
  have bsv := bt_iff.mp sv
  have csu := cl_toInt bsu.1
  have csv := cl_toInt bsv.1
  have e0 : (0 : Int32).toInt = 0 := rfl
  have hok : cpok (M.2.2 1 r.toNatClampNeg).toNatClampNeg (M.2.2 1 sr.toNatClampNeg).toNatClampNeg a b n := ⟨⟨u1.1, u1.2.1⟩, ⟨v1.1, v1.2.1⟩, by omega, by omega⟩
  have na := nI_toInt (n := a) (by omega)
  have nb := nI_toInt (n := b) (by omega)
  have nn := nI_toInt (n := n) (by omega)
  unfold mo_copy
  rw [if_pos ⟨hr, hs⟩, if_neg (fun z => z.elim hu hv), if_pos hlk]
  have t1 : ((nI a).toInt64 + (nI n).toInt64).toInt = a + n := by
    rw [Int64.toInt_add, i64_32, i64_32, na, nn]
    exact Int.bmod_eq_of_le (by omega) (by omega)
  have t2 : ((nI b).toInt64 + (nI n).toInt64).toInt = b + n := by
    rw [Int64.toInt_add, i64_32, i64_32, nb, nn]
    exact Int.bmod_eq_of_le (by omega) (by omega)
  rw [if_neg (by
    simp only [i32_lt, i64_lt, i64_le, i64_32, t1, t2, na, nb, nn, e0]
    omega)]
  by_cases hz : (M.2.2 1 r.toNatClampNeg) = (M.2.2 1 sr.toNatClampNeg) ∧ ¬ nI b ≤ nI a
  · rw [if_pos hz]
    obtain ⟨hz1, hz2⟩ := hz
    rw [i32_le, na, nb] at hz2
    have hk := hok
    rw [← hz1] at hk ⊢
    have e := cp_b (M := M) hk (by omega)
    rw [eu] at e
    rw [nI_clamp (show n < 2 ^ 31 by omega), e]
    have hb : (List.range n).find? (fun x => bad M (M.2.2 1 r.toNatClampNeg).toNatClampNeg (M.2.2 1 r.toNatClampNeg).toNatClampNeg a x) = none := fr_none (fun j _ => bad_own)
    rw [hb]
  · rw [if_neg hz]
    have e := cp_f (M := M) hok (by
      by_cases hq : (M.2.2 1 r.toNatClampNeg).toNatClampNeg = (M.2.2 1 sr.toNatClampNeg).toNatClampNeg
      · refine Or.inr (Decidable.byContradiction (fun y => hz ⟨by rw [← eu, ← ev, hq], fun q => y (by rw [i32_le, na, nb] at q; omega)⟩))
      · exact Or.inl hq)
    rw [eu, ev] at e
    rw [nI_clamp (show n < 2 ^ 31 by omega), e]
theorem nn_nI {n : Nat} (h : n < 2 ^ 31) : ¬ nI n < 0 := by rw [i32_lt, nI_toInt h]; have e0 : (0 : Int32).toInt = 0 := rfl; omega
set_option maxRecDepth 100000 in
set_option maxHeartbeats 4000000 in
theorem kX10_copy (G : GG) (l : Launch) (M : MS) (ad : AD) (gi : GI) (w : WM) (hL : RLa G M ad gi w) (hR : mi_row M) (hS : mi_size M) (hSo : mi_so M) (hrc : mi_refs M) (hT : mi_tmp M) (hC : mi_cr M) (r at_ sr to_ n : Int32) : MC G l yX10_copy cX10_copy 9 ((Option.some .int)) ({ frames := 4, cells := 0, slots := 0, locals := 90 } : Room) [.ref (ad 0 0), .int r, .int at_, .int sr, .int to_, .int n] w (fun v w' => v = some (.int (mo_copy M r at_ sr to_ n).1) ∧ ∃ ad' gi', RLa G (mo_copy M r at_ sr to_ n).2 ad' gi' w' ∧ ad' 0 0 = ad 0 0) := by
  refine mc_int (by decide) (Nat.le_of_ble_eq_true rfl) rfl rfl ?_
  intro p e s m args below meth c A H0 Q X hnm RTN
  have X : Cx G p s m args meth c A H0 cX10_copy 9 RX10 := X
  have k0_ : w (ad 0 0) = some (.inr (11, [.ref (ad 1 0), .ref (ad 2 0), .ref (ad 3 0), .ref (ad 4 0), .ref (ad 5 0), .ref (ad 6 0), va_rf (sAd M ad (M.1 20)), .int (M.1 7), .int (M.1 29), .int (M.1 38), .int ((M.2.1 21).toInt32), .int ((M.2.1 22).toInt32), .int (M.1 5)])) := hL.1 0 0 (lvf 0 (by decide))
  have k1_ : w (ad 1 0) = some (rA (gA G 4) 8 (cR M ad)) := hL.1 1 0 (lvf 1 (by decide))
  have k4_ : w (ad 4 0) = some (rA (gA G 6) 20 (cF M ad)) := hL.1 4 0 (lvf 4 (by decide))
  refine aw_iload_n X dX10_copy_0 rfl rfl ?_
  refine aw_callS X (kX10_isRow _ _ _ _) okm_X10_isRow ml_X10_46 st_X10_isRow rfl rfl (Nat.le_of_ble_eq_true rfl) ⟨Nat.le_of_ble_eq_true rfl, Nat.le_of_ble_eq_true rfl, Nat.le_of_ble_eq_true rfl, Nat.le_of_ble_eq_true rfl⟩ dX10_copy_1 (fun v w2 hp => ?_)
  obtain ⟨rfl, hw9⟩ := hp
  have hw9 := hw9.symm
  subst hw9
  refine aw_if_eq (tgt := 14) X dX10_copy_4 rfl (fun c4 => ?_) (fun c4 => ?_)
  · rw [bI_0] at c4
    refine aw_bipush X dX10_copy_14 cb_m2 ?_
    refine RTN (some (.int _)) _ _ _ _ _ dX10_copy_16 (⟨_, rfl⟩) (Nat.le_of_ble_eq_true rfl) (Nat.le_of_ble_eq_true rfl) ?_
    have hm : mo_copy M r at_ sr to_ n = (-2, sI M 0 0) := by simp only [mo_copy, c4, if_true, if_false, not_true_eq_false, not_false_eq_true, and_self, true_and, and_true, false_and, and_false, or_true, true_or, or_false, false_or, reduceCtorEq, ne_eq, va_us, pk_us]
    rw [hm]
    exact ⟨rfl, ad, gi, rl_0 hL, rfl⟩
  · rw [bI_n0] at c4
    refine aw_iload_n X dX10_copy_7 rfl rfl ?_
    refine aw_callS X (kX10_isRow _ _ _ _) okm_X10_isRow ml_X10_46 st_X10_isRow rfl rfl (Nat.le_of_ble_eq_true rfl) ⟨Nat.le_of_ble_eq_true rfl, Nat.le_of_ble_eq_true rfl, Nat.le_of_ble_eq_true rfl, Nat.le_of_ble_eq_true rfl⟩ dX10_copy_8 (fun v w2 hp => ?_)
    obtain ⟨rfl, hw9⟩ := hp
    have hw9 := hw9.symm
    subst hw9
    refine aw_if_ne (tgt := 17) X dX10_copy_11 rfl (fun c11 => ?_) (fun c11 => ?_)
    · rw [bI_n0] at c11
      refine aw_aload_n X dX10_copy_17 rfl rfl ?_
      refine aw_get X okX10 (k := 0) k0_ (Nat.le_of_ble_eq_true rfl) fl_X10_13 (Or.inl rfl) rfl dX10_copy_18 ?_
      refine aw_iload_n X dX10_copy_21 rfl rfl ?_
      refine aw_aald X 4 k1_ rfl (bt_vp c4 (by decide) (by decide)) dX10_copy_22 ?_
      rcases hr101 : (cR M ad) r.toNatClampNeg with _ | a102
      · refine aw_astoreN (lv' := [(6, _), (0, _), (1, _), (2, _), (3, _), (4, _), (5, _)]) X dX10_copy_23 (by decide) rfl ?_
        refine aw_aload_n X dX10_copy_25 rfl rfl ?_
        refine aw_get X okX10 (k := 0) k0_ (Nat.le_of_ble_eq_true rfl) fl_X10_13 (Or.inl rfl) rfl dX10_copy_26 ?_
        refine aw_iload_n X dX10_copy_29 rfl rfl ?_
        refine aw_aald X 4 k1_ rfl (bt_vp c11 (by decide) (by decide)) dX10_copy_30 ?_
        rcases hr103 : (cR M ad) sr.toNatClampNeg with _ | a104
        · refine aw_astoreN (lv' := [(7, _), (6, _), (0, _), (1, _), (2, _), (3, _), (4, _), (5, _)]) X dX10_copy_31 (by decide) rfl ?_
          refine aw_aloadN X dX10_copy_33 rfl ?_
          refine aw_ifnullN (tgt := 43) X dX10_copy_35 rfl ?_
          refine aw_aload_n X dX10_copy_43 rfl rfl ?_
          refine aw_iconst X dX10_copy_44 ci_1 ?_
          refine aw_callV X (kX10_faulted _ _ _ _ _ _ _ _ _ _ _ _ _ _ _ _ _ k0_ _) okm_X10_faulted okX10 k0_ ml_X10_54 im_X10_faulted se_X10_X10_faulted rfl rfl (Nat.le_of_ble_eq_true rfl) ⟨Nat.le_of_ble_eq_true rfl, Nat.le_of_ble_eq_true rfl, Nat.le_of_ble_eq_true rfl, Nat.le_of_ble_eq_true rfl⟩ dX10_copy_45 (fun v w2 hp => ?_)
          obtain ⟨rfl, hw105⟩ := hp
          have hk106 := (congrFun hw105 (ad 0 0)).trans wm_ups
          have hk107 := ((congrFun hw105 (ad 1 0)).trans (wm_upn (rl_ne hL (t := 1) (i := 0) (t' := 0) (i' := 0) (lvf 1 (by decide)) (lvf 0 (by decide)) (Or.inl rfl) (fun z => absurd z.1 (by decide))))).trans k1_
          have hk108 := ((congrFun hw105 (ad 4 0)).trans (wm_upn (rl_ne hL (t := 4) (i := 0) (t' := 0) (i' := 0) (lvf 4 (by decide)) (lvf 0 (by decide)) (Or.inl rfl) (fun z => absurd z.1 (by decide))))).trans k4_
          refine RTN (some (.int _)) _ _ _ _ _ dX10_copy_48 (⟨_, rfl⟩) (Nat.le_of_ble_eq_true rfl) (Nat.le_of_ble_eq_true rfl) ?_
          have hm : mo_copy M r at_ sr to_ n = ((-10) - 1, sI (sI M 0 0) 5 1) := by unfold mo_copy; rw [if_pos ⟨c4, c11⟩, if_pos (Or.inl (by have h := hr101; rw [cR_k (cl_lt c4 (by decide) (by decide))] at h; exact rIA_none h))]
          rw [hm]
          exact ⟨rfl, ad, gi, rl_5 hL hw105, rfl⟩
        · rw [cR_k (cl_lt c11 (by decide) (by decide))] at hr103
          obtain ⟨hzS, he109⟩ := rIA_some hr103
          subst he109
          have huS := row_usd hR (cl_lt c11 (by decide) (by decide)) hzS
          refine aw_astore (lv' := [(7, _), (6, _), (0, _), (1, _), (2, _), (3, _), (4, _), (5, _)]) X dX10_copy_31 (by decide) rfl ?_
          refine aw_aloadN X dX10_copy_33 rfl ?_
          refine aw_ifnullN (tgt := 43) X dX10_copy_35 rfl ?_
          refine aw_aload_n X dX10_copy_43 rfl rfl ?_
          refine aw_iconst X dX10_copy_44 ci_1 ?_
          refine aw_callV X (kX10_faulted _ _ _ _ _ _ _ _ _ _ _ _ _ _ _ _ _ k0_ _) okm_X10_faulted okX10 k0_ ml_X10_54 im_X10_faulted se_X10_X10_faulted rfl rfl (Nat.le_of_ble_eq_true rfl) ⟨Nat.le_of_ble_eq_true rfl, Nat.le_of_ble_eq_true rfl, Nat.le_of_ble_eq_true rfl, Nat.le_of_ble_eq_true rfl⟩ dX10_copy_45 (fun v w2 hp => ?_)
          obtain ⟨rfl, hw110⟩ := hp
          have hk111 := (congrFun hw110 (ad 0 0)).trans wm_ups
          have hk112 := ((congrFun hw110 (ad 1 0)).trans (wm_upn (rl_ne hL (t := 1) (i := 0) (t' := 0) (i' := 0) (lvf 1 (by decide)) (lvf 0 (by decide)) (Or.inl rfl) (fun z => absurd z.1 (by decide))))).trans k1_
          have hk113 := ((congrFun hw110 (ad 4 0)).trans (wm_upn (rl_ne hL (t := 4) (i := 0) (t' := 0) (i' := 0) (lvf 4 (by decide)) (lvf 0 (by decide)) (Or.inl rfl) (fun z => absurd z.1 (by decide))))).trans k4_
          have hk114 := ((congrFun hw110 (ad 11 (M.2.2 1 sr.toNatClampNeg).toNatClampNeg)).trans (wm_upn (rl_ne hL (t := 11) (i := (M.2.2 1 sr.toNatClampNeg).toNatClampNeg) (t' := 0) (i' := 0) (huS) (lvf 0 (by decide)) (Or.inl rfl) (fun z => absurd z.1 (by decide))))).trans (hL.1 11 (M.2.2 1 sr.toNatClampNeg).toNatClampNeg huS)
          have hk115 := ((congrFun hw110 (ad 12 (M.2.2 1 sr.toNatClampNeg).toNatClampNeg)).trans (wm_upn (rl_ne hL (t := 12) (i := (M.2.2 1 sr.toNatClampNeg).toNatClampNeg) (t' := 0) (i' := 0) (huS) (lvf 0 (by decide)) (Or.inl rfl) (fun z => absurd z.1 (by decide))))).trans (hL.1 12 (M.2.2 1 sr.toNatClampNeg).toNatClampNeg huS)
          refine RTN (some (.int _)) _ _ _ _ _ dX10_copy_48 (⟨_, rfl⟩) (Nat.le_of_ble_eq_true rfl) (Nat.le_of_ble_eq_true rfl) ?_
          have hm : mo_copy M r at_ sr to_ n = ((-10) - 1, sI (sI M 0 0) 5 1) := by unfold mo_copy; rw [if_pos ⟨c4, c11⟩, if_pos (Or.inl (by have h := hr101; rw [cR_k (cl_lt c4 (by decide) (by decide))] at h; exact rIA_none h))]
          rw [hm]
          exact ⟨rfl, ad, gi, rl_5 hL hw110, rfl⟩
      · rw [cR_k (cl_lt c4 (by decide) (by decide))] at hr101
        obtain ⟨hzR, he116⟩ := rIA_some hr101
        subst he116
        have huR := row_usd hR (cl_lt c4 (by decide) (by decide)) hzR
        refine aw_astore (lv' := [(6, _), (0, _), (1, _), (2, _), (3, _), (4, _), (5, _)]) X dX10_copy_23 (by decide) rfl ?_
        refine aw_aload_n X dX10_copy_25 rfl rfl ?_
        refine aw_get X okX10 (k := 0) k0_ (Nat.le_of_ble_eq_true rfl) fl_X10_13 (Or.inl rfl) rfl dX10_copy_26 ?_
        refine aw_iload_n X dX10_copy_29 rfl rfl ?_
        refine aw_aald X 4 k1_ rfl (bt_vp c11 (by decide) (by decide)) dX10_copy_30 ?_
        rcases hr117 : (cR M ad) sr.toNatClampNeg with _ | a118
        · refine aw_astoreN (lv' := [(7, _), (6, _), (0, _), (1, _), (2, _), (3, _), (4, _), (5, _)]) X dX10_copy_31 (by decide) rfl ?_
          refine aw_aload X dX10_copy_33 rfl ?_
          refine aw_ifnull X dX10_copy_35 ?_
          refine aw_aloadN X dX10_copy_38 rfl ?_
          refine aw_ifnonnullN X dX10_copy_40 ?_
          refine aw_aload_n X dX10_copy_43 rfl rfl ?_
          refine aw_iconst X dX10_copy_44 ci_1 ?_
          refine aw_callV X (kX10_faulted _ _ _ _ _ _ _ _ _ _ _ _ _ _ _ _ _ k0_ _) okm_X10_faulted okX10 k0_ ml_X10_54 im_X10_faulted se_X10_X10_faulted rfl rfl (Nat.le_of_ble_eq_true rfl) ⟨Nat.le_of_ble_eq_true rfl, Nat.le_of_ble_eq_true rfl, Nat.le_of_ble_eq_true rfl, Nat.le_of_ble_eq_true rfl⟩ dX10_copy_45 (fun v w2 hp => ?_)
          obtain ⟨rfl, hw119⟩ := hp
          have hk120 := (congrFun hw119 (ad 0 0)).trans wm_ups
          have hk121 := ((congrFun hw119 (ad 1 0)).trans (wm_upn (rl_ne hL (t := 1) (i := 0) (t' := 0) (i' := 0) (lvf 1 (by decide)) (lvf 0 (by decide)) (Or.inl rfl) (fun z => absurd z.1 (by decide))))).trans k1_
          have hk122 := ((congrFun hw119 (ad 4 0)).trans (wm_upn (rl_ne hL (t := 4) (i := 0) (t' := 0) (i' := 0) (lvf 4 (by decide)) (lvf 0 (by decide)) (Or.inl rfl) (fun z => absurd z.1 (by decide))))).trans k4_
          have hk123 := ((congrFun hw119 (ad 11 (M.2.2 1 r.toNatClampNeg).toNatClampNeg)).trans (wm_upn (rl_ne hL (t := 11) (i := (M.2.2 1 r.toNatClampNeg).toNatClampNeg) (t' := 0) (i' := 0) (huR) (lvf 0 (by decide)) (Or.inl rfl) (fun z => absurd z.1 (by decide))))).trans (hL.1 11 (M.2.2 1 r.toNatClampNeg).toNatClampNeg huR)
          have hk124 := ((congrFun hw119 (ad 12 (M.2.2 1 r.toNatClampNeg).toNatClampNeg)).trans (wm_upn (rl_ne hL (t := 12) (i := (M.2.2 1 r.toNatClampNeg).toNatClampNeg) (t' := 0) (i' := 0) (huR) (lvf 0 (by decide)) (Or.inl rfl) (fun z => absurd z.1 (by decide))))).trans (hL.1 12 (M.2.2 1 r.toNatClampNeg).toNatClampNeg huR)
          refine RTN (some (.int _)) _ _ _ _ _ dX10_copy_48 (⟨_, rfl⟩) (Nat.le_of_ble_eq_true rfl) (Nat.le_of_ble_eq_true rfl) ?_
          have hm : mo_copy M r at_ sr to_ n = ((-10) - 1, sI (sI M 0 0) 5 1) := by unfold mo_copy; rw [if_pos ⟨c4, c11⟩, if_pos (Or.inr (by have h := hr117; rw [cR_k (cl_lt c11 (by decide) (by decide))] at h; exact rIA_none h))]
          rw [hm]
          exact ⟨rfl, ad, gi, rl_5 hL hw119, rfl⟩
        · rw [cR_k (cl_lt c11 (by decide) (by decide))] at hr117
          obtain ⟨hzS, he125⟩ := rIA_some hr117
          subst he125
          have huS := row_usd hR (cl_lt c11 (by decide) (by decide)) hzS
          refine aw_astore (lv' := [(7, _), (6, _), (0, _), (1, _), (2, _), (3, _), (4, _), (5, _)]) X dX10_copy_31 (by decide) rfl ?_
          refine aw_aload X dX10_copy_33 rfl ?_
          refine aw_ifnull X dX10_copy_35 ?_
          refine aw_aload X dX10_copy_38 rfl ?_
          refine aw_ifnonnull (tgt := 49) X dX10_copy_40 rfl ?_
          refine aw_aload X dX10_copy_49 rfl ?_
          refine aw_aload X dX10_copy_51 rfl ?_
          refine aw_callV X (kX2_isLike _ _ _ _ _ _ _ _ (hL.1 11 (M.2.2 1 r.toNatClampNeg).toNatClampNeg huR) (hL.1 12 (M.2.2 1 r.toNatClampNeg).toNatClampNeg huR) _ _ _ _ _ (hL.1 11 (M.2.2 1 sr.toNatClampNeg).toNatClampNeg huS) (hL.1 12 (M.2.2 1 sr.toNatClampNeg).toNatClampNeg huS)) okm_X2_isLike okX2 (hL.1 11 (M.2.2 1 r.toNatClampNeg).toNatClampNeg huR) ml_X10_82 im_X2_isLike se_X2_X2_isLike rfl rfl (Nat.le_of_ble_eq_true rfl) ⟨Nat.le_of_ble_eq_true rfl, Nat.le_of_ble_eq_true rfl, Nat.le_of_ble_eq_true rfl, Nat.le_of_ble_eq_true rfl⟩ dX10_copy_53 (fun v w2 hp => ?_)
          obtain ⟨rfl, hw9⟩ := hp
          have hw9 := hw9.symm
          subst hw9
          refine aw_if_ne (tgt := 65) X dX10_copy_56 rfl (fun c56 => ?_) (fun c56 => ?_)
          · rw [bI_n0] at c56
            refine aw_aload X dX10_copy_65 rfl ?_
            refine aw_iload_n X dX10_copy_67 rfl rfl ?_
            refine aw_iload X dX10_copy_68 rfl ?_
            refine aw_callV X (kX2_hasSpan _ _ _ (ad 11 (M.2.2 1 r.toNatClampNeg).toNatClampNeg) _ _ _ _ (hL.1 11 (M.2.2 1 r.toNatClampNeg).toNatClampNeg huR) (hL.1 12 (M.2.2 1 r.toNatClampNeg).toNatClampNeg huR) _ _) okm_X2_hasSpan okX2 (hL.1 11 (M.2.2 1 r.toNatClampNeg).toNatClampNeg huR) ml_X10_86 im_X2_hasSpan se_X2_X2_hasSpan rfl rfl (Nat.le_of_ble_eq_true rfl) ⟨Nat.le_of_ble_eq_true rfl, Nat.le_of_ble_eq_true rfl, Nat.le_of_ble_eq_true rfl, Nat.le_of_ble_eq_true rfl⟩ dX10_copy_70 (fun v w2 hp => ?_)
            obtain ⟨rfl, hw9⟩ := hp
            have hw9 := hw9.symm
            subst hw9
            refine aw_if_eq (tgt := 88) X dX10_copy_73 rfl (fun c73 => ?_) (fun c73 => ?_)
            · rw [bI_0] at c73
              refine aw_aload_n X dX10_copy_88 rfl rfl ?_
              refine aw_iconst X dX10_copy_89 ci_3 ?_
              refine aw_callV X (kX10_faulted _ _ _ _ _ _ _ _ _ _ _ _ _ _ _ _ _ k0_ _) okm_X10_faulted okX10 k0_ ml_X10_54 im_X10_faulted se_X10_X10_faulted rfl rfl (Nat.le_of_ble_eq_true rfl) ⟨Nat.le_of_ble_eq_true rfl, Nat.le_of_ble_eq_true rfl, Nat.le_of_ble_eq_true rfl, Nat.le_of_ble_eq_true rfl⟩ dX10_copy_90 (fun v w2 hp => ?_)
              obtain ⟨rfl, hw126⟩ := hp
              have hk127 := (congrFun hw126 (ad 0 0)).trans wm_ups
              have hk128 := ((congrFun hw126 (ad 1 0)).trans (wm_upn (rl_ne hL (t := 1) (i := 0) (t' := 0) (i' := 0) (lvf 1 (by decide)) (lvf 0 (by decide)) (Or.inl rfl) (fun z => absurd z.1 (by decide))))).trans k1_
              have hk129 := ((congrFun hw126 (ad 4 0)).trans (wm_upn (rl_ne hL (t := 4) (i := 0) (t' := 0) (i' := 0) (lvf 4 (by decide)) (lvf 0 (by decide)) (Or.inl rfl) (fun z => absurd z.1 (by decide))))).trans k4_
              have hk130 := ((congrFun hw126 (ad 11 (M.2.2 1 r.toNatClampNeg).toNatClampNeg)).trans (wm_upn (rl_ne hL (t := 11) (i := (M.2.2 1 r.toNatClampNeg).toNatClampNeg) (t' := 0) (i' := 0) (huR) (lvf 0 (by decide)) (Or.inl rfl) (fun z => absurd z.1 (by decide))))).trans (hL.1 11 (M.2.2 1 r.toNatClampNeg).toNatClampNeg huR)
              have hk131 := ((congrFun hw126 (ad 12 (M.2.2 1 r.toNatClampNeg).toNatClampNeg)).trans (wm_upn (rl_ne hL (t := 12) (i := (M.2.2 1 r.toNatClampNeg).toNatClampNeg) (t' := 0) (i' := 0) (huR) (lvf 0 (by decide)) (Or.inl rfl) (fun z => absurd z.1 (by decide))))).trans (hL.1 12 (M.2.2 1 r.toNatClampNeg).toNatClampNeg huR)
              have hk132 := ((congrFun hw126 (ad 11 (M.2.2 1 sr.toNatClampNeg).toNatClampNeg)).trans (wm_upn (rl_ne hL (t := 11) (i := (M.2.2 1 sr.toNatClampNeg).toNatClampNeg) (t' := 0) (i' := 0) (huS) (lvf 0 (by decide)) (Or.inl rfl) (fun z => absurd z.1 (by decide))))).trans (hL.1 11 (M.2.2 1 sr.toNatClampNeg).toNatClampNeg huS)
              have hk133 := ((congrFun hw126 (ad 12 (M.2.2 1 sr.toNatClampNeg).toNatClampNeg)).trans (wm_upn (rl_ne hL (t := 12) (i := (M.2.2 1 sr.toNatClampNeg).toNatClampNeg) (t' := 0) (i' := 0) (huS) (lvf 0 (by decide)) (Or.inl rfl) (fun z => absurd z.1 (by decide))))).trans (hL.1 12 (M.2.2 1 sr.toNatClampNeg).toNatClampNeg huS)
              refine RTN (some (.int _)) _ _ _ _ _ dX10_copy_93 (⟨_, rfl⟩) (Nat.le_of_ble_eq_true rfl) (Nat.le_of_ble_eq_true rfl) ?_
              have sU := bt_iff.mp (sz_row hR hS (cl_lt c4 (by decide) (by decide)))
              have sV := bt_iff.mp (sz_row hR hS (cl_lt c11 (by decide) (by decide)))
              have cU := cl_toInt sU.1
              have cV := cl_toInt sV.1
              have i1 := Int32.le_toInt at_
              have i2 := Int32.toInt_lt at_
              have i3 := Int32.le_toInt n
              have i4 := Int32.toInt_lt n
              have i5 := Int32.le_toInt to_
              have i6 := Int32.toInt_lt to_
              have t1 : (at_.toInt64 + n.toInt64).toInt = at_.toInt + n.toInt := by rw [Int64.toInt_add, i64_32, i64_32]; exact Int.bmod_eq_of_le (by omega) (by omega)
              have t2 : (to_.toInt64 + n.toInt64).toInt = to_.toInt + n.toInt := by rw [Int64.toInt_add, i64_32, i64_32]; exact Int.bmod_eq_of_le (by omega) (by omega)
              have hm : mo_copy M r at_ sr to_ n = ((-10) - 3, sI (sI M 0 0) 5 3) := by unfold mo_copy; rw [if_pos ⟨c4, c11⟩, if_neg (fun z => z.elim hzR hzS), if_pos ((lik_iff (hSo _ huR) (hSo _ huS)).mp c56), if_pos (by have h := span_no (n40 (sz_row hR hS (cl_lt c4 (by decide) (by decide)))) c73; rcases h with h | h | h; exact Or.inl h; exact Or.inr (Or.inr (Or.inl h)); exact Or.inr (Or.inr (Or.inr (Or.inl (by rw [i64_lt, t1, i64_32]; omega)))))]
              rw [hm]
              exact ⟨rfl, ad, gi, rl_5 hL hw126, rfl⟩
            · rw [bI_n0] at c73
              refine aw_aload X dX10_copy_76 rfl ?_
              refine aw_iload X dX10_copy_78 rfl ?_
              refine aw_iload X dX10_copy_80 rfl ?_
              refine aw_callV X (kX2_hasSpan _ _ _ (ad 11 (M.2.2 1 sr.toNatClampNeg).toNatClampNeg) _ _ _ _ (hL.1 11 (M.2.2 1 sr.toNatClampNeg).toNatClampNeg huS) (hL.1 12 (M.2.2 1 sr.toNatClampNeg).toNatClampNeg huS) _ _) okm_X2_hasSpan okX2 (hL.1 11 (M.2.2 1 sr.toNatClampNeg).toNatClampNeg huS) ml_X10_86 im_X2_hasSpan se_X2_X2_hasSpan rfl rfl (Nat.le_of_ble_eq_true rfl) ⟨Nat.le_of_ble_eq_true rfl, Nat.le_of_ble_eq_true rfl, Nat.le_of_ble_eq_true rfl, Nat.le_of_ble_eq_true rfl⟩ dX10_copy_82 (fun v w2 hp => ?_)
              obtain ⟨rfl, hw9⟩ := hp
              have hw9 := hw9.symm
              subst hw9
              refine aw_if_ne (tgt := 94) X dX10_copy_85 rfl (fun c85 => ?_) (fun c85 => ?_)
              · rw [bI_n0] at c85
                have hsU := n40 (sz_row hR hS (cl_lt c4 (by decide) (by decide)))
                have hsV := n40 (sz_row hR hS (cl_lt c11 (by decide) (by decide)))
                obtain ⟨a9, n9, ha9, hn9, hsp1⟩ := span_nat hsU c73
                obtain ⟨b9, m9, hb9, hm9, hsp2⟩ := span_nat hsV c85
                have hmn : n9 = m9 := nI_inj (by omega) (by omega) (hn9.symm.trans hm9)
                subst hmn
                subst ha9
                subst hb9
                subst hn9
                refine aw_aload_n X dX10_copy_94 rfl rfl ?_
                refine aw_aload X dX10_copy_95 rfl ?_
                refine aw_iload_n X dX10_copy_97 rfl rfl ?_
                refine aw_aload X dX10_copy_98 rfl ?_
                refine aw_iload X dX10_copy_100 rfl ?_
                refine aw_callV X (kX10_storable _ _ _ _ _ _ hL hrc hT _ _ huR huS hS a9 n9 hsp1) okm_X10_storable okX10 k0_ ml_X10_90 im_X10_storable se_X10_X10_storable rfl rfl (Nat.le_of_ble_eq_true rfl) ⟨Nat.le_of_ble_eq_true rfl, Nat.le_of_ble_eq_true rfl, Nat.le_of_ble_eq_true rfl, Nat.le_of_ble_eq_true rfl⟩ dX10_copy_102 (fun v w2 hp => ?_)
                obtain ⟨rfl, hw9⟩ := hp
                have hw9 := hw9.symm
                subst hw9
                refine aw_istore (lv' := [(8, _), (7, _), (6, _), (0, _), (1, _), (2, _), (3, _), (4, _), (5, _)]) X dX10_copy_105 (by decide) rfl ?_
                refine aw_aload X dX10_copy_107 rfl ?_
                refine aw_get X okX2 (k := 1) (hL.1 11 (M.2.2 1 r.toNatClampNeg).toNatClampNeg huR) (Nat.le_of_ble_eq_true rfl) fl_X10_65 (Or.inl rfl) rfl dX10_copy_109 ?_
                refine aw_iload_n X dX10_copy_112 rfl rfl ?_
                refine aw_aload X dX10_copy_113 rfl ?_
                refine aw_get X okX2 (k := 1) (hL.1 11 (M.2.2 1 sr.toNatClampNeg).toNatClampNeg huS) (Nat.le_of_ble_eq_true rfl) fl_X10_65 (Or.inl rfl) rfl dX10_copy_115 ?_
                refine aw_iload X dX10_copy_118 rfl ?_
                refine aw_iload X dX10_copy_120 rfl ?_
                have hst := stc_le (M := M) (u := (M.2.2 1 r.toNatClampNeg).toNatClampNeg) (t := (M.2.2 1 sr.toNatClampNeg).toNatClampNeg) (a := a9) (n := n9)
                refine aw_copyi X 0 ml_X10_94 nat_copy st_copy in_Sys (hL.1 12 (M.2.2 1 r.toNatClampNeg).toNatClampNeg huR) (hL.1 12 (M.2.2 1 sr.toNatClampNeg).toNatClampNeg huS) rfl rfl (nn_nI (by omega)) (nn_nI (by omega)) (nn_nI (by omega)) (by rw [nI_clamp (by omega), nI_clamp (by omega)]; omega) (by rw [nI_clamp (by omega), nI_clamp (by omega)]; omega) (fun _ _ => rfl) (Nat.le_of_ble_eq_true rfl) (Nat.le_of_ble_eq_true rfl) dX10_copy_122 (fun w9 hk9 hn9 he9 => ?_)
                rw [nI_clamp (show a9 < 2 ^ 31 by omega), nI_clamp (show b9 < 2 ^ 31 by omega), nI_clamp (show stc M (M.2.2 1 r.toNatClampNeg).toNatClampNeg (M.2.2 1 sr.toNatClampNeg).toNatClampNeg a9 n9 < 2 ^ 31 by omega)] at hk9
                have hk134 := (hn9 (ad 0 0) (rl_ne hL (t := 0) (i := 0) (t' := 12) (i' := (M.2.2 1 sr.toNatClampNeg).toNatClampNeg) (lvf 0 (by decide)) (huS) (Or.inl rfl) (fun z => absurd z.1 (by decide)))).trans k0_
                refine aw_iload X dX10_copy_125 rfl ?_
                refine aw_iload X dX10_copy_127 rfl ?_
                refine aw_icmp_ge (tgt := 140) X dX10_copy_129 rfl (fun c129 => ?_) (fun c129 => ?_)
                · refine aw_iconst X dX10_copy_140 ci_1 ?_
                  refine RTN (some (.int _)) _ _ _ _ _ dX10_copy_141 (⟨_, rfl⟩) (Nat.le_of_ble_eq_true rfl) (Nat.le_of_ble_eq_true rfl) ?_
                  have hlk : lik (M.2.2 2 (M.2.2 1 r.toNatClampNeg).toNatClampNeg) (M.2.2 2 (M.2.2 1 sr.toNatClampNeg).toNatClampNeg) := (Bool.or_eq_true _ _).mp c56
                  have hce := copy_eq (a := a9) (b := b9) (n := n9) hR c4 c11 hzR hzS ((lik_iff (hSo _ huR) (hSo _ huS)).mp c56) hS hsp1 hsp2
                  have hsb := stc_bad (t := (M.2.2 1 sr.toNatClampNeg).toNatClampNeg) hrc hT hC huR hlk hsp1
                  have hrl : RLa G (sA (sI M 0 0) 4 (cp4 M (M.2.2 1 r.toNatClampNeg).toNatClampNeg (M.2.2 1 sr.toNatClampNeg).toNatClampNeg a9 b9 (stc M (M.2.2 1 r.toNatClampNeg).toNatClampNeg (M.2.2 1 sr.toNatClampNeg).toNatClampNeg a9 n9))) ad gi w9 := rl_cp hL hS huR huS (by omega) (by omega) (dec_lk hlk) hk9 hn9
                  have hall : stc M (M.2.2 1 r.toNatClampNeg).toNatClampNeg (M.2.2 1 sr.toNatClampNeg).toNatClampNeg a9 n9 = n9 := by have := (nI_leI (a := n9) (b := stc M (M.2.2 1 r.toNatClampNeg).toNatClampNeg (M.2.2 1 sr.toNatClampNeg).toNatClampNeg a9 n9) (by omega) (by omega)).mp c129; omega
                  cases hf : (List.range n9).find? (fun x => bad M (M.2.2 1 r.toNatClampNeg).toNatClampNeg (M.2.2 1 sr.toNatClampNeg).toNatClampNeg a9 x) with
                  | none =>
                    rw [hf] at hce
                    rw [hce, ← hall]
                    exact ⟨rfl, ad, gi, hrl, rfl⟩
                  | some g =>
                    exfalso
                    rw [hf] at hsb
                    have := List.mem_range.mp (List.mem_of_find?_eq_some hf)
                    have : stc M (M.2.2 1 r.toNatClampNeg).toNatClampNeg (M.2.2 1 sr.toNatClampNeg).toNatClampNeg a9 n9 = g := hsb
                    omega
                · refine aw_aload_n X dX10_copy_132 rfl rfl ?_
                  refine aw_iconst X dX10_copy_133 ci_5 ?_
                  refine aw_callV X (kX10_faulted _ _ _ _ _ _ _ _ _ _ _ _ _ _ _ _ _ hk134 _) okm_X10_faulted okX10 hk134 ml_X10_54 im_X10_faulted se_X10_X10_faulted rfl rfl (Nat.le_of_ble_eq_true rfl) ⟨Nat.le_of_ble_eq_true rfl, Nat.le_of_ble_eq_true rfl, Nat.le_of_ble_eq_true rfl, Nat.le_of_ble_eq_true rfl⟩ dX10_copy_134 (fun v w2 hp => ?_)
                  obtain ⟨rfl, hw135⟩ := hp
                  have hk136 := (congrFun hw135 (ad 0 0)).trans wm_ups
                  refine aw_goto (tgt := 141) X dX10_copy_137 rfl ?_
                  refine RTN (some (.int _)) _ _ _ _ _ dX10_copy_141 (⟨_, rfl⟩) (Nat.le_of_ble_eq_true rfl) (Nat.le_of_ble_eq_true rfl) ?_
                  have hlk : lik (M.2.2 2 (M.2.2 1 r.toNatClampNeg).toNatClampNeg) (M.2.2 2 (M.2.2 1 sr.toNatClampNeg).toNatClampNeg) := (Bool.or_eq_true _ _).mp c56
                  have hce := copy_eq (a := a9) (b := b9) (n := n9) hR c4 c11 hzR hzS ((lik_iff (hSo _ huR) (hSo _ huS)).mp c56) hS hsp1 hsp2
                  have hsb := stc_bad (t := (M.2.2 1 sr.toNatClampNeg).toNatClampNeg) hrc hT hC huR hlk hsp1
                  have hrl : RLa G (sA (sI M 0 0) 4 (cp4 M (M.2.2 1 r.toNatClampNeg).toNatClampNeg (M.2.2 1 sr.toNatClampNeg).toNatClampNeg a9 b9 (stc M (M.2.2 1 r.toNatClampNeg).toNatClampNeg (M.2.2 1 sr.toNatClampNeg).toNatClampNeg a9 n9))) ad gi w9 := rl_cp hL hS huR huS (by omega) (by omega) (dec_lk hlk) hk9 hn9
                  have hlt : stc M (M.2.2 1 r.toNatClampNeg).toNatClampNeg (M.2.2 1 sr.toNatClampNeg).toNatClampNeg a9 n9 < n9 := Decidable.byContradiction (fun q => c129 ((nI_leI (a := n9) (b := stc M (M.2.2 1 r.toNatClampNeg).toNatClampNeg (M.2.2 1 sr.toNatClampNeg).toNatClampNeg a9 n9) (by omega) (by omega)).mpr (by omega)))
                  cases hf : (List.range n9).find? (fun x => bad M (M.2.2 1 r.toNatClampNeg).toNatClampNeg (M.2.2 1 sr.toNatClampNeg).toNatClampNeg a9 x) with
                  | none =>
                    exfalso
                    rw [hf] at hsb
                    have : stc M (M.2.2 1 r.toNatClampNeg).toNatClampNeg (M.2.2 1 sr.toNatClampNeg).toNatClampNeg a9 n9 = n9 := hsb
                    omega
                  | some g =>
                    rw [hf] at hsb hce
                    have hg : stc M (M.2.2 1 r.toNatClampNeg).toNatClampNeg (M.2.2 1 sr.toNatClampNeg).toNatClampNeg a9 n9 = g := hsb
                    rw [hce, ← hg]
                    exact ⟨rfl, ad, gi, rl_5b hrl hw135, rfl⟩
              · rw [bI_0] at c85
                refine aw_aload_n X dX10_copy_88 rfl rfl ?_
                refine aw_iconst X dX10_copy_89 ci_3 ?_
                refine aw_callV X (kX10_faulted _ _ _ _ _ _ _ _ _ _ _ _ _ _ _ _ _ k0_ _) okm_X10_faulted okX10 k0_ ml_X10_54 im_X10_faulted se_X10_X10_faulted rfl rfl (Nat.le_of_ble_eq_true rfl) ⟨Nat.le_of_ble_eq_true rfl, Nat.le_of_ble_eq_true rfl, Nat.le_of_ble_eq_true rfl, Nat.le_of_ble_eq_true rfl⟩ dX10_copy_90 (fun v w2 hp => ?_)
                obtain ⟨rfl, hw137⟩ := hp
                have hk138 := (congrFun hw137 (ad 0 0)).trans wm_ups
                have hk139 := ((congrFun hw137 (ad 1 0)).trans (wm_upn (rl_ne hL (t := 1) (i := 0) (t' := 0) (i' := 0) (lvf 1 (by decide)) (lvf 0 (by decide)) (Or.inl rfl) (fun z => absurd z.1 (by decide))))).trans k1_
                have hk140 := ((congrFun hw137 (ad 4 0)).trans (wm_upn (rl_ne hL (t := 4) (i := 0) (t' := 0) (i' := 0) (lvf 4 (by decide)) (lvf 0 (by decide)) (Or.inl rfl) (fun z => absurd z.1 (by decide))))).trans k4_
                have hk141 := ((congrFun hw137 (ad 11 (M.2.2 1 r.toNatClampNeg).toNatClampNeg)).trans (wm_upn (rl_ne hL (t := 11) (i := (M.2.2 1 r.toNatClampNeg).toNatClampNeg) (t' := 0) (i' := 0) (huR) (lvf 0 (by decide)) (Or.inl rfl) (fun z => absurd z.1 (by decide))))).trans (hL.1 11 (M.2.2 1 r.toNatClampNeg).toNatClampNeg huR)
                have hk142 := ((congrFun hw137 (ad 12 (M.2.2 1 r.toNatClampNeg).toNatClampNeg)).trans (wm_upn (rl_ne hL (t := 12) (i := (M.2.2 1 r.toNatClampNeg).toNatClampNeg) (t' := 0) (i' := 0) (huR) (lvf 0 (by decide)) (Or.inl rfl) (fun z => absurd z.1 (by decide))))).trans (hL.1 12 (M.2.2 1 r.toNatClampNeg).toNatClampNeg huR)
                have hk143 := ((congrFun hw137 (ad 11 (M.2.2 1 sr.toNatClampNeg).toNatClampNeg)).trans (wm_upn (rl_ne hL (t := 11) (i := (M.2.2 1 sr.toNatClampNeg).toNatClampNeg) (t' := 0) (i' := 0) (huS) (lvf 0 (by decide)) (Or.inl rfl) (fun z => absurd z.1 (by decide))))).trans (hL.1 11 (M.2.2 1 sr.toNatClampNeg).toNatClampNeg huS)
                have hk144 := ((congrFun hw137 (ad 12 (M.2.2 1 sr.toNatClampNeg).toNatClampNeg)).trans (wm_upn (rl_ne hL (t := 12) (i := (M.2.2 1 sr.toNatClampNeg).toNatClampNeg) (t' := 0) (i' := 0) (huS) (lvf 0 (by decide)) (Or.inl rfl) (fun z => absurd z.1 (by decide))))).trans (hL.1 12 (M.2.2 1 sr.toNatClampNeg).toNatClampNeg huS)
                refine RTN (some (.int _)) _ _ _ _ _ dX10_copy_93 (⟨_, rfl⟩) (Nat.le_of_ble_eq_true rfl) (Nat.le_of_ble_eq_true rfl) ?_
                have sU := bt_iff.mp (sz_row hR hS (cl_lt c4 (by decide) (by decide)))
                have sV := bt_iff.mp (sz_row hR hS (cl_lt c11 (by decide) (by decide)))
                have cU := cl_toInt sU.1
                have cV := cl_toInt sV.1
                have i1 := Int32.le_toInt at_
                have i2 := Int32.toInt_lt at_
                have i3 := Int32.le_toInt n
                have i4 := Int32.toInt_lt n
                have i5 := Int32.le_toInt to_
                have i6 := Int32.toInt_lt to_
                have t1 : (at_.toInt64 + n.toInt64).toInt = at_.toInt + n.toInt := by rw [Int64.toInt_add, i64_32, i64_32]; exact Int.bmod_eq_of_le (by omega) (by omega)
                have t2 : (to_.toInt64 + n.toInt64).toInt = to_.toInt + n.toInt := by rw [Int64.toInt_add, i64_32, i64_32]; exact Int.bmod_eq_of_le (by omega) (by omega)
                have hm : mo_copy M r at_ sr to_ n = ((-10) - 3, sI (sI M 0 0) 5 3) := by unfold mo_copy; rw [if_pos ⟨c4, c11⟩, if_neg (fun z => z.elim hzR hzS), if_pos ((lik_iff (hSo _ huR) (hSo _ huS)).mp c56), if_pos (by have h := span_no (n40 (sz_row hR hS (cl_lt c11 (by decide) (by decide)))) c85; rcases h with h | h | h; exact Or.inr (Or.inl h); exact Or.inr (Or.inr (Or.inl h)); exact Or.inr (Or.inr (Or.inr (Or.inr (by rw [i64_le, t2, i64_32]; omega)))))]
                rw [hm]
                exact ⟨rfl, ad, gi, rl_5 hL hw137, rfl⟩
          · rw [bI_0] at c56
            refine aw_aload_n X dX10_copy_59 rfl rfl ?_
            refine aw_iconst X dX10_copy_60 ci_5 ?_
            refine aw_callV X (kX10_faulted _ _ _ _ _ _ _ _ _ _ _ _ _ _ _ _ _ k0_ _) okm_X10_faulted okX10 k0_ ml_X10_54 im_X10_faulted se_X10_X10_faulted rfl rfl (Nat.le_of_ble_eq_true rfl) ⟨Nat.le_of_ble_eq_true rfl, Nat.le_of_ble_eq_true rfl, Nat.le_of_ble_eq_true rfl, Nat.le_of_ble_eq_true rfl⟩ dX10_copy_61 (fun v w2 hp => ?_)
            obtain ⟨rfl, hw145⟩ := hp
            have hk146 := (congrFun hw145 (ad 0 0)).trans wm_ups
            have hk147 := ((congrFun hw145 (ad 1 0)).trans (wm_upn (rl_ne hL (t := 1) (i := 0) (t' := 0) (i' := 0) (lvf 1 (by decide)) (lvf 0 (by decide)) (Or.inl rfl) (fun z => absurd z.1 (by decide))))).trans k1_
            have hk148 := ((congrFun hw145 (ad 4 0)).trans (wm_upn (rl_ne hL (t := 4) (i := 0) (t' := 0) (i' := 0) (lvf 4 (by decide)) (lvf 0 (by decide)) (Or.inl rfl) (fun z => absurd z.1 (by decide))))).trans k4_
            have hk149 := ((congrFun hw145 (ad 11 (M.2.2 1 r.toNatClampNeg).toNatClampNeg)).trans (wm_upn (rl_ne hL (t := 11) (i := (M.2.2 1 r.toNatClampNeg).toNatClampNeg) (t' := 0) (i' := 0) (huR) (lvf 0 (by decide)) (Or.inl rfl) (fun z => absurd z.1 (by decide))))).trans (hL.1 11 (M.2.2 1 r.toNatClampNeg).toNatClampNeg huR)
            have hk150 := ((congrFun hw145 (ad 12 (M.2.2 1 r.toNatClampNeg).toNatClampNeg)).trans (wm_upn (rl_ne hL (t := 12) (i := (M.2.2 1 r.toNatClampNeg).toNatClampNeg) (t' := 0) (i' := 0) (huR) (lvf 0 (by decide)) (Or.inl rfl) (fun z => absurd z.1 (by decide))))).trans (hL.1 12 (M.2.2 1 r.toNatClampNeg).toNatClampNeg huR)
            have hk151 := ((congrFun hw145 (ad 11 (M.2.2 1 sr.toNatClampNeg).toNatClampNeg)).trans (wm_upn (rl_ne hL (t := 11) (i := (M.2.2 1 sr.toNatClampNeg).toNatClampNeg) (t' := 0) (i' := 0) (huS) (lvf 0 (by decide)) (Or.inl rfl) (fun z => absurd z.1 (by decide))))).trans (hL.1 11 (M.2.2 1 sr.toNatClampNeg).toNatClampNeg huS)
            have hk152 := ((congrFun hw145 (ad 12 (M.2.2 1 sr.toNatClampNeg).toNatClampNeg)).trans (wm_upn (rl_ne hL (t := 12) (i := (M.2.2 1 sr.toNatClampNeg).toNatClampNeg) (t' := 0) (i' := 0) (huS) (lvf 0 (by decide)) (Or.inl rfl) (fun z => absurd z.1 (by decide))))).trans (hL.1 12 (M.2.2 1 sr.toNatClampNeg).toNatClampNeg huS)
            refine RTN (some (.int _)) _ _ _ _ _ dX10_copy_64 (⟨_, rfl⟩) (Nat.le_of_ble_eq_true rfl) (Nat.le_of_ble_eq_true rfl) ?_
            have hm : mo_copy M r at_ sr to_ n = ((-10) - 5, sI (sI M 0 0) 5 5) := by unfold mo_copy; rw [if_pos ⟨c4, c11⟩, if_neg (fun z => z.elim hzR hzS), if_neg (fun z => c56 ((lik_iff (hSo _ huR) (hSo _ huS)).mpr z))]
            rw [hm]
            exact ⟨rfl, ad, gi, rl_5 hL hw145, rfl⟩
    · rw [bI_0] at c11
      refine aw_bipush X dX10_copy_14 cb_m2 ?_
      refine RTN (some (.int _)) _ _ _ _ _ dX10_copy_16 (⟨_, rfl⟩) (Nat.le_of_ble_eq_true rfl) (Nat.le_of_ble_eq_true rfl) ?_
      have hm : mo_copy M r at_ sr to_ n = (-2, sI M 0 0) := by simp only [mo_copy, c4, c11, if_true, if_false, not_true_eq_false, not_false_eq_true, and_self, true_and, and_true, false_and, and_false, or_true, true_or, or_false, false_or, reduceCtorEq, ne_eq, va_us, pk_us]
      rw [hm]
      exact ⟨rfl, ad, gi, rl_0 hL, rfl⟩
