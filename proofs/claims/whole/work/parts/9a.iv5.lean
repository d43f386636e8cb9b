/-! every call keeps INV: rows, streams -/
theorem fp_ex {M : MS} (h : 0 ≤ oI (mo_fp (sI M 0 0))) : ∃ k, mo_fp M = some k := by
  cases hf : mo_fp M with
  | none => exact absurd h (oI_ng (x := mo_fp M) hf)
  | some k => exact ⟨k, rfl⟩
theorem pl_ex {M : MS} {t : Int32} (h : 0 ≤ oI (mo_pl (sI M 0 0) t)) : ∃ k, mo_pl M t = some k := by
  cases hf : mo_pl M t with
  | none => exact absurd h (oI_ng (x := mo_pl M t) hf)
  | some k => exact ⟨k, rfl⟩
theorem iv_lend {n b : Nat} {M : MS} (r f : Int32) (h : INV n b M) : INV (n + 1) (b + 16) (mo_lend M r f).2 := by
  unfold mo_lend
  split
  · rename_i c
    exact iv_up (iv_lend_ (Or.inr ⟨f.toNatClampNeg, cl_lt c.2 (by decide) (by decide), rfl⟩) (iv_i0 h))
  · exact iv_0 h
theorem iv_row {n b : Nat} {M : MS} (r sort n9 : Int32) (h : INV n b M) : INV (n + 1) (b + 16) (mo_row M r sort n9).2 := by
  unfold mo_row
  split
  · split
    · split
      · exact iv_up (iv_lend_ (Or.inl rfl) (iv_i0 h))
      · split
        · split
          · rename_i c1 c2 c3 c4 c5
            obtain ⟨u1, u2, u3⟩ := fa_free (sI M 0 0)
            have b2 := bt_iff.mp c2
            have e40 : (40 : Int32).toInt = 40 := rfl
            have e0 : (0 : Int32).toInt = 0 := rfl
            rw [i32_le] at c3 c4 c5
            have hb : bt n9 0 40 = true := bt_iff.mpr ⟨by omega, by omega⟩
            have hs : bt sort 1 4 = true := bt_iff.mpr ⟨by omega, by omega⟩
            show INV (n + 1) (b + 16) (sF (mo_fill (sF (sF (sI M 0 0) 2 (nI (mo_fa (sI M 0 0))).toNatClampNeg sort) 3 (nI (mo_fa (sI M 0 0))).toNatClampNeg n9) (nI (mo_fa (sI M 0 0))) 40) 1 r.toNatClampNeg (nI (mo_fa (sI M 0 0))))
            rw [fill_eq u1 (by omega) 40 (Nat.le_refl 40), nI_clamp (by omega)]
            exact iv_up (iv_row_ (M := M) (u := mo_fa (sI M 0 0)) u1 (by omega) hs hb h)
          · exact iv_5 h
        · exact iv_0 h
    · exact iv_0 h
  · exact iv_0 h
theorem iv_set {n b : Nat} {M : MS} (r sort k v : Int32) (h : INV n b M) : INV (n + 1) (b + 16) (mo_set M r sort k v).2 := by
  unfold mo_set
  split
  · split
    · split
      · rename_i c1 c2 c3
        have hz : mo_ag M (M.2.2 1 r.toNatClampNeg) sort k = 0 := ag_le.mp c3
        obtain ⟨q1, q2, q3⟩ := ag_pl h.1.1 h.1.2.1 c1 hz
        have z := (ag_z hz).2.1
        have hsz := n40 (sz_row h.1.1 h.1.2.1 (cl_lt c1 (by decide) (by decide)))
        show INV (n + 1) (b + 16) (sF (sI M 0 0) 4 ((40 : Int32) * (M.2.2 1 r.toNatClampNeg) + k - 40).toNatClampNeg (if sort = 1 then v.toInt8.toInt32 else v))
        rw [q3]
        refine iv_up (iv_w_ q1.1 q1.2.1 (by omega) (fun hs => ?_) (iv_i0 h))
        exfalso
        have hs : 2 < (M.2.2 2 (M.2.2 1 r.toNatClampNeg).toNatClampNeg).toInt := hs
        rcases z with z | ⟨z, _⟩
        · rw [z] at hs; have := bt_iff.mp c2; omega
        · rw [z] at c2; exact absurd c2 (by decide)
      · exact iv_5 h
    · exact iv_0 h
  · exact iv_0 h
theorem iv_item {n b : Nat} {M : MS} (r sort k : Int32) (h : INV n b M) : INV (n + 1) (b + 16) (mo_item M r sort k).2 := by
  unfold mo_item
  split
  · split
    · split
      · exact iv_0 h
      · exact iv_5 h
    · exact iv_0 h
  · exact iv_0 h
theorem iv_held {n b : Nat} {M : MS} (r k : Int32) (h : INV n b M) : INV (n + 1) (b + 16) (mo_held M r k).2 := by
  unfold mo_held
  split
  · split
    · exact iv_0 h
    · exact iv_5 h
  · exact iv_0 h
theorem iv_hold {n b : Nat} {M : MS} (r k ref : Int32) (h : INV n b M) : INV (n + 1) (b + 16) (mo_hold M r k ref).2 := by
  unfold mo_hold
  split
  · split
    · split
      · rename_i c1 c2 c3
        unfold mo_g at c3
        split at c3
        · exact absurd c3 (by decide)
        · rename_i c4
          have hz : mo_ag M (M.2.2 1 r.toNatClampNeg) 3 k = 0 := ag_le.mp c3
          obtain ⟨q1, q2, q3⟩ := ag_pl h.1.1 h.1.2.1 c1 hz
          have hsz := n40 (sz_row h.1.1 h.1.2.1 (cl_lt c1 (by decide) (by decide)))
          show INV (n + 1) (b + 16) (sF (sI M 0 0) 4 ((40 : Int32) * (M.2.2 1 r.toNatClampNeg) + k - 40).toNatClampNeg (ref + 1))
          rw [q3]
          refine iv_up (iv_w_ q1.1 q1.2.1 (by omega) (fun hs => ?_) (iv_i0 h))
          have h29 := bt_iff.mp h.2.2.2.1.1
          have e29 := ti_sub (a := M.1 29) (b := 1) (y := 1) rfl rfl (by omega)
          have hr : -1 ≤ ref.toInt ∧ ref.toInt ≤ (M.1 29).toInt - 1 := by
            rcases c2 with z | z
            · rw [z]
              have : (-1 : Int32).toInt = -1 := rfl
              omega
            · have := bt_iff.mp z
              omega
          have e1 := ti_add (a := ref) (b := 1) (y := 1) rfl rfl (by omega)
          refine ⟨by omega, by show (ref + 1).toInt ≤ (M.1 29).toInt; omega, fun h4 hp => ?_⟩
          have e2 : ref + 1 - 1 = ref := add1_sub.symm
          rw [e2]
          rcases h.2.2.2.1.2.2.2.1 ref.toNatClampNeg with z | z
          · exfalso
            have e0 : (0 : Int32).toInt = 0 := rfl
            exact c4 ⟨hz, h4, by rw [i32_le]; omega, z⟩
          · exact z
      · exact iv_5 h
    · exact iv_0 h
  · exact iv_0 h
theorem cb_l {M : MS} {a at_ b to_ : Int32} {N : Nat} : ∀ t, (mo_cb M a at_ b to_ N t).2.1 = M.2.1
  | 0 => rfl
  | t + 1 => cb_l t
theorem cf_fr {a at_ b to_ : Int32} : ∀ (m i : Nat) (M : MS), AN [4] M (mo_cf a at_ b to_ m i M).2 ∧ JN [5] M (mo_cf a at_ b to_ m i M).2 ∧ (mo_cf a at_ b to_ m i M).2.2.1 = M.2.1
  | 0, _, _ => ⟨an_r, jn_r, rfl⟩
  | m + 1, i, M => by
    unfold mo_cf
    split
    · exact ⟨an_r, jn_I jn_r (by decide), rfl⟩
    · obtain ⟨k1, k2, k3⟩ := cf_fr (a := a) (at_ := at_) (b := b) (to_ := to_) m (i + 1) (sF M 4 ((((40 * b) + to_) + nI i) - 40).toNatClampNeg (mo_cv M a at_ i))
      exact ⟨fun j hj => (k1 j hj).trans (sF_f _ _ _ _ (fun z => hj (by rw [z]; decide))), k2, k3⟩
theorem iv_4 {n b : Nat} {M M' : MS} (hA : AN [4] M M') (hI : JN [5] M M') (l0 : M'.2.1 = M.2.1) (hg : G1 M') (h : INV n b M) : INV n b M' :=
  ⟨hg, g2_c hA hI (by decide) (by decide) h.2.1, g3_c hA (by decide) h.2.2.1, g4_c hA hI (by decide) (by decide) h.2.2.2.1, g5_c hA hI (by decide) (by decide) h.2.2.2.2.1, g6_c hA (by decide) h.2.2.2.2.2.1, g7_c hA hI (by decide) (by decide) h.2.2.2.2.2.2.1, g8_c hI (by decide) h.2.2.2.2.2.2.2.1, g9_c l0 h.2.2.2.2.2.2.2.2⟩
theorem iv_copy {n b : Nat} {M : MS} (r at_ sr to_ n9 : Int32) (h : INV n b M) : INV (n + 1) (b + 16) (mo_copy M r at_ sr to_ n9).2 := by
  unfold mo_copy
  split
  · rename_i c1
    split
    · exact iv_5 h
    · rename_i c2
      split
      · rename_i c3
        split
        · exact iv_5 h
        · rename_i c4
          have hr8 : r.toNatClampNeg < 8 := cl_lt c1.1 (by decide) (by decide)
          have hs8 : sr.toNatClampNeg < 8 := cl_lt c1.2 (by decide) (by decide)
          have ha0 : ¬ M.2.2 1 r.toNatClampNeg = 0 := fun z => c2 (Or.inl z)
          have hb0 : ¬ M.2.2 1 sr.toNatClampNeg = 0 := fun z => c2 (Or.inr z)
          have ha := nz_bt (h.1.1 _ hr8) ha0
          have hb := nz_bt (h.1.1 _ hs8) hb0
          have hu := row_usd h.1.1 hr8 ha0
          have h0 : ¬ at_ < 0 := fun z => c4 (Or.inl z)
          have h1 : ¬ to_ < 0 := fun z => c4 (Or.inr (Or.inl z))
          have h2 : ¬ n9 < 0 := fun z => c4 (Or.inr (Or.inr (Or.inl z)))
          have h3 : ¬ (M.2.2 3 (M.2.2 1 r.toNatClampNeg).toNatClampNeg).toInt64 < at_.toInt64 + n9.toInt64 := fun z => c4 (Or.inr (Or.inr (Or.inr (Or.inl z))))
          have h4 : to_.toInt64 + n9.toInt64 ≤ (M.2.2 3 (M.2.2 1 sr.toNatClampNeg).toNatClampNeg).toInt64 := Decidable.byContradiction (fun z => c4 (Or.inr (Or.inr (Or.inr (Or.inr z)))))
          rw [i64_lt, add64, i64_32] at h3
          rw [i64_le, add64, i64_32] at h4
          have h2' := h2
          rw [i32_lt] at h2'
          have e0 : (0 : Int32).toInt = 0 := rfl
          have cn := cl_toInt (x := n9) (by omega)
          have hM := iv_i0 (v := 0) h
          split
          · rename_i c5
            obtain ⟨k1, k2, k3⟩ := g1_cb (M := sI M 0 0) (N := n9.toNatClampNeg) hb c5.1 h0 h1 (by show at_.toInt + (n9.toNatClampNeg : Int) ≤ (M.2.2 3 (M.2.2 1 r.toNatClampNeg).toNatClampNeg).toInt; omega) (by show to_.toInt + (n9.toNatClampNeg : Int) ≤ (M.2.2 3 (M.2.2 1 sr.toNatClampNeg).toNatClampNeg).toInt; omega) hu hM.2.2.2.1.1 hM.1 n9.toNatClampNeg (Nat.le_refl _)
            exact iv_up (iv_4 k2 (fun j _ => by rw [k3]) (cb_l _) k1 hM)
          · obtain ⟨k1, k2, k3⟩ := cf_fr (a := M.2.2 1 r.toNatClampNeg) (at_ := at_) (b := M.2.2 1 sr.toNatClampNeg) (to_ := to_) n9.toNatClampNeg 0 (sI M 0 0)
            refine iv_up (iv_4 k1 k2 k3 (g1_cf ha hb h0 h1 n9.toNatClampNeg 0 (sI M 0 0) hM.2.2.2.1.1 hM.2.2.2.1.2.2.2.1 hu c3 ?_ ?_ hM.1) hM)
            · show at_.toInt + ((0 + n9.toNatClampNeg : Nat) : Int) ≤ (M.2.2 3 (M.2.2 1 r.toNatClampNeg).toNatClampNeg).toInt
              omega
            · show to_.toInt + ((0 + n9.toNatClampNeg : Nat) : Int) ≤ (M.2.2 3 (M.2.2 1 sr.toNatClampNeg).toNatClampNeg).toInt
              omega
      · exact iv_5 h
  · exact iv_0 h
theorem iv_pane {n b : Nat} {M : MS} (hn : n < 1000000) (h : INV n b M) : INV (n + 1) (b + 16) (mo_pane M).2 := by
  unfold mo_pane
  split
  · rename_i c
    obtain ⟨k, hk⟩ := fp_ex c
    show INV (n + 1) (b + 16) (mo_begin (sI M 0 0) (oI (mo_fp (sI M 0 0))).toNatClampNeg 0 1 1)
    rw [bg_0, fp_cl hk]
    exact iv_bg_ hn (fp_some hk).1 (fp_some hk).2 (fun _ _ => rfl) (fun z => absurd z (by decide)) (fun z => absurd z (by decide)) (by decide) ⟨by decide, fun z => absurd z (by decide)⟩ (by decide) (fun _ => rfl) (by decide) (fun z => absurd z (by decide)) (iv_i0 h)
  · exact iv_0 h
theorem iv_memory {n b : Nat} {M : MS} (hn : n < 1000000) (r n9 mode wide : Int32) (h : INV n b M) : INV (n + 1) (b + 16) (mo_memory M r n9 mode wide).2 := by
  unfold mo_memory
  split
  · rename_i c1
    split
    · rename_i c2
      split
      · rename_i c3
        obtain ⟨k, hk⟩ := fp_ex c3
        show INV (n + 1) (b + 16) (sF (sF (mo_begin (sI M 0 0) (oI (mo_fp (sI M 0 0))).toNatClampNeg 1 wide mode) 15 (oI (mo_fp (sI M 0 0))).toNatClampNeg (M.2.2 1 r.toNatClampNeg)) 12 (oI (mo_fp (sI M 0 0))).toNatClampNeg n9)
        rw [bg_0, fp_cl hk, bg_15, bg_12]
        exact iv_bg_ hn (fp_some hk).1 (fp_some hk).2 (fun _ _ => rfl) (fun _ => Or.inr ⟨r.toNatClampNeg, cl_lt c1 (by decide) (by decide), rfl⟩) (fun z => absurd z (by decide)) (h.1.1 _ (cl_lt c1 (by decide) (by decide))) ⟨by decide, fun z => absurd z (by decide)⟩ c2.2 (fun z => absurd z (by decide)) (by decide) (fun z => absurd z (by decide)) (iv_i0 h)
      · exact iv_0 h
    · exact iv_0 h
  · exact iv_0 h
theorem nrw_nn {wide c : Int32} (h : 0 ≤ c.toInt) : 0 ≤ (nrw wide c).toInt := by
  rw [nrw_eq]
  split
  · decide
  · exact h
theorem iv_resource {n b : Nat} {M : MS} (hn : n < 1000000) (num wide : Int32) (h : INV n b M) : INV (n + 1) (b + 16) (mo_resource M num wide).2 := by
  unfold mo_resource
  split
  · rename_i c1
    split
    · rename_i c2
      obtain ⟨k, hk⟩ := fp_ex c2
      have b4 := bt_iff.mp c1.1
      have hn4 : num.toNatClampNeg < 4 := cl_lt c1.1 (by decide) (by decide)
      have en : nI num.toNatClampNeg = num := nI_cl b4.1
      have g23 := bt_iff.mp (h.2.2.2.2.2.1.1 num.toNatClampNeg hn4)
      have g0 := (i32_le _ _).mp c1.2
      have e0 : (0 : Int32).toInt = 0 := rfl
      have ec := cl_toInt (x := M.2.2 23 num.toNatClampNeg) (by omega)
      have hm : mo_rs (sF (mo_begin (sI M 0 0) (oI (mo_fp (sI M 0 0))).toNatClampNeg 3 wide 2) 12 (oI (mo_fp (sI M 0 0))).toNatClampNeg (M.2.2 23 num.toNatClampNeg)) (oI (mo_fp (sI M 0 0))) num wide (M.2.2 23 num.toNatClampNeg).toNatClampNeg = BG (sI M 0 0) k (rsg M k num.toNatClampNeg wide (M.2.2 23 num.toNatClampNeg).toNatClampNeg) 3 wide 2 0 (M.2.2 23 num.toNatClampNeg) 0 (-1) := by
        rw [bg_0, fp_cl hk, bg_12, fp_oI hk]
        conv => lhs; rw [show mo_rs (BG (sI M 0 0) k ((sI M 0 0).2.2 18) 3 wide 2 0 (M.2.2 23 num.toNatClampNeg) 0 (-1)) (nI k) num wide (M.2.2 23 num.toNatClampNeg).toNatClampNeg = mo_rs (BG (sI M 0 0) k ((sI M 0 0).2.2 18) 3 wide 2 0 (M.2.2 23 num.toNatClampNeg) 0 (-1)) (nI k) (nI num.toNatClampNeg) wide (M.2.2 23 num.toNatClampNeg).toNatClampNeg by rw [en]]
        rw [rs_eq (fp_some hk).1 hn4 _ (by omega), bg_18]
        rfl
      show INV (n + 1) (b + 16) (mo_rs (sF (mo_begin (sI M 0 0) (oI (mo_fp (sI M 0 0))).toNatClampNeg 3 wide 2) 12 (oI (mo_fp (sI M 0 0))).toNatClampNeg (M.2.2 23 num.toNatClampNeg)) (oI (mo_fp (sI M 0 0))) num wide (M.2.2 23 num.toNatClampNeg).toNatClampNeg)
      rw [hm]
      refine iv_bg_ hn (fp_some hk).1 (fp_some hk).2 (fun x hx => if_neg (by omega)) (fun z => absurd z (by decide)) (fun z => absurd z (by decide)) (by decide) ⟨by decide, fun _ => rfl⟩ (bt_iff.mpr ⟨by omega, by omega⟩) (fun z => absurd z (by decide)) (by decide) (fun _ j hj => ?_) (iv_i0 h)
      show 0 ≤ (if 40 * k ≤ 40 * k + j ∧ 40 * k + j < 40 * k + (M.2.2 23 num.toNatClampNeg).toNatClampNeg then nrw wide (M.2.2 24 (40 * num.toNatClampNeg + (40 * k + j - 40 * k))) else M.2.2 18 (40 * k + j)).toInt
      rw [if_pos (by omega)]
      exact nrw_nn (h.2.2.2.2.2.1.2 _)
    · exact iv_0 h
  · exact iv_0 h
theorem and255_nn {x : Int32} : 0 ≤ (x &&& 255).toInt := by
  rw [← sgn_b]
  exact sgn_nn
theorem iv_give {n b : Nat} {M : MS} (n1 r : Int32) (h : INV n b M) : INV (n + 1) (b + 16) (mo_give M n1 r).2 := by
  unfold mo_give
  split
  · rename_i c1
    split
    · exact iv_5 h
    · rename_i c2
      split
      · have hr8 : r.toNatClampNeg < 8 := cl_lt c1.2 (by decide) (by decide)
        have hsz := sz_row h.1.1 h.1.2.1 hr8
        have huR := row_usd h.1.1 hr8 c2
        have bn := bt_iff.mp c1.1
        have br := bt_iff.mp (h.1.1 _ hr8)
        have bs := bt_iff.mp hsz
        have e1 : nI n1.toNatClampNeg = n1 := nI_cl bn.1
        have e2 : nI (M.2.2 1 r.toNatClampNeg).toNatClampNeg = M.2.2 1 r.toNatClampNeg := nI_cl br.1
        have hg := gl_eq (N := sF (sI M 0 0) 23 n1.toNatClampNeg (M.2.2 3 (M.2.2 1 r.toNatClampNeg).toNatClampNeg)) (n := n1.toNatClampNeg) (u := (M.2.2 1 r.toNatClampNeg).toNatClampNeg) (cl_lt c1.1 (by decide) (by decide)) huR.1 huR.2.1 (M.2.2 3 (M.2.2 1 r.toNatClampNeg).toNatClampNeg).toNatClampNeg (n40 hsz)
        rw [e1, e2] at hg
        show INV (n + 1) (b + 16) (mo_gl (sF (sI M 0 0) 23 n1.toNatClampNeg (M.2.2 3 (M.2.2 1 r.toNatClampNeg).toNatClampNeg)) n1 (M.2.2 1 r.toNatClampNeg) (M.2.2 3 (M.2.2 1 r.toNatClampNeg).toNatClampNeg).toNatClampNeg)
        rw [hg]
        refine iv_up (iv_24_ (fun i => ?_) (iv_23_ (bt_iff.mpr ⟨by omega, by omega⟩) (iv_i0 h)))
        unfold glg
        split
        · split
          · exact and255_nn
          · exact sgn_nn
        · exact h.2.2.2.2.2.1.2 i
      · exact iv_5 h
  · exact iv_0 h
theorem end_bt {M : MS} {k : Nat} (hk : k < 8) (hF : mi_file M) (hB : mi_bytes M) (hL : mi_last M) : 0 ≤ (mo_end M k).toInt ∧ (mo_end M k).toInt ≤ 60 := by
  unfold mo_end
  split
  · rename_i c
    have hb := bt_iff.mp (hB (M.2.2 16 k).toNatClampNeg (cl_lt (hF k hk c) (by decide) (by decide)))
    split
    · rw [Int32.div_one]; exact hb
    · have e4 : (4 : Int32).toInt = 4 := rfl
      have d : (M.2.2 36 (M.2.2 16 k).toNatClampNeg / 4).toInt = (M.2.2 36 (M.2.2 16 k).toNatClampNeg).toInt / 4 := by
        rw [Int32.toInt_div, e4, Int.tdiv_eq_ediv_of_nonneg hb.1]
        exact Int.bmod_eq_of_le (by omega) (by omega)
      rw [d]
      omega
  · have := bt_iff.mp (hL k hk)
    omega
theorem iv_seek {n b : Nat} {M : MS} (t at_ from_ : Int32) (h : INV n b M) : INV (n + 1) (b + 16) (mo_seek M t at_ from_).2 := by
  unfold mo_seek
  split
  · rename_i c1
    split
    · split
      · exact iv_0 h
      · obtain ⟨k, hk⟩ := pl_ex c1
        refine iv_up (iv_pl_ ?_ (iv_i0 h))
        rw [pl_oI hk, nI_clamp (by have := pl_lt hk; omega)]
        have he := end_bt (M := sI M 0 0) (pl_lt hk) h.2.2.1.1 h.2.2.2.2.1.2.1 h.2.2.1.2.2.2.2.1
        unfold mo_spl
        split
        · rename_i d1
          split
          · rename_i d2
            rw [i64_le] at d1
            rw [i64_le, i64_32] at d2
            have e0 : (0 : Int64).toInt = 0 := rfl
            have e1 : (mo_sto (sI M 0 0) k at_ from_).toInt32.toInt = (mo_sto (sI M 0 0) k at_ from_).toInt := by
              rw [Int64.toInt_toInt32]
              exact Int.bmod_eq_of_le (by omega) (by omega)
            exact bt_iff.mpr ⟨by omega, by omega⟩
          · exact bt_iff.mpr he
        · decide
    · exact iv_0 h
  · exact iv_0 h
theorem iv_get {n b : Nat} {M : MS} (t : Int32) (h : INV n b M) : INV (n + 1) (b + 16) (mo_get M t).2 := by
  unfold mo_get
  split
  · rename_i c1
    split
    · split
      · rename_i c3
        split
        · exact iv_5 h
        · obtain ⟨k, hk⟩ := pl_ex c1
          refine iv_up (iv_14_ (iv_pl_ ?_ (iv_i0 h)))
          rw [pl_oI hk, nI_clamp (by have := pl_lt hk; omega)] at c3 ⊢
          have he := end_bt (M := sI M 0 0) (pl_lt hk) h.2.2.1.1 h.2.2.2.2.1.2.1 h.2.2.1.2.2.2.2.1
          have hp := bt_iff.mp (h.2.2.1.2.2.2.2.2.2.2.1 k (pl_lt hk))
          rw [i32_lt] at c3
          have e1 := ti_add (a := M.2.2 11 k) (b := 1) (y := 1) rfl rfl (by omega)
          exact bt_iff.mpr ⟨by omega, by omega⟩
      · exact iv_0 h
    · exact iv_0 h
  · exact iv_0 h
theorem iv_close {n b : Nat} {M : MS} (t : Int32) (h : INV n b M) : INV (n + 1) (b + 16) (mo_close M t).2 := by
  unfold mo_close
  split
  · rename_i c1
    obtain ⟨k, hk⟩ := pl_ex c1
    show INV (n + 1) (b + 16) (mo_ce (sI (sF (sI M 0 0) 6 (oI (mo_pl (sI M 0 0) t)).toNatClampNeg 0) 20 (if M.1 20 = t then 0 else M.1 20)) t 8)
    rw [pl_oI hk, nI_clamp (by have := pl_lt hk; omega), ce_eq 8 (Nat.le_refl 8)]
    exact iv_up (iv_cl_ (M := sI M 0 0) (k := k) (t := t) (pl_opn hk).2 (iv_i0 h))
  · exact iv_0 h
theorem iv_echo {n b : Nat} {M : MS} (t to : Int32) (h : INV n b M) : INV (n + 1) (b + 16) (mo_echo M t to).2 := by
  unfold mo_echo
  split
  · exact iv_0 h
  · rename_i c1
    split
    · rename_i c2
      split
      · rename_i c3
        split
        · exact iv_0 h
        · rename_i c4
          obtain ⟨k, hk⟩ := pl_ex (Int32.not_lt.mp c1)
          have hk8 := pl_lt hk
          show INV (n + 1) (b + 16) (sF (sI M 0 0) 17 (oI (mo_pl (sI M 0 0) t)).toNatClampNeg to)
          rw [pl_oI hk] at c3 c4 ⊢
          rw [nI_clamp (by omega)] at c3 ⊢
          refine iv_up (iv_ec_ hk8 c3 ?_ (iv_i0 h))
          rcases c2 with z | z
          · exact Or.inl z
          · obtain ⟨j, hj⟩ := pl_ex z
            rw [pl_oI hj] at c4
            exact Or.inr ⟨j, hj, Bool.eq_false_iff.mpr c4⟩
      · exact iv_0 h
    · exact iv_0 h
theorem iv_current {n b : Nat} {M : MS} (t : Int32) (h : INV n b M) : INV (n + 1) (b + 16) (mo_current M t).2 := by
  unfold mo_current
  split
  · rename_i c1
    refine iv_up (iv_cu_ ?_ (iv_i0 h))
    rcases c1 with z | z
    · exact Or.inl z
    · exact Or.inr (pl_ex z)
  · exact iv_0 h
theorem iv_about {n b : Nat} {M : MS} (t what : Int32) (h : INV n b M) : INV (n + 1) (b + 16) (mo_about M t what).2 := iv_0 h
theorem iv_shown {n b : Nat} {M : MS} (t i : Int32) (h : INV n b M) : INV (n + 1) (b + 16) (mo_shown M t i).2 := iv_0 h
theorem iv_told {n b : Nat} {M : MS} (what : Int32) (h : INV n b M) : INV (n + 1) (b + 16) (mo_told M what).2 := iv_0 h
theorem iv_upper {n b : Nat} {M : MS} (c : Int32) (h : INV n b M) : INV (n + 1) (b + 16) (mo_upper M c).2 := iv_0 h
theorem iv_lower {n b : Nat} {M : MS} (c : Int32) (h : INV n b M) : INV (n + 1) (b + 16) (mo_lower M c).2 := iv_0 h
theorem iv_date {n b : Nat} {M : MS} (x : Int64) (what : Int32) (h : INV n b M) : INV (n + 1) (b + 16) (mo_date M x what).2 := iv_0 h
theorem iv_exists {n b : Nat} {M : MS} (r : Int32) (h : INV n b M) : INV (n + 1) (b + 16) (mo_exists M r).2 := by
  unfold mo_exists
  split
  · split
    · exact iv_0 h
    · exact iv_0 h
  · exact iv_0 h
theorem iv_share {n b : Nat} {M : MS} (h : INV n b M) : INV (n + 1) (b + 16) (mo_share M).2 := by
  unfold mo_share
  split
  · exact iv_up (iv_i0 h)
  · exact iv_0 h
theorem iv_sound {n b : Nat} {M : MS} (ch t : Int32) (h : INV n b M) : INV (n + 1) (b + 16) (mo_sound M ch t).2 := by
  unfold mo_sound
  split
  · exact iv_up (iv_42_ (iv_i0 h))
  · exact iv_0 h
