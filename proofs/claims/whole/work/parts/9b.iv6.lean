/-! every call keeps INV: putting, names, files, chimes -/
theorem l64_add {a : Int64} (h0 : 0 ≤ a.toInt) (h1 : a.toInt < 2 ^ 60) : (a + 1).toInt = a.toInt + 1 := by
  rw [Int64.toInt_add]
  exact Int.bmod_eq_of_le (by have : (1 : Int64).toInt = 1 := rfl; omega) (by have : (1 : Int64).toInt = 1 := rfl; omega)
theorem iv_27_ {n b0 : Nat} {M : MS} {v : Int32} (hv : v = 0 ∨ v = 1) (h : INV n b0 M) : INV n b0 (sI M 27 v) := by
  have hA : AN [] M (sI M 27 v) := an_I an_r
  have hI : JN [27] M (sI M 27 v) := jn_I jn_r (by decide)
  exact ⟨g1_c hA hI (by decide) (by decide) h.1, g2_c hA hI (by decide) (by decide) h.2.1, g3_c hA (by decide) h.2.2.1, g4_c hA hI (by decide) (by decide) h.2.2.2.1, g5_c hA hI (by decide) (by decide) h.2.2.2.2.1, g6_c hA (by decide) h.2.2.2.2.2.1, ⟨hv, h.2.2.2.2.2.2.1.2⟩, g8_c hI (by decide) h.2.2.2.2.2.2.2.1, g9_c rfl h.2.2.2.2.2.2.2.2⟩
theorem iv_28_ {n b0 : Nat} {M : MS} {v : Int32} (h : INV n b0 M) : INV n b0 (sI M 28 v) := by
  have hA : AN [] M (sI M 28 v) := an_I an_r
  have hI : JN [28] M (sI M 28 v) := jn_I jn_r (by decide)
  exact ⟨g1_c hA hI (by decide) (by decide) h.1, g2_c hA hI (by decide) (by decide) h.2.1, g3_c hA (by decide) h.2.2.1, g4_c hA hI (by decide) (by decide) h.2.2.2.1, g5_c hA hI (by decide) (by decide) h.2.2.2.2.1, g6_c hA (by decide) h.2.2.2.2.2.1, g7_c hA hI (by decide) (by decide) h.2.2.2.2.2.2.1, g8_c hI (by decide) h.2.2.2.2.2.2.2.1, g9_c rfl h.2.2.2.2.2.2.2.2⟩
theorem iv_40_ {n b0 : Nat} {M : MS} {v : Int32} (h : INV n b0 M) : INV n b0 (sI M 40 v) := by
  have hA : AN [] M (sI M 40 v) := an_I an_r
  have hI : JN [40] M (sI M 40 v) := jn_I jn_r (by decide)
  exact ⟨g1_c hA hI (by decide) (by decide) h.1, g2_c hA hI (by decide) (by decide) h.2.1, g3_c hA (by decide) h.2.2.1, g4_c hA hI (by decide) (by decide) h.2.2.2.1, g5_c hA hI (by decide) (by decide) h.2.2.2.2.1, g6_c hA (by decide) h.2.2.2.2.2.1, g7_c hA hI (by decide) (by decide) h.2.2.2.2.2.2.1, g8_c hI (by decide) h.2.2.2.2.2.2.2.1, g9_c rfl h.2.2.2.2.2.2.2.2⟩
theorem iv_41_ {n b0 : Nat} {M : MS} {v : Int32} (h : INV n b0 M) : INV n b0 (sI M 41 v) := by
  have hA : AN [] M (sI M 41 v) := an_I an_r
  have hI : JN [41] M (sI M 41 v) := jn_I jn_r (by decide)
  exact ⟨g1_c hA hI (by decide) (by decide) h.1, g2_c hA hI (by decide) (by decide) h.2.1, g3_c hA (by decide) h.2.2.1, g4_c hA hI (by decide) (by decide) h.2.2.2.1, g5_c hA hI (by decide) (by decide) h.2.2.2.2.1, g6_c hA (by decide) h.2.2.2.2.2.1, g7_c hA hI (by decide) (by decide) h.2.2.2.2.2.2.1, g8_c hI (by decide) h.2.2.2.2.2.2.2.1, g9_c rfl h.2.2.2.2.2.2.2.2⟩
theorem iv_nm_ {n b0 : Nat} {M : MS} {c : Int32} (h8 : ¬ 8 ≤ M.1 26) (hc : bt c 32 126 = true) (h : INV n b0 M) : INV n b0 (sI (sF M 25 (M.1 26).toNatClampNeg c) 26 (M.1 26 + 1)) := by
  have hA : AN [25] M (sI (sF M 25 (M.1 26).toNatClampNeg c) 26 (M.1 26 + 1)) := an_I (an_F an_r (by decide))
  have hI : JN [26] M (sI (sF M 25 (M.1 26).toNatClampNeg c) 26 (M.1 26 + 1)) := jn_I (jn_F jn_r) (by decide)
  refine ⟨g1_c hA hI (by decide) (by decide) h.1, g2_c hA hI (by decide) (by decide) h.2.1, g3_c hA (by decide) h.2.2.1, g4_c hA hI (by decide) (by decide) h.2.2.2.1, g5_c hA hI (by decide) (by decide) h.2.2.2.2.1, g6_c hA (by decide) h.2.2.2.2.2.1, ⟨h.2.2.2.2.2.2.1.1, fun j hj => ?_, ?_⟩, g8_c hI (by decide) h.2.2.2.2.2.2.2.1, g9_c rfl h.2.2.2.2.2.2.2.2⟩
  · show bt (upd (M.2.2 25) (M.1 26).toNatClampNeg c j) 32 126 = true
    have hj : (j : Int) < (M.1 26 + 1).toInt := hj
    have h26 := bt_iff.mp h.2.2.2.2.2.2.1.2.2
    have e1 := ti_add (a := M.1 26) (b := 1) (y := 1) rfl rfl (by omega)
    have c1 := cl_toInt h26.1
    by_cases hz : j = (M.1 26).toNatClampNeg
    · rw [hz, upd_s]; exact hc
    · rw [upd_n hz]; exact h.2.2.2.2.2.2.1.2.1 j (by omega)
  · show bt (M.1 26 + 1) 0 8 = true
    have h26 := bt_iff.mp h.2.2.2.2.2.2.1.2.2
    have e1 := ti_add (a := M.1 26) (b := 1) (y := 1) rfl rfl (by omega)
    have e8 : (8 : Int32).toInt = 8 := rfl
    rw [i32_le] at h8
    exact bt_iff.mpr ⟨by omega, by omega⟩
theorem iv_26_ {n b0 : Nat} {M : MS}  (h : INV n b0 M) : INV n b0 (sI M 26 0) := by
  have hA : AN [] M (sI M 26 0) := an_I an_r
  have hI : JN [26] M (sI M 26 0) := jn_I jn_r (by decide)
  exact ⟨g1_c hA hI (by decide) (by decide) h.1, g2_c hA hI (by decide) (by decide) h.2.1, g3_c hA (by decide) h.2.2.1, g4_c hA hI (by decide) (by decide) h.2.2.2.1, g5_c hA hI (by decide) (by decide) h.2.2.2.2.1, g6_c hA (by decide) h.2.2.2.2.2.1, ⟨h.2.2.2.2.2.2.1.1, fun j hj => absurd (show (j : Int) < (0 : Int32).toInt from hj) (by have : (0 : Int32).toInt = 0 := rfl; omega), by show bt (0 : Int32) 0 8 = true; decide⟩, g8_c hI (by decide) h.2.2.2.2.2.2.2.1, g9_c rfl h.2.2.2.2.2.2.2.2⟩
theorem iv_cnt {n b0 : Nat} {M : MS} {k : Nat} (hb : b0 < 1000000) (h : INV n b0 M) : INV n (b0 + 1) (mo_cnt M k) := by
  have hA : AN [13] M (mo_cnt M k) := an_L (an_F an_r (by decide))
  have hI : JN [] M (mo_cnt M k) := jn_L (jn_F jn_r)
  have h9 := h.2.2.2.2.2.2.2.2
  unfold G9 at h9
  have e1 := l64_add (a := M.2.1 21) (by omega) (by omega)
  refine ⟨g1_c hA hI (by decide) (by decide) h.1, g2_c hA hI (by decide) (by decide) h.2.1, g3_c hA (by decide) h.2.2.1, g4_c hA hI (by decide) (by decide) h.2.2.2.1, g5_c hA hI (by decide) (by decide) h.2.2.2.2.1, g6_c hA (by decide) h.2.2.2.2.2.1, g7_c hA hI (by decide) (by decide) h.2.2.2.2.2.2.1, g8_c hI (by decide) h.2.2.2.2.2.2.2.1, ⟨?_, ?_, h9.2.2.1, ?_⟩⟩
  · show 0 ≤ (M.2.1 21 + 1).toInt
    omega
  · show (M.2.1 21 + 1).toInt ≤ ((b0 + 1 : Nat) : Int)
    omega
  · show (M.2.1 22).toInt ≤ ((b0 + 1 : Nat) : Int)
    omega
theorem iv_cn2 {n b0 : Nat} {M : MS} {k : Nat} (hb : b0 < 1000000) (h : INV n b0 M) : INV n (b0 + 1) (mo_cnt (sL M 22 (M.2.1 22 + 1)) k) := by
  have hA : AN [13] M (mo_cnt (sL M 22 (M.2.1 22 + 1)) k) := an_L (an_F (an_L an_r) (by decide))
  have hI : JN [] M (mo_cnt (sL M 22 (M.2.1 22 + 1)) k) := jn_L (jn_F (jn_L jn_r))
  have h9 := h.2.2.2.2.2.2.2.2
  unfold G9 at h9
  have e1 := l64_add (a := M.2.1 21) (by omega) (by omega)
  have e2 := l64_add (a := M.2.1 22) (by omega) (by omega)
  refine ⟨g1_c hA hI (by decide) (by decide) h.1, g2_c hA hI (by decide) (by decide) h.2.1, g3_c hA (by decide) h.2.2.1, g4_c hA hI (by decide) (by decide) h.2.2.2.1, g5_c hA hI (by decide) (by decide) h.2.2.2.2.1, g6_c hA (by decide) h.2.2.2.2.2.1, g7_c hA hI (by decide) (by decide) h.2.2.2.2.2.2.1, g8_c hI (by decide) h.2.2.2.2.2.2.2.1, ⟨?_, ?_, ?_, ?_⟩⟩
  · show 0 ≤ (M.2.1 21 + 1).toInt
    omega
  · show (M.2.1 21 + 1).toInt ≤ ((b0 + 1 : Nat) : Int)
    omega
  · show 0 ≤ (M.2.1 22 + 1).toInt
    omega
  · show (M.2.1 22 + 1).toInt ≤ ((b0 + 1 : Nat) : Int)
    omega
theorem iv_name {n b : Nat} {M : MS} (c : Int32) (h : INV n b M) : INV (n + 1) (b + 16) (mo_name M c).2 := by
  unfold mo_name
  split
  · split
    · split
      · exact iv_up (iv_28_ (iv_27_ (Or.inl rfl) (iv_i0 h)))
      · rename_i c3
        split
        · exact iv_up (iv_27_ (Or.inl rfl) (iv_i0 h))
        · rename_i c4
          exact iv_up (iv_nm_ (M := sI (sI M 0 0) 27 0) c4 (un_bt c3) (iv_27_ (Or.inl rfl) (iv_i0 h)))
    · exact iv_up (iv_28_ (iv_27_ (Or.inr rfl) (iv_i0 h)))
  · exact iv_0 h
theorem iv_timer {n b : Nat} {M : MS} (t : Int32) (h : INV n b M) : INV (n + 1) (b + 16) (mo_timer M t).2 := by
  unfold mo_timer
  split
  · exact iv_up (iv_41_ (iv_40_ (iv_i0 h)))
  · exact iv_0 h
theorem cf_an {M : MS} {a b c : Int32} {f g : Nat → Int32} : AN [42, 43] M (CF M a b c f g) := by
  intro j hj
  simp only [List.mem_cons, List.not_mem_nil, or_false, not_or] at hj
  show (if j = 42 then f else if j = 43 then g else M.2.2 j) = M.2.2 j
  rw [if_neg hj.1, if_neg hj.2]
theorem cf_jn {M : MS} {a b c : Int32} {f g : Nat → Int32} : JN [39, 44, 45] M (CF M a b c f g) := by
  intro j hj
  simp only [List.mem_cons, List.not_mem_nil, or_false, not_or] at hj
  show (if j = 39 then a else if j = 44 then b else if j = 45 then c else M.1 j) = M.1 j
  rw [if_neg hj.1, if_neg hj.2.1, if_neg hj.2.2]
theorem iv_cm {n n' b : Nat} {M M' : MS} (hc : CM M M') (h39 : 0 ≤ (M'.1 39).toInt) (h39' : (M'.1 39).toInt ≤ 1000 * n') (h44 : bt (M'.1 44) 0 8 = true) (hn : n ≤ n') (h : INV n b M) : INV n' b M' := by
  obtain ⟨x, y, z, f, g, rfl⟩ := hc
  have hA := cf_an (M := M) (a := x) (b := y) (c := z) (f := f) (g := g)
  have hI := cf_jn (M := M) (a := x) (b := y) (c := z) (f := f) (g := g)
  refine ⟨g1_c hA hI (by decide) (by decide) h.1, g2_c hA hI (by decide) (by decide) h.2.1, g3_c hA (by decide) h.2.2.1, g4_c hA hI (by decide) (by decide) h.2.2.2.1, g5_c hA hI (by decide) (by decide) h.2.2.2.2.1, g6_c hA (by decide) h.2.2.2.2.2.1, g7_c hA hI (by decide) (by decide) h.2.2.2.2.2.2.1, ⟨?_, h39, h39', h44⟩, g9_c rfl h.2.2.2.2.2.2.2.2⟩
  rw [hI 7 (by decide)]
  have := h.2.2.2.2.2.2.2.1.1
  omega
theorem cm_tk {M : MS} : ∀ i, CM M (mo_tk M i)
  | 0 => cm_refl M
  | i + 1 => cm_t1 (cm_tk i)
theorem iv_tick {n b : Nat} {M : MS} (hn : n < 100000) (t : Int32) (h : INV n b M) : INV (n + 1) (b + 16) (mo_tick M t).2 := by
  unfold mo_tick
  split
  · rename_i c1
    have c1 := bt_iff.mp c1
    have ct := cl_toInt c1.1
    have h8 := h.2.2.2.2.2.2.2.1
    unfold G8 at h8
    have e := tk_39 (M := M) (by omega) t.toNatClampNeg (by omega)
    have hM := iv_i0 (v := 0) h
    show INV (n + 1) (b + 16) (mo_tk (sI M 0 0) t.toNatClampNeg)
    exact iv_b (b := b) (by omega) (iv_cm (n := n) (n' := n + 1) (cm_tk t.toNatClampNeg) (by omega) (by omega) (tk_bt hM.2.2.2.2.2.2.2.1.2.2.2 _) (by omega) hM)
  · exact iv_0 h
theorem iv_event {n b : Nat} {M : MS} (h : INV n b M) : INV (n + 1) (b + 16) (mo_event M).2 := by
  unfold mo_event
  split
  · exact iv_0 h
  · rename_i c1
    have hM := iv_i0 (v := 0) h
    have h8 := hM.2.2.2.2.2.2.2.1
    have h44 := bt_iff.mp h8.2.2.2
    have h44 : 0 ≤ (M.1 44).toInt ∧ (M.1 44).toInt ≤ 8 := h44
    rw [i32_eq] at c1
    have e0 : (0 : Int32).toInt = 0 := rfl
    have e1 := ti_sub (a := M.1 44) (b := 1) (y := 1) rfl rfl (by omega)
    refine iv_b (b := b) (by omega) (iv_cm (n := n) (n' := n + 1) (cm_44 (cm_shift (cm_refl (sI M 0 0)) ((M.1 44).toNatClampNeg - 1))) ?_ ?_ (bt_iff.mpr ⟨?_, ?_⟩) (by omega) hM)
    · rw [sI_n (by decide), shift_1]; exact h8.2.1
    · rw [sI_n (by decide), shift_1]; have := h8.2.2.1; omega
    · show 0 ≤ (M.1 44 - 1).toInt; omega
    · show (M.1 44 - 1).toInt ≤ 8; omega
theorem iv_drop {n b : Nat} {M : MS} (r : Int32) (h : INV n b M) : INV (n + 1) (b + 16) (mo_drop M r).2 := by
  unfold mo_drop
  split
  · rename_i c1
    split
    · exact iv_0 h
    · split
      · exact iv_0 h
      · rename_i c3
        have hr := refs_bt h.2.2.2.1.1 c1
        have hf := h.2.2.2.1.2.1 r.toNatClampNeg (cl_lt hr (by decide) (by decide))
        exact iv_up (iv_dr_ (M := sI M 0 0) (cl_lt hf (by decide) (by decide)) c3 (iv_i0 h))
  · exact iv_0 h
theorem isr_bt {M : MS} {r : Int32} (h : bt r 0 (M.1 29 - 1).toInt) (hrc : mi_refs M) : isr M r.toNatClampNeg := by
  have h1 := bt_iff.mp h
  have h2 := bt_iff.mp hrc
  have e := ti_sub (a := M.1 29) (b := 1) (y := 1) rfl rfl (by omega)
  have c := cl_toInt h1.1
  unfold isr
  omega
theorem div4_bt {x : Int32} (h : bt x 0 60 = true) : bt (x / 4) 0 60 = true ∧ (x / 4 * 4).toInt = x.toInt / 4 * 4 := by
  have hb := bt_iff.mp h
  have e4 : (4 : Int32).toInt = 4 := rfl
  have d : (x / 4).toInt = x.toInt / 4 := by
    rw [Int32.toInt_div, e4, Int.tdiv_eq_ediv_of_nonneg hb.1]
    exact Int.bmod_eq_of_le (by omega) (by omega)
  exact ⟨bt_iff.mpr ⟨by omega, by omega⟩, ti_mul (b := 4) (y := 4) d rfl (by omega)⟩
theorem iv_o3 {n b : Nat} {N : MS} {f mode wide : Int32} (hf : isr N f.toNatClampNeg) (hf2 : f.toNatClampNeg < 20) (h : INV n b N) : INV n b (mo_o3 N f mode wide) := by
  have hb := h.2.2.2.2.1.2.1 f.toNatClampNeg hf2
  have b1 : bt (if mode = 1 then 0 else N.2.2 36 f.toNatClampNeg) 0 60 = true := by
    split
    · decide
    · exact hb
  have h1 : INV n b (mo_o1 N f mode) := iv_36_ hf b1 h
  unfold mo_o3
  refine iv_36_ (M := mo_o1 N f mode) hf ?_ h1
  have e1 : (mo_o1 N f mode).2.2 36 f.toNatClampNeg = if mode = 1 then 0 else N.2.2 36 f.toNatClampNeg := upd_s
  rw [e1]
  generalize (if mode = 1 then 0 else N.2.2 36 f.toNatClampNeg) = x at b1 ⊢
  split
  · have q := (div4_bt b1).2
    have bx := bt_iff.mp b1
    have t1 := ti_sub (a := x) (b := x / 4 * 4) rfl q (by omega)
    have t2 := ti_sub (a := x) (b := x - x / 4 * 4) rfl t1 (by omega)
    exact bt_iff.mpr ⟨by omega, by omega⟩
  · rw [Int32.sub_zero]; exact b1
theorem iv_o6 {n b : Nat} {N : MS} {f mode wide : Int32} {k : Nat} (hn : n < 1000000) (hk : mo_fp N = some k) (hfb : bt f 0 19 = true) (hf : lvT N 15 f.toNatClampNeg) (h : INV n b N) : INV (n + 1) (b + 16) (mo_o6 N f mode wide (nI k)) := by
  have hf2 : f.toNatClampNeg < 20 := cl_lt hfb (by decide) (by decide)
  have hb := h.2.2.2.2.1.2.1 f.toNatClampNeg hf2
  have hk2 := fp_some hk
  rw [o6_eq hk2.1 hb]
  have hp : bt (fs_new mode wide (N.2.2 36 f.toNatClampNeg) 4) 0 60 = true := by
    show bt (if mode = 5 then N.2.2 36 f.toNatClampNeg / wdt wide else 0) 0 60 = true
    split
    · unfold wdt
      split
      · rw [Int32.div_one]; exact hb
      · exact (div4_bt hb).1
    · decide
  exact iv_bg_ (M := mo_o3 N f mode wide) hn hk2.1 hk2.2 (fun _ _ => rfl) (fun z => absurd z (by decide)) (fun _ => ⟨hfb, lv15_c rfl rfl hf⟩) (by decide) ⟨by decide, fun z => absurd z (by decide)⟩ (by decide) (fun z => absurd z (by decide)) hp (fun z => absurd z (by decide)) (iv_o3 hf.1 hf2 h)
theorem iv_open {n b : Nat} {M : MS} (hn : n < 1000000) (rf mode wide : Int32) (h : INV n b M) : INV (n + 1) (b + 16) (mo_open M rf mode wide).2 := by
  unfold mo_open
  split
  · rename_i c1
    split
    · split
      · split
        · exact iv_0 h
        · rename_i c4
          obtain ⟨k, hk⟩ := fp_ex (Int32.not_lt.mp c4)
          have hr := refs_bt h.2.2.2.1.1 c1
          have hfb := h.2.2.2.1.2.1 rf.toNatClampNeg (cl_lt hr (by decide) (by decide))
          have hf2 : (M.2.2 34 rf.toNatClampNeg).toNatClampNeg < 20 := cl_lt hfb (by decide) (by decide)
          have hi := h.2.2.2.1.2.2.1 rf.toNatClampNeg (isr_bt c1 h.2.2.2.1.1)
          have hM := iv_i0 (v := 0) h
          split
          · rename_i c5
            split
            · exact iv_0 h
            · rename_i c6
              rw [fp_oI hk]
              have h1 := iv_35_ (M := sI M 0 0) hi.1 hf2 c5 c6 hM
              have h2 := iv_36_ (M := sI (sF (sI M 0 0) 35 (M.2.2 34 rf.toNatClampNeg).toNatClampNeg 1) 38 (M.1 38 + 1)) (f := (M.2.2 34 rf.toNatClampNeg).toNatClampNeg) (x := 0) hi.1 (by decide) h1
              exact iv_o6 hn hk hfb ⟨hi.1, hi.2⟩ h2
          · rw [fp_oI hk]
            exact iv_o6 hn hk hfb ⟨hi.1, hi.2⟩ hM
      · exact iv_0 h
    · exact iv_0 h
  · exact iv_0 h
theorem iv_ref {n b R a : Nat} {M M' : MS} {u tp : Int32} (e0 : M.1 29 = nI R) (hR : R < 20) (i29 : M'.1 29 = M.1 29 + 1) (htp : tp = 0 ∨ tp = 1) (ha : a ≤ R) (ha2 : a = R ∨ M.2.2 34 a = nI a)
    (hA : AN [30, 31, 32, 33, 34] M M') (e30 : M'.2.2 30 = upd (M.2.2 30) R u) (e33 : M'.2.2 33 = upd (M.2.2 33) R tp) (e34 : M'.2.2 34 = upd (M.2.2 34) R (nI a)) (e32 : ∀ r, r ≠ R → M'.2.2 32 r = M.2.2 32 r) (e31 : ∀ r j : Nat, r ≠ R → j < 8 → M'.2.2 31 (8 * r + j) = M.2.2 31 (8 * r + j))
    (c : tp = 0 → bt (M'.2.2 32 R) 0 8 = true ∧ (a < R → M.2.2 33 a = 0 ∧ M.2.2 30 a = u ∧ M.2.2 32 a = M'.2.2 32 R ∧ ∀ j : Nat, (j : Int) < (M'.2.2 32 R).toInt → M.2.2 31 (8 * a + j) = M'.2.2 31 (8 * R + j)))
    (hI : JN [29] M M') (l0 : M'.2.1 = M.2.1) (h : INV n b M) : INV n b M' := by
  have eR : (M.1 29).toInt = R := by rw [e0]; exact nI_toInt (by omega)
  refine ⟨g1_new e0 hR i29 e33 (fun j hj => hA j ?_) h.1, g2_c hA hI (by decide) (by decide) h.2.1, g3_c hA (by decide) h.2.2.1, g4_new e0 hR i29 htp ha ha2 (hA 6 (by decide)) (hA 8 (by decide)) (hA 16 (by decide)) e30 e33 e34 e32 e31 c h.2.2.2.1, g5_new ?_ (hI 38 (by decide)) (hA 35 (by decide)) (hA 36 (by decide)) (hA 37 (by decide)) h.2.2.2.2.1, g6_c hA (by decide) h.2.2.2.2.2.1, g7_c hA hI (by decide) (by decide) h.2.2.2.2.2.2.1, g8_c hI (by decide) h.2.2.2.2.2.2.2.1, g9_c l0 h.2.2.2.2.2.2.2.2⟩
  · have : ∀ j ∈ [1, 2, 3, 4, 6, 8, 15], j ∉ [30, 31, 32, 33, 34] := by decide
    exact this j hj
  · rw [i29, ti_add (a := M.1 29) (b := 1) (y := 1) rfl rfl (by omega)]
    omega
theorem iv_temporary {n b : Nat} {M : MS} (u : Int32) (h : INV n b M) : INV (n + 1) (b + 16) (mo_temporary M u).2 := by
  unfold mo_temporary
  split
  · split
    · exact iv_0 h
    · rename_i c2
      obtain ⟨R, hR, e0, -⟩ := bt_nat (hi := 20) h.2.2.2.1.1
      have hR2 : R < 20 := by
        have : R ≠ 20 := fun z => c2 (by rw [e0, z]; rfl)
        omega
      have ec : (M.1 29).toNatClampNeg = R := by rw [e0]; exact nI_clamp (by omega)
      show INV (n + 1) (b + 16) (sF (sF (sF (sI (sI M 0 0) 29 (M.1 29 + 1)) 30 (M.1 29).toNatClampNeg u) 33 (M.1 29).toNatClampNeg 1) 34 (M.1 29).toNatClampNeg (M.1 29))
      rw [ec, e0]
      refine iv_up (iv_ref (M := sI M 0 0) (R := R) (a := R) (u := u) (tp := 1) e0 hR2 (by rw [← e0]; rfl) (Or.inr rfl) (Nat.le_refl R) (Or.inl rfl) (an_F (an_F (an_F (an_I an_r) (by decide)) (by decide)) (by decide)) rfl rfl rfl (fun _ _ => rfl) (fun _ _ _ _ => rfl) (fun z => absurd z (by decide)) (jn_F (jn_F (jn_F (jn_I jn_r (by decide))))) rfl (iv_i0 h))
  · exact iv_0 h
theorem iv_file {n b : Nat} {M : MS} (u : Int32) (h : INV n b M) : INV (n + 1) (b + 16) (mo_file M u).2 := by
  unfold mo_file
  split
  · split
    · exact iv_up (iv_27_ (Or.inl rfl) (iv_i0 h))
    · split
      · exact iv_0 h
      · rename_i c2 c3
        obtain ⟨R, hR, e0, -⟩ := bt_nat (hi := 20) h.2.2.2.1.1
        have hR2 : R < 20 := by
          have : R ≠ 20 := fun z => c3 (by rw [e0, z]; rfl)
          omega
        obtain ⟨N, hN, e26, -⟩ := bt_nat (hi := 8) h.2.2.2.2.2.2.1.2.2
        have ec : (M.1 29).toNatClampNeg = R := by rw [e0]; exact nI_clamp (by omega)
        have hs : lkN (mo_f2 M u) (nI R) (M.1 29) = true := by
          rw [e0]
          refine lk_self ?_
          rw [f2_33, ec, nI_clamp (by omega), upd_s]
        have hex : ∃ a, a ≤ R ∧ mo_ff (mo_f2 M u) (M.1 29) = a ∧ (a = R ∨ (a < R ∧ nmM M u N a ∧ ∀ b, b < a → ¬ nmM M u N b)) := by
          cases hq : (List.range 20).find? (fun a => lkN (mo_f2 M u) (nI a) (M.1 29)) with
          | none =>
            exact absurd hs (by
              have := List.find?_eq_none.mp hq R (List.mem_range.mpr hR2)
              exact this)
          | some a =>
            have q := List.find?_range_eq_some.mp hq
            have ha : a ≤ R := by
              rcases Nat.lt_or_ge R a with z | z
              · have := q.2.2 R z
                rw [hs] at this
                exact absurd this (by decide)
              · exact z
            refine ⟨a, ha, by unfold mo_ff; rw [hq]; rfl, ?_⟩
            by_cases hz : a = R
            · exact Or.inl hz
            · have haR : a < R := by omega
              refine Or.inr ⟨haR, ?_, fun b hb => ?_⟩
              · have q1 := q.1
                rw [e0] at q1
                exact (lk_nm e0 hR2 e26 hN haR).mp q1
              · intro z
                have q1 := q.2.2 b hb
                rw [e0, (lk_nm e0 hR2 e26 hN (by omega)).mpr z] at q1
                exact absurd q1 (by decide)
        obtain ⟨a, ha, eff, hcase⟩ := hex
        show INV (n + 1) (b + 16) (sI (sI (sF (mo_f2 M u) 34 (M.1 29).toNatClampNeg (nI (mo_ff (mo_f2 M u) (M.1 29)))) 26 0) 27 0)
        rw [eff]
        refine iv_up (iv_27_ (Or.inl rfl) (iv_26_ ?_))
        have e34 : (sF (mo_f2 M u) 34 (M.1 29).toNatClampNeg (nI a)).2.2 34 = upd (M.2.2 34) R (nI a) := by rw [sF_us, f2_34, ec]
        have f1 : ∀ k, k ≠ 34 → (sF (mo_f2 M u) 34 (M.1 29).toNatClampNeg (nI a)).2.2 k = (mo_f2 M u).2.2 k := fun k hk => sF_f _ _ _ _ hk
        have e32' : (sF (mo_f2 M u) 34 (M.1 29).toNatClampNeg (nI a)).2.2 32 R = nI N := by rw [f1 32 (by decide), f2_32, ec, upd_s, e26]
        refine iv_ref (M := sI M 0 0) (R := R) (a := a) (u := u) (tp := 0) e0 hR2 ?_ (Or.inl rfl) ha ?_ (fun j hj => ?_) ?_ ?_ e34 (fun r hr => ?_) (fun r j hr hj => ?_) (fun _ => ⟨?_, fun haR => ?_⟩) (fun j hj => ?_) f2_l (iv_i0 h)
        · show (mo_f2 M u).1 29 = _
          rw [f2_1]; rfl
        · rcases hcase with z | ⟨z1, z2, z3⟩
          · exact Or.inl z
          · exact Or.inr (lk_own (M := M) h.2.2.2.1.2.2.2.2.2.1 (by unfold isr; rw [e0, nI_toInt (by omega)]; omega) hN z2 z3)
        · simp only [List.mem_cons, List.not_mem_nil, or_false, not_or] at hj
          rw [f1 j hj.2.2.2.2]
          exact f2_o hj.1 hj.2.1 hj.2.2.1 hj.2.2.2.1
        · rw [f1 30 (by decide), f2_30, ec]
        · rw [f1 33 (by decide), f2_33, ec]
        · rw [f1 32 (by decide), f2_32, ec, upd_n hr]
        · rw [f1 31 (by decide), f2_31 e0 hR2 e26 hN, if_neg (by omega)]
        · rw [e32']; exact (bt_nI (by omega)).mpr ⟨by omega, by omega⟩
        · rcases hcase with z | ⟨z1, z2, z3⟩
          · omega
          · refine ⟨z2.1, z2.2.1, z2.2.2.1.trans e32'.symm, fun j hj => ?_⟩
            rw [e32', nI_toInt (by omega)] at hj
            rw [f1 31 (by decide), f2_31 e0 hR2 e26 hN, if_pos (by omega), Nat.add_sub_cancel_left]
            exact z2.2.2.2 j (by omega)
        · show (mo_f2 M u).1 j = (sI M 0 0).1 j
          rw [f2_1]
          exact sI_n (by simpa using hj)
  · exact iv_0 h
theorem iv_pi {n b : Nat} {M : MS} {k : Nat} (hb : b < 1000000) (c : Int32) (ho : opn M k) (h : INV n b M) : INV n (b + 1) (mo_pi M (nI k) c).2 := by
  have hk := ho.1
  have ek : (nI k).toNatClampNeg = k := nI_clamp (by omega)
  obtain ⟨q1, q2, q3, q4, q5, q6, q7, q8, q9⟩ := h.2.2.1
  unfold mo_pi
  rw [ek]
  split
  · exact iv_b (by omega) h
  · rename_i c0
    split
    · rename_i c1
      show INV n (b + 1) (mo_cnt (mo_pp M (nI k) (nrw (M.2.2 9 k) c)) k)
      rw [pp_eq hk]
      have hs := bt_iff.mp (q2 k hk)
      refine iv_cnt hb (iv_19_ ?_ (iv_18_ (fun i hi z j hj => ?_) h))
      · split
        · rw [Int32.add_zero]; exact q2 k hk
        · rename_i c2
          rw [i32_le] at c2
          have e20 : (20 : Int32).toInt = 20 := rfl
          have e1 := ti_add (a := M.2.2 19 k) (b := 1) (y := 1) rfl rfl (by omega)
          exact bt_iff.mpr ⟨by omega, by omega⟩
      · have hik : i ≠ k := fun y => by rw [y, c1] at z; exact absurd z (by decide)
        unfold ppg
        rw [if_neg (by omega), if_neg (by omega)]
    · rename_i c1
      split
      · rename_i c2
        split
        · rename_i c3
          split
          · rename_i c4
            have hz : mo_ag M (M.2.2 15 k) (if M.2.2 9 k = 0 then 1 else 2) (M.2.2 11 k) = 0 := ag_le.mp c4
            have hok := ag_ok0 h.1.2.1 (q3 k hk) hz
            have z := (ag_z hz).2.1
            have b1 := bt_iff.mp hok.1
            have b2 := bt_iff.mp hok.2
            have cb := cl_toInt (x := M.2.2 15 k) (by omega)
            have cp := cl_toInt (x := M.2.2 11 k) (by omega)
            show INV n (b + 1) (mo_cnt (mo_pm M (nI k) (nrw (M.2.2 9 k) c)) k)
            refine iv_cnt hb ?_
            unfold mo_pm
            rw [ek, ix_40 hok.1 hok.2]
            have e1 := ti_add (a := M.2.2 11 k) (b := 1) (y := 1) rfl rfl (by omega)
            refine iv_pl_ (bt_iff.mpr ⟨by omega, by omega⟩) (iv_w_ (by omega) (by omega) (by omega) (fun hs => ?_) h)
            exfalso
            rcases z with z | ⟨z, _⟩
            · rw [z] at hs
              split at hs
              · exact absurd hs (by decide)
              · exact absurd hs (by decide)
            · split at z
              · exact absurd z (by decide)
              · exact absurd z (by decide)
          · exact iv_b (by omega) (iv_i5 h)
        · exact iv_cn2 hb h
      · rename_i c2
        split
        · rename_i c3
          have k2 : M.2.2 8 k = 2 := by
            have hq := q4 k hk
            have hb := bt_iff.mp hq.1
            have n3 : ¬ M.2.2 8 k = 3 := fun y => c0 (hq.2 y)
            rw [i32_eq] at c1 c2 n3 ⊢
            have e0 : (0 : Int32).toInt = 0 := rfl
            have e1 : (1 : Int32).toInt = 1 := rfl
            have e2 : (2 : Int32).toInt = 2 := rfl
            have e3 : (3 : Int32).toInt = 3 := rfl
            omega
          have hsf := h.2.2.2.1.2.2.2.2.2.2 k ho k2
          have hF := q1 k hk k2
          have bF := bt_iff.mp hF
          have cF := cl_toInt (x := M.2.2 16 k) (by omega)
          have hp := q8 k hk
          have bp := bt_iff.mp hp
          have en := en_i hp
          have hw := w_or M k
          have e60 : (60 : Int32).toInt = 60 := rfl
          have c3' := c3
          rw [i32_le] at c3'
          have enw : ((M.2.2 11 k).toInt + 1) * (mo_w M k : Int) = (mo_en M k).toInt := en.symm
          have wen : (mo_w M k : Int) ≤ (mo_en M k).toInt := by
            rcases hw with z | z <;> rw [z] at enw ⊢ <;> omega
          have p60 : (M.2.2 11 k).toInt + 1 ≤ 60 := by
            rcases hw with z | z <;> rw [z] at enw <;> omega
          have hfb : ∀ t, t ≤ mo_w M k → INV n b (mo_fb M (M.2.2 16 k) (mo_en M k) (nrw (M.2.2 9 k) c) t) := by
            intro t
            induction t with
            | zero => exact fun _ => h
            | succ t ih =>
              intro ht
              have i1 := ih (by omega)
              have t1 := ti_mul (a := 60) (b := M.2.2 16 k) (x := 60) rfl rfl (by omega)
              have t2 := ti_add t1 (b := mo_en M k) rfl (by omega)
              have t3 := ti_sub t2 (b := 1) (y := 1) rfl (by omega)
              have t4 := ti_sub t3 (b := nI t) (nI_toInt (by omega)) (by omega)
              have t5 := cl_toInt (x := (((60 * M.2.2 16 k) + mo_en M k) - 1) - nI t) (by omega)
              exact iv_37_ (f := (M.2.2 16 k).toNatClampNeg) (by unfold isr; rw [fb_1]; exact hsf.2.1) (by omega) (by omega) i1
          show INV n (b + 1) (mo_cnt (mo_pfl M (nI k) (nrw (M.2.2 9 k) c)) k)
          refine iv_cnt hb ?_
          unfold mo_pfl mo_fl
          rw [ek]
          have hl := hfb (mo_w M k) (Nat.le_refl _)
          have e1 := ti_add (a := M.2.2 11 k) (b := 1) (y := 1) rfl rfl (by omega)
          refine iv_pl_ ?_ (iv_36_ ?_ ?_ hl)
          · rw [fb_f _ _ _ _ (by decide)]
            exact bt_iff.mpr ⟨by omega, by omega⟩
          · unfold isr; rw [fb_1]; exact hsf.2.1
          · rw [fb_f _ _ _ _ (by decide)]
            split
            · exact h.2.2.2.2.1.2.1 _ (cl_lt hF (by decide) (by decide))
            · exact bt_iff.mpr ⟨by omega, by omega⟩
        · exact iv_b (by omega) h
theorem iv_ch {n : Nat} {c : Int32} : ∀ (m b : Nat) (M : MS) (j : Nat), b + m < 1000000 → j < 8 → INV n b M → INV n (b + m) (mo_ch m M (nI j) c).2
  | 0, _, _, _, _, _, h => h
  | m + 1, b, M, j, hb, hj, h => by
    unfold mo_ch
    rw [nI_clamp (by omega)]
    split
    · rename_i c1
      rcases h.2.1.2.2.1 j hj with z | ⟨t, ht⟩
      · rw [z] at c1; exact absurd c1.2 (by decide)
      · rw [ht]
        have i1 := iv_pi (k := t) (by omega) c (pl_opn ht).1 h
        split
        · have i2 := iv_ch (n := n) (c := c) m (b + 1) _ t (by omega) (pl_lt ht) i1
          exact iv_b (by omega) i2
        · exact iv_b (by omega) i1
    · exact iv_b (by omega) h
theorem iv_po {n b : Nat} {M : MS} {k : Nat} (hb : b < 100000) (c : Int32) (ho : opn M k) (h : INV n b M) : INV (n + 1) (b + 16) (mo_po M (nI k) c).2 := by
  unfold mo_po
  have i1 := iv_pi (k := k) (by omega) c ho h
  split
  · have i2 := iv_ch (n := n) (c := c) 8 (b + 1) _ k (by omega) ho.1 i1
    have q := iv_up i2
    exact ⟨q.1, q.2.1, q.2.2.1, q.2.2.2.1, q.2.2.2.2.1, q.2.2.2.2.2.1, q.2.2.2.2.2.2.1, q.2.2.2.2.2.2.2.1, g9_up (b := b + 1 + 8) (by omega) i2.2.2.2.2.2.2.2.2⟩
  · have q := iv_up i1
    exact ⟨q.1, q.2.1, q.2.2.1, q.2.2.2.1, q.2.2.2.2.1, q.2.2.2.2.2.1, q.2.2.2.2.2.2.1, q.2.2.2.2.2.2.2.1, g9_up (b := b + 1) (by omega) i1.2.2.2.2.2.2.2.2⟩
theorem iv_put {n b : Nat} {M : MS} (hb : b < 100000) (t c : Int32) (h : INV n b M) : INV (n + 1) (b + 16) (mo_put M t c).2 := by
  unfold mo_put
  split
  · rename_i c1
    split
    · obtain ⟨k, hk⟩ := pl_ex c1
      rw [pl_oI hk]
      exact iv_po (M := sI M 0 0) hb c (pl_opn hk).1 (iv_i0 h)
    · exact iv_0 h
  · exact iv_0 h
theorem iv_say {n b : Nat} {M : MS} (hb : b < 100000) (c : Int32) (h : INV n b M) : INV (n + 1) (b + 16) (mo_say M c).2 := by
  unfold mo_say
  split
  · split
    · exact iv_0 h
    · rename_i c1
      rcases h.2.1.2.1 with z | ⟨k, hk⟩
      · exact absurd z c1
      · rw [pl_oI hk]
        exact iv_po (M := sI M 0 0) hb c (pl_opn hk).1 (iv_i0 h)
  · exact iv_0 h
