theorem iv_i0 {n b0 : Nat} {M : MS} {v : Int32} (h : INV n b0 M) : INV n b0 (sI M 0 v) := by
  have hA : AN [] M (sI M 0 v) := an_I an_r
  have hI : JN [0] M (sI M 0 v) := jn_I jn_r (by decide)
  exact ⟨g1_c hA hI (by decide) (by decide) h.1, g2_c hA hI (by decide) (by decide) h.2.1, g3_c hA (by decide) h.2.2.1, g4_c hA hI (by decide) (by decide) h.2.2.2.1, g5_c hA hI (by decide) (by decide) h.2.2.2.2.1, g6_c hA (by decide) h.2.2.2.2.2.1, g7_c hA hI (by decide) (by decide) h.2.2.2.2.2.2.1, g8_c hI (by decide) h.2.2.2.2.2.2.2.1, g9_c rfl h.2.2.2.2.2.2.2.2⟩
theorem iv_i5 {n b0 : Nat} {M : MS} {v : Int32} (h : INV n b0 M) : INV n b0 (sI M 5 v) := by
  have hA : AN [] M (sI M 5 v) := an_I an_r
  have hI : JN [5] M (sI M 5 v) := jn_I jn_r (by decide)
  exact ⟨g1_c hA hI (by decide) (by decide) h.1, g2_c hA hI (by decide) (by decide) h.2.1, g3_c hA (by decide) h.2.2.1, g4_c hA hI (by decide) (by decide) h.2.2.2.1, g5_c hA hI (by decide) (by decide) h.2.2.2.2.1, g6_c hA (by decide) h.2.2.2.2.2.1, g7_c hA hI (by decide) (by decide) h.2.2.2.2.2.2.1, g8_c hI (by decide) h.2.2.2.2.2.2.2.1, g9_c rfl h.2.2.2.2.2.2.2.2⟩
theorem iv_0 {n b : Nat} {M : MS} (h : INV n b M) : INV (n + 1) (b + 16) (sI M 0 0) := iv_up (iv_i0 h)
theorem iv_5 {n b : Nat} {M : MS} {v : Int32} (h : INV n b M) : INV (n + 1) (b + 16) (sI (sI M 0 0) 5 v) := iv_up (iv_i5 (iv_i0 h))
theorem iv_lend_ {n b0 : Nat} {M : MS} {i : Nat} {x : Int32} (hx : x = 0 ∨ ∃ f, f < 8 ∧ M.2.2 1 f = x) (h : INV n b0 M) : INV n b0 (sF M 1 i x) := by
  have hA : AN [1] M (sF M 1 i x) := an_F an_r (by decide)
  have hI : JN [] M (sF M 1 i x) := jn_F jn_r
  exact ⟨g1_lend hx h.1, g2_c hA hI (by decide) (by decide) h.2.1, g3_c hA (by decide) h.2.2.1, g4_c hA hI (by decide) (by decide) h.2.2.2.1, g5_c hA hI (by decide) (by decide) h.2.2.2.2.1, g6_c hA (by decide) h.2.2.2.2.2.1, g7_c hA hI (by decide) (by decide) h.2.2.2.2.2.2.1, g8_c hI (by decide) h.2.2.2.2.2.2.2.1, g9_c rfl h.2.2.2.2.2.2.2.2⟩
theorem iv_row_ {n b0 : Nat} {M : MS} {r u : Nat} {so n9 : Int32} (hu1 : 1 ≤ u) (hu2 : u ≤ 24) (hso : bt so 1 4) (hn : bt n9 0 40) (h : INV n b0 M) : INV n b0 (MR M r u so n9) := by
  have hA : AN [1, 2, 3, 4] M (MR M r u so n9) := an_F (an_A (an_F (an_F (an_I an_r) (by decide)) (by decide)) (by decide)) (by decide)
  have hI : JN [0] M (MR M r u so n9) := jn_F (jn_A (jn_F (jn_F (jn_I jn_r (by decide)))))
  exact ⟨g1_row hu1 hu2 hso hn h.2.2.2.1.1 h.1, g2_c hA hI (by decide) (by decide) h.2.1, g3_c hA (by decide) h.2.2.1, g4_c hA hI (by decide) (by decide) h.2.2.2.1, g5_c hA hI (by decide) (by decide) h.2.2.2.2.1, g6_c hA (by decide) h.2.2.2.2.2.1, g7_c hA hI (by decide) (by decide) h.2.2.2.2.2.2.1, g8_c hI (by decide) h.2.2.2.2.2.2.2.1, g9_c rfl h.2.2.2.2.2.2.2.2⟩
theorem iv_w_ {n b0 : Nat} {M : MS} {b k : Nat} {v : Int32} (hb1 : 1 ≤ b) (hb2 : b ≤ 24) (hk : k < 40) (hv : 2 < (M.2.2 2 b).toInt → 0 ≤ v.toInt ∧ v.toInt ≤ (M.1 29).toInt ∧ (M.2.2 2 b = 4 → 0 < v.toInt → M.2.2 33 (v - 1).toNatClampNeg = 1)) (h : INV n b0 M) : INV n b0 (sF M 4 (40 * b + k - 40) v) := by
  have hA : AN [4] M (sF M 4 (40 * b + k - 40) v) := an_F an_r (by decide)
  have hI : JN [] M (sF M 4 (40 * b + k - 40) v) := jn_F jn_r
  exact ⟨g1_w hb1 hb2 hk h.2.2.2.1.1 hv h.1, g2_c hA hI (by decide) (by decide) h.2.1, g3_c hA (by decide) h.2.2.1, g4_c hA hI (by decide) (by decide) h.2.2.2.1, g5_c hA hI (by decide) (by decide) h.2.2.2.2.1, g6_c hA (by decide) h.2.2.2.2.2.1, g7_c hA hI (by decide) (by decide) h.2.2.2.2.2.2.1, g8_c hI (by decide) h.2.2.2.2.2.2.2.1, g9_c rfl h.2.2.2.2.2.2.2.2⟩
theorem iv_bg_ {n b0 : Nat} {M : MS} {k : Nat} {g18 : Nat → Int32} {kd wd md pl ls ar fi : Int32} (hn : n < 1000000) (hk : k < 8) (hf : M.2.2 6 k = 0) (hg18 : ∀ x, (x < 40 * k ∨ 40 * k + 40 ≤ x) → g18 x = M.2.2 18 x) (c0 : kd = 1 → ar = 0 ∨ ∃ f, f < 8 ∧ M.2.2 1 f = ar) (c1 : kd = 2 → bt fi 0 19 = true ∧ lvT M 15 fi.toNatClampNeg) (c2 : bt ar 0 24 = true) (c3 : bt kd 0 3 = true ∧ (kd = 3 → md = 2)) (c4 : bt ls 0 40 = true) (c5 : kd = 0 → md = 1) (c6 : bt pl 0 60 = true) (c7 : kd = 3 → ∀ j : Nat, (j : Int) < ls.toInt → 0 ≤ (g18 (40 * k + j)).toInt) (h : INV n b0 M) : INV (n + 1) (b0 + 16) (BG M k g18 kd wd md pl ls ar fi) := by
  have hA : AN [6, 8, 9, 10, 11, 12, 13, 14, 15, 16, 17, 18, 19] M (BG M k g18 kd wd md pl ls ar fi) := an_A (an_F (an_F (an_F (an_F (an_F (an_F (an_F (an_F (an_F (an_F (an_F (an_F (an_I an_r) (by decide)) (by decide)) (by decide)) (by decide)) (by decide)) (by decide)) (by decide)) (by decide)) (by decide)) (by decide)) (by decide)) (by decide)) (by decide)
  have hI : JN [7] M (BG M k g18 kd wd md pl ls ar fi) := jn_A (jn_F (jn_F (jn_F (jn_F (jn_F (jn_F (jn_F (jn_F (jn_F (jn_F (jn_F (jn_F (jn_I jn_r (by decide))))))))))))))
  have h8 := h.2.2.2.2.2.2.2.1
  have h7 := h.2.1.2.2.2.2.2.2
  unfold G8 at h8
  have e7 := ti_add (a := M.1 7) (b := 1) (y := 1) rfl rfl (by omega)
  exact ⟨g1_bg hk c0 h.1, g2_bg hf (by omega) h.2.1, g3_bg hk hg18 (fun z => (c1 z).1) c2 c3 c4 c5 c6 c7 h.2.2.1, g4_bg (fun z => ⟨(bt_iff.mp (c1 z).1).1, (c1 z).2⟩) h.2.2.2.1, g5_c hA hI (by decide) (by decide) h.2.2.2.2.1, g6_c hA (by decide) h.2.2.2.2.2.1, g7_c hA hI (by decide) (by decide) h.2.2.2.2.2.2.1, ⟨by rw [bi_7, e7]; omega, h8.2.1, by rw [bi_39]; omega, h8.2.2.2⟩, g9_up (Nat.le_add_right _ 16) (g9_c rfl h.2.2.2.2.2.2.2.2)⟩
theorem iv_cl_ {n b0 : Nat} {M : MS} {k : Nat} {t : Int32} (hk : M.2.2 6 k = t) (h : INV n b0 M) : INV n b0 (CLM M k t) := by
  have hA : AN [6, 17] M (CLM M k t) := an_A (an_I (an_F an_r (by decide))) (by decide)
  have hI : JN [20] M (CLM M k t) := jn_A (jn_I (jn_F jn_r) (by decide))
  exact ⟨g1_cl h.1, g2_cl hk h.2.1, g3_cl h.2.2.1, g4_cl h.2.2.2.1, g5_c hA hI (by decide) (by decide) h.2.2.2.2.1, g6_c hA (by decide) h.2.2.2.2.2.1, g7_c hA hI (by decide) (by decide) h.2.2.2.2.2.2.1, g8_c hI (by decide) h.2.2.2.2.2.2.2.1, g9_c rfl h.2.2.2.2.2.2.2.2⟩
theorem iv_ec_ {n b0 : Nat} {M : MS} {k : Nat} {to : Int32} (hk : k < 8) (h8 : M.2.2 8 k = 0) (hto : to = 0 ∨ ∃ j, mo_pl M to = some j ∧ mo_rg M (nI k) 10 (nI j) = false) (h : INV n b0 M) : INV n b0 (sF M 17 k to) := by
  have hA : AN [17] M (sF M 17 k to) := an_F an_r (by decide)
  have hI : JN [] M (sF M 17 k to) := jn_F jn_r
  exact ⟨g1_c hA hI (by decide) (by decide) h.1, g2_ec hk hto h.2.1, g3_ec h8 h.2.2.1, g4_c hA hI (by decide) (by decide) h.2.2.2.1, g5_c hA hI (by decide) (by decide) h.2.2.2.2.1, g6_c hA (by decide) h.2.2.2.2.2.1, g7_c hA hI (by decide) (by decide) h.2.2.2.2.2.2.1, g8_c hI (by decide) h.2.2.2.2.2.2.2.1, g9_c rfl h.2.2.2.2.2.2.2.2⟩
theorem iv_cu_ {n b0 : Nat} {M : MS} {t : Int32} (ht : t = 0 ∨ ∃ j, mo_pl M t = some j) (h : INV n b0 M) : INV n b0 (sI M 20 t) := by
  have hA : AN [] M (sI M 20 t) := an_I an_r
  have hI : JN [20] M (sI M 20 t) := jn_I jn_r (by decide)
  exact ⟨g1_c hA hI (by decide) (by decide) h.1, g2_cu ht h.2.1, g3_c hA (by decide) h.2.2.1, g4_c hA hI (by decide) (by decide) h.2.2.2.1, g5_c hA hI (by decide) (by decide) h.2.2.2.2.1, g6_c hA (by decide) h.2.2.2.2.2.1, g7_c hA hI (by decide) (by decide) h.2.2.2.2.2.2.1, g8_c hI (by decide) h.2.2.2.2.2.2.2.1, g9_c rfl h.2.2.2.2.2.2.2.2⟩
theorem iv_pl_ {n b0 : Nat} {M : MS} {k : Nat} {p : Int32} (hp : bt p 0 60 = true) (h : INV n b0 M) : INV n b0 (sF M 11 k p) := by
  have hA : AN [11] M (sF M 11 k p) := an_F an_r (by decide)
  have hI : JN [] M (sF M 11 k p) := jn_F jn_r
  exact ⟨g1_c hA hI (by decide) (by decide) h.1, g2_c hA hI (by decide) (by decide) h.2.1, g3_pl hp h.2.2.1, g4_c hA hI (by decide) (by decide) h.2.2.2.1, g5_c hA hI (by decide) (by decide) h.2.2.2.2.1, g6_c hA (by decide) h.2.2.2.2.2.1, g7_c hA hI (by decide) (by decide) h.2.2.2.2.2.2.1, g8_c hI (by decide) h.2.2.2.2.2.2.2.1, g9_c rfl h.2.2.2.2.2.2.2.2⟩
theorem iv_14_ {n b0 : Nat} {M : MS} {k : Nat} {p : Int32} (h : INV n b0 M) : INV n b0 (sF M 14 k p) := by
  have hA : AN [14] M (sF M 14 k p) := an_F an_r (by decide)
  have hI : JN [] M (sF M 14 k p) := jn_F jn_r
  exact ⟨g1_c hA hI (by decide) (by decide) h.1, g2_c hA hI (by decide) (by decide) h.2.1, g3_c hA (by decide) h.2.2.1, g4_c hA hI (by decide) (by decide) h.2.2.2.1, g5_c hA hI (by decide) (by decide) h.2.2.2.2.1, g6_c hA (by decide) h.2.2.2.2.2.1, g7_c hA hI (by decide) (by decide) h.2.2.2.2.2.2.1, g8_c hI (by decide) h.2.2.2.2.2.2.2.1, g9_c rfl h.2.2.2.2.2.2.2.2⟩
theorem iv_42_ {n b0 : Nat} {M : MS} {k : Nat} {p : Int32} (h : INV n b0 M) : INV n b0 (sF M 42 k p) := by
  have hA : AN [42] M (sF M 42 k p) := an_F an_r (by decide)
  have hI : JN [] M (sF M 42 k p) := jn_F jn_r
  exact ⟨g1_c hA hI (by decide) (by decide) h.1, g2_c hA hI (by decide) (by decide) h.2.1, g3_c hA (by decide) h.2.2.1, g4_c hA hI (by decide) (by decide) h.2.2.2.1, g5_c hA hI (by decide) (by decide) h.2.2.2.2.1, g6_c hA (by decide) h.2.2.2.2.2.1, g7_c hA hI (by decide) (by decide) h.2.2.2.2.2.2.1, g8_c hI (by decide) h.2.2.2.2.2.2.2.1, g9_c rfl h.2.2.2.2.2.2.2.2⟩
theorem iv_23_ {n b0 : Nat} {M : MS} {k : Nat} {p : Int32} (hp : bt p (-1) 40 = true) (h : INV n b0 M) : INV n b0 (sF M 23 k p) := by
  have hA : AN [23] M (sF M 23 k p) := an_F an_r (by decide)
  have hI : JN [] M (sF M 23 k p) := jn_F jn_r
  exact ⟨g1_c hA hI (by decide) (by decide) h.1, g2_c hA hI (by decide) (by decide) h.2.1, g3_c hA (by decide) h.2.2.1, g4_c hA hI (by decide) (by decide) h.2.2.2.1, g5_c hA hI (by decide) (by decide) h.2.2.2.2.1, ⟨fun i hi => upd_bt (h.2.2.2.2.2.1.1 i hi) hp, h.2.2.2.2.2.1.2⟩, g7_c hA hI (by decide) (by decide) h.2.2.2.2.2.2.1, g8_c hI (by decide) h.2.2.2.2.2.2.2.1, g9_c rfl h.2.2.2.2.2.2.2.2⟩
theorem iv_24_ {n b0 : Nat} {M : MS} {g : Nat → Int32} (hg : ∀ i, 0 ≤ (g i).toInt) (h : INV n b0 M) : INV n b0 (sA M 24 g) := by
  have hA : AN [24] M (sA M 24 g) := an_A an_r (by decide)
  have hI : JN [] M (sA M 24 g) := jn_A jn_r
  exact ⟨g1_c hA hI (by decide) (by decide) h.1, g2_c hA hI (by decide) (by decide) h.2.1, g3_c hA (by decide) h.2.2.1, g4_c hA hI (by decide) (by decide) h.2.2.2.1, g5_c hA hI (by decide) (by decide) h.2.2.2.2.1, ⟨h.2.2.2.2.2.1.1, hg⟩, g7_c hA hI (by decide) (by decide) h.2.2.2.2.2.2.1, g8_c hI (by decide) h.2.2.2.2.2.2.2.1, g9_c rfl h.2.2.2.2.2.2.2.2⟩
theorem iv_36_ {n b0 : Nat} {M : MS} {f : Nat} {x : Int32} (hf : isr M f) (hx : bt x 0 60 = true) (h : INV n b0 M) : INV n b0 (sF M 36 f x) := by
  have hA : AN [36] M (sF M 36 f x) := an_F an_r (by decide)
  have hI : JN [] M (sF M 36 f x) := jn_F jn_r
  exact ⟨g1_c hA hI (by decide) (by decide) h.1, g2_c hA hI (by decide) (by decide) h.2.1, g3_c hA (by decide) h.2.2.1, g4_c hA hI (by decide) (by decide) h.2.2.2.1, g5_36 hf hx h.2.2.2.2.1, g6_c hA (by decide) h.2.2.2.2.2.1, g7_c hA hI (by decide) (by decide) h.2.2.2.2.2.2.1, g8_c hI (by decide) h.2.2.2.2.2.2.2.1, g9_c rfl h.2.2.2.2.2.2.2.2⟩
theorem iv_37_ {n b0 : Nat} {M : MS} {f x : Nat} {v : Int32} (hf : isr M f) (h1 : 60 * f ≤ x) (h2 : x < 60 * f + 60) (h : INV n b0 M) : INV n b0 (sF M 37 x v) := by
  have hA : AN [37] M (sF M 37 x v) := an_F an_r (by decide)
  have hI : JN [] M (sF M 37 x v) := jn_F jn_r
  exact ⟨g1_c hA hI (by decide) (by decide) h.1, g2_c hA hI (by decide) (by decide) h.2.1, g3_c hA (by decide) h.2.2.1, g4_c hA hI (by decide) (by decide) h.2.2.2.1, g5_37 hf h1 h2 h.2.2.2.2.1, g6_c hA (by decide) h.2.2.2.2.2.1, g7_c hA hI (by decide) (by decide) h.2.2.2.2.2.2.1, g8_c hI (by decide) h.2.2.2.2.2.2.2.1, g9_c rfl h.2.2.2.2.2.2.2.2⟩
theorem iv_35_ {n b0 : Nat} {M : MS} {f : Nat} (hf : isr M f) (hf2 : f < 20) (h0 : M.2.2 35 f = 0) (h6 : ¬ M.1 38 = 6) (h : INV n b0 M) : INV n b0 (sI (sF M 35 f 1) 38 (M.1 38 + 1)) := by
  have hA : AN [35] M (sI (sF M 35 f 1) 38 (M.1 38 + 1)) := an_I (an_F an_r (by decide))
  have hI : JN [38] M (sI (sF M 35 f 1) 38 (M.1 38 + 1)) := jn_I (jn_F jn_r) (by decide)
  exact ⟨g1_c hA hI (by decide) (by decide) h.1, g2_c hA hI (by decide) (by decide) h.2.1, g3_c hA (by decide) h.2.2.1, g4_c hA hI (by decide) (by decide) h.2.2.2.1, g5_35 hf hf2 h0 h6 h.2.2.2.2.1, g6_c hA (by decide) h.2.2.2.2.2.1, g7_c hA hI (by decide) (by decide) h.2.2.2.2.2.2.1, g8_c hI (by decide) h.2.2.2.2.2.2.2.1, g9_c rfl h.2.2.2.2.2.2.2.2⟩
theorem iv_dr_ {n b0 : Nat} {M : MS} {f : Nat} (hf2 : f < 20) (h0 : ¬ M.2.2 35 f = 0) (h : INV n b0 M) : INV n b0 (sI (sF M 35 f 0) 38 (M.1 38 - 1)) := by
  have hA : AN [35] M (sI (sF M 35 f 0) 38 (M.1 38 - 1)) := an_I (an_F an_r (by decide))
  have hI : JN [38] M (sI (sF M 35 f 0) 38 (M.1 38 - 1)) := jn_I (jn_F jn_r) (by decide)
  exact ⟨g1_c hA hI (by decide) (by decide) h.1, g2_c hA hI (by decide) (by decide) h.2.1, g3_c hA (by decide) h.2.2.1, g4_c hA hI (by decide) (by decide) h.2.2.2.1, g5_dr hf2 h0 h.2.2.2.2.1, g6_c hA (by decide) h.2.2.2.2.2.1, g7_c hA hI (by decide) (by decide) h.2.2.2.2.2.2.1, g8_c hI (by decide) h.2.2.2.2.2.2.2.1, g9_c rfl h.2.2.2.2.2.2.2.2⟩
theorem iv_18_ {n b0 : Nat} {M : MS} {g : Nat → Int32} (hg : ∀ k, opn M k → M.2.2 8 k = 3 → ∀ j : Nat, j < 40 → g (40 * k + j) = M.2.2 18 (40 * k + j)) (h : INV n b0 M) : INV n b0 (sA M 18 g) := by
  have hA : AN [18] M (sA M 18 g) := an_A an_r (by decide)
  have hI : JN [] M (sA M 18 g) := jn_A jn_r
  exact ⟨g1_c hA hI (by decide) (by decide) h.1, g2_c hA hI (by decide) (by decide) h.2.1, ⟨h.2.2.1.1, h.2.2.1.2.1, h.2.2.1.2.2.1, h.2.2.1.2.2.2.1, h.2.2.1.2.2.2.2.1, h.2.2.1.2.2.2.2.2.1, h.2.2.1.2.2.2.2.2.2.1, h.2.2.1.2.2.2.2.2.2.2.1, fun k hk z j hj => by show 0 ≤ (g (40 * k + j)).toInt; have hl : (j : Int) < (M.2.2 12 k).toInt := hj; have := bt_iff.mp (h.2.2.1.2.2.2.2.1 k hk.1); rw [hg k hk z j (by omega)]; exact h.2.2.1.2.2.2.2.2.2.2.2 k hk z j hj⟩, g4_c hA hI (by decide) (by decide) h.2.2.2.1, g5_c hA hI (by decide) (by decide) h.2.2.2.2.1, g6_c hA (by decide) h.2.2.2.2.2.1, g7_c hA hI (by decide) (by decide) h.2.2.2.2.2.2.1, g8_c hI (by decide) h.2.2.2.2.2.2.2.1, g9_c rfl h.2.2.2.2.2.2.2.2⟩
theorem iv_19_ {n b0 : Nat} {M : MS} {k : Nat} {x : Int32} (hx : bt x 0 20 = true) (h : INV n b0 M) : INV n b0 (sF M 19 k x) := by
  have hA : AN [19] M (sF M 19 k x) := an_F an_r (by decide)
  have hI : JN [] M (sF M 19 k x) := jn_F jn_r
  exact ⟨g1_c hA hI (by decide) (by decide) h.1, g2_c hA hI (by decide) (by decide) h.2.1, ⟨h.2.2.1.1, fun i hi => upd_bt (h.2.2.1.2.1 i hi) hx, h.2.2.1.2.2⟩, g4_c hA hI (by decide) (by decide) h.2.2.2.1, g5_c hA hI (by decide) (by decide) h.2.2.2.2.1, g6_c hA (by decide) h.2.2.2.2.2.1, g7_c hA hI (by decide) (by decide) h.2.2.2.2.2.2.1, g8_c hI (by decide) h.2.2.2.2.2.2.2.1, g9_c rfl h.2.2.2.2.2.2.2.2⟩
