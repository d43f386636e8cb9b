/-! a contract over a part of the map is one over the whole -/
theorem gE_nar {G : GG} {A B : Nat → Prop} {s : State} {H : Heap} (h : gE G A s H) (hB : ∀ q, B q → A q) : gE G B s H := h.call (locs := []) va_S.rf (State.WarmedH.refl s) (fun q hq => Or.inl (hB q hq))
theorem mc_frame {G : GG} {l : Launch} {y : MethodName} {bytes : ByteArray} {maxL : Nat} {ret : Option FieldType} {rm : Room} {av : List Value} {w w1 : WM} {post : Option Value → WM → Prop} (hsub : ∀ a x, w1 a = some x → w a = some x) (h : MC G l y bytes maxL ret rm av w1 post) : MC G l y bytes maxL ret rm av w (fun v w' => ∃ w2, post v w2 ∧ w' = wm_fr w w1 w2) := by
  intro sz
  have sub : ∀ q, mA w1 sz q → mA w sz q := by
    intro q hq
    rcases hq with hq | hq
    · cases hx : w1 q with
      | none => exact absurd hx hq
      | some x => exact Or.inl (nn_some (hsub q x hx))
    · exact Or.inr hq
  refine MetFree.mono (h sz) ?_ (fun _ _ _ _ _ h => h) ?_
  · rintro a s ⟨h1, h2, h3, h4, h5⟩
    exact ⟨h1, h2, fun b x hb => h3 b x (hsub b x hb), h4, gE_nar h5 sub⟩
  · rintro a s o t ⟨-, hsz, hP, -, -⟩ ⟨⟨⟨v, w2, e1, hp, hP2, hA2⟩, hF⟩, L, hE, hL⟩
    refine ⟨⟨⟨v, wm_fr w w1 w2, e1, ⟨w2, hp, rfl⟩, ?_, ?_⟩, ⟨hF.1, fun q h1 h2 => hF.2 q h1 (fun z => h2 (sub q z))⟩⟩, L, hE, fun q hq => sub _ (hL q hq)⟩
    · intro b x hb
      unfold wm_fr at hb
      split at hb
      · rename_i hn
        have hlt := wm_lt hP hb
        refine (hP b x hb).kept (hF.2 b hlt ?_)
        intro z
        rcases z with z | z
        · exact z hn.1
        · rw [← hsz] at z; omega
      · exact hP2 b x hb
    · intro b hb
      unfold wm_fr at hb
      split at hb
      · exact Or.inl hb
      · exact sub b (hA2 b hb)
/-! the chimes of the class and of the reference -/
def CR (K M : MS) (tl : Int32) : Prop := K.1 0 = M.1 39 ∧ K.1 1 = M.1 40 ∧ K.1 2 = tl ∧ K.1 4 = M.1 44 ∧ K.1 5 = M.1 45 ∧ K.2.2 3 = M.2.2 42 ∧ K.2.2 6 = M.2.2 43
theorem cr_tell {K M : MS} {tl e : Int32} (h : CR K M tl) (hb : bt (M.1 44) 0 8) : CR (ch_tell K e) (mo_comes M e) tl := by
  obtain ⟨h0, h1, h2, h4, h5, h3, h6⟩ := h
  have a := bt_iff.mp hb
  unfold ch_tell mo_comes
  rw [h4]
  by_cases h8 : M.1 44 = 8
  · rw [if_pos h8, if_neg (by rw [h8]; decide)]
    exact ⟨h0, h1, h2, h4, (by show K.1 5 + 1 = M.1 45 + 1; rw [h5]), h3, h6⟩
  · have h9 : M.1 44 < 8 := by
      rw [i32_lt]
      have e8 : (8 : Int32).toInt = 8 := rfl
      have : (M.1 44).toInt ≠ 8 := fun z => h8 ((i32_eq _ 8).mpr z)
      omega
    rw [if_neg h8, if_pos h9]
    exact ⟨h0, h1, h2, rfl, h5, h3, (by show upd (K.2.2 6) _ _ = upd (M.2.2 43) _ _; rw [h6])⟩
theorem cr_lf {K M : MS} {tl c : Int32} (h : CR K M tl) (hb : bt (M.1 44) 0 8) : CR (ch_lf K c) (mo_lf M c) tl := by
  have h' := h
  obtain ⟨h0, h1, h2, h4, h5, h3, h6⟩ := h
  unfold ch_lf mo_lf
  rw [h3]
  by_cases c1 : M.2.2 42 c.toNatClampNeg ≤ 0
  · rw [if_pos c1, if_pos c1]
    exact h'
  · rw [if_neg c1, if_neg c1]
    have hu : CR (sF K 3 c.toNatClampNeg (M.2.2 42 c.toNatClampNeg - 1)) (sF M 42 c.toNatClampNeg (M.2.2 42 c.toNatClampNeg - 1)) tl := ⟨h0, h1, h2, h4, h5, (by show upd (K.2.2 3) _ _ = upd (M.2.2 42) _ _; rw [h3]), h6⟩
    have e1 : (sF K 3 c.toNatClampNeg (M.2.2 42 c.toNatClampNeg - 1)).2.2 3 c.toNatClampNeg = (sF M 42 c.toNatClampNeg (M.2.2 42 c.toNatClampNeg - 1)).2.2 42 c.toNatClampNeg := by rw [hu.2.2.2.2.2.1]
    rw [e1]
    by_cases c2 : (sF M 42 c.toNatClampNeg (M.2.2 42 c.toNatClampNeg - 1)).2.2 42 c.toNatClampNeg = 0
    · rw [if_pos c2, if_pos c2]
      exact cr_tell hu hb
    · rw [if_neg c2, if_neg c2]
      exact hu
def sdt (M : MS) (tl : Int32) : Prop := 0 ≤ (M.1 41).toInt ∧ (M.1 41).toInt ≤ (M.1 39).toInt ∧ (0 < (M.1 40).toInt → tl.toInt = (M.1 40).toInt - ((M.1 39).toInt - (M.1 41).toInt) % (M.1 40).toInt)
theorem md_1 {d e : Int} (hd : 0 ≤ d) (he : 0 < e) : ((d + 1) % e = 0 ∧ d % e = e - 1) ∨ ((d + 1) % e = d % e + 1 ∧ d % e < e - 1) := by
  have h1 := Int.emod_nonneg d (Int.ne_of_gt he)
  have h2 := Int.emod_lt_of_pos d he
  have h3 := Int.emod_add_mul_ediv d e
  by_cases hx : d % e = e - 1
  · left
    refine ⟨?_, hx⟩
    have : d + 1 = e * (d / e + 1) := by rw [Int.mul_add, Int.mul_one]; omega
    rw [this]
    exact Int.mul_emod_right e _
  · right
    refine ⟨?_, by omega⟩
    have : d + 1 = (d % e + 1) + e * (d / e) := by omega
    rw [this, Int.add_mul_emod_self_left]
    rw [Int.emod_eq_of_lt (by omega) (by omega)]
theorem comes_1 {M : MS} {e : Int32} {k : Nat} (h4 : k ≠ 44) (h5 : k ≠ 45) : (mo_comes M e).1 k = M.1 k := by
  unfold mo_comes
  split
  · show va_up M.1 45 _ k = _
    unfold va_up; rw [if_neg h5]
  · show va_up M.1 44 _ k = _
    unfold va_up; rw [if_neg h4]
theorem lf_1 {M : MS} {c : Int32} {k : Nat} (h4 : k ≠ 44) (h5 : k ≠ 45) : (mo_lf M c).1 k = M.1 k := by
  unfold mo_lf
  split
  · rfl
  · split
    · exact comes_1 h4 h5
    · rfl
theorem tm_1 {M : MS} {k : Nat} (h3 : k ≠ 39) (h4 : k ≠ 44) (h5 : k ≠ 45) : (mo_tm M).1 k = M.1 k := by
  have h : va_up M.1 39 (M.1 39 + 1) k = M.1 k := by unfold va_up; rw [if_neg h3]
  unfold mo_tm
  split
  · exact h
  · split
    · exact (comes_1 h4 h5).trans h
    · exact h
theorem tm_39 {M : MS} : (mo_tm M).1 39 = M.1 39 + 1 := by
  unfold mo_tm
  split
  · rfl
  · split
    · exact comes_1 (by decide) (by decide)
    · rfl
theorem cr_tm {K M : MS} {tl : Int32} (h : CR K M tl) (hb : bt (M.1 44) 0 8) (hs : sdt M tl) (hT : (M.1 39).toInt < 2 ^ 30) : ∃ tl', CR (ch_tm K) (mo_tm M) tl' ∧ sdt (mo_tm M) tl' := by
  obtain ⟨h0, h1, h2, h4, h5, h3, h6⟩ := h
  obtain ⟨s1, s2, s3⟩ := hs
  have t1 := ti_add (a := M.1 39) (b := 1) (y := 1) rfl rfl (by omega)
  have s4 : (mo_tm M).1 41 = M.1 41 := tm_1 (by decide) (by decide) (by decide)
  have s5 : (mo_tm M).1 40 = M.1 40 := tm_1 (by decide) (by decide) (by decide)
  have sdt' : ∀ tl', (0 < (M.1 40).toInt → tl'.toInt = (M.1 40).toInt - ((M.1 39).toInt + 1 - (M.1 41).toInt) % (M.1 40).toInt) → sdt (mo_tm M) tl' := by
    intro tl' h9
    unfold sdt
    rw [s4, s5, tm_39, t1]
    exact ⟨s1, by omega, h9⟩
  by_cases c1 : M.1 40 ≤ 0
  · refine ⟨tl, ?_, sdt' tl (fun z => ?_)⟩
    · unfold ch_tm mo_tm
      rw [h1, h0, if_pos c1, if_pos c1]
      exact ⟨rfl, h1, h2, h4, h5, h3, h6⟩
    · rw [i32_le] at c1
      have e0 : (0 : Int32).toInt = 0 := rfl
      omega
  · have c1' : 0 < (M.1 40).toInt := by
      rw [i32_le] at c1
      have e0 : (0 : Int32).toInt = 0 := rfl
      omega
    have s3 := s3 c1'
    have hbe : (M.1 40).toInt < 2 ^ 31 := Int32.toInt_lt _
    have m1 := Int.emod_nonneg ((M.1 39).toInt - (M.1 41).toInt) (Int.ne_of_gt c1')
    have m2 := Int.emod_lt_of_pos ((M.1 39).toInt - (M.1 41).toInt) c1'
    have md := md_1 (d := (M.1 39).toInt - (M.1 41).toInt) (by omega) c1'
    rw [show (M.1 39).toInt - (M.1 41).toInt + 1 = (M.1 39).toInt + 1 - (M.1 41).toInt by omega] at md
    have t2 := ti_sub (b := M.1 41) t1 rfl (by omega)
    have t3 : ((M.1 39 + 1 - M.1 41) / M.1 40).toInt = ((M.1 39).toInt + 1 - (M.1 41).toInt) / (M.1 40).toInt := by
      have hp : 0 ≤ ((M.1 39).toInt + 1 - (M.1 41).toInt) / (M.1 40).toInt := Int.ediv_nonneg (by omega) (by omega)
      have hq : ((M.1 39).toInt + 1 - (M.1 41).toInt) / (M.1 40).toInt ≤ (M.1 39).toInt + 1 - (M.1 41).toInt := Int.ediv_le_self _ (by omega)
      rw [Int32.toInt_div, t2, Int.tdiv_eq_ediv_of_nonneg (by omega)]
      exact Int.bmod_eq_of_le (by omega) (by omega)
    have e9 := Int.emod_add_mul_ediv ((M.1 39).toInt + 1 - (M.1 41).toInt) (M.1 40).toInt
    have n1 := Int.emod_nonneg ((M.1 39).toInt + 1 - (M.1 41).toInt) (Int.ne_of_gt c1')
    have t4 := ti_mul (b := M.1 40) t3 rfl (by rw [Int.mul_comm]; omega)
    have t5 := ti_sub t2 t4 (by rw [Int.mul_comm]; omega)
    have hmod : (M.1 39 + 1 - M.1 41 - (M.1 39 + 1 - M.1 41) / M.1 40 * M.1 40 = 0) ↔ ((M.1 39).toInt + 1 - (M.1 41).toInt) % (M.1 40).toInt = 0 := by
      rw [i32_eq, t5, Int.mul_comm]
      have e0 : (0 : Int32).toInt = 0 := rfl
      omega
    have t6 := ti_sub (a := tl) (b := 1) (y := 1) rfl rfl (by omega)
    by_cases c2 : M.1 39 + 1 - M.1 41 - (M.1 39 + 1 - M.1 41) / M.1 40 * M.1 40 = 0
    · have c3 := hmod.mp c2
      refine ⟨M.1 40, ?_, sdt' _ (fun _ => by rw [c3]; omega)⟩
      unfold ch_tm mo_tm
      rw [h1, h0, h2, if_neg c1, if_neg c1, if_pos c2, if_neg (by rw [i32_lt, t6]; have e0 : (0 : Int32).toInt = 0 := rfl; omega)]
      exact cr_tell ⟨rfl, h1, rfl, h4, h5, h3, h6⟩ hb
    · have c3 : ¬ ((M.1 39).toInt + 1 - (M.1 41).toInt) % (M.1 40).toInt = 0 := fun z => c2 (hmod.mpr z)
      refine ⟨tl - 1, ?_, sdt' _ (fun _ => by rw [t6]; omega)⟩
      unfold ch_tm mo_tm
      rw [h1, h0, h2, if_neg c1, if_neg c1, if_neg c2, if_pos (by rw [i32_lt, t6]; have e0 : (0 : Int32).toInt = 0 := rfl; omega)]
      exact ⟨rfl, h1, rfl, h4, h5, h3, h6⟩
theorem cr_pass {K M : MS} {tl : Int32} (h : CR K M tl) (hb : bt (M.1 44) 0 8) (hs : sdt M tl) (hT : (M.1 39).toInt < 2 ^ 30) : ∃ tl', CR (ch_pass K) (mo_t1 M) tl' ∧ sdt (mo_t1 M) tl' := by
  obtain ⟨tl', h1, h2⟩ := cr_tm h hb hs hT
  refine ⟨tl', cr_lf (cr_lf h1 (tm_bt hb)) (lf_bt (tm_bt hb)), ?_⟩
  unfold sdt at h2 ⊢
  unfold mo_t1
  rw [lf_1 (by decide) (by decide), lf_1 (by decide) (by decide), lf_1 (by decide) (by decide), lf_1 (by decide) (by decide), lf_1 (by decide) (by decide), lf_1 (by decide) (by decide)]
  exact h2
/-- what the chimes of M' may differ in from M's -/
def CF (M : MS) (a b c : Int32) (f g : Nat → Int32) : MS := (fun k => if k = 39 then a else if k = 44 then b else if k = 45 then c else M.1 k, M.2.1, fun k => if k = 42 then f else if k = 43 then g else M.2.2 k)
def CM (M M' : MS) : Prop := ∃ (a b c : Int32) (f g : Nat → Int32), M' = CF M a b c f g
theorem cm_refl (M : MS) : CM M M := by
  refine ⟨M.1 39, M.1 44, M.1 45, M.2.2 42, M.2.2 43, Prod.ext (funext fun k => ?_) (Prod.ext rfl (funext fun k => ?_))⟩
  · show M.1 k = if k = 39 then M.1 39 else if k = 44 then M.1 44 else if k = 45 then M.1 45 else M.1 k
    split
    · rename_i h; rw [h]
    · split
      · rename_i h; rw [h]
      · split
        · rename_i h; rw [h]
        · rfl
  · show M.2.2 k = if k = 42 then M.2.2 42 else if k = 43 then M.2.2 43 else M.2.2 k
    split
    · rename_i h; rw [h]
    · split
      · rename_i h; rw [h]
      · rfl
theorem cm_39 {M M' : MS} {x : Int32} (h : CM M M') : CM M (sI M' 39 x) := by
  obtain ⟨a, b, c, f, g, rfl⟩ := h
  refine ⟨x, b, c, f, g, Prod.ext (funext fun k => ?_) rfl⟩
  show va_up (CF M a b c f g).1 39 x k = (CF M x b c f g).1 k
  unfold va_up CF
  by_cases hk : k = 39 <;> simp [hk]
theorem cm_44 {M M' : MS} {x : Int32} (h : CM M M') : CM M (sI M' 44 x) := by
  obtain ⟨a, b, c, f, g, rfl⟩ := h
  refine ⟨a, x, c, f, g, Prod.ext (funext fun k => ?_) rfl⟩
  show va_up (CF M a b c f g).1 44 x k = (CF M a x c f g).1 k
  unfold va_up CF
  by_cases hk : k = 44 <;> simp [hk]
theorem cm_45 {M M' : MS} {x : Int32} (h : CM M M') : CM M (sI M' 45 x) := by
  obtain ⟨a, b, c, f, g, rfl⟩ := h
  refine ⟨a, b, x, f, g, Prod.ext (funext fun k => ?_) rfl⟩
  show va_up (CF M a b c f g).1 45 x k = (CF M a b x f g).1 k
  unfold va_up CF
  by_cases hk : k = 45 <;> simp [hk]
theorem cm_42 {M M' : MS} {x : Nat → Int32} (h : CM M M') : CM M (sA M' 42 x) := by
  obtain ⟨a, b, c, f, g, rfl⟩ := h
  refine ⟨a, b, c, x, g, Prod.ext rfl (Prod.ext rfl (funext fun k => ?_))⟩
  show va_up (CF M a b c f g).2.2 42 x k = (CF M a b c x g).2.2 k
  unfold va_up CF
  by_cases hk : k = 42 <;> simp [hk]
theorem cm_43 {M M' : MS} {x : Nat → Int32} (h : CM M M') : CM M (sA M' 43 x) := by
  obtain ⟨a, b, c, f, g, rfl⟩ := h
  refine ⟨a, b, c, f, x, Prod.ext rfl (Prod.ext rfl (funext fun k => ?_))⟩
  show va_up (CF M a b c f g).2.2 43 x k = (CF M a b c f x).2.2 k
  unfold va_up CF
  by_cases hk : k = 43 <;> simp [hk]
theorem cm_comes {M M' : MS} {e : Int32} (h : CM M M') : CM M (mo_comes M' e) := by
  unfold mo_comes
  split
  · exact cm_45 h
  · exact cm_44 (cm_43 h)
theorem cm_lf {M M' : MS} {c : Int32} (h : CM M M') : CM M (mo_lf M' c) := by
  unfold mo_lf
  split
  · exact h
  · split
    · exact cm_comes (cm_42 h)
    · exact cm_42 h
theorem cm_t1 {M M' : MS} (h : CM M M') : CM M (mo_t1 M') := by
  refine cm_lf (cm_lf ?_)
  unfold mo_tm
  split
  · exact cm_39 h
  · split
    · exact cm_comes (cm_39 h)
    · exact cm_39 h
theorem cm_shift {M M' : MS} (h : CM M M') : ∀ j, CM M (mo_shift M' j)
  | 0 => h
  | j + 1 => cm_43 (cm_shift h j)
/-- the chimes' part of the class's map -/
def cq (ad : AD) : Nat → Nat := fun k => if k = 99 then ad 6 0 else if k = 3 then ad 7 0 else ad 8 0
def kC (M : MS) (tl : Int32) : MS := (fun k => if k = 0 then M.1 39 else if k = 1 then M.1 40 else if k = 2 then tl else if k = 4 then M.1 44 else M.1 45, fun _ => 0, fun k => if k = 3 then M.2.2 42 else M.2.2 43)
theorem kC_cr (M : MS) (tl : Int32) : CR (kC M tl) M tl := ⟨rfl, rfl, rfl, rfl, rfl, rfl, rfl⟩
theorem cq_inj {G : GG} {M : MS} {ad : AD} {gi : GI} {w : WM} (hL : RLa G M ad gi w) : ahInj (cq ad) := by
  have n67 : ad 6 0 ≠ ad 7 0 := rl_ne hL (lvf 6 (by decide)) (lvf 7 (by decide)) (Or.inl rfl) (by decide)
  have n68 : ad 6 0 ≠ ad 8 0 := rl_ne hL (lvf 6 (by decide)) (lvf 8 (by decide)) (Or.inl rfl) (by decide)
  have n78 : ad 7 0 ≠ ad 8 0 := rl_ne hL (lvf 7 (by decide)) (lvf 8 (by decide)) (Or.inl rfl) (by decide)
  intro i j hi hj h
  have hi' : i = 99 ∨ i = 3 ∨ i = 6 := by simpa [ahArrs] using hi
  have hj' : j = 99 ∨ j = 3 ∨ j = 6 := by simpa [ahArrs] using hj
  rcases hi' with rfl | rfl | rfl <;> rcases hj' with rfl | rfl | rfl <;> first | rfl | exact absurd h n67 | exact absurd h n68 | exact absurd h n78 | exact absurd h.symm n67 | exact absurd h.symm n68 | exact absurd h.symm n78
theorem chw_in {G : GG} {q : Nat → Nat} {K : MS} {a : Nat} {x : va_E} (h : chw G q K a = some x) : (a = q 99 ∧ x = .inr (2, chf q K)) ∨ (a = q 3 ∧ x = ahcl G K 3) ∨ (a = q 6 ∧ x = ahcl G K 6) := by
  unfold chw at h
  split at h
  · rename_i h1; exact Or.inl ⟨h1, (Option.some.inj h).symm⟩
  · simp only [ahArrs, List.find?_cons, List.find?_nil] at h
    split at h
    · rename_i h2; rw [beq_iff_eq] at h2; exact Or.inr (Or.inl ⟨h2.symm, (Option.some.inj h).symm⟩)
    · split at h
      · rename_i h2; rw [beq_iff_eq] at h2; exact Or.inr (Or.inr ⟨h2.symm, (Option.some.inj h).symm⟩)
      · cases h
theorem chw_sub {G : GG} {M : MS} {ad : AD} {gi : GI} {w : WM} (hL : RLa G M ad gi w) : ∀ a x, chw G (cq ad) (kC M (gi 3 0 0)) a = some x → w a = some x := by
  intro a x h
  rcases chw_in h with ⟨h1, h2⟩ | ⟨h1, h2⟩ | ⟨h1, h2⟩ <;> rw [h1, h2]
  · exact hL.1 6 0 (lvf 6 (by decide))
  · exact hL.1 7 0 (lvf 7 (by decide))
  · exact hL.1 8 0 (lvf 8 (by decide))
theorem rl_ch {G : GG} {M M' K' : MS} {ad : AD} {gi : GI} {w w' : WM} {tl' : Int32} (hL : RLa G M ad gi w) (hw : w' = wm_fr w (chw G (cq ad) (kC M (gi 3 0 0))) (chw G (cq ad) K')) (hc : CR K' M' tl') (hm : CM M M') (hs : sdt M' tl') : RLa G M' ad (gu gi 3 0 (fun _ => tl')) w' := by
  have hq := cq_inj hL
  have at_ : ∀ a x, chw G (cq ad) K' a = some x → w' a = some x := by
    intro a x h
    rw [hw]
    unfold wm_fr
    rw [if_neg (fun z => by rw [z.2] at h; cases h)]
    exact h
  obtain ⟨c0, c1, c2, c4, c5, c3, c6⟩ := hc
  obtain ⟨a, b, c, f, g, rfl⟩ := hm
  refine rl_wL hL [(6, 0), (7, 0), (8, 0)] ?_ ?_ (fun _ _ h => h) ?_ ?_ ⟨hL.2.2.1, hL.2.2.2.1, hs, hL.2.2.2.2.2⟩
  · intro q hq
    simp only [List.mem_cons, List.not_mem_nil, or_false] at hq
    rcases hq with rfl | rfl | rfl
    · exact ⟨lvf 6 (by decide), rfl⟩
    · exact ⟨lvf 7 (by decide), rfl⟩
    · exact ⟨lvf 8 (by decide), rfl⟩
  · intro b hb
    have hn : ∀ K, chw G (cq ad) K b = none := by
      intro K
      cases h : chw G (cq ad) K b with
      | none => rfl
      | some x =>
        exfalso
        rcases chw_in h with ⟨h1, -⟩ | ⟨h1, -⟩ | ⟨h1, -⟩
        · exact hb (6, 0) (by simp) h1
        · exact hb (7, 0) (by simp) h1
        · exact hb (8, 0) (by simp) h1
    rw [hw]
    unfold wm_fr
    rw [if_pos ⟨hn _, hn _⟩]
  · intro t i hl hn
    match t, hl, hn with
    | 0, _, _ => exact rfl
    | 1, _, _ => exact rfl
    | 2, _, _ => exact rfl
    | 3, _, _ => exact rfl
    | 4, _, _ => exact rfl
    | 5, _, _ => exact rfl
    | 6, hl, hn => exact absurd (by rw [(show _ ∧ i = 0 from hl).2]; simp) hn
    | 7, hl, hn => exact absurd (by rw [(show _ ∧ i = 0 from hl).2]; simp) hn
    | 8, hl, hn => exact absurd (by rw [(show _ ∧ i = 0 from hl).2]; simp) hn
    | 9, _, _ => exact rfl
    | 10, _, _ => exact rfl
    | 11, _, _ => exact rfl
    | 12, _, _ => exact rfl
    | 13, _, _ => exact rfl
    | 14, _, _ => exact rfl
    | 15, _, _ => exact rfl
    | 16, _, _ => exact rfl
    | 17, _, _ => exact rfl
    | 18, _, _ => exact rfl
    | 19, _, _ => exact rfl
    | 20, _, _ => exact rfl
    | 21, _, _ => exact rfl
    | 22, _, _ => exact rfl
    | 23, _, _ => exact rfl
    | n + 24, hl, _ => exact absurd (show n + 24 ≤ 10 ∧ i = 0 from hl).1 (by omega)
  · intro q hq' _
    simp only [List.mem_cons, List.not_mem_nil, or_false] at hq'
    rcases hq' with rfl | rfl | rfl
    · refine (at_ (ad 6 0) _ (chw_0 (q := cq ad))).trans ?_
      show some (Sum.inr (2, [Value.int (K'.1 0), .int (K'.1 1), .int (K'.1 2), .ref (ad 7 0), .int (K'.1 4), .int (K'.1 5), .ref (ad 8 0)])) = _
      rw [c0, c1, c2, c4, c5]
      rfl
    · refine (at_ (ad 7 0) _ (chw_k (q := cq ad) hq (k := 3) (by decide))).trans ?_
      show some (Sum.inl (gA G 0, 2, Sum.inl (K'.2.2 3))) = _
      rw [c3]
      rfl
    · refine (at_ (ad 8 0) _ (chw_k (q := cq ad) hq (k := 6) (by decide))).trans ?_
      show some (Sum.inl (gA G 0, 8, Sum.inl (K'.2.2 6))) = _
      rw [c6]
      rfl
