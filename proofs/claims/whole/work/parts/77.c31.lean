/-! writing, of any kind -/
def wv (M : MS) (k : Nat) : Int32 := if M.2.2 8 k = 0 then 1 else if M.2.2 8 k = 1 then (if M.2.2 11 k < M.2.2 12 k then (if mo_pf M k ≤ 0 then 1 else (-10) - mo_pf M k) else 0) else if mo_en M k ≤ 60 then 1 else -5
def wM (M : MS) (k : Nat) (v : Int32) : MS := if M.2.2 8 k = 0 then mo_pp M (nI k) v else if M.2.2 8 k = 1 then (if M.2.2 11 k < M.2.2 12 k then (if mo_pf M k ≤ 0 then mo_pm M (nI k) v else M) else M) else if mo_en M k ≤ 60 then mo_pfl M (nI k) v else M
theorem rW5 (G : GG) (l : Launch) (M : MS) (ad : AD) (gi : GI) (w : WM) (hL : RLa G M ad gi w) (hsg : mi_signs M) (hls : mi_last M) (k : Nat) (ho : opn M k) (c1 : Int32) (h : cSI M gi k 0 = 0) : MC G l yX5_write cX5_write 2 ((Option.some .int)) ({ frames := 1, cells := 0, slots := 0, locals := 21 } : Room) [.ref (ad 13 k), .int c1] w (fun v w' => v = some (.int (wv M k)) ∧ ∃ gi', RLa G (wM M k c1) ad gi' w') := by
  have h8 : M.2.2 8 k = 0 := h
  have e9 : cSI M gi k 9 = gi 0 k 0 := c9_0 h8
  have hb := (hL.2.2.1 k ho h8).1
  refine mc_imp (kX5_write G l w (ad 13 k) (cSI M gi k) _ _ h (rl_o0 hL ho h8) (gi 1 k) (hL.1 14 k ⟨ho, h8⟩) (by rw [e9]; exact hb) c1) ?_
  rintro v w' ⟨hv, a1, a2, a3⟩
  rw [e9] at a1 a2
  unfold wv wM
  rw [if_pos h8, if_pos h8, pp_eq ho.1]
  exact ⟨hv, _, rl_pp hL hsg hls ho h8 a1 a2 a3⟩
theorem rW3 (G : GG) (l : Launch) (M : MS) (ad : AD) (gi : GI) (w : WM) (hL : RLa G M ad gi w) (hA : mi_arr M) (hS : mi_size M) (k : Nat) (ho : opn M k) (c1 : Int32) (h : cSI M gi k 0 = 1) : MC G l yX3_write cX3_write 3 ((Option.some .int)) ({ frames := 3, cells := 0, slots := 0, locals := 63 } : Room) [.ref (ad 13 k), .int c1] w (fun v w' => v = some (.int (wv M k)) ∧ ∃ gi', RLa G (wM M k c1) ad gi' w') := by
  have h8 : M.2.2 8 k = 1 := h
  have n0 : ¬ M.2.2 8 k = 0 := by rw [h8]; decide
  have e9 : cSI M gi k 9 = M.2.2 12 k := c9_1 h8
  have e4 : cSI M gi k 4 = M.2.2 11 k := rfl
  by_cases h0 : M.2.2 15 k = 0
  · have hx : rIA ad (M.2.2 15 k) = none := if_pos h0
    have hc := rl_o1 hL ho h
    rw [hx] at hc
    have e1 : mo_pf M k = 1 := by
      unfold mo_pf mo_ag
      rw [if_pos h0]
    refine mc_imp (kX3_write0 G l w (ad 13 k) (cSI M gi k) _ h hc c1) ?_
    rintro v w' ⟨hv, hw⟩
    rw [e9, e4] at hv
    unfold wv wM
    rw [if_neg n0, if_neg n0, if_pos h8, if_pos h8, e1, if_neg (show ¬ (1 : Int32) ≤ 0 by decide), if_neg (show ¬ (1 : Int32) ≤ 0 by decide)]
    refine ⟨hv, gi, ?_⟩
    rw [hw]
    split
    · exact hL
    · exact hL
  · have hx : rIA ad (M.2.2 15 k) = some (ad 11 (M.2.2 15 k).toNatClampNeg) := rIA_nz h0
    have hc := rl_o1 hL ho h
    rw [hx] at hc
    have hu := mem_usd hA ho h8 h0
    have hs := sz_arr hA hS ho.1
    refine mc_imp (kX3_write G l w (ad 13 k) (cSI M gi k) _ _ h hc _ _ _ _ (n40 hs) (hL.1 11 _ hu) (hL.1 12 _ hu) c1) ?_
    intro v w' hp
    rw [pf_ag h0 hs, e9] at hp
    unfold wv wM
    rw [if_neg n0, if_neg n0, if_pos h8, if_pos h8]
    rcases hp with ⟨b1, b2, b3⟩ | ⟨b1, b2, b3, b4⟩ | ⟨b1, b2, b3, b4, b5, b6⟩
    · have b1 : ¬ M.2.2 11 k < M.2.2 12 k := fun z => by rw [i32_lt] at z; rw [i32_le] at b1; exact absurd b1 (by show ¬ (M.2.2 12 k).toInt ≤ (M.2.2 11 k).toInt; omega)
      rw [if_neg b1, if_neg b1]
      exact ⟨b2, gi, by rw [b3]; exact hL⟩
    · have b1 : M.2.2 11 k < M.2.2 12 k := b1
      have b2 : ¬ mo_pf M k ≤ 0 := fun z => b2 (ag_le.mp z)
      rw [if_pos b1, if_pos b1, if_neg b2, if_neg b2]
      exact ⟨b3, gi, by rw [b4]; exact hL⟩
    · have b1 : M.2.2 11 k < M.2.2 12 k := b1
      have b7 : mo_pf M k ≤ 0 := by rw [b2]; decide
      rw [if_pos b1, if_pos b1, if_pos b7, if_pos b7]
      obtain ⟨p1, p2, p3, p4⟩ := pf_pl hA hS ho h8 b2
      refine ⟨b3, gi, ?_⟩
      have em : mo_pm M (nI k) c1 = sF (sF M 4 (((40 * M.2.2 15 k) + M.2.2 11 k) - 40).toNatClampNeg (if M.2.2 9 k = 0 then c1.toInt8.toInt32 else c1)) 11 k (M.2.2 11 k + 1) := by
        unfold mo_pm
        rw [nI_clamp (show k < 2 ^ 31 by have := ho.1; omega)]
      rw [em]
      refine rl_pm (u := (M.2.2 15 k).toNatClampNeg) hL hS ho h8 p1 p2 p3 (dec_num (by rw [p4]; split; exact Or.inl rfl; exact Or.inr rfl)).symm ?_ b5 b6
      rw [cX_1 h8, hx]
      exact b4
theorem en_c {p wd : Int32} {W : Int} (hw : wd.toInt = W) (hW : W = 1 ∨ W = 4) (hp : bt p 0 60) : (p * wd).toInt = p.toInt * W ∧ (((p + 1) * wd ≤ 60) ↔ p.toInt * W + W ≤ 60) ∧ ((¬ (p * wd < 0) ∧ p * wd + wd ≤ 60) ↔ p.toInt * W + W ≤ 60) := by
  have b := bt_iff.mp hp
  have e0 : (0 : Int32).toInt = 0 := rfl
  have e60 : (60 : Int32).toInt = 60 := rfl
  have h3 : 0 ≤ p.toInt * W ∧ p.toInt * W ≤ 240 := by rcases hW with hW | hW <;> subst hW <;> omega
  have h4 : 0 < W ∧ W ≤ 4 := by rcases hW with hW | hW <;> subst hW <;> omega
  have t0 := ti_mul (a := p) rfl hw (by omega)
  have t1 := ti_add (a := p) (b := 1) (y := 1) rfl rfl (by omega)
  have t2 := ti_mul t1 hw (by rw [Int.add_mul, Int.one_mul]; omega)
  rw [Int.add_mul, Int.one_mul] at t2
  have t3 := ti_add t0 hw (by omega)
  refine ⟨t0, ?_, ?_⟩
  · rw [i32_le, t2, e60]
  · rw [i32_lt, i32_le, t0, t3, e0, e60]
    omega
theorem rW1 (G : GG) (l : Launch) (M : MS) (ad : AD) (gi : GI) (w : WM) (hL : RLa G M ad gi w) (hFl : mi_file M) (hPl : mi_place M) (hsf : mi_sf M) (k : Nat) (ho : opn M k) (c1 : Int32) (h : cSI M gi k 0 = 2) : MC G l yX1_write cX1_write 4 ((Option.some .int)) ({ frames := 1, cells := 0, slots := 0, locals := 21 } : Room) [.ref (ad 13 k), .int c1] w (fun v w' => v = some (.int (wv M k)) ∧ ∃ gi', RLa G (wM M k c1) ad gi' w') := by
  have h8 : M.2.2 8 k = 2 := h
  have n0 : ¬ M.2.2 8 k = 0 := by rw [h8]; decide
  have n1 : ¬ M.2.2 8 k = 1 := by rw [h8]; decide
  have h9 : cSI M gi k 9 = wdt (M.2.2 9 k) := c9_2 h8
  have hl := (hsf k ho h8).2
  have hp := hPl k ho.1
  unfold wv wM
  rw [if_neg n0, if_neg n0, if_neg n1, if_neg n1]
  by_cases hw : M.2.2 9 k = 0
  · have hmw : mo_w M k = 1 := if_pos hw
    have hen : mo_en M k = (M.2.2 11 k + 1) * 1 := by unfold mo_en; rw [hmw]; rfl
    obtain ⟨d1, d3, d4⟩ := en_c (p := M.2.2 11 k) (wd := 1) (W := 1) rfl (Or.inl rfl) hp
    rw [hen]
    refine mc_imp (kX1_write1 G l w (ad 13 k) (cSI M gi k) _ _ h (rl_ob hL ho h) _ _ _ (hL.1 15 _ hl) _ (hL.1 16 _ hl) (h9.trans (if_pos hw)) hp c1) ?_
    rintro v w' (⟨b1, b2, b3⟩ | ⟨b1, b2, b3, b4, b5, b6⟩)
    · have z : ¬ (M.2.2 11 k + 1) * 1 ≤ 60 := fun z => b1 (d4.mpr (d3.mp z))
      rw [if_neg z, if_neg z]
      exact ⟨b2, gi, by rw [b3]; exact hL⟩
    · have z : (M.2.2 11 k + 1) * 1 ≤ 60 := d3.mpr (d4.mp b1)
      rw [if_pos z, if_pos z]
      exact ⟨b2, rl_by1 hL hFl hPl hsf ho h8 hmw d1 (d4.mp b1) b3 b4 b5 b6⟩
  · have hmw : mo_w M k = 4 := if_neg hw
    have hen : mo_en M k = (M.2.2 11 k + 1) * 4 := by unfold mo_en; rw [hmw]; rfl
    obtain ⟨d1, d3, d4⟩ := en_c (p := M.2.2 11 k) (wd := 4) (W := 4) rfl (Or.inr rfl) hp
    rw [hen]
    refine mc_imp (kX1_write4 G l w (ad 13 k) (cSI M gi k) _ _ h (rl_ob hL ho h) _ _ _ (hL.1 15 _ hl) _ (hL.1 16 _ hl) (h9.trans (if_neg hw)) hp c1) ?_
    rintro v w' (⟨b1, b2, b3⟩ | ⟨b1, b2, b3, b4, b5, b6⟩)
    · have z : ¬ (M.2.2 11 k + 1) * 4 ≤ 60 := fun z => b1 (d4.mpr (d3.mp z))
      rw [if_neg z, if_neg z]
      exact ⟨b2, gi, by rw [b3]; exact hL⟩
    · have z : (M.2.2 11 k + 1) * 4 ≤ 60 := d3.mpr (d4.mp b1)
      rw [if_pos z, if_pos z]
      exact ⟨b2, rl_by4 hL hFl hPl hsf ho h8 hmw d1 (d4.mp b1) b3 b4 b5 b6⟩
theorem rW7 (G : GG) (l : Launch) (M : MS) (ad : AD) (gi : GI) (w : WM) (hK : mi_kind M) (k : Nat) (ho : opn M k) (hm : ¬ M.2.2 10 k = 2) (c1 : Int32) (h : ¬ cSI M gi k 0 = 0 ∧ ¬ cSI M gi k 0 = 1 ∧ ¬ cSI M gi k 0 = 2) : MC G l yX7_write cX7_write 2 ((Option.some .int)) ({ frames := 0, cells := 0, slots := 0, locals := 0 } : Room) [.ref (ad 13 k), .int c1] w (fun v w' => v = some (.int (wv M k)) ∧ ∃ gi', RLa G (wM M k c1) ad gi' w') :=
  absurd ((hK k ho.1).2 (kd_3 hK ho.1 h.1 h.2.1 h.2.2)) hm
