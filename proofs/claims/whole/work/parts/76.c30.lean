/-! bytes -/
theorem fb1 {M : MS} {k : Nat} {v : Int32} (h : mo_w M k = 1) (hk : k < 8) : mo_pfl M (nI k) v = sF (sF (sA M 37 (upd (M.2.2 37) ((((60 * M.2.2 16 k) + ((M.2.2 11 k + 1) * 1)) - 1) - nI 0).toNatClampNeg ((v >>> ((8 * nI 0) &&& 31)) &&& 255))) 36 (M.2.2 16 k).toNatClampNeg (if (M.2.2 11 k + 1) * 1 ≤ M.2.2 36 (M.2.2 16 k).toNatClampNeg then M.2.2 36 (M.2.2 16 k).toNatClampNeg else (M.2.2 11 k + 1) * 1)) 11 k (M.2.2 11 k + 1) := by
  have ek : (nI k).toNatClampNeg = k := nI_clamp (by omega)
  have en : mo_en M k = (M.2.2 11 k + 1) * 1 := by
    unfold mo_en
    rw [h]
    rfl
  unfold mo_pfl mo_fl
  rw [ek, en, h]
  have e : mo_fb M (M.2.2 16 k) ((M.2.2 11 k + 1) * 1) v 1 = sA M 37 (upd (M.2.2 37) ((((60 * M.2.2 16 k) + ((M.2.2 11 k + 1) * 1)) - 1) - nI 0).toNatClampNeg ((v >>> ((8 * nI 0) &&& 31)) &&& 255)) := by
    rfl
  rw [e]
  rfl
theorem rl_by1 {G : GG} {M : MS} {ad : AD} {gi : GI} {w w' : WM} {k : Nat} {v : Int32} (hL : RLa G M ad gi w) (hFl : mi_file M) (hPl : mi_place M) (hsf : mi_sf M) (ho : opn M k) (h8 : M.2.2 8 k = 2) (hw : mo_w M k = 1) (d1 : (M.2.2 11 k * 1).toInt = (M.2.2 11 k).toInt * 1) (d2 : (M.2.2 11 k).toInt * 1 + 1 ≤ 60) (h1 : w' (ad 13 k) = some (sC (upd (cSI M gi k) 4 (M.2.2 11 k + 1)) (sAd M ad (M.2.2 17 k)) (some (ad 15 (M.2.2 16 k).toNatClampNeg)))) (h2 : w' (ad 15 (M.2.2 16 k).toNatClampNeg) = some (.inr (10, [.ref (ad 16 (M.2.2 16 k).toNatClampNeg), .int (if M.2.2 36 (M.2.2 16 k).toNatClampNeg < M.2.2 11 k * 1 + 1 then M.2.2 11 k * 1 + 1 else M.2.2 36 (M.2.2 16 k).toNatClampNeg), .int (M.2.2 35 (M.2.2 16 k).toNatClampNeg)]))) (h2b : w' (ad 16 (M.2.2 16 k).toNatClampNeg) = some (.inl (gA G 1, 60, .inl (fs_w1 (cSI M gi k) v (gi 2 (M.2.2 16 k).toNatClampNeg))))) (h3 : ∀ c, c ≠ ad 13 k → c ≠ ad 15 (M.2.2 16 k).toNatClampNeg → c ≠ ad 16 (M.2.2 16 k).toNatClampNeg → w' c = w c) : ∃ gi', RLa G (mo_pfl M (nI k) v) ad gi' w' := by
  have hf := hFl k ho.1 h8
  have af := bt_iff.mp hf
  have cf := cl_toInt (x := M.2.2 16 k) af.1
  have hp := hPl k ho.1
  have bp := bt_iff.mp hp
  have pb := pw_b (p := M.2.2 11 k) (wd := 1) (Or.inl rfl) hp d1 d2
  have t1 := ti_add (a := M.2.2 11 k) (b := 1) (y := 1) rfl rfl (by omega)
  have t2 := ti_mul t1 (b := 1) (y := 1) rfl (by omega)
  have t3 := ti_add d1 (b := 1) (y := 1) rfl (by omega)
  have ee : (M.2.2 11 k + 1) * 1 = M.2.2 11 k * 1 + 1 := by rw [i32_eq, t2, t3]; omega
  have el : (if (M.2.2 11 k + 1) * 1 ≤ M.2.2 36 (M.2.2 16 k).toNatClampNeg then M.2.2 36 (M.2.2 16 k).toNatClampNeg else (M.2.2 11 k + 1) * 1) = (if M.2.2 36 (M.2.2 16 k).toNatClampNeg < M.2.2 11 k * 1 + 1 then M.2.2 11 k * 1 + 1 else M.2.2 36 (M.2.2 16 k).toNatClampNeg) := by
    rw [ee]
    by_cases hz : M.2.2 11 k * 1 + 1 ≤ M.2.2 36 (M.2.2 16 k).toNatClampNeg
    · rw [if_pos hz, if_neg (fun z => by rw [i32_lt] at z; rw [i32_le] at hz; omega)]
    · rw [if_neg hz, if_pos (by rw [i32_lt]; rw [i32_le] at hz; omega)]
  have j0 : ((((60 * M.2.2 16 k) + ((M.2.2 11 k + 1) * 1)) - 1) - nI 0).toNatClampNeg = 60 * (M.2.2 16 k).toNatClampNeg + ((M.2.2 11 k * 1).toNatClampNeg + (1 - 1 - 0)) := fb_ix (j := 0) 1 rfl (Or.inl rfl) hf hp d1 d2 (by decide)
  have q0 : (cSI M gi k 4 * 1 + 0).toNatClampNeg = (M.2.2 11 k * 1).toNatClampNeg + 0 := cl_ix (p := M.2.2 11 k) (j := 0) 1 0 rfl (Or.inl rfl) hp d1 d2 (by decide)
  have s0 : (8 * (1 - 1 - 0) &&& 31 : Int32) = ((8 * nI 0) &&& 31) := by decide
  rw [fb1 hw ho.1, j0, el]
  refine ⟨_, rl_pf (gb := (upd (gi 2 (M.2.2 16 k).toNatClampNeg) ((M.2.2 11 k * 1).toNatClampNeg + 0) (vp_nar .byte ((v >>> (8 * (1 - 1 - 0) &&& 31)).toInt8.toInt32)))) hL ho h8 (hsf k ho h8).2 (by omega) ?_ ?_ (by rw [cX_2 h8]; exact h1) h2 (by rw [h2b]; unfold fs_w1; rw [q0]) h3⟩
  · intro j hj
    rw [s0]
    have hd := hL.2.2.2.1 (M.2.2 16 k).toNatClampNeg (by omega) j hj
    by_cases h0 : j = (M.2.2 11 k * 1).toNatClampNeg + 0
    · subst h0
      rw [upd_s]
      rw [n255]
      exact upd_s.symm
    · skip
      rw [upd_n (by omega), upd_n (by omega)]
      exact hd
  · intro x hx
    rw [upd_n (by omega)]
theorem fb4 {M : MS} {k : Nat} {v : Int32} (h : mo_w M k = 4) (hk : k < 8) : mo_pfl M (nI k) v = sF (sF (sA M 37 (upd (upd (upd (upd (M.2.2 37) ((((60 * M.2.2 16 k) + ((M.2.2 11 k + 1) * 4)) - 1) - nI 0).toNatClampNeg ((v >>> ((8 * nI 0) &&& 31)) &&& 255)) ((((60 * M.2.2 16 k) + ((M.2.2 11 k + 1) * 4)) - 1) - nI 1).toNatClampNeg ((v >>> ((8 * nI 1) &&& 31)) &&& 255)) ((((60 * M.2.2 16 k) + ((M.2.2 11 k + 1) * 4)) - 1) - nI 2).toNatClampNeg ((v >>> ((8 * nI 2) &&& 31)) &&& 255)) ((((60 * M.2.2 16 k) + ((M.2.2 11 k + 1) * 4)) - 1) - nI 3).toNatClampNeg ((v >>> ((8 * nI 3) &&& 31)) &&& 255))) 36 (M.2.2 16 k).toNatClampNeg (if (M.2.2 11 k + 1) * 4 ≤ M.2.2 36 (M.2.2 16 k).toNatClampNeg then M.2.2 36 (M.2.2 16 k).toNatClampNeg else (M.2.2 11 k + 1) * 4)) 11 k (M.2.2 11 k + 1) := by
  have ek : (nI k).toNatClampNeg = k := nI_clamp (by omega)
  have en : mo_en M k = (M.2.2 11 k + 1) * 4 := by
    unfold mo_en
    rw [h]
    rfl
  unfold mo_pfl mo_fl
  rw [ek, en, h]
  have e : mo_fb M (M.2.2 16 k) ((M.2.2 11 k + 1) * 4) v 4 = sA M 37 (upd (upd (upd (upd (M.2.2 37) ((((60 * M.2.2 16 k) + ((M.2.2 11 k + 1) * 4)) - 1) - nI 0).toNatClampNeg ((v >>> ((8 * nI 0) &&& 31)) &&& 255)) ((((60 * M.2.2 16 k) + ((M.2.2 11 k + 1) * 4)) - 1) - nI 1).toNatClampNeg ((v >>> ((8 * nI 1) &&& 31)) &&& 255)) ((((60 * M.2.2 16 k) + ((M.2.2 11 k + 1) * 4)) - 1) - nI 2).toNatClampNeg ((v >>> ((8 * nI 2) &&& 31)) &&& 255)) ((((60 * M.2.2 16 k) + ((M.2.2 11 k + 1) * 4)) - 1) - nI 3).toNatClampNeg ((v >>> ((8 * nI 3) &&& 31)) &&& 255)) := by
    show sF (sF (sF (sF M 37 ((((60 * M.2.2 16 k) + ((M.2.2 11 k + 1) * 4)) - 1) - nI 0).toNatClampNeg ((v >>> ((8 * nI 0) &&& 31)) &&& 255)) 37 ((((60 * M.2.2 16 k) + ((M.2.2 11 k + 1) * 4)) - 1) - nI 1).toNatClampNeg ((v >>> ((8 * nI 1) &&& 31)) &&& 255)) 37 ((((60 * M.2.2 16 k) + ((M.2.2 11 k + 1) * 4)) - 1) - nI 2).toNatClampNeg ((v >>> ((8 * nI 2) &&& 31)) &&& 255)) 37 ((((60 * M.2.2 16 k) + ((M.2.2 11 k + 1) * 4)) - 1) - nI 3).toNatClampNeg ((v >>> ((8 * nI 3) &&& 31)) &&& 255) = _
    refine (sA_sA (M := sF (sF M 37 ((((60 * M.2.2 16 k) + ((M.2.2 11 k + 1) * 4)) - 1) - nI 0).toNatClampNeg ((v >>> ((8 * nI 0) &&& 31)) &&& 255)) 37 ((((60 * M.2.2 16 k) + ((M.2.2 11 k + 1) * 4)) - 1) - nI 1).toNatClampNeg ((v >>> ((8 * nI 1) &&& 31)) &&& 255)) (k := 37)).trans ?_
    refine (sA_sA (M := sF M 37 ((((60 * M.2.2 16 k) + ((M.2.2 11 k + 1) * 4)) - 1) - nI 0).toNatClampNeg ((v >>> ((8 * nI 0) &&& 31)) &&& 255)) (k := 37)).trans ?_
    exact (sA_sA (M := M) (k := 37))
  rw [e]
  rfl
theorem rl_by4 {G : GG} {M : MS} {ad : AD} {gi : GI} {w w' : WM} {k : Nat} {v : Int32} (hL : RLa G M ad gi w) (hFl : mi_file M) (hPl : mi_place M) (hsf : mi_sf M) (ho : opn M k) (h8 : M.2.2 8 k = 2) (hw : mo_w M k = 4) (d1 : (M.2.2 11 k * 4).toInt = (M.2.2 11 k).toInt * 4) (d2 : (M.2.2 11 k).toInt * 4 + 4 ≤ 60) (h1 : w' (ad 13 k) = some (sC (upd (cSI M gi k) 4 (M.2.2 11 k + 1)) (sAd M ad (M.2.2 17 k)) (some (ad 15 (M.2.2 16 k).toNatClampNeg)))) (h2 : w' (ad 15 (M.2.2 16 k).toNatClampNeg) = some (.inr (10, [.ref (ad 16 (M.2.2 16 k).toNatClampNeg), .int (if M.2.2 36 (M.2.2 16 k).toNatClampNeg < M.2.2 11 k * 4 + 4 then M.2.2 11 k * 4 + 4 else M.2.2 36 (M.2.2 16 k).toNatClampNeg), .int (M.2.2 35 (M.2.2 16 k).toNatClampNeg)]))) (h2b : w' (ad 16 (M.2.2 16 k).toNatClampNeg) = some (.inl (gA G 1, 60, .inl (fs_w4 (cSI M gi k) v (gi 2 (M.2.2 16 k).toNatClampNeg))))) (h3 : ∀ c, c ≠ ad 13 k → c ≠ ad 15 (M.2.2 16 k).toNatClampNeg → c ≠ ad 16 (M.2.2 16 k).toNatClampNeg → w' c = w c) : ∃ gi', RLa G (mo_pfl M (nI k) v) ad gi' w' := by
  have hf := hFl k ho.1 h8
  have af := bt_iff.mp hf
  have cf := cl_toInt (x := M.2.2 16 k) af.1
  have hp := hPl k ho.1
  have bp := bt_iff.mp hp
  have pb := pw_b (p := M.2.2 11 k) (wd := 4) (Or.inr rfl) hp d1 d2
  have t1 := ti_add (a := M.2.2 11 k) (b := 1) (y := 1) rfl rfl (by omega)
  have t2 := ti_mul t1 (b := 4) (y := 4) rfl (by omega)
  have t3 := ti_add d1 (b := 4) (y := 4) rfl (by omega)
  have ee : (M.2.2 11 k + 1) * 4 = M.2.2 11 k * 4 + 4 := by rw [i32_eq, t2, t3]; omega
  have el : (if (M.2.2 11 k + 1) * 4 ≤ M.2.2 36 (M.2.2 16 k).toNatClampNeg then M.2.2 36 (M.2.2 16 k).toNatClampNeg else (M.2.2 11 k + 1) * 4) = (if M.2.2 36 (M.2.2 16 k).toNatClampNeg < M.2.2 11 k * 4 + 4 then M.2.2 11 k * 4 + 4 else M.2.2 36 (M.2.2 16 k).toNatClampNeg) := by
    rw [ee]
    by_cases hz : M.2.2 11 k * 4 + 4 ≤ M.2.2 36 (M.2.2 16 k).toNatClampNeg
    · rw [if_pos hz, if_neg (fun z => by rw [i32_lt] at z; rw [i32_le] at hz; omega)]
    · rw [if_neg hz, if_pos (by rw [i32_lt]; rw [i32_le] at hz; omega)]
  have j0 : ((((60 * M.2.2 16 k) + ((M.2.2 11 k + 1) * 4)) - 1) - nI 0).toNatClampNeg = 60 * (M.2.2 16 k).toNatClampNeg + ((M.2.2 11 k * 4).toNatClampNeg + (4 - 1 - 0)) := fb_ix (j := 0) 4 rfl (Or.inr rfl) hf hp d1 d2 (by decide)
  have j1 : ((((60 * M.2.2 16 k) + ((M.2.2 11 k + 1) * 4)) - 1) - nI 1).toNatClampNeg = 60 * (M.2.2 16 k).toNatClampNeg + ((M.2.2 11 k * 4).toNatClampNeg + (4 - 1 - 1)) := fb_ix (j := 1) 4 rfl (Or.inr rfl) hf hp d1 d2 (by decide)
  have j2 : ((((60 * M.2.2 16 k) + ((M.2.2 11 k + 1) * 4)) - 1) - nI 2).toNatClampNeg = 60 * (M.2.2 16 k).toNatClampNeg + ((M.2.2 11 k * 4).toNatClampNeg + (4 - 1 - 2)) := fb_ix (j := 2) 4 rfl (Or.inr rfl) hf hp d1 d2 (by decide)
  have j3 : ((((60 * M.2.2 16 k) + ((M.2.2 11 k + 1) * 4)) - 1) - nI 3).toNatClampNeg = 60 * (M.2.2 16 k).toNatClampNeg + ((M.2.2 11 k * 4).toNatClampNeg + (4 - 1 - 3)) := fb_ix (j := 3) 4 rfl (Or.inr rfl) hf hp d1 d2 (by decide)
  have q0 : (cSI M gi k 4 * 4 + 0).toNatClampNeg = (M.2.2 11 k * 4).toNatClampNeg + 0 := cl_ix (p := M.2.2 11 k) (j := 0) 4 0 rfl (Or.inr rfl) hp d1 d2 (by decide)
  have q1 : (cSI M gi k 4 * 4 + 1).toNatClampNeg = (M.2.2 11 k * 4).toNatClampNeg + 1 := cl_ix (p := M.2.2 11 k) (j := 1) 4 1 rfl (Or.inr rfl) hp d1 d2 (by decide)
  have q2 : (cSI M gi k 4 * 4 + 2).toNatClampNeg = (M.2.2 11 k * 4).toNatClampNeg + 2 := cl_ix (p := M.2.2 11 k) (j := 2) 4 2 rfl (Or.inr rfl) hp d1 d2 (by decide)
  have q3 : (cSI M gi k 4 * 4 + 3).toNatClampNeg = (M.2.2 11 k * 4).toNatClampNeg + 3 := cl_ix (p := M.2.2 11 k) (j := 3) 4 3 rfl (Or.inr rfl) hp d1 d2 (by decide)
  have s0 : (8 * (4 - 1 - 0) &&& 31 : Int32) = ((8 * nI 3) &&& 31) := by decide
  have s1 : (8 * (4 - 1 - 1) &&& 31 : Int32) = ((8 * nI 2) &&& 31) := by decide
  have s2 : (8 * (4 - 1 - 2) &&& 31 : Int32) = ((8 * nI 1) &&& 31) := by decide
  have s3 : (8 * (4 - 1 - 3) &&& 31 : Int32) = ((8 * nI 0) &&& 31) := by decide
  rw [fb4 hw ho.1, j0, j1, j2, j3, el]
  refine ⟨_, rl_pf (gb := (upd (upd (upd (upd (gi 2 (M.2.2 16 k).toNatClampNeg) ((M.2.2 11 k * 4).toNatClampNeg + 0) (vp_nar .byte ((v >>> (8 * (4 - 1 - 0) &&& 31)).toInt8.toInt32))) ((M.2.2 11 k * 4).toNatClampNeg + 1) (vp_nar .byte ((v >>> (8 * (4 - 1 - 1) &&& 31)).toInt8.toInt32))) ((M.2.2 11 k * 4).toNatClampNeg + 2) (vp_nar .byte ((v >>> (8 * (4 - 1 - 2) &&& 31)).toInt8.toInt32))) ((M.2.2 11 k * 4).toNatClampNeg + 3) (vp_nar .byte ((v >>> (8 * (4 - 1 - 3) &&& 31)).toInt8.toInt32)))) hL ho h8 (hsf k ho h8).2 (by omega) ?_ ?_ (by rw [cX_2 h8]; exact h1) h2 (by rw [h2b]; unfold fs_w4; rw [q0, q1, q2, q3]) h3⟩
  · intro j hj
    rw [s0, s1, s2, s3]
    have hd := hL.2.2.2.1 (M.2.2 16 k).toNatClampNeg (by omega) j hj
    by_cases h3 : j = (M.2.2 11 k * 4).toNatClampNeg + 3
    · subst h3
      rw [upd_s, upd_n (by omega), upd_n (by omega), upd_n (by omega)]
      rw [n255]
      exact upd_s.symm
    · skip
      by_cases h2 : j = (M.2.2 11 k * 4).toNatClampNeg + 2
      · subst h2
        rw [upd_n (by omega), upd_s, upd_n (by omega), upd_n (by omega)]
        rw [n255]
        exact upd_s.symm
      · skip
        by_cases h1 : j = (M.2.2 11 k * 4).toNatClampNeg + 1
        · subst h1
          rw [upd_n (by omega), upd_n (by omega), upd_s, upd_n (by omega)]
          rw [n255]
          exact upd_s.symm
        · skip
          by_cases h0 : j = (M.2.2 11 k * 4).toNatClampNeg + 0
          · subst h0
            rw [upd_n (by omega), upd_n (by omega), upd_n (by omega), upd_s]
            rw [n255]
            exact upd_s.symm
          · skip
            rw [upd_n (by omega), upd_n (by omega), upd_n (by omega), upd_n (by omega), upd_n (by omega), upd_n (by omega), upd_n (by omega), upd_n (by omega)]
            exact hd
  · intro x hx
    rw [upd_n (by omega), upd_n (by omega), upd_n (by omega), upd_n (by omega)]
