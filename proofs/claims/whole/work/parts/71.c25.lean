/-! close -/
theorem sAd_c {M M' : MS} {ad : AD} {t : Int32} (h : M'.2.2 6 = M.2.2 6) : sAd M' ad t = sAd M ad t := by unfold sAd mo_pl; rw [h]
theorem cS_c {M M' : MS} {ad : AD} (h : M'.2.2 6 = M.2.2 6) : cS M' ad = cS M ad := by unfold cS; rw [h]
theorem ce_eq {N : MS} {t : Int32} : ∀ j, j ≤ 8 → mo_ce N t j = sA N 17 (fun x => if x < j ∧ N.2.2 17 x = t then 0 else N.2.2 17 x)
  | 0, _ => by
    have e : (fun x => if x < 0 ∧ N.2.2 17 x = t then 0 else N.2.2 17 x) = N.2.2 17 := funext fun x => if_neg (fun z => absurd z.1 (by omega))
    rw [e]
    exact sA_self.symm
  | j + 1, h => by
    show sF (mo_ce N t j) 17 (nI j).toNatClampNeg (if (mo_ce N t j).2.2 17 (nI j).toNatClampNeg = t then 0 else (mo_ce N t j).2.2 17 (nI j).toNatClampNeg) = _
    rw [ce_eq j (by omega), nI_clamp (by omega)]
    refine Prod.ext rfl (Prod.ext rfl (funext fun a => ?_))
    show va_up (va_up N.2.2 17 (fun x => if x < j ∧ N.2.2 17 x = t then 0 else N.2.2 17 x)) 17 (upd (fun x => if x < j ∧ N.2.2 17 x = t then 0 else N.2.2 17 x) j (if (if j < j ∧ N.2.2 17 j = t then 0 else N.2.2 17 j) = t then 0 else (if j < j ∧ N.2.2 17 j = t then 0 else N.2.2 17 j))) a = va_up N.2.2 17 (fun x => if x < j + 1 ∧ N.2.2 17 x = t then 0 else N.2.2 17 x) a
    unfold va_up
    by_cases ha : a = 17
    · have ej : (if j < j ∧ N.2.2 17 j = t then (0 : Int32) else N.2.2 17 j) = N.2.2 17 j := if_neg (fun z => absurd z.1 (Nat.lt_irrefl j))
      rw [if_pos ha, if_pos ha, ej]
      funext x
      unfold upd
      by_cases hx : x = j
      · rw [if_pos hx, hx]
        by_cases hz : N.2.2 17 j = t
        · rw [if_pos hz, if_pos ⟨by omega, hz⟩]
        · rw [if_neg hz, if_neg (fun z => hz z.2)]
      · rw [if_neg hx]
        show (if x < j ∧ N.2.2 17 x = t then (0 : Int32) else N.2.2 17 x) = if x < j + 1 ∧ N.2.2 17 x = t then 0 else N.2.2 17 x
        by_cases hz : x < j ∧ N.2.2 17 x = t
        · rw [if_pos hz, if_pos ⟨by omega, hz.2⟩]
        · rw [if_neg hz, if_neg (fun z => hz ⟨by omega, z.2⟩)]
    · rw [if_neg ha, if_neg ha, if_neg ha]
theorem pl_rm {M M' : MS} {k : Nat} {t y : Int32} (h : M'.2.2 6 = upd (M.2.2 6) k 0) (hk : M.2.2 6 k = t) (hy : ¬ y = t) : mo_pl M' y = mo_pl M y := by
  unfold mo_pl
  rw [h]
  have hf : (fun j => decide (0 < y) && decide (upd (M.2.2 6) k 0 j = y)) = fun j => decide (0 < y) && decide (M.2.2 6 j = y) := by
    funext j
    by_cases hj : j = k
    · subst hj
      rw [upd_s, hk]
      by_cases h0 : 0 < y
      · have n1 : ¬ (0 : Int32) = y := fun z => by rw [← z] at h0; exact absurd h0 (by decide)
        rw [decide_eq_false n1, decide_eq_false (show ¬ t = y from fun z => hy z.symm)]
      · rw [decide_eq_false h0]
        rfl
    · rw [upd_n hj]
  rw [hf]
theorem rl_cl {G : GG} {M : MS} {ad : AD} {gi : GI} {w w' : WM} {k : Nat} {t : Int32} (hL : RLa G M ad gi w) (hk : mo_pl M t = some k) (hO : w' (ad 0 0) = some (oC (ad 1 0) (ad 2 0) (ad 3 0) (ad 4 0) (ad 5 0) (ad 6 0) (if M.1 20 = t then none else sAd M ad (M.1 20)) (M.1 7) (M.1 29) (M.1 38) (M.2.1 21).toInt32 (M.2.1 22).toInt32 (M.1 5))) (hT : w' (ad 3 0) = some (rA (gA G 5) 8 (va_up (cS M ad) k none))) (hJ : ∀ j, opn M j → j ≠ k → w' (ad 13 j) = some (sC (cSI M gi j) (if M.2.2 17 j = t then none else sAd M ad (M.2.2 17 j)) (cX M ad j))) (hb : ∀ b, b ≠ ad 0 0 → b ≠ ad 3 0 → (∀ j, opn M j → j ≠ k → b ≠ ad 13 j) → w' b = w b) : RLa G (sA (sI (sF (sI M 0 0) 6 k 0) 20 (if M.1 20 = t then 0 else M.1 20)) 17 (fun x => if x < 8 ∧ M.2.2 17 x = t then 0 else M.2.2 17 x)) ad gi w' := by
  have hk6 := (pl_opn hk).2
  have f6 : (sA (sI (sF (sI M 0 0) 6 k 0) 20 (if M.1 20 = t then 0 else M.1 20)) 17 (fun x => if x < 8 ∧ M.2.2 17 x = t then 0 else M.2.2 17 x)).2.2 6 = upd (M.2.2 6) k 0 := rfl
  have f17 : (sA (sI (sF (sI M 0 0) 6 k 0) 20 (if M.1 20 = t then 0 else M.1 20)) 17 (fun x => if x < 8 ∧ M.2.2 17 x = t then 0 else M.2.2 17 x)).2.2 17 = fun x => if x < 8 ∧ M.2.2 17 x = t then 0 else M.2.2 17 x := rfl
  have f20 : (sA (sI (sF (sI M 0 0) 6 k 0) 20 (if M.1 20 = t then 0 else M.1 20)) 17 (fun x => if x < 8 ∧ M.2.2 17 x = t then 0 else M.2.2 17 x)).1 20 = if M.1 20 = t then 0 else M.1 20 := rfl
  generalize hM' : sA (sI (sF (sI M 0 0) 6 k 0) 20 (if M.1 20 = t then 0 else M.1 20)) 17 (fun x => if x < 8 ∧ M.2.2 17 x = t then 0 else M.2.2 17 x) = M' at *
  have m1 : M'.2.2 1 = M.2.2 1 := hM' ▸ (rfl : (sA (sI (sF (sI M 0 0) 6 k 0) 20 (if M.1 20 = t then 0 else M.1 20)) 17 (fun x => if x < 8 ∧ M.2.2 17 x = t then 0 else M.2.2 17 x)).2.2 1 = M.2.2 1)
  have m2 : M'.2.2 2 = M.2.2 2 := hM' ▸ (rfl : (sA (sI (sF (sI M 0 0) 6 k 0) 20 (if M.1 20 = t then 0 else M.1 20)) 17 (fun x => if x < 8 ∧ M.2.2 17 x = t then 0 else M.2.2 17 x)).2.2 2 = M.2.2 2)
  have m3 : M'.2.2 3 = M.2.2 3 := hM' ▸ (rfl : (sA (sI (sF (sI M 0 0) 6 k 0) 20 (if M.1 20 = t then 0 else M.1 20)) 17 (fun x => if x < 8 ∧ M.2.2 17 x = t then 0 else M.2.2 17 x)).2.2 3 = M.2.2 3)
  have m4 : M'.2.2 4 = M.2.2 4 := hM' ▸ (rfl : (sA (sI (sF (sI M 0 0) 6 k 0) 20 (if M.1 20 = t then 0 else M.1 20)) 17 (fun x => if x < 8 ∧ M.2.2 17 x = t then 0 else M.2.2 17 x)).2.2 4 = M.2.2 4)
  have m8 : M'.2.2 8 = M.2.2 8 := hM' ▸ (rfl : (sA (sI (sF (sI M 0 0) 6 k 0) 20 (if M.1 20 = t then 0 else M.1 20)) 17 (fun x => if x < 8 ∧ M.2.2 17 x = t then 0 else M.2.2 17 x)).2.2 8 = M.2.2 8)
  have m9 : M'.2.2 9 = M.2.2 9 := hM' ▸ (rfl : (sA (sI (sF (sI M 0 0) 6 k 0) 20 (if M.1 20 = t then 0 else M.1 20)) 17 (fun x => if x < 8 ∧ M.2.2 17 x = t then 0 else M.2.2 17 x)).2.2 9 = M.2.2 9)
  have m10 : M'.2.2 10 = M.2.2 10 := hM' ▸ (rfl : (sA (sI (sF (sI M 0 0) 6 k 0) 20 (if M.1 20 = t then 0 else M.1 20)) 17 (fun x => if x < 8 ∧ M.2.2 17 x = t then 0 else M.2.2 17 x)).2.2 10 = M.2.2 10)
  have m11 : M'.2.2 11 = M.2.2 11 := hM' ▸ (rfl : (sA (sI (sF (sI M 0 0) 6 k 0) 20 (if M.1 20 = t then 0 else M.1 20)) 17 (fun x => if x < 8 ∧ M.2.2 17 x = t then 0 else M.2.2 17 x)).2.2 11 = M.2.2 11)
  have m12 : M'.2.2 12 = M.2.2 12 := hM' ▸ (rfl : (sA (sI (sF (sI M 0 0) 6 k 0) 20 (if M.1 20 = t then 0 else M.1 20)) 17 (fun x => if x < 8 ∧ M.2.2 17 x = t then 0 else M.2.2 17 x)).2.2 12 = M.2.2 12)
  have m13 : M'.2.2 13 = M.2.2 13 := hM' ▸ (rfl : (sA (sI (sF (sI M 0 0) 6 k 0) 20 (if M.1 20 = t then 0 else M.1 20)) 17 (fun x => if x < 8 ∧ M.2.2 17 x = t then 0 else M.2.2 17 x)).2.2 13 = M.2.2 13)
  have m14 : M'.2.2 14 = M.2.2 14 := hM' ▸ (rfl : (sA (sI (sF (sI M 0 0) 6 k 0) 20 (if M.1 20 = t then 0 else M.1 20)) 17 (fun x => if x < 8 ∧ M.2.2 17 x = t then 0 else M.2.2 17 x)).2.2 14 = M.2.2 14)
  have m15 : M'.2.2 15 = M.2.2 15 := hM' ▸ (rfl : (sA (sI (sF (sI M 0 0) 6 k 0) 20 (if M.1 20 = t then 0 else M.1 20)) 17 (fun x => if x < 8 ∧ M.2.2 17 x = t then 0 else M.2.2 17 x)).2.2 15 = M.2.2 15)
  have m16 : M'.2.2 16 = M.2.2 16 := hM' ▸ (rfl : (sA (sI (sF (sI M 0 0) 6 k 0) 20 (if M.1 20 = t then 0 else M.1 20)) 17 (fun x => if x < 8 ∧ M.2.2 17 x = t then 0 else M.2.2 17 x)).2.2 16 = M.2.2 16)
  have m18 : M'.2.2 18 = M.2.2 18 := hM' ▸ (rfl : (sA (sI (sF (sI M 0 0) 6 k 0) 20 (if M.1 20 = t then 0 else M.1 20)) 17 (fun x => if x < 8 ∧ M.2.2 17 x = t then 0 else M.2.2 17 x)).2.2 18 = M.2.2 18)
  have m19 : M'.2.2 19 = M.2.2 19 := hM' ▸ (rfl : (sA (sI (sF (sI M 0 0) 6 k 0) 20 (if M.1 20 = t then 0 else M.1 20)) 17 (fun x => if x < 8 ∧ M.2.2 17 x = t then 0 else M.2.2 17 x)).2.2 19 = M.2.2 19)
  have m23 : M'.2.2 23 = M.2.2 23 := hM' ▸ (rfl : (sA (sI (sF (sI M 0 0) 6 k 0) 20 (if M.1 20 = t then 0 else M.1 20)) 17 (fun x => if x < 8 ∧ M.2.2 17 x = t then 0 else M.2.2 17 x)).2.2 23 = M.2.2 23)
  have m24 : M'.2.2 24 = M.2.2 24 := hM' ▸ (rfl : (sA (sI (sF (sI M 0 0) 6 k 0) 20 (if M.1 20 = t then 0 else M.1 20)) 17 (fun x => if x < 8 ∧ M.2.2 17 x = t then 0 else M.2.2 17 x)).2.2 24 = M.2.2 24)
  have m25 : M'.2.2 25 = M.2.2 25 := hM' ▸ (rfl : (sA (sI (sF (sI M 0 0) 6 k 0) 20 (if M.1 20 = t then 0 else M.1 20)) 17 (fun x => if x < 8 ∧ M.2.2 17 x = t then 0 else M.2.2 17 x)).2.2 25 = M.2.2 25)
  have m30 : M'.2.2 30 = M.2.2 30 := hM' ▸ (rfl : (sA (sI (sF (sI M 0 0) 6 k 0) 20 (if M.1 20 = t then 0 else M.1 20)) 17 (fun x => if x < 8 ∧ M.2.2 17 x = t then 0 else M.2.2 17 x)).2.2 30 = M.2.2 30)
  have m31 : M'.2.2 31 = M.2.2 31 := hM' ▸ (rfl : (sA (sI (sF (sI M 0 0) 6 k 0) 20 (if M.1 20 = t then 0 else M.1 20)) 17 (fun x => if x < 8 ∧ M.2.2 17 x = t then 0 else M.2.2 17 x)).2.2 31 = M.2.2 31)
  have m32 : M'.2.2 32 = M.2.2 32 := hM' ▸ (rfl : (sA (sI (sF (sI M 0 0) 6 k 0) 20 (if M.1 20 = t then 0 else M.1 20)) 17 (fun x => if x < 8 ∧ M.2.2 17 x = t then 0 else M.2.2 17 x)).2.2 32 = M.2.2 32)
  have m33 : M'.2.2 33 = M.2.2 33 := hM' ▸ (rfl : (sA (sI (sF (sI M 0 0) 6 k 0) 20 (if M.1 20 = t then 0 else M.1 20)) 17 (fun x => if x < 8 ∧ M.2.2 17 x = t then 0 else M.2.2 17 x)).2.2 33 = M.2.2 33)
  have m34 : M'.2.2 34 = M.2.2 34 := hM' ▸ (rfl : (sA (sI (sF (sI M 0 0) 6 k 0) 20 (if M.1 20 = t then 0 else M.1 20)) 17 (fun x => if x < 8 ∧ M.2.2 17 x = t then 0 else M.2.2 17 x)).2.2 34 = M.2.2 34)
  have m35 : M'.2.2 35 = M.2.2 35 := hM' ▸ (rfl : (sA (sI (sF (sI M 0 0) 6 k 0) 20 (if M.1 20 = t then 0 else M.1 20)) 17 (fun x => if x < 8 ∧ M.2.2 17 x = t then 0 else M.2.2 17 x)).2.2 35 = M.2.2 35)
  have m36 : M'.2.2 36 = M.2.2 36 := hM' ▸ (rfl : (sA (sI (sF (sI M 0 0) 6 k 0) 20 (if M.1 20 = t then 0 else M.1 20)) 17 (fun x => if x < 8 ∧ M.2.2 17 x = t then 0 else M.2.2 17 x)).2.2 36 = M.2.2 36)
  have m37 : M'.2.2 37 = M.2.2 37 := hM' ▸ (rfl : (sA (sI (sF (sI M 0 0) 6 k 0) 20 (if M.1 20 = t then 0 else M.1 20)) 17 (fun x => if x < 8 ∧ M.2.2 17 x = t then 0 else M.2.2 17 x)).2.2 37 = M.2.2 37)
  have m42 : M'.2.2 42 = M.2.2 42 := hM' ▸ (rfl : (sA (sI (sF (sI M 0 0) 6 k 0) 20 (if M.1 20 = t then 0 else M.1 20)) 17 (fun x => if x < 8 ∧ M.2.2 17 x = t then 0 else M.2.2 17 x)).2.2 42 = M.2.2 42)
  have m43 : M'.2.2 43 = M.2.2 43 := hM' ▸ (rfl : (sA (sI (sF (sI M 0 0) 6 k 0) 20 (if M.1 20 = t then 0 else M.1 20)) 17 (fun x => if x < 8 ∧ M.2.2 17 x = t then 0 else M.2.2 17 x)).2.2 43 = M.2.2 43)
  have i5 : M'.1 5 = M.1 5 := hM' ▸ (rfl : (sA (sI (sF (sI M 0 0) 6 k 0) 20 (if M.1 20 = t then 0 else M.1 20)) 17 (fun x => if x < 8 ∧ M.2.2 17 x = t then 0 else M.2.2 17 x)).1 5 = M.1 5)
  have i7 : M'.1 7 = M.1 7 := hM' ▸ (rfl : (sA (sI (sF (sI M 0 0) 6 k 0) 20 (if M.1 20 = t then 0 else M.1 20)) 17 (fun x => if x < 8 ∧ M.2.2 17 x = t then 0 else M.2.2 17 x)).1 7 = M.1 7)
  have i26 : M'.1 26 = M.1 26 := hM' ▸ (rfl : (sA (sI (sF (sI M 0 0) 6 k 0) 20 (if M.1 20 = t then 0 else M.1 20)) 17 (fun x => if x < 8 ∧ M.2.2 17 x = t then 0 else M.2.2 17 x)).1 26 = M.1 26)
  have i27 : M'.1 27 = M.1 27 := hM' ▸ (rfl : (sA (sI (sF (sI M 0 0) 6 k 0) 20 (if M.1 20 = t then 0 else M.1 20)) 17 (fun x => if x < 8 ∧ M.2.2 17 x = t then 0 else M.2.2 17 x)).1 27 = M.1 27)
  have i28 : M'.1 28 = M.1 28 := hM' ▸ (rfl : (sA (sI (sF (sI M 0 0) 6 k 0) 20 (if M.1 20 = t then 0 else M.1 20)) 17 (fun x => if x < 8 ∧ M.2.2 17 x = t then 0 else M.2.2 17 x)).1 28 = M.1 28)
  have i29 : M'.1 29 = M.1 29 := hM' ▸ (rfl : (sA (sI (sF (sI M 0 0) 6 k 0) 20 (if M.1 20 = t then 0 else M.1 20)) 17 (fun x => if x < 8 ∧ M.2.2 17 x = t then 0 else M.2.2 17 x)).1 29 = M.1 29)
  have i38 : M'.1 38 = M.1 38 := hM' ▸ (rfl : (sA (sI (sF (sI M 0 0) 6 k 0) 20 (if M.1 20 = t then 0 else M.1 20)) 17 (fun x => if x < 8 ∧ M.2.2 17 x = t then 0 else M.2.2 17 x)).1 38 = M.1 38)
  have i39 : M'.1 39 = M.1 39 := hM' ▸ (rfl : (sA (sI (sF (sI M 0 0) 6 k 0) 20 (if M.1 20 = t then 0 else M.1 20)) 17 (fun x => if x < 8 ∧ M.2.2 17 x = t then 0 else M.2.2 17 x)).1 39 = M.1 39)
  have i40 : M'.1 40 = M.1 40 := hM' ▸ (rfl : (sA (sI (sF (sI M 0 0) 6 k 0) 20 (if M.1 20 = t then 0 else M.1 20)) 17 (fun x => if x < 8 ∧ M.2.2 17 x = t then 0 else M.2.2 17 x)).1 40 = M.1 40)
  have i41 : M'.1 41 = M.1 41 := hM' ▸ (rfl : (sA (sI (sF (sI M 0 0) 6 k 0) 20 (if M.1 20 = t then 0 else M.1 20)) 17 (fun x => if x < 8 ∧ M.2.2 17 x = t then 0 else M.2.2 17 x)).1 41 = M.1 41)
  have i44 : M'.1 44 = M.1 44 := hM' ▸ (rfl : (sA (sI (sF (sI M 0 0) 6 k 0) 20 (if M.1 20 = t then 0 else M.1 20)) 17 (fun x => if x < 8 ∧ M.2.2 17 x = t then 0 else M.2.2 17 x)).1 44 = M.1 44)
  have i45 : M'.1 45 = M.1 45 := hM' ▸ (rfl : (sA (sI (sF (sI M 0 0) 6 k 0) 20 (if M.1 20 = t then 0 else M.1 20)) 17 (fun x => if x < 8 ∧ M.2.2 17 x = t then 0 else M.2.2 17 x)).1 45 = M.1 45)
  have l0 : M'.2.1 = M.2.1 := hM' ▸ (rfl : (sA (sI (sF (sI M 0 0) 6 k 0) 20 (if M.1 20 = t then 0 else M.1 20)) 17 (fun x => if x < 8 ∧ M.2.2 17 x = t then 0 else M.2.2 17 x)).2.1 = M.2.1)
  have opk : ∀ i, opn M' i → opn M i ∧ i ≠ k := by
    rintro i ⟨a1, a2⟩
    rw [f6] at a2
    have hik : i ≠ k := by
      intro z
      rw [z, upd_s] at a2
      exact absurd a2 (by decide)
    rw [upd_n hik] at a2
    exact ⟨⟨a1, a2⟩, hik⟩
  have sa : ∀ y : Int32, sAd M' ad (if y = t then 0 else y) = if y = t then none else sAd M ad y := by
    intro y
    by_cases hy : y = t
    · rw [if_pos hy, if_pos hy]
      unfold sAd
      rw [mo_pl0]
      rfl
    · rw [if_neg hy, if_neg hy]
      unfold sAd
      rw [pl_rm f6 hk6 hy]
  refine rl_addP hL (fun _ _ => False) (fun _ _ => False) (fun t i => (i = 0 ∧ (t = 0 ∨ t = 3)) ∨ (t = 13 ∧ opn M i ∧ i ≠ k)) (fun _ _ h => h.elim) (fun _ _ _ _ h => h.elim) (fun _ _ h => h.elim) (fun t i hl hn0 hn1 => by
    match t, hl, hn0, hn1 with
    | 0, hl, hn0, hn1 => (have h := (show _ ∧ i = 0 from hl).2; subst h; exact ⟨lvf 0 (by decide), rfl⟩)
    | 1, hl, hn0, hn1 => (have h := (show _ ∧ i = 0 from hl).2; subst h; exact ⟨lvf 1 (by decide), rfl⟩)
    | 2, hl, hn0, hn1 => (have h := (show _ ∧ i = 0 from hl).2; subst h; exact ⟨lvf 2 (by decide), rfl⟩)
    | 3, hl, hn0, hn1 => (have h := (show _ ∧ i = 0 from hl).2; subst h; exact ⟨lvf 3 (by decide), rfl⟩)
    | 4, hl, hn0, hn1 => (have h := (show _ ∧ i = 0 from hl).2; subst h; exact ⟨lvf 4 (by decide), rfl⟩)
    | 5, hl, hn0, hn1 => (have h := (show _ ∧ i = 0 from hl).2; subst h; exact ⟨lvf 5 (by decide), rfl⟩)
    | 6, hl, hn0, hn1 => (have h := (show _ ∧ i = 0 from hl).2; subst h; exact ⟨lvf 6 (by decide), rfl⟩)
    | 7, hl, hn0, hn1 => (have h := (show _ ∧ i = 0 from hl).2; subst h; exact ⟨lvf 7 (by decide), rfl⟩)
    | 8, hl, hn0, hn1 => (have h := (show _ ∧ i = 0 from hl).2; subst h; exact ⟨lvf 8 (by decide), rfl⟩)
    | 9, hl, hn0, hn1 => (have h := (show _ ∧ i = 0 from hl).2; subst h; exact ⟨lvf 9 (by decide), rfl⟩)
    | 10, hl, hn0, hn1 => (have h := (show _ ∧ i = 0 from hl).2; subst h; exact ⟨lvf 10 (by decide), rfl⟩)
    | 11, hl, hn0, hn1 => exact ⟨(by obtain ⟨a1, a2, a3⟩ := (show usd M' i from hl); refine ⟨a1, a2, uA_iff.mpr ?_⟩; obtain ⟨j, hj, h⟩ := uA_iff.mp a3; rw [m1] at h; rcases h with h | ⟨x1, x2, x3⟩; exact ⟨j, hj, Or.inl h⟩; rw [m8] at x2; rw [m15] at x3; exact ⟨j, hj, Or.inr ⟨(opk j ⟨hj, x1⟩).1.2, x2, x3⟩⟩), rfl⟩
    | 12, hl, hn0, hn1 => exact ⟨(by obtain ⟨a1, a2, a3⟩ := (show usd M' i from hl); refine ⟨a1, a2, uA_iff.mpr ?_⟩; obtain ⟨j, hj, h⟩ := uA_iff.mp a3; rw [m1] at h; rcases h with h | ⟨x1, x2, x3⟩; exact ⟨j, hj, Or.inl h⟩; rw [m8] at x2; rw [m15] at x3; exact ⟨j, hj, Or.inr ⟨(opk j ⟨hj, x1⟩).1.2, x2, x3⟩⟩), rfl⟩
    | 13, hl, hn0, hn1 => exact ⟨(opk i hl).1, rfl⟩
    | 14, hl, hn0, hn1 => exact ⟨(by have h : opn M' i ∧ M'.2.2 8 i = 0 := hl; rw [m8] at h; exact ⟨(opk i h.1).1, h.2⟩), rfl⟩
    | 15, hl, hn0, hn1 => exact ⟨(by have h : isr M' i ∧ M'.2.2 34 i = nI i := hl; unfold isr at h; rw [i29, m34] at h; exact h), rfl⟩
    | 16, hl, hn0, hn1 => exact ⟨(by have h : isr M' i ∧ M'.2.2 34 i = nI i := hl; unfold isr at h; rw [i29, m34] at h; exact h), rfl⟩
    | 17, hl, hn0, hn1 => exact ⟨(by have h : isr M' i := hl; unfold isr at h; rw [i29] at h; exact h), rfl⟩
    | 18, hl, hn0, hn1 => exact ⟨(by have h : isr M' i ∧ M'.2.2 33 i = 0 := hl; unfold isr at h; rw [i29, m33] at h; exact h), rfl⟩
    | 19, hl, hn0, hn1 => exact ⟨(by have h : isr M' i ∧ M'.2.2 33 i = 0 := hl; unfold isr at h; rw [i29, m33] at h; exact h), rfl⟩
    | 20, hl, hn0, hn1 => exact ⟨(by have h : i < 4 ∧ 0 ≤ M'.2.2 23 i := hl; rw [m23] at h; exact h), rfl⟩
    | 21, hl, hn0, hn1 => exact ⟨(by have h : i < 4 ∧ 0 ≤ M'.2.2 23 i := hl; rw [m23] at h; exact h), rfl⟩
    | 22, hl, hn0, hn1 => exact ⟨(by have h : opn M' i ∧ M'.2.2 8 i = 3 := hl; rw [m8] at h; exact ⟨(opk i h.1).1, h.2⟩), rfl⟩
    | 23, hl, hn0, hn1 => exact ⟨(by have h : opn M' i ∧ M'.2.2 8 i = 3 := hl; rw [m8] at h; exact ⟨(opk i h.1).1, h.2⟩), rfl⟩
    | n + 24, hl, hn0, hn1 => exact absurd (show n + 24 ≤ 10 ∧ i = 0 from hl).1 (by omega)) ?_ ?_ (fun t i hl hn0 hn1 hn2 => by
    match t, hl, hn0, hn1, hn2 with
    | 0, hl, hn0, hn1, hn2 => exact absurd (Or.inl ⟨(show _ ∧ i = 0 from hl).2, Or.inl rfl⟩) hn2
    | 1, hl, hn0, hn1, hn2 => (refine cc_1 ?_; rw [cR_c m1 rfl])
    | 2, hl, hn0, hn1, hn2 => (refine cc_2 ?_; rw [cG_c m23 rfl])
    | 3, hl, hn0, hn1, hn2 => exact absurd (Or.inl ⟨(show _ ∧ i = 0 from hl).2, Or.inr rfl⟩) hn2
    | 4, hl, hn0, hn1, hn2 => (refine cc_4 ?_; rw [cF_c i29 rfl])
    | 5, hl, hn0, hn1, hn2 => (refine cc_5 ?_; rw [i27, i28])
    | 6, hl, hn0, hn1, hn2 => (refine cc_6 ?_; rw [i39, i40, i44, i45])
    | 7, hl, hn0, hn1, hn2 => (refine cc_7 ?_; rw [m42])
    | 8, hl, hn0, hn1, hn2 => (refine cc_8 ?_; rw [m43])
    | 9, hl, hn0, hn1, hn2 => (refine cc_9 ?_; rw [i26])
    | 10, hl, hn0, hn1, hn2 => (refine cc_10 ?_; rfl)
    | 11, hl, hn0, hn1, hn2 => (refine cc_11 ?_; rw [m2])
    | 12, hl, hn0, hn1, hn2 => (refine cc_12 ?_; rw [m3, cArr_c m2 m3 m4])
    | 13, hl, hn0, hn1, hn2 => exact absurd (Or.inr ⟨rfl, (opk i hl).1, (opk i hl).2⟩) hn2
    | 14, hl, hn0, hn1, hn2 => (refine cc_14 ?_; rfl)
    | 15, hl, hn0, hn1, hn2 => (refine cc_15 ?_; rw [m36, m35])
    | 16, hl, hn0, hn1, hn2 => (refine cc_16 ?_; rfl)
    | 17, hl, hn0, hn1, hn2 => (refine cc_17 ?_; rw [m30, m33, m34])
    | 18, hl, hn0, hn1, hn2 => (refine cc_18 ?_; rfl)
    | 19, hl, hn0, hn1, hn2 => (refine cc_19 ?_; rw [m32])
    | 20, hl, hn0, hn1, hn2 => (refine cc_20 ?_; rfl)
    | 21, hl, hn0, hn1, hn2 => (refine cc_21 ?_; rw [m23, cGiv_c m23 m24])
    | 22, hl, hn0, hn1, hn2 => (refine cc_22 ?_; rfl)
    | 23, hl, hn0, hn1, hn2 => (refine cc_23 ?_; rw [m12])
    | n + 24, hl, hn0, hn1, hn2 => exact absurd (show n + 24 ≤ 10 ∧ i = 0 from hl).1 (by omega)) (fun _ _ h => h.elim) (fun _ _ h => h.elim) ?_ ?_
  · rintro t i (⟨rfl, rfl | rfl⟩ | ⟨rfl, h, _⟩)
    · exact ⟨lvf 0 (by decide), rfl⟩
    · exact ⟨lvf 3 (by decide), rfl⟩
    · exact ⟨h, rfl⟩
  · intro b _ hl
    exact hb b (hl 0 0 (Or.inl ⟨rfl, Or.inl rfl⟩)) (hl 3 0 (Or.inl ⟨rfl, Or.inr rfl⟩)) (fun j h1 h2 => hl 13 j (Or.inr ⟨rfl, h1, h2⟩))
  · rintro u i (⟨rfl, rfl | rfl⟩ | ⟨rfl, h, hik⟩) _ _ hl
    · show w' (ad 0 0) = some (oC (ad 1 0) (ad 2 0) (ad 3 0) (ad 4 0) (ad 5 0) (ad 6 0) (sAd M' ad (M'.1 20)) (M'.1 7) (M'.1 29) (M'.1 38) (M'.2.1 21).toInt32 (M'.2.1 22).toInt32 (M'.1 5))
      rw [f20, sa, i7, i29, i38, l0, i5]
      exact hO
    · show w' (ad 3 0) = some (rA (gA G 5) 8 (cS M' ad))
      have e : cS M' ad = va_up (cS M ad) k none := by
        funext j
        unfold va_up cS
        rw [f6]
        by_cases hj : j = k
        · rw [if_pos hj, hj, upd_s, if_neg (fun z => absurd z.2 (by decide))]
        · rw [if_neg hj, upd_n hj]
      rw [e]
      exact hT
    · show w' (ad 13 i) = some (sC (cSI M' gi i) (sAd M' ad (M'.2.2 17 i)) (cX M' ad i))
      rw [cSI_c (M := M) (M' := M') (gi := gi) (gi' := gi) (k := i) (by rw [m8]) (by rw [m10]) (by rw [m9]) (by rw [f6, upd_n hik]) (by rw [m11]) (by rw [m13]) (by rw [m14]) (by rw [m12]) (by rw [m19]) rfl, cX_c (M := M) (M' := M') (ad := ad) (ad' := ad) (k := i) (by rw [m8]) rfl (fun _ => by rw [m15]) (by rw [m16]) rfl rfl]
      have e : M'.2.2 17 i = if M.2.2 17 i = t then 0 else M.2.2 17 i := by
        rw [f17]
        show (if i < 8 ∧ M.2.2 17 i = t then (0 : Int32) else M.2.2 17 i) = _
        by_cases hz : M.2.2 17 i = t
        · rw [if_pos ⟨h.1, hz⟩, if_pos hz]
        · rw [if_neg (fun z => hz z.2), if_neg hz]
      rw [e, sa]
      exact hJ i h hik
  · refine ⟨?_, ?_, ?_, ?_, ?_, ?_⟩
    · intro i ho h8
      rw [m8] at h8
      rw [m19, m18]
      exact hL.2.2.1 i (opk i ho).1 h8
    · unfold sd_f; rw [m37]; exact hL.2.2.2.1
    · unfold sd_t; rw [i39, i40, i41]; exact hL.2.2.2.2.1
    · unfold sd_n; rw [i26, m25]; exact hL.2.2.2.2.2.1
    · unfold sd_s isr; rw [i29, m33, m32, m31]; exact hL.2.2.2.2.2.2.1
    · intro i ho h8
      rw [m8] at h8
      rw [m12, m18, m9]
      exact hL.2.2.2.2.2.2.2 i (opk i ho).1 h8
