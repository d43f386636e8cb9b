/-! references made -/
/-- what no reference names is as it was made -/
def mi_fr (M : MS) : Prop := ∀ f : Nat, f < 20 → (M.1 29).toInt ≤ f → M.2.2 35 f = 0 ∧ M.2.2 36 f = 0 ∧ ∀ j, j < 60 → M.2.2 37 (60 * f + j) = 0
theorem cX_c2 {M M' : MS} {ad ad' : AD} {k : Nat} (h8 : M'.2.2 8 k = M.2.2 8 k) (h14 : ad' 14 k = ad 14 k) (h15 : M.2.2 8 k = 1 → rIA ad' (M'.2.2 15 k) = rIA ad (M.2.2 15 k)) (h16 : M'.2.2 16 k = M.2.2 16 k) (hf : M.2.2 8 k = 2 → ad' 15 (M.2.2 16 k).toNatClampNeg = ad 15 (M.2.2 16 k).toNatClampNeg) (h22 : ad' 22 k = ad 22 k) : cX M' ad' k = cX M ad k := by
  unfold cX
  rw [h8, h14, h16, h22]
  by_cases h1 : M.2.2 8 k = 1
  · rw [h15 h1, if_pos h1, if_pos h1]
  · rw [if_neg h1, if_neg h1]
    by_cases h2 : M.2.2 8 k = 2
    · rw [if_pos h2, if_pos h2, hf h2]
    · rw [if_neg h2, if_neg h2]
theorem rl_tmp {G : GG} {M : MS} {ad : AD} {gi : GI} {w w' : WM} {R q1 q2 pa : Nat} {u : Int32} (hL : RLa G M ad gi w) (hrc : mi_refs M) (hFF : mi_ff M) (hsf : mi_sf M) (hfr : mi_fr M) (hR : R = (M.1 29).toNatClampNeg) (hR20 : R < 20) (f1 : ∀ t i, lvT M t i → q1 ≠ ad t i) (f2 : ∀ t i, lvT M t i → q2 ≠ ad t i) (f3 : ∀ t i, lvT M t i → pa ≠ ad t i) (h12 : q1 ≠ q2) (h13 : q1 ≠ pa) (h23 : q2 ≠ pa) (h4 : w' (ad 4 0) = some (rA (gA G 6) 20 (va_up (cF M ad) R (some q1)))) (h0 : w' (ad 0 0) = some (oC (ad 1 0) (ad 2 0) (ad 3 0) (ad 4 0) (ad 5 0) (ad 6 0) (sAd M ad (M.1 20)) (M.1 7) (M.1 29 + 1) (M.1 38) (M.2.1 21).toInt32 (M.2.1 22).toInt32 (M.1 5))) (e1 : w' q1 = some (.inr (8, [.int u, .ref (gK G 1), .int 1, .ref q2]))) (e2 : w' q2 = some (.inr (10, [.ref pa, .int 0, .int 0]))) (e3 : w' pa = some (.inl (gA G 1, 60, .inl (fun _ => 0)))) (hb : ∀ b, b ≠ ad 0 0 → b ≠ ad 4 0 → b ≠ q1 → b ≠ q2 → b ≠ pa → w' b = w b) : RLa G (sF (sF (sF (sI (sI M 0 0) 29 (M.1 29 + 1)) 30 R u) 33 R 1) 34 R (M.1 29)) (adu (adu (adu ad 17 R q1) 15 R q2) 16 R pa) (gu gi 2 R (fun _ => 0)) w' := by
  have brc := bt_iff.mp hrc
  have cR := cl_toInt (x := M.1 29) brc.1
  have t29 := ti_add (a := M.1 29) (b := 1) (y := 1) rfl rfl (by omega)
  obtain ⟨z35, z36, z37⟩ := hfr R hR20 (by omega)
  have enR : M.1 29 = nI R := by rw [hR, nI_cl brc.1]
  have c29 : (sF (sF (sF (sI (sI M 0 0) 29 (M.1 29 + 1)) 30 R u) 33 R 1) 34 R (M.1 29)).1 29 = M.1 29 + 1 := rfl
  have g30 : (sF (sF (sF (sI (sI M 0 0) 29 (M.1 29 + 1)) 30 R u) 33 R 1) 34 R (M.1 29)).2.2 30 = upd (M.2.2 30) R u := rfl
  have g33 : (sF (sF (sF (sI (sI M 0 0) 29 (M.1 29 + 1)) 30 R u) 33 R 1) 34 R (M.1 29)).2.2 33 = upd (M.2.2 33) R 1 := rfl
  have g34 : (sF (sF (sF (sI (sI M 0 0) 29 (M.1 29 + 1)) 30 R u) 33 R 1) 34 R (M.1 29)).2.2 34 = upd (M.2.2 34) R (M.1 29) := rfl
  generalize hM' : sF (sF (sF (sI (sI M 0 0) 29 (M.1 29 + 1)) 30 R u) 33 R 1) 34 R (M.1 29) = M' at *
  have m1 : M'.2.2 1 = M.2.2 1 := hM' ▸ (rfl : (sF (sF (sF (sI (sI M 0 0) 29 (M.1 29 + 1)) 30 R u) 33 R 1) 34 R (M.1 29)).2.2 1 = M.2.2 1)
  have m2 : M'.2.2 2 = M.2.2 2 := hM' ▸ (rfl : (sF (sF (sF (sI (sI M 0 0) 29 (M.1 29 + 1)) 30 R u) 33 R 1) 34 R (M.1 29)).2.2 2 = M.2.2 2)
  have m3 : M'.2.2 3 = M.2.2 3 := hM' ▸ (rfl : (sF (sF (sF (sI (sI M 0 0) 29 (M.1 29 + 1)) 30 R u) 33 R 1) 34 R (M.1 29)).2.2 3 = M.2.2 3)
  have m4 : M'.2.2 4 = M.2.2 4 := hM' ▸ (rfl : (sF (sF (sF (sI (sI M 0 0) 29 (M.1 29 + 1)) 30 R u) 33 R 1) 34 R (M.1 29)).2.2 4 = M.2.2 4)
  have m6 : M'.2.2 6 = M.2.2 6 := hM' ▸ (rfl : (sF (sF (sF (sI (sI M 0 0) 29 (M.1 29 + 1)) 30 R u) 33 R 1) 34 R (M.1 29)).2.2 6 = M.2.2 6)
  have m8 : M'.2.2 8 = M.2.2 8 := hM' ▸ (rfl : (sF (sF (sF (sI (sI M 0 0) 29 (M.1 29 + 1)) 30 R u) 33 R 1) 34 R (M.1 29)).2.2 8 = M.2.2 8)
  have m9 : M'.2.2 9 = M.2.2 9 := hM' ▸ (rfl : (sF (sF (sF (sI (sI M 0 0) 29 (M.1 29 + 1)) 30 R u) 33 R 1) 34 R (M.1 29)).2.2 9 = M.2.2 9)
  have m10 : M'.2.2 10 = M.2.2 10 := hM' ▸ (rfl : (sF (sF (sF (sI (sI M 0 0) 29 (M.1 29 + 1)) 30 R u) 33 R 1) 34 R (M.1 29)).2.2 10 = M.2.2 10)
  have m11 : M'.2.2 11 = M.2.2 11 := hM' ▸ (rfl : (sF (sF (sF (sI (sI M 0 0) 29 (M.1 29 + 1)) 30 R u) 33 R 1) 34 R (M.1 29)).2.2 11 = M.2.2 11)
  have m12 : M'.2.2 12 = M.2.2 12 := hM' ▸ (rfl : (sF (sF (sF (sI (sI M 0 0) 29 (M.1 29 + 1)) 30 R u) 33 R 1) 34 R (M.1 29)).2.2 12 = M.2.2 12)
  have m13 : M'.2.2 13 = M.2.2 13 := hM' ▸ (rfl : (sF (sF (sF (sI (sI M 0 0) 29 (M.1 29 + 1)) 30 R u) 33 R 1) 34 R (M.1 29)).2.2 13 = M.2.2 13)
  have m14 : M'.2.2 14 = M.2.2 14 := hM' ▸ (rfl : (sF (sF (sF (sI (sI M 0 0) 29 (M.1 29 + 1)) 30 R u) 33 R 1) 34 R (M.1 29)).2.2 14 = M.2.2 14)
  have m15 : M'.2.2 15 = M.2.2 15 := hM' ▸ (rfl : (sF (sF (sF (sI (sI M 0 0) 29 (M.1 29 + 1)) 30 R u) 33 R 1) 34 R (M.1 29)).2.2 15 = M.2.2 15)
  have m16 : M'.2.2 16 = M.2.2 16 := hM' ▸ (rfl : (sF (sF (sF (sI (sI M 0 0) 29 (M.1 29 + 1)) 30 R u) 33 R 1) 34 R (M.1 29)).2.2 16 = M.2.2 16)
  have m17 : M'.2.2 17 = M.2.2 17 := hM' ▸ (rfl : (sF (sF (sF (sI (sI M 0 0) 29 (M.1 29 + 1)) 30 R u) 33 R 1) 34 R (M.1 29)).2.2 17 = M.2.2 17)
  have m18 : M'.2.2 18 = M.2.2 18 := hM' ▸ (rfl : (sF (sF (sF (sI (sI M 0 0) 29 (M.1 29 + 1)) 30 R u) 33 R 1) 34 R (M.1 29)).2.2 18 = M.2.2 18)
  have m19 : M'.2.2 19 = M.2.2 19 := hM' ▸ (rfl : (sF (sF (sF (sI (sI M 0 0) 29 (M.1 29 + 1)) 30 R u) 33 R 1) 34 R (M.1 29)).2.2 19 = M.2.2 19)
  have m23 : M'.2.2 23 = M.2.2 23 := hM' ▸ (rfl : (sF (sF (sF (sI (sI M 0 0) 29 (M.1 29 + 1)) 30 R u) 33 R 1) 34 R (M.1 29)).2.2 23 = M.2.2 23)
  have m24 : M'.2.2 24 = M.2.2 24 := hM' ▸ (rfl : (sF (sF (sF (sI (sI M 0 0) 29 (M.1 29 + 1)) 30 R u) 33 R 1) 34 R (M.1 29)).2.2 24 = M.2.2 24)
  have m25 : M'.2.2 25 = M.2.2 25 := hM' ▸ (rfl : (sF (sF (sF (sI (sI M 0 0) 29 (M.1 29 + 1)) 30 R u) 33 R 1) 34 R (M.1 29)).2.2 25 = M.2.2 25)
  have m31 : M'.2.2 31 = M.2.2 31 := hM' ▸ (rfl : (sF (sF (sF (sI (sI M 0 0) 29 (M.1 29 + 1)) 30 R u) 33 R 1) 34 R (M.1 29)).2.2 31 = M.2.2 31)
  have m32 : M'.2.2 32 = M.2.2 32 := hM' ▸ (rfl : (sF (sF (sF (sI (sI M 0 0) 29 (M.1 29 + 1)) 30 R u) 33 R 1) 34 R (M.1 29)).2.2 32 = M.2.2 32)
  have m35 : M'.2.2 35 = M.2.2 35 := hM' ▸ (rfl : (sF (sF (sF (sI (sI M 0 0) 29 (M.1 29 + 1)) 30 R u) 33 R 1) 34 R (M.1 29)).2.2 35 = M.2.2 35)
  have m36 : M'.2.2 36 = M.2.2 36 := hM' ▸ (rfl : (sF (sF (sF (sI (sI M 0 0) 29 (M.1 29 + 1)) 30 R u) 33 R 1) 34 R (M.1 29)).2.2 36 = M.2.2 36)
  have m37 : M'.2.2 37 = M.2.2 37 := hM' ▸ (rfl : (sF (sF (sF (sI (sI M 0 0) 29 (M.1 29 + 1)) 30 R u) 33 R 1) 34 R (M.1 29)).2.2 37 = M.2.2 37)
  have m42 : M'.2.2 42 = M.2.2 42 := hM' ▸ (rfl : (sF (sF (sF (sI (sI M 0 0) 29 (M.1 29 + 1)) 30 R u) 33 R 1) 34 R (M.1 29)).2.2 42 = M.2.2 42)
  have m43 : M'.2.2 43 = M.2.2 43 := hM' ▸ (rfl : (sF (sF (sF (sI (sI M 0 0) 29 (M.1 29 + 1)) 30 R u) 33 R 1) 34 R (M.1 29)).2.2 43 = M.2.2 43)
  have i5 : M'.1 5 = M.1 5 := hM' ▸ (rfl : (sF (sF (sF (sI (sI M 0 0) 29 (M.1 29 + 1)) 30 R u) 33 R 1) 34 R (M.1 29)).1 5 = M.1 5)
  have i7 : M'.1 7 = M.1 7 := hM' ▸ (rfl : (sF (sF (sF (sI (sI M 0 0) 29 (M.1 29 + 1)) 30 R u) 33 R 1) 34 R (M.1 29)).1 7 = M.1 7)
  have i20 : M'.1 20 = M.1 20 := hM' ▸ (rfl : (sF (sF (sF (sI (sI M 0 0) 29 (M.1 29 + 1)) 30 R u) 33 R 1) 34 R (M.1 29)).1 20 = M.1 20)
  have i26 : M'.1 26 = M.1 26 := hM' ▸ (rfl : (sF (sF (sF (sI (sI M 0 0) 29 (M.1 29 + 1)) 30 R u) 33 R 1) 34 R (M.1 29)).1 26 = M.1 26)
  have i27 : M'.1 27 = M.1 27 := hM' ▸ (rfl : (sF (sF (sF (sI (sI M 0 0) 29 (M.1 29 + 1)) 30 R u) 33 R 1) 34 R (M.1 29)).1 27 = M.1 27)
  have i28 : M'.1 28 = M.1 28 := hM' ▸ (rfl : (sF (sF (sF (sI (sI M 0 0) 29 (M.1 29 + 1)) 30 R u) 33 R 1) 34 R (M.1 29)).1 28 = M.1 28)
  have i38 : M'.1 38 = M.1 38 := hM' ▸ (rfl : (sF (sF (sF (sI (sI M 0 0) 29 (M.1 29 + 1)) 30 R u) 33 R 1) 34 R (M.1 29)).1 38 = M.1 38)
  have i39 : M'.1 39 = M.1 39 := hM' ▸ (rfl : (sF (sF (sF (sI (sI M 0 0) 29 (M.1 29 + 1)) 30 R u) 33 R 1) 34 R (M.1 29)).1 39 = M.1 39)
  have i40 : M'.1 40 = M.1 40 := hM' ▸ (rfl : (sF (sF (sF (sI (sI M 0 0) 29 (M.1 29 + 1)) 30 R u) 33 R 1) 34 R (M.1 29)).1 40 = M.1 40)
  have i41 : M'.1 41 = M.1 41 := hM' ▸ (rfl : (sF (sF (sF (sI (sI M 0 0) 29 (M.1 29 + 1)) 30 R u) 33 R 1) 34 R (M.1 29)).1 41 = M.1 41)
  have i44 : M'.1 44 = M.1 44 := hM' ▸ (rfl : (sF (sF (sF (sI (sI M 0 0) 29 (M.1 29 + 1)) 30 R u) 33 R 1) 34 R (M.1 29)).1 44 = M.1 44)
  have i45 : M'.1 45 = M.1 45 := hM' ▸ (rfl : (sF (sF (sF (sI (sI M 0 0) 29 (M.1 29 + 1)) 30 R u) 33 R 1) 34 R (M.1 29)).1 45 = M.1 45)
  have l0 : M'.2.1 = M.2.1 := hM' ▸ (rfl : (sF (sF (sF (sI (sI M 0 0) 29 (M.1 29 + 1)) 30 R u) 33 R 1) 34 R (M.1 29)).2.1 = M.2.1)
  generalize hA' : adu (adu (adu ad 17 R q1) 15 R q2) 16 R pa = ad' at *
  have d0 : ad' 0 = ad 0 := hA' ▸ (rfl : (adu (adu (adu ad 17 R q1) 15 R q2) 16 R pa) 0 = ad 0)
  have d1 : ad' 1 = ad 1 := hA' ▸ (rfl : (adu (adu (adu ad 17 R q1) 15 R q2) 16 R pa) 1 = ad 1)
  have d2 : ad' 2 = ad 2 := hA' ▸ (rfl : (adu (adu (adu ad 17 R q1) 15 R q2) 16 R pa) 2 = ad 2)
  have d3 : ad' 3 = ad 3 := hA' ▸ (rfl : (adu (adu (adu ad 17 R q1) 15 R q2) 16 R pa) 3 = ad 3)
  have d4 : ad' 4 = ad 4 := hA' ▸ (rfl : (adu (adu (adu ad 17 R q1) 15 R q2) 16 R pa) 4 = ad 4)
  have d5 : ad' 5 = ad 5 := hA' ▸ (rfl : (adu (adu (adu ad 17 R q1) 15 R q2) 16 R pa) 5 = ad 5)
  have d6 : ad' 6 = ad 6 := hA' ▸ (rfl : (adu (adu (adu ad 17 R q1) 15 R q2) 16 R pa) 6 = ad 6)
  have d7 : ad' 7 = ad 7 := hA' ▸ (rfl : (adu (adu (adu ad 17 R q1) 15 R q2) 16 R pa) 7 = ad 7)
  have d8 : ad' 8 = ad 8 := hA' ▸ (rfl : (adu (adu (adu ad 17 R q1) 15 R q2) 16 R pa) 8 = ad 8)
  have d9 : ad' 9 = ad 9 := hA' ▸ (rfl : (adu (adu (adu ad 17 R q1) 15 R q2) 16 R pa) 9 = ad 9)
  have d10 : ad' 10 = ad 10 := hA' ▸ (rfl : (adu (adu (adu ad 17 R q1) 15 R q2) 16 R pa) 10 = ad 10)
  have d11 : ad' 11 = ad 11 := hA' ▸ (rfl : (adu (adu (adu ad 17 R q1) 15 R q2) 16 R pa) 11 = ad 11)
  have d12 : ad' 12 = ad 12 := hA' ▸ (rfl : (adu (adu (adu ad 17 R q1) 15 R q2) 16 R pa) 12 = ad 12)
  have d13 : ad' 13 = ad 13 := hA' ▸ (rfl : (adu (adu (adu ad 17 R q1) 15 R q2) 16 R pa) 13 = ad 13)
  have d14 : ad' 14 = ad 14 := hA' ▸ (rfl : (adu (adu (adu ad 17 R q1) 15 R q2) 16 R pa) 14 = ad 14)
  have d18 : ad' 18 = ad 18 := hA' ▸ (rfl : (adu (adu (adu ad 17 R q1) 15 R q2) 16 R pa) 18 = ad 18)
  have d19 : ad' 19 = ad 19 := hA' ▸ (rfl : (adu (adu (adu ad 17 R q1) 15 R q2) 16 R pa) 19 = ad 19)
  have d20 : ad' 20 = ad 20 := hA' ▸ (rfl : (adu (adu (adu ad 17 R q1) 15 R q2) 16 R pa) 20 = ad 20)
  have d21 : ad' 21 = ad 21 := hA' ▸ (rfl : (adu (adu (adu ad 17 R q1) 15 R q2) 16 R pa) 21 = ad 21)
  have d22 : ad' 22 = ad 22 := hA' ▸ (rfl : (adu (adu (adu ad 17 R q1) 15 R q2) 16 R pa) 22 = ad 22)
  have d23 : ad' 23 = ad 23 := hA' ▸ (rfl : (adu (adu (adu ad 17 R q1) 15 R q2) 16 R pa) 23 = ad 23)
  have s17 : ad' 17 R = q1 := by rw [← hA']; exact (adu_s : adu ad 17 R q1 17 R = q1)
  have s15 : ad' 15 R = q2 := by rw [← hA']; exact (adu_s : adu (adu ad 17 R q1) 15 R q2 15 R = q2)
  have s16 : ad' 16 R = pa := by rw [← hA']; exact adu_s
  have a17 : ∀ i, i ≠ R → ad' 17 i = ad 17 i := fun i hi => by rw [← hA']; exact (adu_n hi : adu ad 17 R q1 17 i = ad 17 i)
  have a15 : ∀ i, i ≠ R → ad' 15 i = ad 15 i := fun i hi => by rw [← hA']; exact (adu_n hi : adu (adu ad 17 R q1) 15 R q2 15 i = (adu ad 17 R q1) 15 i)
  have a16 : ∀ i, i ≠ R → ad' 16 i = ad 16 i := fun i hi => by rw [← hA']; exact (adu_n hi : adu (adu (adu ad 17 R q1) 15 R q2) 16 R pa 16 i = (adu (adu ad 17 R q1) 15 R q2) 16 i)
  generalize hG' : gu gi 2 R (fun _ => 0) = gi' at *
  have g2 : ∀ i, i ≠ R → gi' 2 i = gi 2 i := fun i hi => by rw [← hG']; exact if_neg (fun z => hi z.2)
  have gk2 : gi' 2 R = fun _ => 0 := by rw [← hG']; exact if_pos ⟨rfl, rfl⟩
  have x0 : gi' 0 = gi 0 := by rw [← hG']; rfl
  have x1 : gi' 1 = gi 1 := by rw [← hG']; rfl
  have x3 : gi' 3 = gi 3 := by rw [← hG']; rfl
  have x4 : gi' 4 = gi 4 := by rw [← hG']; rfl
  have x5 : gi' 5 = gi 5 := by rw [← hG']; rfl
  have x6 : gi' 6 = gi 6 := by rw [← hG']; rfl
  have x7 : gi' 7 = gi 7 := by rw [← hG']; rfl
  have n30 : ∀ i, i ≠ R → M'.2.2 30 i = M.2.2 30 i := fun i hi => by rw [g30]; exact upd_n hi
  have n33 : ∀ i, i ≠ R → M'.2.2 33 i = M.2.2 33 i := fun i hi => by rw [g33]; exact upd_n hi
  have n34 : ∀ i, i ≠ R → M'.2.2 34 i = M.2.2 34 i := fun i hi => by rw [g34]; exact upd_n hi
  have k33 : M'.2.2 33 R = 1 := by rw [g33]; exact upd_s
  have isr_o : ∀ i, isr M' i → i ≠ R → isr M i := by
    intro i h hi
    unfold isr at *
    rw [c29, t29] at h
    omega
  have ne_R : ∀ i, isr M i → i ≠ R := by
    intro i h z
    unfold isr at h
    omega
  refine rl_addP hL (fun t i => i = R ∧ (t = 17 ∨ t = 15 ∨ t = 16)) (fun _ _ => False) (fun t i => i = 0 ∧ (t = 0 ∨ t = 4)) ?_ ?_ (fun _ _ h => h.elim) (fun t i hl hn0 hn1 => by
    match t, hl, hn0, hn1 with
    | 0, hl, hn0, hn1 => (have h := (show _ ∧ i = 0 from hl).2; subst h; exact ⟨lvf 0 (by decide), congrFun d0 _⟩)
    | 1, hl, hn0, hn1 => (have h := (show _ ∧ i = 0 from hl).2; subst h; exact ⟨lvf 1 (by decide), congrFun d1 _⟩)
    | 2, hl, hn0, hn1 => (have h := (show _ ∧ i = 0 from hl).2; subst h; exact ⟨lvf 2 (by decide), congrFun d2 _⟩)
    | 3, hl, hn0, hn1 => (have h := (show _ ∧ i = 0 from hl).2; subst h; exact ⟨lvf 3 (by decide), congrFun d3 _⟩)
    | 4, hl, hn0, hn1 => (have h := (show _ ∧ i = 0 from hl).2; subst h; exact ⟨lvf 4 (by decide), congrFun d4 _⟩)
    | 5, hl, hn0, hn1 => (have h := (show _ ∧ i = 0 from hl).2; subst h; exact ⟨lvf 5 (by decide), congrFun d5 _⟩)
    | 6, hl, hn0, hn1 => (have h := (show _ ∧ i = 0 from hl).2; subst h; exact ⟨lvf 6 (by decide), congrFun d6 _⟩)
    | 7, hl, hn0, hn1 => (have h := (show _ ∧ i = 0 from hl).2; subst h; exact ⟨lvf 7 (by decide), congrFun d7 _⟩)
    | 8, hl, hn0, hn1 => (have h := (show _ ∧ i = 0 from hl).2; subst h; exact ⟨lvf 8 (by decide), congrFun d8 _⟩)
    | 9, hl, hn0, hn1 => (have h := (show _ ∧ i = 0 from hl).2; subst h; exact ⟨lvf 9 (by decide), congrFun d9 _⟩)
    | 10, hl, hn0, hn1 => (have h := (show _ ∧ i = 0 from hl).2; subst h; exact ⟨lvf 10 (by decide), congrFun d10 _⟩)
    | 11, hl, hn0, hn1 => exact ⟨(by have h : usd M' i := hl; unfold usd uA uF at h; rw [m1, m6, m8, m15] at h; exact h), congrFun d11 _⟩
    | 12, hl, hn0, hn1 => exact ⟨(by have h : usd M' i := hl; unfold usd uA uF at h; rw [m1, m6, m8, m15] at h; exact h), congrFun d12 _⟩
    | 13, hl, hn0, hn1 => exact ⟨(by have h : opn M' i := hl; unfold opn at h; rw [m6] at h; exact h), congrFun d13 _⟩
    | 14, hl, hn0, hn1 => exact ⟨(by have h : opn M' i ∧ M'.2.2 8 i = 0 := hl; unfold opn at h; rw [m6, m8] at h; exact h), congrFun d14 _⟩
    | 15, hl, hn0, hn1 => (by_cases hik : i = R; exact absurd ⟨hik, Or.inr (Or.inl rfl)⟩ hn0; exact ⟨⟨isr_o i (show isr M' i ∧ _ from hl).1 hik, (n34 i hik).symm.trans (show isr M' i ∧ M'.2.2 34 i = nI i from hl).2⟩, a15 i hik⟩)
    | 16, hl, hn0, hn1 => (by_cases hik : i = R; exact absurd ⟨hik, Or.inr (Or.inr rfl)⟩ hn0; exact ⟨⟨isr_o i (show isr M' i ∧ _ from hl).1 hik, (n34 i hik).symm.trans (show isr M' i ∧ M'.2.2 34 i = nI i from hl).2⟩, a16 i hik⟩)
    | 17, hl, hn0, hn1 => (by_cases hik : i = R; exact absurd ⟨hik, Or.inl rfl⟩ hn0; exact ⟨isr_o i hl hik, a17 i hik⟩)
    | 18, hl, hn0, hn1 => (by_cases hik : i = R; exact absurd (show isr M' i ∧ M'.2.2 33 i = 0 from hl).2 (by rw [hik, k33]; decide); exact ⟨⟨isr_o i (show isr M' i ∧ _ from hl).1 hik, (n33 i hik).symm.trans (show isr M' i ∧ M'.2.2 33 i = 0 from hl).2⟩, congrFun d18 _⟩)
    | 19, hl, hn0, hn1 => (by_cases hik : i = R; exact absurd (show isr M' i ∧ M'.2.2 33 i = 0 from hl).2 (by rw [hik, k33]; decide); exact ⟨⟨isr_o i (show isr M' i ∧ _ from hl).1 hik, (n33 i hik).symm.trans (show isr M' i ∧ M'.2.2 33 i = 0 from hl).2⟩, congrFun d19 _⟩)
    | 20, hl, hn0, hn1 => exact ⟨(by have h : i < 4 ∧ 0 ≤ M'.2.2 23 i := hl; rw [m23] at h; exact h), congrFun d20 _⟩
    | 21, hl, hn0, hn1 => exact ⟨(by have h : i < 4 ∧ 0 ≤ M'.2.2 23 i := hl; rw [m23] at h; exact h), congrFun d21 _⟩
    | 22, hl, hn0, hn1 => exact ⟨(by have h : opn M' i ∧ M'.2.2 8 i = 3 := hl; unfold opn at h; rw [m6, m8] at h; exact h), congrFun d22 _⟩
    | 23, hl, hn0, hn1 => exact ⟨(by have h : opn M' i ∧ M'.2.2 8 i = 3 := hl; unfold opn at h; rw [m6, m8] at h; exact h), congrFun d23 _⟩
    | n + 24, hl, hn0, hn1 => exact absurd (show n + 24 ≤ 10 ∧ i = 0 from hl).1 (by omega)) ?_ ?_ (fun t i hl hn0 hn1 hn2 => by
    match t, hl, hn0, hn1, hn2 with
    | 0, hl, hn0, hn1, hn2 => exact absurd ⟨(show _ ∧ i = 0 from hl).2, Or.inl rfl⟩ hn2
    | 1, hl, hn0, hn1, hn2 => (refine cc_1 ?_; rw [cR_c m1 d11])
    | 2, hl, hn0, hn1, hn2 => (refine cc_2 ?_; rw [cG_c m23 d20])
    | 3, hl, hn0, hn1, hn2 => (refine cc_3 ?_; rw [cS_c2 m6 d13])
    | 4, hl, hn0, hn1, hn2 => exact absurd ⟨(show _ ∧ i = 0 from hl).2, Or.inr rfl⟩ hn2
    | 5, hl, hn0, hn1, hn2 => (refine cc_5 ?_; rw [d9, i27, i28])
    | 6, hl, hn0, hn1, hn2 => (refine cc_6 ?_; rw [i39, i40, i44, i45, d7, d8, x3])
    | 7, hl, hn0, hn1, hn2 => (refine cc_7 ?_; rw [m42])
    | 8, hl, hn0, hn1, hn2 => (refine cc_8 ?_; rw [m43])
    | 9, hl, hn0, hn1, hn2 => (refine cc_9 ?_; rw [d10, i26, x7])
    | 10, hl, hn0, hn1, hn2 => (refine cc_10 ?_; rw [x4])
    | 11, hl, hn0, hn1, hn2 => (refine cc_11 ?_; rw [m2, d12])
    | 12, hl, hn0, hn1, hn2 => (refine cc_12 ?_; rw [m3, cArr_c m2 m3 m4])
    | 13, hl, hn0, hn1, hn2 => (refine cc_13 ?_; rw [cSI_c (M := M) (M' := M') (gi := gi) (gi' := gi') (k := i) (by rw [m8]) (by rw [m10]) (by rw [m9]) (by rw [m6]) (by rw [m11]) (by rw [m13]) (by rw [m14]) (by rw [m12]) (by rw [m19]) (by rw [x0]), sAd_c2 m6 d13, m17, cX_c2 (M := M) (M' := M') (ad := ad) (ad' := ad') (k := i) (by rw [m8]) (congrFun d14 _) (fun _ => by unfold rIA; rw [m15, d11]) (by rw [m16]) (fun h8 => a15 _ (ne_R _ (hsf i (by have h : opn M' i := hl; unfold opn at h; rw [m6] at h; exact h) h8).2.1)) (congrFun d22 _)])
    | 14, hl, hn0, hn1, hn2 => (refine cc_14 ?_; rw [x1])
    | 15, hl, hn0, hn1, hn2 => (by_cases hik : i = R; exact absurd ⟨hik, Or.inr (Or.inl rfl)⟩ hn0; refine cc_15 ?_; rw [a16 i hik, m36, m35])
    | 16, hl, hn0, hn1, hn2 => (by_cases hik : i = R; exact absurd ⟨hik, Or.inr (Or.inr rfl)⟩ hn0; refine cc_16 ?_; rw [g2 i hik])
    | 17, hl, hn0, hn1, hn2 => (by_cases hik : i = R; exact absurd ⟨hik, Or.inl rfl⟩ hn0; refine cc_17 ?_; rw [n30 i hik, n33 i hik, n34 i hik, d18, a15 _ (ne_R _ (hFF i (isr_o i hl hik)).1)])
    | 18, hl, hn0, hn1, hn2 => (refine cc_18 ?_; rw [d19])
    | 19, hl, hn0, hn1, hn2 => (refine cc_19 ?_; rw [m32, x5])
    | 20, hl, hn0, hn1, hn2 => (refine cc_20 ?_; rw [d21])
    | 21, hl, hn0, hn1, hn2 => (refine cc_21 ?_; rw [m23, cGiv_c m23 m24])
    | 22, hl, hn0, hn1, hn2 => (refine cc_22 ?_; rw [d23])
    | 23, hl, hn0, hn1, hn2 => (refine cc_23 ?_; rw [m12, x6])
    | n + 24, hl, hn0, hn1, hn2 => exact absurd (show n + 24 ≤ 10 ∧ i = 0 from hl).1 (by omega)) ?_ (fun _ _ h => h.elim) ?_ ?_
  · rintro t i ⟨rfl, rfl | rfl | rfl⟩
    · rw [s17]; exact f1
    · rw [s15]; exact f2
    · rw [s16]; exact f3
  · rintro t i t' i' ⟨rfl, h⟩ ⟨rfl, h'⟩ he
    refine ⟨?_, rfl⟩
    rcases h with rfl | rfl | rfl <;> rcases h' with rfl | rfl | rfl <;> first | rfl | (exfalso; rw [s17, s15] at he; exact h12 he) | (exfalso; rw [s15, s17] at he; exact h12 he.symm) | (exfalso; rw [s17, s16] at he; exact h13 he) | (exfalso; rw [s16, s17] at he; exact h13 he.symm) | (exfalso; rw [s15, s16] at he; exact h23 he) | (exfalso; rw [s16, s15] at he; exact h23 he.symm)
  · rintro t i ⟨rfl, rfl | rfl⟩
    · exact ⟨lvf 0 (by decide), rfl⟩
    · exact ⟨lvf 4 (by decide), rfl⟩
  · intro b hN hl
    have b1 := hN 17 R ⟨rfl, Or.inl rfl⟩
    have b2 := hN 15 R ⟨rfl, Or.inr (Or.inl rfl)⟩
    have b3 := hN 16 R ⟨rfl, Or.inr (Or.inr rfl)⟩
    rw [s17] at b1
    rw [s15] at b2
    rw [s16] at b3
    exact hb b (hl 0 0 ⟨rfl, Or.inl rfl⟩) (hl 4 0 ⟨rfl, Or.inr rfl⟩) b1 b2 b3
  · rintro t i ⟨rfl, rfl | rfl | rfl⟩ _
    · show w' (ad' 17 i) = some (.inr (8, [.int (M'.2.2 30 i), .ref (if M'.2.2 33 i = 0 then ad' 18 i else gK G 1), .int (M'.2.2 33 i), .ref (ad' 15 (M'.2.2 34 i).toNatClampNeg)]))
      have k30 : M'.2.2 30 i = u := by rw [g30]; exact upd_s
      have k34 : M'.2.2 34 i = M.1 29 := by rw [g34]; exact upd_s
      rw [s17, k30, k33, k34, ← hR, s15, if_neg (by decide)]
      exact e1
    · show w' (ad' 15 i) = some (.inr (10, [.ref (ad' 16 i), .int (M'.2.2 36 i), .int (M'.2.2 35 i)]))
      rw [s15, s16, m36, m35, z35, z36]
      exact e2
    · show w' (ad' 16 i) = some (.inl (gA G 1, 60, .inl (gi' 2 i)))
      rw [s16, gk2]
      exact e3
  · rintro t i ⟨rfl, rfl | rfl⟩ _ _ _
    · show w' (ad 0 0) = some (oC (ad' 1 0) (ad' 2 0) (ad' 3 0) (ad' 4 0) (ad' 5 0) (ad' 6 0) (sAd M' ad' (M'.1 20)) (M'.1 7) (M'.1 29) (M'.1 38) (M'.2.1 21).toInt32 (M'.2.1 22).toInt32 (M'.1 5))
      rw [d1, d2, d3, d4, d5, d6, sAd_c2 m6 d13, i20, i7, c29, i38, l0, i5]
      exact h0
    · show w' (ad 4 0) = some (rA (gA G 6) 20 (cF M' ad'))
      have e : cF M' ad' = va_up (cF M ad) R (some q1) := by
        funext j
        unfold cF va_up
        rw [c29, t29]
        by_cases hj : j = R
        · rw [if_pos hj, if_pos (by omega), hj, s17]
        · rw [if_neg hj, a17 j hj]
          show _ = if (j : Int) < (M.1 29).toInt then some (ad 17 j) else none
          by_cases hz : (j : Int) < (M.1 29).toInt
          · rw [if_pos hz, if_pos (by omega)]
          · rw [if_neg hz, if_neg (by omega)]
      rw [e]
      exact h4
  · refine ⟨?_, ?_, ?_, ?_, ?_, ?_⟩
    · unfold sd_p opn; rw [m6, m8, m19, m18, x0, x1]; exact hL.2.2.1
    · intro f hf j hj
      rw [m37]
      by_cases hz : f = R
      · rw [hz, gk2, z37 j hj]; show (0 : Int32) &&& 255 = 0; decide
      · rw [g2 f hz]; exact hL.2.2.2.1 f hf j hj
    · unfold sd_t; rw [i39, i40, i41, x3]; exact hL.2.2.2.2.1
    · unfold sd_n; rw [i26, m25, x4]; exact hL.2.2.2.2.2.1
    · intro r hr h33 j hj
      have hrR : r ≠ R := fun z => by rw [z, k33] at h33; exact absurd h33 (by decide)
      rw [n33 r hrR] at h33
      rw [m32] at hj
      rw [x5, m31]
      exact hL.2.2.2.2.2.2.1 r (isr_o r hr hrR) h33 j hj
    · unfold sd_r opn; rw [m6, m8, m12, m18, m9, x6]; exact hL.2.2.2.2.2.2.2
set_option maxRecDepth 100000 in
set_option maxHeartbeats 4000000 in
theorem kX10_refer (G : GG) (l : Launch) (M : MS) (ad : AD) (gi : GI) (w : WM) (hL : RLa G M ad gi w) (h20 : bt (M.1 29) 0 19) (b nm fl : Nat) (us tm : Int32) (hB : w b = some (.inr (8, [.int us, .ref nm, .int tm, .ref fl]))) : MC G l yX10_refer cX10_refer 2 ((Option.some .int)) ({ frames := 0, cells := 0, slots := 0, locals := 0 } : Room) [.ref (ad 0 0), .ref b] w (fun v w' => v = some (.int (M.1 29)) ∧ w' (ad 4 0) = some (rA (gA G 6) 20 (va_up (cF M ad) (M.1 29).toNatClampNeg (some b))) ∧ w' (ad 0 0) = some (oC (ad 1 0) (ad 2 0) (ad 3 0) (ad 4 0) (ad 5 0) (ad 6 0) (sAd M ad (M.1 20)) (M.1 7) (M.1 29 + 1) (M.1 38) (M.2.1 21).toInt32 (M.2.1 22).toInt32 (M.1 5)) ∧ ∀ c, c ≠ ad 4 0 → c ≠ ad 0 0 → w' c = w c) := by
  refine mc_int (by decide) (Nat.le_of_ble_eq_true rfl) rfl rfl ?_
  intro p e s m args below meth c A H0 Q X hnm RTN
  have X : Cx G p s m args meth c A H0 cX10_refer 2 RX10 := X
  have k0_ : w (ad 0 0) = some (.inr (11, [.ref (ad 1 0), .ref (ad 2 0), .ref (ad 3 0), .ref (ad 4 0), .ref (ad 5 0), .ref (ad 6 0), va_rf (sAd M ad (M.1 20)), .int (M.1 7), .int (M.1 29), .int (M.1 38), .int ((M.2.1 21).toInt32), .int ((M.2.1 22).toInt32), .int (M.1 5)])) := hL.1 0 0 (lvf 0 (by decide))
  have k4_ : w (ad 4 0) = some (rA (gA G 6) 20 (cF M ad)) := hL.1 4 0 (lvf 4 (by decide))
  refine aw_aload_n X dX10_refer_0 rfl rfl ?_
  refine aw_get X okX10 (k := 3) k0_ (Nat.le_of_ble_eq_true rfl) fl_X10_28 (Or.inl rfl) rfl dX10_refer_1 ?_
  refine aw_aload_n X dX10_refer_4 rfl rfl ?_
  refine aw_get X okX10 (k := 8) k0_ (Nat.le_of_ble_eq_true rfl) fl_X10_282 (Or.inl rfl) rfl dX10_refer_5 ?_
  refine aw_aload_n X dX10_refer_8 rfl rfl ?_
  refine aw_aast2 X 6 okX6 k4_ rfl hB (bt_vp h20 (by decide) (by decide)) dX10_refer_9 (fun w101 hk102 hn103 he104 => ?_)
  have hk105 := (hn103 _ (rl_ne hL (t := 0) (i := 0) (t' := 4) (i' := 0) (lvf 0 (by decide)) (lvf 4 (by decide)) (Or.inl rfl) (fun z => absurd z.1 (by decide)))).trans k0_
  have hk106 := (hn103 _ (ne_oa hB k4_)).trans hB
  refine aw_aload_n X dX10_refer_10 rfl rfl ?_
  refine aw_dup X dX10_refer_11 rfl ?_
  refine aw_get X okX10 (k := 8) hk105 (Nat.le_of_ble_eq_true rfl) fl_X10_282 (Or.inl rfl) rfl dX10_refer_12 ?_
  refine aw_iconst X dX10_refer_15 ci_1 ?_
  refine aw_iadd X dX10_refer_16 ?_
  refine aw_put2 X okX10 (k := 8) (fs' := [.ref (ad 1 0), .ref (ad 2 0), .ref (ad 3 0), .ref (ad 4 0), .ref (ad 5 0), .ref (ad 6 0), va_rf (sAd M ad (M.1 20)), .int (M.1 7), .int ((M.1 29) + 1), .int (M.1 38), .int ((M.2.1 21).toInt32), .int ((M.2.1 22).toInt32), .int (M.1 5)]) hk105 (Nat.le_of_ble_eq_true rfl) fl_X10_282 (Or.inl rfl) rfl (rfl ) ( rfl) (Nat.le_of_ble_eq_true rfl) rfl dX10_refer_17 (fun w107 hk108 hn109 he110 => ?_)
  have hk111 := (hn109 _ (rl_ne hL (t := 4) (i := 0) (t' := 0) (i' := 0) (lvf 4 (by decide)) (lvf 0 (by decide)) (Or.inl rfl) (fun z => absurd z.1 (by decide)))).trans hk102
  have hk112 := (hn109 _ (ne_ci hk106 hk105 (by decide))).trans hk106
  refine aw_aload_n X dX10_refer_20 rfl rfl ?_
  refine aw_get X okX10 (k := 8) hk108 (Nat.le_of_ble_eq_true rfl) fl_X10_282 (Or.inl rfl) rfl dX10_refer_21 ?_
  refine aw_iconst X dX10_refer_24 ci_1 ?_
  refine aw_isub X dX10_refer_25 ?_
  refine RTN (some (.int _)) _ _ _ _ _ dX10_refer_26 (⟨_, rfl⟩) (Nat.le_of_ble_eq_true rfl) (Nat.le_of_ble_eq_true rfl) ?_
  exact ⟨by rw [Int32.add_sub_cancel], hk111, hk108, fun c h1 h2 => by rw [he110, wm_upn h2, he104, wm_upn h1]⟩
set_option maxRecDepth 100000 in
set_option maxHeartbeats 4000000 in
theorem kX10_temporary (G : GG) (l : Launch) (M : MS) (ad : AD) (gi : GI) (w : WM) (hL : RLa G M ad gi w) (hrc : mi_refs M) (hFF : mi_ff M) (hsf : mi_sf M) (hfr : mi_fr M) (u : Int32) : MC G l yX10_temporary cX10_temporary 2 ((Option.some .int)) ({ frames := 2, cells := 3, slots := 67, locals := 44 } : Room) [.ref (ad 0 0), .int u] w (fun v w' => v = some (.int (mo_temporary M u).1) ∧ ∃ ad' gi', RLa G (mo_temporary M u).2 ad' gi' w' ∧ ad' 0 0 = ad 0 0) := by
  refine mc_int (by decide) (Nat.le_of_ble_eq_true rfl) rfl rfl ?_
  intro p e s m args below meth c A H0 Q X hnm RTN
  have X : Cx G p s m args meth c A H0 cX10_temporary 2 RX10 := X
  have k0_ : w (ad 0 0) = some (.inr (11, [.ref (ad 1 0), .ref (ad 2 0), .ref (ad 3 0), .ref (ad 4 0), .ref (ad 5 0), .ref (ad 6 0), va_rf (sAd M ad (M.1 20)), .int (M.1 7), .int (M.1 29), .int (M.1 38), .int ((M.2.1 21).toInt32), .int ((M.2.1 22).toInt32), .int (M.1 5)])) := hL.1 0 0 (lvf 0 (by decide))
  have k4_ : w (ad 4 0) = some (rA (gA G 6) 20 (cF M ad)) := hL.1 4 0 (lvf 4 (by decide))
  refine aw_iload_n X dX10_temporary_0 rfl rfl ?_
  refine aw_callS X (kX10_isUse _ _ _ _) okm_X10_isUse ml_X10_276 st_X10_isUse rfl rfl (Nat.le_of_ble_eq_true rfl) ⟨Nat.le_of_ble_eq_true rfl, Nat.le_of_ble_eq_true rfl, Nat.le_of_ble_eq_true rfl, Nat.le_of_ble_eq_true rfl⟩ dX10_temporary_1 (fun v w2 hp => ?_)
  obtain ⟨rfl, hw9⟩ := hp
  have hw9 := hw9.symm
  subst hw9
  refine aw_if_ne (tgt := 10) X dX10_temporary_4 rfl (fun c4 => ?_) (fun c4 => ?_)
  · rw [bI_n0] at c4
    refine aw_aload_n X dX10_temporary_10 rfl rfl ?_
    refine aw_get X okX10 (k := 8) k0_ (Nat.le_of_ble_eq_true rfl) fl_X10_282 (Or.inl rfl) rfl dX10_temporary_11 ?_
    refine aw_bipush X dX10_temporary_14 cb_20 ?_
    refine aw_icmp_lt (tgt := 22) X dX10_temporary_16 rfl (fun c16 => ?_) (fun c16 => ?_)
    · refine aw_aload_n X dX10_temporary_22 rfl rfl ?_
      refine aw_new2 X okX6 cl_X10_26 is_X6 in_X6 rfl (Nat.le_of_ble_eq_true rfl) (Nat.le_of_ble_eq_true rfl) dX10_temporary_23 (fun q113 w114 hf115 hk116 hn117 he118 => ?_)
      have hk119 := (hn117 _ (ne_fr k0_ hf115)).trans k0_
      have hk120 := (hn117 _ (ne_fr k4_ hf115)).trans k4_
      refine aw_dup X dX10_temporary_26 rfl ?_
      refine aw_iload_n X dX10_temporary_27 rfl rfl ?_
      refine aw_ldcwS X X.2.2.2.2.2.2.2.2.2.2.2.2.2.2.2.2.2.2.1 dX10_temporary_28 ?_
      refine aw_iconst X dX10_temporary_31 ci_1 ?_
      refine aw_new2 X okX8 cl_X10_134 is_X8 in_X8 rfl (Nat.le_of_ble_eq_true rfl) (Nat.le_of_ble_eq_true rfl) dX10_temporary_32 (fun q121 w122 hf123 hk124 hn125 he126 => ?_)
      have hk127 := (hn125 _ (ne_fr hk119 hf123)).trans hk119
      have hk128 := (hn125 _ (ne_fr hk120 hf123)).trans hk120
      have hk129 := (hn125 _ (ne_fr hk116 hf123)).trans hk116
      refine aw_dup X dX10_temporary_35 rfl ?_
      refine aw_callI X (kX8_init _ _ _ q121 hk124) okm_X8_init rfl ml_X10_302 im_X8_init rfl rfl (Nat.le_of_ble_eq_true rfl) ⟨Nat.le_of_ble_eq_true rfl, Nat.le_of_ble_eq_true rfl, Nat.le_of_ble_eq_true rfl, Nat.le_of_ble_eq_true rfl⟩ dX10_temporary_36 (fun v w2 hp => ?_)
      obtain ⟨rfl, va130, hf131, hk132, hk133, hb134⟩ := hp
      have hk135 := (hb134 (ad 0 0) (ne_ci hk127 hk124 (by decide)) (ne_fr hk127 hf131)).trans hk127
      have hk136 := (hb134 (ad 4 0) (Ne.symm (ne_oa hk124 hk128)) (ne_fr hk128 hf131)).trans hk128
      have hk137 := (hb134 q113 (ne_ci hk129 hk124 (by decide)) (ne_fr hk129 hf131)).trans hk129
      refine aw_callI X (kX6_init _ _ _ q113 (gK G 1) q121 _ _ (Or.inr rfl) hk137) okm_X6_init rfl ml_X10_293 im_X6_init rfl rfl (Nat.le_of_ble_eq_true rfl) ⟨Nat.le_of_ble_eq_true rfl, Nat.le_of_ble_eq_true rfl, Nat.le_of_ble_eq_true rfl, Nat.le_of_ble_eq_true rfl⟩ dX10_temporary_39 (fun v w2 hp => ?_)
      obtain ⟨rfl, hw138⟩ := hp
      have hk139 := (congrFun hw138 q113).trans wm_ups
      have hk140 := ((congrFun hw138 (ad 0 0)).trans (wm_upn (ne_ci hk135 hk137 (by decide)))).trans hk135
      have hk141 := ((congrFun hw138 (ad 4 0)).trans (wm_upn (Ne.symm (ne_oa hk137 hk136)))).trans hk136
      have hk142 := ((congrFun hw138 q121).trans (wm_upn (ne_ci hk132 hk137 (by decide)))).trans hk132
      have hk143 := ((congrFun hw138 va130).trans (wm_upn (Ne.symm (ne_oa hk137 hk133)))).trans hk133
      have n21 : q113 ≠ q121 := ne_fr hk116 hf123
      have hq2 : w q121 = none := by have h := hf123; rw [he118, wm_upn (Ne.symm n21)] at h; exact h
      have n2p : q121 ≠ va130 := ne_fr hk124 hf131
      have n1p : q113 ≠ va130 := by intro z; have h := hf131; rw [← z, he126, wm_upn n21, hk116] at h; cases h
      have hpa : w va130 = none := by have h := hf131; rw [he126, wm_upn (Ne.symm n2p), he118, wm_upn (Ne.symm n1p)] at h; exact h
      have hwb : ∀ b, b ≠ q113 → b ≠ q121 → b ≠ va130 → w2 b = w b := fun b h1 h2 h3 => by rw [hw138, wm_upn h1, hb134 b h2 h3, he126, wm_upn h2, he118, wm_upn h1]
      have hL2 : RLa G M ad gi w2 := rl_ext hL (fun c hc => hwb c (fun z => hc (by rw [z]; exact hf115)) (fun z => hc (by rw [z]; exact hq2)) (fun z => hc (by rw [z]; exact hpa)))
      have brc := bt_iff.mp hrc
      have h20 : bt (M.1 29) 0 19 = true := by rw [i32_lt] at c16; have e20 : (20 : Int32).toInt = 20 := rfl; exact bt_iff.mpr ⟨by omega, by omega⟩
      refine aw_callV X (kX10_refer _ _ _ _ _ _ hL2 h20 q113 _ _ _ _ hk139) okm_X10_refer okX10 hk140 ml_X10_296 im_X10_refer se_X10_X10_refer rfl rfl (Nat.le_of_ble_eq_true rfl) ⟨Nat.le_of_ble_eq_true rfl, Nat.le_of_ble_eq_true rfl, Nat.le_of_ble_eq_true rfl, Nat.le_of_ble_eq_true rfl⟩ dX10_temporary_42 (fun v w2 hp => ?_)
      obtain ⟨rfl, hA4, hA0, hAb⟩ := hp
      refine RTN (some (.int _)) _ _ _ _ _ dX10_temporary_45 (⟨_, rfl⟩) (Nat.le_of_ble_eq_true rfl) (Nat.le_of_ble_eq_true rfl) ?_
      have h9 : ¬ M.1 29 = 20 := by intro h; rw [h] at c16; exact absurd c16 (by decide)
      have hm : mo_temporary M u = (M.1 29, sF (sF (sF (sI (sI M 0 0) 29 (M.1 29 + 1)) 30 (M.1 29).toNatClampNeg u) 33 (M.1 29).toNatClampNeg 1) 34 (M.1 29).toNatClampNeg (M.1 29)) := by unfold mo_temporary; rw [if_pos c4, if_neg h9]
      rw [hm]
      exact ⟨rfl, _, _, rl_tmp hL hrc hFF hsf hfr rfl (by have := bt_iff.mp h20; have := cl_toInt (x := M.1 29) (by omega); omega) (fr_ad hL hf115) (fr_ad hL hq2) (fr_ad hL hpa) n21 n1p n2p hA4 hA0 ((hAb q113 (fr_ad hL hf115 4 0 (lvf 4 (by decide))) (fr_ad hL hf115 0 0 (lvf 0 (by decide)))).trans hk139) ((hAb q121 (fr_ad hL hq2 4 0 (lvf 4 (by decide))) (fr_ad hL hq2 0 0 (lvf 0 (by decide)))).trans hk142) ((hAb va130 (fr_ad hL hpa 4 0 (lvf 4 (by decide))) (fr_ad hL hpa 0 0 (lvf 0 (by decide)))).trans hk143) (fun b h1 h2 h3 h4 h5 => by rw [hAb b h2 h1, hwb b h3 h4 h5]), rfl⟩
    · refine aw_bipush X dX10_temporary_19 cb_m5 ?_
      refine RTN (some (.int _)) _ _ _ _ _ dX10_temporary_21 (⟨_, rfl⟩) (Nat.le_of_ble_eq_true rfl) (Nat.le_of_ble_eq_true rfl) ?_
      have h9 : M.1 29 = 20 := by have brc := bt_iff.mp hrc; rw [i32_lt] at c16; have e20 : (20 : Int32).toInt = 20 := rfl; exact (i32_eq _ 20).mpr (by omega)
      have hm : mo_temporary M u = (-5, sI M 0 0) := by unfold mo_temporary; rw [if_pos c4, if_pos h9]
      rw [hm]
      exact ⟨rfl, ad, gi, rl_0 hL, rfl⟩
  · rw [bI_0] at c4
    refine aw_bipush X dX10_temporary_7 cb_m3 ?_
    refine RTN (some (.int _)) _ _ _ _ _ dX10_temporary_9 (⟨_, rfl⟩) (Nat.le_of_ble_eq_true rfl) (Nat.le_of_ble_eq_true rfl) ?_
    have hm : mo_temporary M u = (-3, sI M 0 0) := by simp only [mo_temporary, c4, if_true, if_false, not_true_eq_false, not_false_eq_true, and_self, true_and, and_true, false_and, and_false, or_true, true_or, or_false, false_or, reduceCtorEq, ne_eq, va_us, pk_us]
    rw [hm]
    exact ⟨rfl, ad, gi, rl_0 hL, rfl⟩
