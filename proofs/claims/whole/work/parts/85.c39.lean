/-! signs great and small, dates: the class and the reference -/
theorem up_eq {M : MS} {c : Int32} : (mo_upper M c).1 = cl_upper c := by
  have e1 : (247 : Int32).toInt = 247 := rfl
  have e2 : (962 : Int32).toInt = 962 := rfl
  have e3 : (255 : Int32).toInt = 255 := rfl
  have a0 := @bt_iff c 0 1114111
  have a1 := @bt_iff c 97 122
  have a2 := @bt_iff c 224 254
  have a3 := @bt_iff c 945 969
  have a4 := @bt_iff c 1072 1103
  have a5 := @bt_iff c 1104 1119
  have a6 := @bt_iff c 257 303
  have q1 := i32_eq c 247
  have q2 := i32_eq c 962
  have q3 := i32_eq c 255
  rw [e1] at q1
  rw [e2] at q2
  rw [e3] at q3
  unfold mo_upper cl_upper cl_cd
  show (if bt c 0 1114111 = true then _ else _) = _
  by_cases h0 : bt c 0 1114111 = true
  · rw [if_pos h0, if_pos h0]
    by_cases h3 : c = 255
    · have h4 := q3.mp h3
      have n1 : ¬ (bt c 97 122 = true ∨ (bt c 224 254 = true ∧ ¬ c = 247) ∨ (bt c 945 969 = true ∧ ¬ c = 962) ∨ bt c 1072 1103 = true) := by simp only [bt_iff]; omega
      have n2 : ¬ bt c 1104 1119 = true := by simp only [bt_iff]; omega
      have n3 : ¬ (bt c 257 303 = true ∧ c - c / 2 * 2 = 1) := by simp only [bt_iff]; omega
      rw [if_neg n1, if_neg n2, if_neg n3, if_pos h3, if_pos h3]
    · rw [if_neg h3]
      by_cases h2 : c = 962
      · have h4 := q2.mp h2
        have n1 : ¬ (bt c 97 122 = true ∨ (bt c 224 254 = true ∧ ¬ c = 247) ∨ (bt c 945 969 = true ∧ ¬ c = 962) ∨ bt c 1072 1103 = true) := by
          rintro (z | z | z | z)
          · rw [bt_iff] at z; omega
          · have z := z.1; rw [bt_iff] at z; omega
          · exact z.2 h2
          · rw [bt_iff] at z; omega
        have n2 : ¬ bt c 1104 1119 = true := by simp only [bt_iff]; omega
        have n3 : ¬ (bt c 257 303 = true ∧ c - c / 2 * 2 = 1) := by simp only [bt_iff]; omega
        rw [if_neg n1, if_neg n2, if_neg n3, if_neg h3, if_pos h2, if_pos h2]
      · rw [if_neg h2]
        by_cases b1 : bt c 97 122 = true ∨ (bt c 224 254 = true ∧ ¬ c = 247)
        · rw [if_pos b1, if_pos (b1.elim Or.inl (fun z => Or.inr (Or.inl z))), if_neg h3, if_neg h2]
        · rw [if_neg b1]
          by_cases b2 : (bt c 945 969 = true ∧ ¬ c = 962) ∨ bt c 1072 1103 = true
          · rw [if_pos b2, if_pos (Or.inr (Or.inr b2)), if_neg h3, if_neg h2]
          · rw [if_neg b2, if_neg (fun z => z.elim (fun y => b1 (Or.inl y)) (fun y => y.elim (fun x => b1 (Or.inr x)) b2))]
            by_cases b3 : bt c 1104 1119 = true
            · rw [if_pos b3, if_pos b3, if_neg h3, if_neg h2]
            · rw [if_neg b3, if_neg b3]
              by_cases b4 : bt c 257 303 = true ∧ c - c / 2 * 2 = 1
              · rw [if_pos b4, if_pos b4, if_neg h3, if_neg h2]
              · rw [if_neg b4, if_neg b4, if_neg h3, if_neg h2, Int32.sub_zero]
  · rw [if_neg h0, if_neg h0]
theorem par_2 {c : Int32} (h : 0 ≤ c.toInt) : (c - c / 2 * 2).toInt = c.toInt % 2 := by
  have hl : c.toInt < 2 ^ 31 := Int32.toInt_lt c
  have d : (c / 2).toInt = c.toInt / 2 := by
    rw [Int32.toInt_div, show (2 : Int32).toInt = 2 from rfl, Int.tdiv_eq_ediv_of_nonneg h]
    exact Int.bmod_eq_of_le (by omega) (by omega)
  have m := ti_mul (b := 2) (y := 2) d rfl (by omega)
  have s := ti_sub (a := c) rfl m (by omega)
  omega
theorem cd_4 (c : Int32) : cl_cd c = 32 ∨ cl_cd c = 80 ∨ cl_cd c = 1 ∨ cl_cd c = 0 := by
  unfold cl_cd
  split
  · exact Or.inl rfl
  · split
    · exact Or.inl rfl
    · split
      · exact Or.inr (Or.inl rfl)
      · split
        · exact Or.inr (Or.inr (Or.inl rfl))
        · exact Or.inr (Or.inr (Or.inr rfl))
theorem cd_32 {c : Int32} : cl_cd c = 32 ↔ ((bt c 97 122 = true ∨ (bt c 224 254 = true ∧ ¬ c = 247)) ∨ ((bt c 945 969 = true ∧ ¬ c = 962) ∨ bt c 1072 1103 = true)) := by
  unfold cl_cd
  by_cases b1 : bt c 97 122 = true ∨ (bt c 224 254 = true ∧ ¬ c = 247)
  · rw [if_pos b1]
    exact ⟨fun _ => Or.inl b1, fun _ => rfl⟩
  · rw [if_neg b1]
    by_cases b2 : (bt c 945 969 = true ∧ ¬ c = 962) ∨ bt c 1072 1103 = true
    · rw [if_pos b2]
      exact ⟨fun _ => Or.inr b2, fun _ => rfl⟩
    · rw [if_neg b2]
      refine ⟨fun z => ?_, fun z => z.elim (fun y => absurd y b1) (fun y => absurd y b2)⟩
      split at z
      · exact absurd z (by decide)
      · split at z
        · exact absurd z (by decide)
        · exact absurd z (by decide)
theorem cd_80 {c : Int32} : cl_cd c = 80 ↔ bt c 1104 1119 = true := by
  have a1 := @bt_iff c 97 122
  have a2 := @bt_iff c 224 254
  have a3 := @bt_iff c 945 969
  have a4 := @bt_iff c 1072 1103
  have a5 := @bt_iff c 1104 1119
  unfold cl_cd
  by_cases b : bt c 1104 1119 = true
  · have n1 : ¬ (bt c 97 122 = true ∨ (bt c 224 254 = true ∧ ¬ c = 247)) := by simp only [bt_iff] at b ⊢; omega
    have n2 : ¬ ((bt c 945 969 = true ∧ ¬ c = 962) ∨ bt c 1072 1103 = true) := by simp only [bt_iff] at b ⊢; omega
    rw [if_neg n1, if_neg n2, if_pos b]
    exact ⟨fun _ => b, fun _ => rfl⟩
  · refine ⟨fun z => ?_, fun z => absurd z b⟩
    split at z
    · exact absurd z (by decide)
    · split at z
      · exact absurd z (by decide)
      · first | rw [if_neg b] at z | skip
        split at z
        · exact absurd z (by decide)
        · exact absurd z (by decide)
theorem cd_1 {c : Int32} : cl_cd c = 1 ↔ (bt c 257 303 = true ∧ c - c / 2 * 2 = 1) := by
  have a1 := @bt_iff c 97 122
  have a2 := @bt_iff c 224 254
  have a3 := @bt_iff c 945 969
  have a4 := @bt_iff c 1072 1103
  have a5 := @bt_iff c 1104 1119
  have a6 := @bt_iff c 257 303
  unfold cl_cd
  by_cases b : bt c 257 303 = true ∧ c - c / 2 * 2 = 1
  · have b1 := b.1
    have n1 : ¬ (bt c 97 122 = true ∨ (bt c 224 254 = true ∧ ¬ c = 247)) := by simp only [bt_iff] at b1 ⊢; omega
    have n2 : ¬ ((bt c 945 969 = true ∧ ¬ c = 962) ∨ bt c 1072 1103 = true) := by simp only [bt_iff] at b1 ⊢; omega
    have n3 : ¬ bt c 1104 1119 = true := by simp only [bt_iff] at b1 ⊢; omega
    rw [if_neg n1, if_neg n2, if_neg n3, if_pos b]
    exact ⟨fun _ => b, fun _ => rfl⟩
  · refine ⟨fun z => ?_, fun z => absurd z b⟩
    split at z
    · exact absurd z (by decide)
    · split at z
      · exact absurd z (by decide)
      · split at z
        · exact absurd z (by decide)
        · first | rw [if_neg b] at z | skip
          exact absurd z (by decide)
theorem lo_eq {M : MS} {c : Int32} : (mo_lower M c).1 = cl_lower c := by
  unfold mo_lower cl_lower
  show (if bt c 0 1114111 = true then _ else _) = _
  by_cases h0 : bt c 0 1114111 = true
  · rw [if_pos h0, if_pos h0]
    have a := bt_iff.mp h0
    have t32 := ti_add (a := c) (b := 32) (y := 32) rfl rfl (by omega)
    have t80 := ti_add (a := c) (b := 80) (y := 80) rfl rfl (by omega)
    have t1 := ti_add (a := c) (b := 1) (y := 1) rfl rfl (by omega)
    have p1 := par_2 (c := c) a.1
    have p2 := par_2 (c := c + 1) (by omega)
    rw [t1] at p2
    have k1 : cl_cd (c + 32) = 32 ↔ (bt c 65 90 = true ∨ (bt c 192 222 = true ∧ ¬ c = 215) ∨ (bt c 913 937 = true ∧ ¬ c = 930) ∨ bt c 1040 1071 = true) := by
      rw [cd_32]
      simp only [bt_iff, i32_eq, t32, show (247 : Int32).toInt = 247 from rfl, show (962 : Int32).toInt = 962 from rfl, show (215 : Int32).toInt = 215 from rfl, show (930 : Int32).toInt = 930 from rfl]
      omega
    have k2 : cl_cd (c + 80) = 80 ↔ bt c 1024 1039 = true := by
      rw [cd_80]
      simp only [bt_iff, t80]
      omega
    have k3 : cl_cd (c + 1) = 1 ↔ (bt c 256 302 = true ∧ c - c / 2 * 2 = 0) := by
      rw [cd_1]
      simp only [bt_iff, i32_eq, t1, p1, p2, show (1 : Int32).toInt = 1 from rfl, show (0 : Int32).toInt = 0 from rfl]
      omega
    have q3 := i32_eq c 376
    have e3 : (376 : Int32).toInt = 376 := rfl
    rw [e3] at q3
    by_cases h3 : c = 376
    · have h4 := q3.mp h3
      have n1 : ¬ (bt c 65 90 = true ∨ (bt c 192 222 = true ∧ ¬ c = 215) ∨ (bt c 913 937 = true ∧ ¬ c = 930) ∨ bt c 1040 1071 = true) := by
        simp only [bt_iff]; omega
      have n2 : ¬ bt c 1024 1039 = true := by simp only [bt_iff]; omega
      have n3 : ¬ (bt c 256 302 = true ∧ c - c / 2 * 2 = 0) := by simp only [bt_iff]; omega
      rw [if_neg n1, if_neg n2, if_neg n3, if_pos h3, if_pos h3]
    · rw [if_neg h3]
      by_cases b1 : cl_cd (c + 32) = 32
      · rw [if_pos b1, if_pos (k1.mp b1), if_neg h3]
      · rw [if_neg b1, if_neg (fun z => b1 (k1.mpr z))]
        by_cases b2 : cl_cd (c + 80) = 80
        · rw [if_pos b2, if_pos (k2.mp b2), if_neg h3]
        · rw [if_neg b2, if_neg (fun z => b2 (k2.mpr z))]
          by_cases b3 : cl_cd (c + 1) = 1
          · rw [if_pos b3, if_pos (k3.mp b3), if_neg h3]
          · rw [if_neg b3, if_neg (fun z => b3 (k3.mpr z)), if_neg h3]
  · rw [if_neg h0, if_neg h0]
theorem rX10_upper (G : GG) (l : Launch) (M : MS) (ad : AD) (gi : GI) (w : WM) (hL : RLa G M ad gi w) (x : Int32) : MC G l yX10_upper cX10_upper 2 ((Option.some .int)) ({ frames := 2, cells := 0, slots := 0, locals := 42 } : Room) [.ref (ad 0 0), .int x] w (fun v w' => v = some (.int (mo_upper M x).1) ∧ ∃ ad' gi', RLa G (mo_upper M x).2 ad' gi' w' ∧ ad' 0 0 = ad 0 0) := by
  refine mc_imp (kX10_upper G l w (ad 0 0) x) ?_
  rintro v w' ⟨hv, hw⟩
  exact ⟨by rw [up_eq]; exact hv, ad, gi, by rw [hw]; exact rl_0 hL, rfl⟩
theorem rX10_lower (G : GG) (l : Launch) (M : MS) (ad : AD) (gi : GI) (w : WM) (hL : RLa G M ad gi w) (x : Int32) : MC G l yX10_lower cX10_lower 2 ((Option.some .int)) ({ frames := 2, cells := 0, slots := 0, locals := 42 } : Room) [.ref (ad 0 0), .int x] w (fun v w' => v = some (.int (mo_lower M x).1) ∧ ∃ ad' gi', RLa G (mo_lower M x).2 ad' gi' w' ∧ ad' 0 0 = ad 0 0) := by
  refine mc_imp (kX10_lower G l w (ad 0 0) x) ?_
  rintro v w' ⟨hv, hw⟩
  exact ⟨by rw [lo_eq]; exact hv, ad, gi, by rw [hw]; exact rl_0 hL, rfl⟩
theorem xor_sg {x y : Int64} (hy : 0 ≤ y.toInt) : (0 ≤ x ^^^ y) ↔ 0 ≤ x.toInt := by
  have h0 : (0 : Int64).toInt = 0 := rfl
  have hm := BitVec.msb_eq_toInt (x := x.toBitVec ^^^ y.toBitVec)
  have hx := BitVec.msb_eq_toInt (x := x.toBitVec)
  have hy' := BitVec.msb_eq_toInt (x := y.toBitVec)
  have ey : y.toBitVec.toInt = y.toInt := rfl
  have ex : x.toBitVec.toInt = x.toInt := rfl
  have exy : (x.toBitVec ^^^ y.toBitVec).toInt = (x ^^^ y).toInt := by rw [← Int64.toBitVec_xor]; rfl
  rw [BitVec.msb_xor, hx, hy', ey, ex, exy, decide_eq_false (show ¬ y.toInt < 0 by omega), Bool.xor_false] at hm
  rw [i64_le, h0]
  have := decide_eq_decide.mp hm
  omega
theorem i64_div {x y : Int64} (hy : 0 < y.toInt) (hx : -(2 ^ 62) ≤ x.toInt ∧ x.toInt < 2 ^ 62) : (x / y).toInt = x.toInt / y.toInt + (if 0 ≤ x.toInt ∨ x.toInt % y.toInt = 0 then 0 else 1) ∧ (x / y * y).toInt = (x.toInt / y.toInt + (if 0 ≤ x.toInt ∨ x.toInt % y.toInt = 0 then 0 else 1)) * y.toInt := by
  have hl : y.toInt < 2 ^ 63 := Int64.toInt_lt y
  have h1 := Int.emod_add_mul_ediv x.toInt y.toInt
  have h2 := Int.emod_nonneg x.toInt (Int.ne_of_gt hy)
  have h3 := Int.emod_lt_of_pos x.toInt hy
  have ht : x.toInt.tdiv y.toInt = x.toInt / y.toInt + (if 0 ≤ x.toInt ∨ x.toInt % y.toInt = 0 then 0 else 1) := by
    rw [Int.tdiv_eq_ediv]
    have es : y.toInt.sign = 1 := Int.sign_eq_one_of_pos hy
    rw [es]
    by_cases hz : 0 ≤ x.toInt ∨ x.toInt % y.toInt = 0
    · rw [if_pos hz, if_pos (hz.imp id Int.dvd_of_emod_eq_zero)]
    · rw [if_neg hz, if_neg (fun z => hz (z.imp id Int.emod_eq_zero_of_dvd))]
  have habs := Int.natAbs_tdiv_le_natAbs x.toInt y.toInt
  have hq : (x / y).toInt = x.toInt.tdiv y.toInt := by
    rw [Int64.toInt_div]
    exact Int.bmod_eq_of_le (by omega) (by omega)
  rw [ht] at hq
  refine ⟨hq, ?_⟩
  rw [Int64.toInt_mul, hq]
  refine Int.bmod_eq_of_le ?_ ?_
  · split
    · rename_i hz
      rw [Int.add_zero, Int.mul_comm]
      omega
    · rw [Int.add_mul, Int.one_mul, Int.mul_comm]
      omega
  · split
    · rename_i hz
      rw [Int.add_zero, Int.mul_comm]
      omega
    · rename_i hz
      rw [Int.add_mul, Int.one_mul, Int.mul_comm]
      have : x.toInt < 0 := by omega
      omega
theorem i64_rem {x y : Int64} (hy : 0 < y.toInt) (hy2 : y.toInt < 2 ^ 60) (hx : -(2 ^ 62) ≤ x.toInt ∧ x.toInt < 2 ^ 62) : (x - x / y * y).toInt = x.toInt % y.toInt - (if 0 ≤ x.toInt ∨ x.toInt % y.toInt = 0 then 0 else y.toInt) := by
  have h1 := Int.emod_add_mul_ediv x.toInt y.toInt
  have h2 := Int.emod_nonneg x.toInt (Int.ne_of_gt hy)
  have h3 := Int.emod_lt_of_pos x.toInt hy
  have e := (i64_div hy hx).2
  rw [Int64.toInt_sub, e]
  have e2 : x.toInt - (x.toInt / y.toInt + (if 0 ≤ x.toInt ∨ x.toInt % y.toInt = 0 then 0 else 1)) * y.toInt = x.toInt % y.toInt - (if 0 ≤ x.toInt ∨ x.toInt % y.toInt = 0 then 0 else y.toInt) := by
    by_cases hz : 0 ≤ x.toInt ∨ x.toInt % y.toInt = 0
    · rw [if_pos hz, if_pos hz, Int.add_zero, Int.mul_comm]; omega
    · rw [if_neg hz, if_neg hz, Int.add_mul, Int.one_mul, Int.mul_comm]; omega
  rw [e2]
  refine Int.bmod_eq_of_le ?_ ?_
  · split <;> omega
  · split <;> omega
theorem flr_i {x y : Int64} (hy : 0 < y.toInt) (hy2 : y.toInt < 2 ^ 60) (hx : -(2 ^ 62) ≤ x.toInt ∧ x.toInt < 2 ^ 62) : (flr x y).toInt = x.toInt / y.toInt := by
  have h2 := Int.emod_nonneg x.toInt (Int.ne_of_gt hy)
  have h3 := Int.emod_lt_of_pos x.toInt hy
  have d := (i64_div hy hx).1
  have r := i64_rem hy hy2 hx
  have h1 := Int.emod_add_mul_ediv x.toInt y.toInt
  have hb : -(2 ^ 62) ≤ x.toInt / y.toInt ∧ x.toInt / y.toInt ≤ 2 ^ 62 := by
    constructor
    · exact Int.le_trans (by omega) (Int.le_ediv_of_mul_le hy (show -(2 ^ 62) * y.toInt ≤ x.toInt from by
        have : -(2 ^ 62) * y.toInt ≤ -(2 ^ 62) * 1 := by omega
        omega))
    · exact Int.le_trans (Int.ediv_le_ediv hy (show x.toInt ≤ 2 ^ 62 * y.toInt by omega)) (by rw [Int.mul_ediv_cancel _ (Int.ne_of_gt hy)]; omega)
  have h0 : (0 : Int64).toInt = 0 := rfl
  unfold flr
  by_cases hz : 0 ≤ x.toInt ∨ x.toInt % y.toInt = 0
  · rw [if_pos hz] at d r
    rw [if_pos (by rw [i64_le, r, h0]; omega), Int64.sub_zero, d]
    omega
  · rw [if_neg hz] at d r
    rw [if_neg (by rw [i64_le, r, h0]; omega), Int64.toInt_sub, d, show (1 : Int64).toInt = 1 from rfl]
    rw [Int.bmod_eq_of_le (by omega) (by omega)]
    omega
theorem fdv_flr {x y : Int64} (hy : 0 < y.toInt) (hy2 : y.toInt < 2 ^ 60) (hx : -(2 ^ 62) ≤ x.toInt ∧ x.toInt < 2 ^ 62) : fdv x y = flr x y := by
  have hxs := xor_sg (x := x) (y := y) (by omega)
  have d := i64_div hy hx
  have r := i64_rem hy hy2 hx
  have h2 := Int.emod_nonneg x.toInt (Int.ne_of_gt hy)
  have h3 := Int.emod_lt_of_pos x.toInt hy
  have h0 : (0 : Int64).toInt = 0 := rfl
  have hm : x / y * y = x ↔ (x - x / y * y).toInt = 0 := by
    constructor
    · intro z
      rw [z, Int64.sub_self]; rfl
    · intro z
      have : x - x / y * y = 0 := Int64.toInt_inj.mp (z.trans h0.symm)
      have e := Int64.sub_add_cancel x (x / y * y)
      rw [this, Int64.zero_add] at e
      exact e
  unfold fdv flr
  by_cases hs : 0 ≤ x.toInt
  · rw [if_pos (hxs.mpr hs)]
    rw [if_pos (Or.inl hs)] at r
    rw [if_pos (by rw [i64_le, r, h0]; omega), Int64.sub_zero]
  · rw [if_neg (fun z => hs (hxs.mp z))]
    by_cases hz : x.toInt % y.toInt = 0
    · rw [if_pos (Or.inr hz)] at r
      rw [if_pos (hm.mpr (by rw [r]; omega)), if_pos (by rw [i64_le, r, h0]; omega), Int64.sub_zero]
    · rw [if_neg (fun z => z.elim hs hz)] at r
      rw [if_neg (fun z => by have := hm.mp z; omega), if_neg (by rw [i64_le, r, h0]; omega)]
theorem fmd_i {x y : Int64} (hy : 0 < y.toInt) (hy2 : y.toInt < 2 ^ 60) (hx : -(2 ^ 62) ≤ x.toInt ∧ x.toInt < 2 ^ 62) : (fmd x y).toInt = x.toInt % y.toInt := by
  have hxs := xor_sg (x := x) (y := y) (by omega)
  have r := i64_rem hy hy2 hx
  have h2 := Int.emod_nonneg x.toInt (Int.ne_of_gt hy)
  have h3 := Int.emod_lt_of_pos x.toInt hy
  have h0 : (0 : Int64).toInt = 0 := rfl
  unfold fmd
  by_cases hs : 0 ≤ x.toInt
  · rw [if_pos (hxs.mpr hs), r, if_pos (Or.inl hs), Int.sub_zero]
  · rw [if_neg (fun z => hs (hxs.mp z))]
    by_cases hz : x.toInt % y.toInt = 0
    · rw [if_pos (Or.inr hz)] at r
      rw [if_pos (Int64.toInt_inj.mp (by rw [r, h0]; omega)), r]
      omega
    · rw [if_neg (fun z => z.elim hs hz)] at r
      rw [if_neg (fun z => by rw [z, h0] at r; omega), Int64.toInt_add, r, Int.bmod_eq_of_le (by omega) (by omega)]
      omega
/-- what is left, as the reference takes it -/
theorem rest_i {x y : Int64} (hy : 0 < y.toInt) (hy2 : y.toInt < 2 ^ 60) (hx : -(2 ^ 62) ≤ x.toInt ∧ x.toInt < 2 ^ 62) : x - y * flr x y = fmd x y := by
  refine Int64.toInt_inj.mp ?_
  have h1 := Int.emod_add_mul_ediv x.toInt y.toInt
  have h2 := Int.emod_nonneg x.toInt (Int.ne_of_gt hy)
  have h3 := Int.emod_lt_of_pos x.toInt hy
  have e : (y * flr x y).toInt = y.toInt * (x.toInt / y.toInt) := by
    rw [Int64.toInt_mul, flr_i hy hy2 hx]
    exact Int.bmod_eq_of_le (by omega) (by omega)
  rw [fmd_i hy hy2 hx, Int64.toInt_sub, e, Int.bmod_eq_of_le (by omega) (by omega)]
  omega
theorem i32_dv {x k : Int32} (hk : 0 < k.toInt) (hx : 0 ≤ x.toInt) : (x / k).toInt = x.toInt / k.toInt := by
  have hl : x.toInt < 2 ^ 31 := Int32.toInt_lt x
  rw [Int32.toInt_div, Int.tdiv_eq_ediv_of_nonneg hx]
  have h1 : 0 ≤ x.toInt / k.toInt := Int.ediv_nonneg hx (by omega)
  have h2 : x.toInt / k.toInt ≤ x.toInt := Int.ediv_le_self _ hx
  exact Int.bmod_eq_of_le (by omega) (by omega)
theorem dy_b {e : Int32} (h0 : 0 ≤ e.toInt) (h1 : e.toInt ≤ 146096) : 0 ≤ (mo_dy e).toInt ∧ (mo_dy e).toInt ≤ 500 := by
  have d1 := i32_dv (x := e) (k := 1460) (by decide) h0
  have d2 := i32_dv (x := e) (k := 36524) (by decide) h0
  have d3 := i32_dv (x := e) (k := 146096) (by decide) h0
  rw [show (1460 : Int32).toInt = 1460 from rfl] at d1
  rw [show (36524 : Int32).toInt = 36524 from rfl] at d2
  rw [show (146096 : Int32).toInt = 146096 from rfl] at d3
  have t1 := ti_sub (a := e) rfl d1 (by omega)
  have t2 := ti_add t1 d2 (by omega)
  have t3 := ti_sub t2 d3 (by omega)
  have t4 := i32_dv (x := ((e - (e / 1460)) + (e / 36524)) - (e / 146096)) (k := 365) (by decide) (by omega)
  rw [show (365 : Int32).toInt = 365 from rfl, t3] at t4
  show 0 ≤ ((((e - (e / 1460)) + (e / 36524)) - (e / 146096)) / 365).toInt ∧ _
  rw [show mo_dy e = (((e - (e / 1460)) + (e / 36524)) - (e / 146096)) / 365 from rfl, t4]
  omega
theorem yr_eq {era : Int64} {y mo : Int32} (he : -(2 ^ 20) ≤ era.toInt ∧ era.toInt ≤ 2 ^ 20) (hy : 0 ≤ y.toInt ∧ y.toInt ≤ 500) : (if 0 ≤ cl_fy era y mo then cl_fy era y mo else cl_fy era y mo - 10) = (if 0 ≤ mo_yr era y mo then mo_yr era y mo else mo_yr era y mo - 10).toInt32 := by
  have hc : (2 < mo) ↔ (3 ≤ mo) := by
    rw [i32_lt, i32_le, show (2 : Int32).toInt = 2 from rfl, show (3 : Int32).toInt = 3 from rfl]
    omega
  have m1 : (era * 400).toInt = era.toInt * 400 := by
    rw [Int64.toInt_mul, show (400 : Int64).toInt = 400 from rfl]
    exact Int.bmod_eq_of_le (by omega) (by omega)
  have m2 : (400 * era).toInt = 400 * era.toInt := by
    rw [Int64.toInt_mul, show (400 : Int64).toInt = 400 from rfl]
    exact Int.bmod_eq_of_le (by omega) (by omega)
  have m3 : (era * 400).toInt32.toInt = era.toInt * 400 := by
    rw [Int64.toInt_toInt32, m1]
    exact Int.bmod_eq_of_le (by omega) (by omega)
  have e0 : (0 : Int32).toInt = 0 := rfl
  have e1 : (1 : Int32).toInt = 1 := rfl
  have l0 : (0 : Int64).toInt = 0 := rfl
  have l1 : (1 : Int64).toInt = 1 := rfl
  have l10 : (10 : Int64).toInt = 10 := rfl
  have e10 : (10 : Int32).toInt = 10 := rfl
  have s1 := ti_add m3 (b := y) rfl (by omega)
  have s2 : ((400 * era) + y.toInt64).toInt = era.toInt * 400 + y.toInt := by
    rw [Int64.toInt_add, m2, i64_32, Int.bmod_eq_of_le (by omega) (by omega)]
    omega
  have key : ∃ b : Int, (b = 0 ∨ b = 1) ∧ (cl_fy era y mo).toInt = era.toInt * 400 + y.toInt + b ∧ (mo_yr era y mo).toInt = era.toInt * 400 + y.toInt + b := by
    unfold cl_fy mo_yr
    by_cases h : 2 < mo
    · rw [if_pos h, if_pos (hc.mp h)]
      refine ⟨0, Or.inl rfl, ti_add s1 e0 (by omega), ?_⟩
      rw [Int64.toInt_add, s2, l0, Int.bmod_eq_of_le (by omega) (by omega)]
    · rw [if_neg h, if_neg (fun z => h (hc.mpr z))]
      refine ⟨1, Or.inr rfl, ti_add s1 e1 (by omega), ?_⟩
      rw [Int64.toInt_add, s2, l1, Int.bmod_eq_of_le (by omega) (by omega)]
  obtain ⟨b, hb, k1, k2⟩ := key
  have hb1 : 0 ≤ b ∧ b ≤ 1 := by omega
  refine (i32_eq _ _).mpr ?_
  by_cases hp : 0 ≤ era.toInt * 400 + y.toInt + b
  · rw [if_pos (by rw [i32_le, e0, k1]; exact hp), if_pos (by rw [i64_le, l0, k2]; exact hp), k1, Int64.toInt_toInt32, k2, Int.bmod_eq_of_le (by omega) (by omega)]
  · rw [if_neg (by rw [i32_le, e0, k1]; exact hp), if_neg (by rw [i64_le, l0, k2]; exact hp), ti_sub k1 e10 (by omega), Int64.toInt_toInt32, Int64.toInt_sub, k2, l10]
    rw [Int.bmod_eq_of_le (m := 2 ^ 64) (by omega) (by omega), Int.bmod_eq_of_le (by omega) (by omega)]
theorem cal_eq {days : Int64} {what : Int32} (hd : -(2 ^ 40) ≤ days.toInt ∧ days.toInt ≤ 2 ^ 31) (hd2 : -(2 ^ 31) ≤ days.toInt) : mo_cal days what = cl_cal days what := by
  have hz : (days + 719468).toInt = days.toInt + 719468 := by
    rw [Int64.toInt_add, show (719468 : Int64).toInt = 719468 from rfl]
    exact Int.bmod_eq_of_le (by omega) (by omega)
  have e14 : (146097 : Int64).toInt = 146097 := rfl
  have hy : 0 < (146097 : Int64).toInt := by rw [e14]; decide
  have hy2 : (146097 : Int64).toInt < 2 ^ 60 := by rw [e14]; decide
  have hx : -(2 ^ 62) ≤ (days + 719468).toInt ∧ (days + 719468).toInt < 2 ^ 62 := by omega
  have f1 := fdv_flr hy hy2 hx
  have f2 := rest_i hy hy2 hx
  have f3 := fmd_i hy hy2 hx
  have f4 := flr_i hy hy2 hx
  rw [e14, hz] at f3 f4
  have eb : 0 ≤ (fmd (days + 719468) 146097).toInt32.toInt ∧ (fmd (days + 719468) 146097).toInt32.toInt ≤ 146096 := by
    rw [Int64.toInt_toInt32, f3, Int.bmod_eq_of_le (by omega) (by omega)]
    omega
  unfold mo_cal cl_cal
  dsimp only
  rw [f1, f2]
  by_cases h1 : what = 1
  · rw [if_pos h1, if_pos h1]
  · rw [if_neg h1, if_neg h1]
    by_cases h2 : what = 2
    · rw [if_pos h2, if_pos h2]
    · rw [if_neg h2, if_neg h2]
      exact (yr_eq (by omega) (dy_b eb.1 eb.2)).symm
theorem dt_eq {M : MS} {x : Int64} {what : Int32} : (mo_date M x what).1 = cl_date x what := by
  have b1 : (-100000000000000 : Int64).toInt = -100000000000000 := rfl
  have b2 : (100000000000000 : Int64).toInt = 100000000000000 := rfl
  unfold mo_date cl_date
  dsimp only
  by_cases h0 : bt what 0 6 = true
  · rw [if_pos h0, if_pos h0]
    by_cases hr : (-100000000000000) ≤ x ∧ x ≤ 100000000000000
    · rw [if_pos hr, if_neg (show ¬ (x < (-100000000000000) ∨ ¬ x ≤ 100000000000000) from fun z => z.elim (fun y => by rw [i64_lt] at y; have := hr.1; rw [i64_le] at this; omega) (fun y => y hr.2))]
      obtain ⟨r1, r2⟩ := hr
      rw [i64_le, b1] at r1
      rw [i64_le, b2] at r2
      have e8 : (86400 : Int64).toInt = 86400 := rfl
      have hy : 0 < (86400 : Int64).toInt := by rw [e8]; decide
      have hy2 : (86400 : Int64).toInt < 2 ^ 60 := by rw [e8]; decide
      have hx : -(2 ^ 62) ≤ x.toInt ∧ x.toInt < 2 ^ 62 := by omega
      have f1 := fdv_flr hy hy2 hx
      have f2 := rest_i hy hy2 hx
      have f4 := flr_i hy hy2 hx
      rw [e8] at f4
      have bw := bt_iff.mp h0
      rw [f1, f2]
      have w3 := i32_eq what 3
      have w4 := i32_eq what 4
      have w5 := i32_eq what 5
      have w6 := i32_eq what 6
      have wl := i32_le what 3
      rw [show (3 : Int32).toInt = 3 from rfl] at w3 wl
      rw [show (4 : Int32).toInt = 4 from rfl] at w4
      rw [show (5 : Int32).toInt = 5 from rfl] at w5
      rw [show (6 : Int32).toInt = 6 from rfl] at w6
      by_cases h3 : what = 3
      · have h3' := w3.mp h3
        rw [if_pos (wl.mpr (by omega)), if_pos h3, if_pos h3]
        have hz : (flr x 86400 + 4).toInt = x.toInt / 86400 + 4 := by
          rw [Int64.toInt_add, f4, show (4 : Int64).toInt = 4 from rfl]
          exact Int.bmod_eq_of_le (by omega) (by omega)
        have e7 : (7 : Int64).toInt = 7 := rfl
        have g := i64_rem (x := flr x 86400 + 4) (y := 7) (by rw [e7]; decide) (by rw [e7]; decide) (by omega)
        have g2 := fmd_i (x := flr x 86400 + 4) (y := 7) (by rw [e7]; decide) (by rw [e7]; decide) (by omega)
        rw [e7] at g g2
        have l0 : (0 : Int64).toInt = 0 := rfl
        refine congrArg Int64.toInt32 (Int64.toInt_inj.mp ?_)
        rw [g2]
        by_cases hp : 0 ≤ (flr x 86400 + 4) - (((flr x 86400 + 4) / 7) * 7)
        · rw [if_pos hp, g]
          rw [i64_le, l0, g] at hp
          split at hp
          · rename_i hq; rw [if_pos hq, Int.sub_zero]
          · rename_i hq; omega
        · rw [if_neg hp, Int64.toInt_add, g, e7]
          rw [i64_le, l0, g] at hp
          split at hp
          · omega
          · rename_i hq
            rw [if_neg hq, Int.bmod_eq_of_le (by omega) (by omega)]
            omega
      · rw [if_neg h3]
        by_cases h4 : what = 4
        · have := w4.mp h4
          rw [if_neg (fun z => by have := wl.mp z; omega), if_pos h4, if_pos h4, if_neg h3]
        · rw [if_neg h4]
          by_cases h5 : what = 5
          · have := w5.mp h5
            rw [if_neg (fun z => by have := wl.mp z; omega), if_neg h4, if_pos h5, if_pos h5, if_neg h3]
          · rw [if_neg h5]
            by_cases h6 : what = 6
            · have := w6.mp h6
              rw [if_neg (fun z => by have := wl.mp z; omega), if_neg h4, if_neg h5, if_pos h6, if_neg h3]
            · rw [if_neg h6]
              have hn : what.toInt ≠ 3 ∧ what.toInt ≠ 4 ∧ what.toInt ≠ 5 ∧ what.toInt ≠ 6 := ⟨fun z => h3 (w3.mpr z), fun z => h4 (w4.mpr z), fun z => h5 (w5.mpr z), fun z => h6 (w6.mpr z)⟩
              rw [if_pos (wl.mpr (by omega)), if_neg h3, if_neg h4, if_neg h5]
              exact cal_eq (days := flr x 86400) (by rw [f4]; omega) (by rw [f4]; omega)
    · rw [if_neg hr, if_pos (show x < (-100000000000000) ∨ ¬ x ≤ 100000000000000 by
        by_cases hq : x ≤ 100000000000000
        · refine Or.inl ?_
          rw [i64_lt]
          have : ¬ (-100000000000000) ≤ x := fun z => hr ⟨z, hq⟩
          rw [i64_le] at this
          omega
        · exact Or.inr hq)]
  · rw [if_neg h0, if_neg h0]
theorem rX10_date (G : GG) (l : Launch) (M : MS) (ad : AD) (gi : GI) (w : WM) (hL : RLa G M ad gi w) (x : Int64) (what : Int32) : MC G l yX10_date cX10_date 7 ((Option.some .int)) ({ frames := 2, cells := 0, slots := 0, locals := 57 } : Room) [.ref (ad 0 0), .long x, .int what] w (fun v w' => v = some (.int (mo_date M x what).1) ∧ ∃ ad' gi', RLa G (mo_date M x what).2 ad' gi' w' ∧ ad' 0 0 = ad 0 0) := by
  refine mc_imp (kX10_date G l w (ad 0 0) x what) ?_
  rintro v w' ⟨hv, hw⟩
  exact ⟨by rw [dt_eq]; exact hv, ad, gi, by rw [hw]; exact rl_0 hL, rfl⟩
