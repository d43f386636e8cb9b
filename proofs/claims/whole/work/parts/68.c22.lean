/-! what streams end at, and what they read -/
def en_ (M : MS) (k : Nat) : Int32 := if M.2.2 8 k = 0 then 0 else mo_end M k
theorem en_0 {M : MS} {k : Nat} (h : M.2.2 8 k = 0) : en_ M k = 0 := if_pos h
theorem en_1 {M : MS} {k : Nat} (h : M.2.2 8 k = 1) : en_ M k = M.2.2 12 k := by
  unfold en_ mo_end
  rw [if_neg (by rw [h]; decide), if_neg (by rw [h]; decide)]
theorem en_2 {M : MS} {k : Nat} (h : M.2.2 8 k = 2) : en_ M k = M.2.2 36 (M.2.2 16 k).toNatClampNeg / (if M.2.2 9 k = 0 then 1 else 4) := by
  unfold en_ mo_end
  rw [if_neg (by rw [h]; decide), if_pos h]
theorem en_3 {M : MS} {k : Nat} (h0 : ¬ M.2.2 8 k = 0) (h2 : ¬ M.2.2 8 k = 2) : en_ M k = M.2.2 12 k := by
  unfold en_ mo_end
  rw [if_neg h0, if_neg h2]
theorem kd_3 {M : MS} {k : Nat} (hK : mi_kind M) (hk : k < 8) (h0 : ¬ M.2.2 8 k = 0) (h1 : ¬ M.2.2 8 k = 1) (h2 : ¬ M.2.2 8 k = 2) : M.2.2 8 k = 3 := by
  have b := bt_iff.mp (hK k hk).1
  have n0 : (M.2.2 8 k).toInt ≠ 0 := fun z => h0 ((i32_eq _ 0).mpr z)
  have n1 : (M.2.2 8 k).toInt ≠ 1 := fun z => h1 ((i32_eq _ 1).mpr z)
  have n2 : (M.2.2 8 k).toInt ≠ 2 := fun z => h2 ((i32_eq _ 2).mpr z)
  exact (i32_eq _ 3).mpr (show (M.2.2 8 k).toInt = 3 by omega)
theorem rl_o0 {G : GG} {M : MS} {ad : AD} {gi : GI} {w : WM} (hL : RLa G M ad gi w) {k : Nat} (ho : opn M k) (h : M.2.2 8 k = 0) : w (ad 13 k) = some (sC (cSI M gi k) (sAd M ad (M.2.2 17 k)) (some (ad 14 k))) := by
  have e := rl_st hL ho
  rwa [cX_0 h] at e
theorem rl_o1 {G : GG} {M : MS} {ad : AD} {gi : GI} {w : WM} (hL : RLa G M ad gi w) {k : Nat} (ho : opn M k) (h : M.2.2 8 k = 1) : w (ad 13 k) = some (sC (cSI M gi k) (sAd M ad (M.2.2 17 k)) (rIA ad (M.2.2 15 k))) := by
  have e := rl_st hL ho
  rwa [cX_1 h] at e
theorem rl_ob {G : GG} {M : MS} {ad : AD} {gi : GI} {w : WM} (hL : RLa G M ad gi w) {k : Nat} (ho : opn M k) (h : M.2.2 8 k = 2) : w (ad 13 k) = some (sC (cSI M gi k) (sAd M ad (M.2.2 17 k)) (some (ad 15 (M.2.2 16 k).toNatClampNeg))) := by
  have e := rl_st hL ho
  rwa [cX_2 h] at e
theorem rl_oc {G : GG} {M : MS} {ad : AD} {gi : GI} {w : WM} (hL : RLa G M ad gi w) {k : Nat} (ho : opn M k) (h0 : ¬ M.2.2 8 k = 0) (h1 : ¬ M.2.2 8 k = 1) (h2 : ¬ M.2.2 8 k = 2) : w (ad 13 k) = some (sC (cSI M gi k) (sAd M ad (M.2.2 17 k)) (some (ad 22 k))) := by
  have e := rl_st hL ho
  rwa [cX_3 h0 h1 h2] at e
theorem rE5 (G : GG) (l : Launch) (M : MS) (ad : AD) (gi : GI) (w : WM) (k : Nat) (h : cSI M gi k 0 = 0) : MC G l yX5_end cX5_end 1 ((Option.some .int)) ({ frames := 0, cells := 0, slots := 0, locals := 0 } : Room) [.ref (ad 13 k)] w (fun v w' => v = some (.int (en_ M k)) ∧ w' = w) := by
  rw [en_0 h]
  exact kX5_end G l w (ad 13 k)
theorem rE3 (G : GG) (l : Launch) (M : MS) (ad : AD) (gi : GI) (w : WM) (hL : RLa G M ad gi w) (k : Nat) (ho : opn M k) (h : cSI M gi k 0 = 1) : MC G l yX3_end cX3_end 1 ((Option.some .int)) ({ frames := 0, cells := 0, slots := 0, locals := 0 } : Room) [.ref (ad 13 k)] w (fun v w' => v = some (.int (en_ M k)) ∧ w' = w) := by
  have e : cSI M gi k 9 = en_ M k := (c9_1 h).trans (en_1 h).symm
  rw [← e]
  exact kX3_end G l w (ad 13 k) (cSI M gi k) _ _ h (rl_o1 hL ho h)
theorem rE1 (G : GG) (l : Launch) (M : MS) (ad : AD) (gi : GI) (w : WM) (hL : RLa G M ad gi w) (hsf : mi_sf M) (k : Nat) (ho : opn M k) (h : cSI M gi k 0 = 2) : MC G l yX1_end cX1_end 1 ((Option.some .int)) ({ frames := 1, cells := 0, slots := 0, locals := 20 } : Room) [.ref (ad 13 k)] w (fun v w' => v = some (.int (en_ M k)) ∧ w' = w) := by
  rw [en_2 h]
  exact kX1_end G l w (ad 13 k) (cSI M gi k) _ _ h (rl_ob hL ho h) _ _ _ (hL.1 15 _ (hsf k ho h).2)
theorem n40 {x : Int32} (h : bt x 0 40) : x.toNatClampNeg ≤ 40 := by
  have a := bt_iff.mp h
  have := cl_toInt a.1
  omega
theorem rE7 (G : GG) (l : Launch) (M : MS) (ad : AD) (gi : GI) (w : WM) (hL : RLa G M ad gi w) (hK : mi_kind M) (hLa : mi_last M) (k : Nat) (ho : opn M k) (h : ¬ cSI M gi k 0 = 0 ∧ ¬ cSI M gi k 0 = 1 ∧ ¬ cSI M gi k 0 = 2) : MC G l yX7_end cX7_end 1 ((Option.some .int)) ({ frames := 0, cells := 0, slots := 0, locals := 0 } : Room) [.ref (ad 13 k)] w (fun v w' => v = some (.int (en_ M k)) ∧ w' = w) := by
  have h3 := kd_3 hK ho.1 h.1 h.2.1 h.2.2
  rw [en_3 h.1 h.2.2, ← nI_cl (bt_iff.mp (hLa k ho.1)).1]
  exact kX7_end G l w (ad 13 k) (cSI M gi k) _ _ h (rl_oc hL ho h.1 h.2.1 h.2.2) _ _ _ _ (n40 (hLa k ho.1)) (hL.1 22 k ⟨ho, h3⟩) (hL.1 23 k ⟨ho, h3⟩)
theorem and_bd {x m : Int32} {n : Nat} (hm : m.toBitVec.toNat = n) (hn : n < 2 ^ 31) : 0 ≤ (x &&& m).toInt ∧ (x &&& m).toInt ≤ n := by
  have h1 : (x &&& m).toBitVec.toNat = x.toBitVec.toNat &&& m.toBitVec.toNat := by rw [Int32.toBitVec_and, BitVec.toNat_and]
  have h2 : (x &&& m).toBitVec.toNat ≤ n := by rw [h1, hm]; exact Nat.and_le_right
  have h3 : (x &&& m).toInt = (x &&& m).toBitVec.toInt := rfl
  rw [h3, BitVec.toInt_eq_toNat_of_lt (by omega)]
  omega
theorem and_nn {x : Int32} : 0 ≤ (x &&& 2097151).toInt := (and_bd (n := 2097151) rfl (by decide)).1
theorem and_255 {x : Int32} : 0 ≤ (x &&& 255).toInt ∧ (x &&& 255).toInt ≤ 255 := and_bd (n := 255) rfl (by decide)
/-- what is read -/
def rdv (M : MS) (k : Nat) : Int32 := if M.2.2 8 k = 1 ∧ ¬ mo_pf M k ≤ 0 then (-10) - mo_pf M k else mo_gv M k (nI k)
theorem sgn_cl {x : Int32} : cl_sgn x = sgn x := by
  unfold cl_sgn sgn
  have h0 : 0 ≤ (x &&& 2097151).toInt := and_nn
  by_cases h : x &&& 2097151 ≤ 1114111
  · rw [if_pos h, if_pos]
    rw [i32_le] at h
    have e : (1114111 : Int32).toInt = 1114111 := rfl
    exact bt_iff.mpr ⟨h0, by omega⟩
  · rw [if_neg h, if_neg]
    intro z
    have := (bt_iff.mp z).2
    rw [i32_le] at h
    have e : (1114111 : Int32).toInt = 1114111 := rfl
    omega
theorem sgn_b {x : Int32} : sgn (x &&& 255) = x &&& 255 := by
  unfold sgn
  have e : (x &&& 255) &&& 2097151 = x &&& 255 := by rw [Int32.and_assoc, show (255 : Int32) &&& 2097151 = 255 from by decide]
  rw [e, if_pos]
  have := and_255 (x := x)
  rw [i32_le]
  have e : (1114111 : Int32).toInt = 1114111 := rfl
  omega
theorem pf_ag {M : MS} {k : Nat} {gi : GI} (h0 : ¬ M.2.2 15 k = 0) (hS : bt (M.2.2 3 (M.2.2 15 k).toNatClampNeg) 0 40) : it_fault (M.2.2 2 (M.2.2 15 k).toNatClampNeg) (M.2.2 3 (M.2.2 15 k).toNatClampNeg).toNatClampNeg (if cSI M gi k 2 = 0 then 1 else 2) (cSI M gi k 4) = mo_pf M k := ag_it h0 hS
theorem sz_arr {M : MS} (hA : mi_arr M) (hS : mi_size M) {k : Nat} (hk : k < 8) : bt (M.2.2 3 (M.2.2 15 k).toNatClampNeg) 0 40 := by
  have h1 := bt_iff.mp (hA k hk)
  have h2 := cl_toInt (x := M.2.2 15 k) h1.1
  exact hS _ (by omega)
/-- the place that a stream into memory is at -/
theorem pf_pl {M : MS} (hA : mi_arr M) (hS : mi_size M) {k : Nat} (hk : opn M k) (h1 : M.2.2 8 k = 1) (h : mo_pf M k = 0) : usd M (M.2.2 15 k).toNatClampNeg ∧ (M.2.2 11 k).toNatClampNeg < (M.2.2 3 (M.2.2 15 k).toNatClampNeg).toNatClampNeg ∧ (((40 : Int32) * M.2.2 15 k + M.2.2 11 k) - 40).toNatClampNeg = 40 * (M.2.2 15 k).toNatClampNeg + (M.2.2 11 k).toNatClampNeg - 40 ∧ M.2.2 2 (M.2.2 15 k).toNatClampNeg = (if M.2.2 9 k = 0 then 1 else 2) := by
  obtain ⟨h0, h2, h3⟩ := ag_z h
  have a := bt_iff.mp (hA k hk.1)
  have n0 : (M.2.2 15 k).toInt ≠ 0 := fun z => h0 ((i32_eq _ 0).mpr z)
  have s := bt_iff.mp (sz_arr hA hS hk.1)
  have b := bt_iff.mp h3
  have t := ti_sub (a := M.2.2 3 (M.2.2 15 k).toNatClampNeg) (b := 1) (y := 1) rfl rfl (by omega)
  have c1 := cl_toInt (x := M.2.2 11 k) (by omega)
  have c2 := cl_toInt s.1
  refine ⟨mem_usd hA hk h1 h0, by omega, ix_40 (bt_iff.mpr ⟨by omega, by omega⟩) (bt_iff.mpr ⟨by omega, by omega⟩), ?_⟩
  rcases h2 with h2 | ⟨h2, _⟩
  · exact h2
  · exfalso
    split at h2
    · exact absurd h2 (by decide)
    · exact absurd h2 (by decide)
theorem rR3 (G : GG) (l : Launch) (M : MS) (ad : AD) (gi : GI) (w : WM) (hL : RLa G M ad gi w) (hA : mi_arr M) (hS : mi_size M) (k : Nat) (ho : opn M k) (h : cSI M gi k 0 = 1) : MC G l yX3_read cX3_read 2 ((Option.some .int)) ({ frames := 4, cells := 0, slots := 0, locals := 84 } : Room) [.ref (ad 13 k)] w (fun v w' => v = some (.int (rdv M k)) ∧ w' = w) := by
  have h8 : M.2.2 8 k = 1 := h
  by_cases h0 : M.2.2 15 k = 0
  · have hx : rIA ad (M.2.2 15 k) = none := if_pos h0
    have hc := rl_o1 hL ho h
    rw [hx] at hc
    have ev : rdv M k = -11 := by
      have e1 : mo_pf M k = 1 := by
        unfold mo_pf mo_ag
        rw [if_pos h0]
      unfold rdv
      rw [e1, if_pos ⟨h8, by decide⟩]
      rfl
    rw [ev]
    exact kX3_read0 G l w (ad 13 k) (cSI M gi k) _ h hc
  · have hx : rIA ad (M.2.2 15 k) = some (ad 11 (M.2.2 15 k).toNatClampNeg) := rIA_nz h0
    have hc := rl_o1 hL ho h
    rw [hx] at hc
    have hu := mem_usd hA ho h8 h0
    have hs := sz_arr hA hS ho.1
    refine mc_imp (kX3_read G l w (ad 13 k) (cSI M gi k) _ _ h hc _ _ _ _ (n40 hs) (hL.1 11 _ hu) (hL.1 12 _ hu)) ?_
    rintro v w' ⟨hv, hw⟩
    refine ⟨hv.trans ?_, hw⟩
    rw [pf_ag h0 hs]
    unfold rdv
    by_cases hf : mo_pf M k = 0
    · rw [if_pos hf, if_neg (fun z => z.2 (by rw [hf]; decide))]
      obtain ⟨_, p2, p3, p4⟩ := pf_pl hA hS ho h8 hf
      have ec : cArr M (M.2.2 15 k).toNatClampNeg (cSI M gi k 4).toNatClampNeg = M.2.2 4 (((40 : Int32) * M.2.2 15 k + M.2.2 11 k) - 40).toNatClampNeg := by
        rw [p3]
        show (if (M.2.2 11 k).toNatClampNeg < _ then _ else _) = _
        rw [if_pos p2]
        exact dec_num (by rw [p4]; split; exact Or.inl rfl; exact Or.inr rfl)
      rw [ec, p4]
      unfold it_sign mo_gv
      rw [if_pos h8]
      by_cases hw9 : M.2.2 9 k = 0
      · rw [if_pos hw9, if_pos rfl, if_pos hw9]
      · rw [if_neg hw9, if_neg (by decide), if_neg hw9, sgn_cl]
    · rw [if_neg hf, if_pos ⟨h8, fun z => hf (ag_le.mp z)⟩]
theorem dv_b {x p w : Int32} (hx : bt x 0 60) (hp : bt p 0 60) (hw : w = 1 ∨ w = 4) (h : p < x / w) : (p * w).toInt = p.toInt * w.toInt ∧ p.toInt * w.toInt + w.toInt ≤ 60 := by
  have a := bt_iff.mp hx
  have b := bt_iff.mp hp
  have d : (x / w).toInt = x.toInt / w.toInt := by
    rcases hw with hw | hw <;> subst hw
    · rw [Int32.toInt_div, show (1 : Int32).toInt = 1 from rfl, Int.tdiv_eq_ediv_of_nonneg a.1]
      exact Int.bmod_eq_of_le (by omega) (by omega)
    · rw [Int32.toInt_div, show (4 : Int32).toInt = 4 from rfl, Int.tdiv_eq_ediv_of_nonneg a.1]
      exact Int.bmod_eq_of_le (by omega) (by omega)
  rw [i32_lt, d] at h
  rcases hw with hw | hw <;> subst hw
  · have e1 : (1 : Int32).toInt = 1 := rfl
    rw [e1] at h ⊢
    exact ⟨ti_mul (b := 1) (y := 1) rfl rfl (by omega), by omega⟩
  · have e1 : (4 : Int32).toInt = 4 := rfl
    rw [e1] at h ⊢
    exact ⟨ti_mul (b := 4) (y := 4) rfl rfl (by omega), by omega⟩
theorem fcond {p w : Int32} {W : Int} (hp : bt p 0 60) (hw : w.toInt = W) (hW : W = 1 ∨ W = 4) (h1 : (p * w).toInt = p.toInt * W) (h2 : p.toInt * W + W ≤ 60) : ¬ (p * w < 0) ∧ p * w + w ≤ 60 := by
  have b := bt_iff.mp hp
  have e0 : (0 : Int32).toInt = 0 := rfl
  have e60 : (60 : Int32).toInt = 60 := rfl
  have h3 : 0 ≤ p.toInt * W := by rcases hW with hW | hW <;> subst hW <;> omega
  have h4 := ti_add h1 hw (by rcases hW with hW | hW <;> subst hW <;> omega)
  constructor
  · rw [i32_lt, h1, e0]; omega
  · rw [i32_le, h4, e60]; omega
/-- a byte of a file -/
theorem f_byte {M : MS} {gi : GI} {G : GG} {ad : AD} {w : WM} (hL : RLa G M ad gi w) {f p wd : Int32} {W : Int} {j : Nat} (hf : bt f 0 19) (hp : bt p 0 60) (h1 : (p * wd).toInt = p.toInt * W) (hW : W = 1 ∨ W = 4) (hj : (j : Int) < W) (h2 : p.toInt * W + W ≤ 60) {i : Int32} (hi : i = nI j) : gi 2 f.toNatClampNeg ((p * wd) + i).toNatClampNeg &&& 255 = M.2.2 37 (((60 * f) + (p * wd)) + i).toNatClampNeg := by
  subst hi
  have a := bt_iff.mp hf
  have b := bt_iff.mp hp
  have c1 := cl_toInt (x := f) a.1
  have h3 : 0 ≤ p.toInt * W := by rcases hW with hW | hW <;> subst hW <;> omega
  have hj4 : j < 4 := by rcases hW with hW | hW <;> subst hW <;> omega
  generalize p.toInt * W = T at *
  have d1 := ti_add h1 (b := nI j) (nI_toInt (by omega)) (by omega)
  have d2 := cl_toInt (x := p * wd + nI j) (by omega)
  have d3 := ti_mul (a := 60) (b := f) (x := 60) rfl rfl (by omega)
  have d4 := ti_add d3 h1 (by omega)
  have d5 := ti_add d4 (b := nI j) (nI_toInt (by omega)) (by omega)
  have d6 := cl_toInt (x := 60 * f + p * wd + nI j) (by omega)
  rw [hL.2.2.2.1 f.toNatClampNeg (by omega) (p * wd + nI j).toNatClampNeg (by omega)]
  have e : 60 * f.toNatClampNeg + (p * wd + nI j).toNatClampNeg = (60 * f + p * wd + nI j).toNatClampNeg := by omega
  rw [e]
theorem rR1 (G : GG) (l : Launch) (M : MS) (ad : AD) (gi : GI) (w : WM) (hL : RLa G M ad gi w) (hsf : mi_sf M) (hFl : mi_file M) (hPl : mi_place M) (hBy : mi_bytes M) (k : Nat) (ho : opn M k) (hpe : M.2.2 11 k < en_ M k) (h : cSI M gi k 0 = 2) : MC G l yX1_read cX1_read 4 ((Option.some .int)) ({ frames := 3, cells := 0, slots := 0, locals := 63 } : Room) [.ref (ad 13 k)] w (fun v w' => v = some (.int (rdv M k)) ∧ w' = w) := by
  have h8 : M.2.2 8 k = 2 := h
  have hf := hFl k ho.1 h8
  have af := bt_iff.mp hf
  have cf := cl_toInt (x := M.2.2 16 k) af.1
  have hb := hBy (M.2.2 16 k).toNatClampNeg (by omega)
  have hp := hPl k ho.1
  have h9 : cSI M gi k 9 = wdt (M.2.2 9 k) := c9_2 h
  have hl := (hsf k ho h8).2
  have er : rdv M k = if M.2.2 9 k = 0 then mo_g1 M k else sgn (mo_g4 M k) := by
    unfold rdv mo_gv
    rw [if_neg (fun z => by rw [h8] at z; exact absurd z.1 (by decide)), if_neg (by rw [h8]; decide), if_pos h8]
  rw [en_2 h8] at hpe
  by_cases hw : M.2.2 9 k = 0
  · rw [if_pos hw] at hpe er
    obtain ⟨d1, d2⟩ := dv_b hb hp (Or.inl rfl) hpe
    refine mc_imp (kX1_read1 G l w (ad 13 k) (cSI M gi k) _ _ h (rl_ob hL ho h) _ _ _ (hL.1 15 _ hl) _ (hL.1 16 _ hl) (h9.trans (if_pos hw)) hp) ?_
    rintro v w' ⟨hv, hw'⟩
    refine ⟨hv.trans ?_, hw'⟩
    rw [if_pos (fcond (p := cSI M gi k 4) hp rfl (Or.inl rfl) d1 d2), er, sgn_cl]
    have eb : fs_r1 (cSI M gi k) (gi 2 (M.2.2 16 k).toNatClampNeg) = mo_g1 M k := by
      unfold fs_r1 mo_g1
      rw [show cSI M gi k 4 = M.2.2 11 k from rfl, f_byte (j := 0) (i := 0) hL hf hp d1 (Or.inl rfl) (by decide) d2 rfl]
    rw [eb]
    have e2 : mo_g1 M k = gi 2 (M.2.2 16 k).toNatClampNeg ((M.2.2 11 k * 1) + 0).toNatClampNeg &&& 255 := by
      unfold mo_g1
      rw [f_byte (j := 0) (i := 0) hL hf hp d1 (Or.inl rfl) (by decide) d2 rfl]
      exact Int32.zero_or
    rw [e2, sgn_b]
  · rw [if_neg hw] at hpe er
    obtain ⟨d1, d2⟩ := dv_b hb hp (Or.inr rfl) hpe
    refine mc_imp (kX1_read4 G l w (ad 13 k) (cSI M gi k) _ _ h (rl_ob hL ho h) _ _ _ (hL.1 15 _ hl) _ (hL.1 16 _ hl) (h9.trans (if_neg hw)) hp) ?_
    rintro v w' ⟨hv, hw'⟩
    refine ⟨hv.trans ?_, hw'⟩
    rw [if_pos (fcond (p := cSI M gi k 4) hp rfl (Or.inr rfl) d1 d2), er, sgn_cl]
    have eb : fs_r4 (cSI M gi k) (gi 2 (M.2.2 16 k).toNatClampNeg) = mo_g4 M k := by
      unfold fs_r4 mo_g4
      rw [show cSI M gi k 4 = M.2.2 11 k from rfl, f_byte (j := 0) (i := 0) hL hf hp d1 (Or.inr rfl) (by decide) d2 rfl, f_byte (j := 1) (i := 1) hL hf hp d1 (Or.inr rfl) (by decide) d2 rfl, f_byte (j := 2) (i := 2) hL hf hp d1 (Or.inr rfl) (by decide) d2 rfl, f_byte (j := 3) (i := 3) hL hf hp d1 (Or.inr rfl) (by decide) d2 rfl]
    rw [eb]
theorem rR7 (G : GG) (l : Launch) (M : MS) (ad : AD) (gi : GI) (w : WM) (hL : RLa G M ad gi w) (hK : mi_kind M) (hLa : mi_last M) (hPl : mi_place M) (k : Nat) (ho : opn M k) (hpe : M.2.2 11 k < en_ M k) (h : ¬ cSI M gi k 0 = 0 ∧ ¬ cSI M gi k 0 = 1 ∧ ¬ cSI M gi k 0 = 2) : MC G l yX7_read cX7_read 1 ((Option.some .int)) ({ frames := 1, cells := 0, slots := 0, locals := 21 } : Room) [.ref (ad 13 k)] w (fun v w' => v = some (.int (rdv M k)) ∧ w' = w) := by
  have h3 := kd_3 hK ho.1 h.1 h.2.1 h.2.2
  have hl := bt_iff.mp (hLa k ho.1)
  have hp := bt_iff.mp (hPl k ho.1)
  rw [en_3 h.1 h.2.2, i32_lt] at hpe
  refine mc_imp (kX7_read G l w (ad 13 k) (cSI M gi k) _ _ h (rl_oc hL ho h.1 h.2.1 h.2.2) _ _ _ _ (n40 (hLa k ho.1)) (hL.1 22 k ⟨ho, h3⟩) (hL.1 23 k ⟨ho, h3⟩)) ?_
  rintro v w' ⟨hv, hw⟩
  refine ⟨hv.trans ?_, hw⟩
  have t := ti_sub (a := M.2.2 12 k) (b := 1) (y := 1) rfl rfl (by omega)
  rw [if_pos ((has_ag (k := cSI M gi k 4) (hLa k ho.1)).mpr (bt_iff.mpr ⟨hp.1, by rw [t]; show (M.2.2 11 k).toInt ≤ _; omega⟩))]
  have er : rdv M k = M.2.2 18 ((40 * nI k) + M.2.2 11 k).toNatClampNeg := by
    unfold rdv mo_gv
    rw [if_neg (fun z => h.2.1 z.1), if_neg (show ¬ M.2.2 8 k = 1 from h.2.1), if_neg (show ¬ M.2.2 8 k = 2 from h.2.2)]
  have c1 := cl_toInt (x := M.2.2 11 k) hp.1
  have e5 : nI (M.2.2 11 k).toNatClampNeg = M.2.2 11 k := nI_cl hp.1
  have ei : ((40 : Int32) * nI k + M.2.2 11 k).toNatClampNeg = 40 * k + (M.2.2 11 k).toNatClampNeg := by
    rw [← e5, ix_k (by have := ho.1; omega) (by omega), e5]
  rw [er, ei, hL.2.2.2.2.2.2.2 k ho h3 (M.2.2 11 k).toNatClampNeg (by omega)]
  rfl
theorem rR5 (G : GG) (l : Launch) (M : MS) (ad : AD) (gi : GI) (w : WM) (hPl : mi_place M) (k : Nat) (ho : opn M k) (hpe : M.2.2 11 k < en_ M k) (h : cSI M gi k 0 = 0) : MC G l yX5_read cX5_read 1 ((Option.some .int)) ({ frames := 0, cells := 0, slots := 0, locals := 0 } : Room) [.ref (ad 13 k)] w (fun v w' => v = some (.int (rdv M k)) ∧ w' = w) := by
  exfalso
  rw [en_0 h, i32_lt] at hpe
  have := (bt_iff.mp (hPl k ho.1)).1
  have e0 : (0 : Int32).toInt = 0 := rfl
  omega
theorem pl_k {M : MS} {t : Int32} {k : Nat} (h : mo_pl M t = some k) : (oI (mo_pl (sI M 0 0) t)).toNatClampNeg = k := by
  have e : mo_pl (sI M 0 0) t = some k := h
  rw [e]
  exact nI_clamp (by have := pl_lt h; omega)
theorem pl_ge {M : MS} {t : Int32} {k : Nat} (h : mo_pl M t = some k) : 0 ≤ oI (mo_pl (sI M 0 0) t) := oI_ge (x := mo_pl M t) h (by have := pl_lt h; omega)
theorem pl_ng {M : MS} {t : Int32} (h : mo_pl M t = none) : ¬ 0 ≤ oI (mo_pl (sI M 0 0) t) := oI_ng (x := mo_pl M t) h
theorem pl_oI {M : MS} {t : Int32} {k : Nat} (h : mo_pl M t = some k) : oI (mo_pl (sI M 0 0) t) = nI k := by
  have e : mo_pl (sI M 0 0) t = some k := h
  rw [e]
  rfl
/-- every echo is open, or there is none -/
def mi_eo (M : MS) : Prop := ∀ k, k < 8 → M.2.2 17 k = 0 ∨ ∃ j, mo_pl M (M.2.2 17 k) = some j
theorem eo_0 {M : MS} {k : Nat} (h : mi_eo M) (hk : k < 8) (h0 : mo_pl M (M.2.2 17 k) = none) : M.2.2 17 k = 0 := by
  rcases h k hk with h | ⟨j, h⟩
  · exact h
  · rw [h0] at h; cases h
