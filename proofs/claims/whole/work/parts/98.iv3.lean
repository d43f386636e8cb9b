/-! references and files -/
def ctN (g : Nat → Int32) : Nat → Nat
  | 0 => 0
  | n + 1 => ctN g n + (if g n = 0 then 0 else 1)
def mi_ct (M : MS) : Prop := (M.1 38).toInt = (ctN (M.2.2 35) 20 : Int) ∧ (M.1 38).toInt ≤ 6
def mi_gp (M : MS) : Prop := ∀ i, 0 ≤ (M.2.2 24 i).toInt
def G4 (M : MS) : Prop := mi_refs M ∧ mi_first M ∧ mi_ff M ∧ mi_tmp M ∧ mi_nl M ∧ mi_lk M ∧ mi_sf M
def G5 (M : MS) : Prop := mi_fr M ∧ mi_bytes M ∧ mi_ct M
def G6 (M : MS) : Prop := mi_given M ∧ mi_gp M
def G7 (M : MS) : Prop := mi_dot M ∧ mi_nb M ∧ bt (M.1 26) 0 8 = true
def G8 (n : Nat) (M : MS) : Prop := (M.1 7).toInt ≤ n ∧ 0 ≤ (M.1 39).toInt ∧ (M.1 39).toInt ≤ 1000 * n ∧ bt (M.1 44) 0 8 = true
def G9 (b : Nat) (M : MS) : Prop := 0 ≤ (M.2.1 21).toInt ∧ (M.2.1 21).toInt ≤ b ∧ 0 ≤ (M.2.1 22).toInt ∧ (M.2.1 22).toInt ≤ b
def INV (n b : Nat) (M : MS) : Prop := G1 M ∧ G2 M ∧ G3 M ∧ G4 M ∧ G5 M ∧ G6 M ∧ G7 M ∧ G8 n M ∧ G9 b M
theorem ct_n {g : Nat → Int32} {f : Nat} {v : Int32} : ∀ n, n ≤ f → ctN (upd g f v) n = ctN g n
  | 0, _ => rfl
  | n + 1, h => by
    unfold ctN
    rw [ct_n n (by omega), upd_n (by omega)]
theorem ct_up {g : Nat → Int32} {f : Nat} {v : Int32} : ∀ n, f < n → ctN (upd g f v) n + (if g f = 0 then 0 else 1) = ctN g n + (if v = 0 then 0 else 1)
  | 0, h => absurd h (by omega)
  | n + 1, h => by
    unfold ctN
    by_cases hz : f = n
    · subst hz
      rw [ct_n f (Nat.le_refl f), upd_s]
      omega
    · have := ct_up (g := g) (f := f) (v := v) n (by omega)
      rw [upd_n (fun z => hz z.symm)]
      omega
theorem g4_c {M M' : MS} {L K : List Nat} (hA : AN L M M') (hI : JN K M M') (hL : ∀ j ∈ [6, 8, 16, 30, 31, 32, 33, 34], j ∉ L) (hK : 29 ∉ K) (h : G4 M) : G4 M' := by
  have e6 := hA 6 (hL 6 (by decide))
  have e8 := hA 8 (hL 8 (by decide))
  have e16 := hA 16 (hL 16 (by decide))
  have e30 := hA 30 (hL 30 (by decide))
  have e31 := hA 31 (hL 31 (by decide))
  have e32 := hA 32 (hL 32 (by decide))
  have e33 := hA 33 (hL 33 (by decide))
  have e34 := hA 34 (hL 34 (by decide))
  have i29 := hI 29 hK
  obtain ⟨h1, h2, h3, h4, h5, h6, h7⟩ := h
  refine ⟨by unfold mi_refs; rw [i29]; exact h1, fun k hk => by rw [e34]; exact h2 k hk, fun r hr => ?_, fun k => by rw [e33]; exact h4 k, fun r hr z => ?_, fun r hr z => ?_, fun k hk z => ?_⟩
  · unfold isr at hr ⊢; rw [i29] at hr ⊢; rw [e34]; exact h3 r hr
  · unfold isr at hr; rw [i29] at hr; rw [e33] at z; rw [e32]; exact h5 r hr z
  · unfold isr at hr; rw [i29] at hr; rw [e33] at z ⊢; rw [e34, e30, e31, e32]; exact h6 r hr z
  · unfold opn at hk; rw [e6] at hk; rw [e8] at z; rw [e16]
    have := h7 k hk z
    exact ⟨this.1, lv15_c i29 e34 this.2⟩
theorem g4_bg {M : MS} {k : Nat} {g18 : Nat → Int32} {kd wd md pl ls ar fi : Int32} (c : kd = 2 → 0 ≤ fi.toInt ∧ lvT M 15 fi.toNatClampNeg) (h : G4 M) : G4 (BG M k g18 kd wd md pl ls ar fi) := by
  obtain ⟨h1, h2, h3, h4, h5, h6, h7⟩ := h
  refine ⟨h1, h2, h3, h4, h5, h6, fun i hi z => ?_⟩
  have h2 := hi.2
  rw [bu_6] at h2
  rw [bu_8] at z
  rw [bu_16]
  by_cases hz : i = k
  · rw [hz, upd_s] at z ⊢
    have q := c z
    exact ⟨q.1, lv15_c bi_29 bm_34 q.2⟩
  · rw [upd_n hz] at z h2 ⊢
    have q := h7 i ⟨hi.1, h2⟩ z
    exact ⟨q.1, lv15_c bi_29 bm_34 q.2⟩
theorem g4_cl {M : MS} {k : Nat} {t : Int32} (h : G4 M) : G4 (CLM M k t) := by
  obtain ⟨h1, h2, h3, h4, h5, h6, h7⟩ := h
  exact ⟨h1, h2, h3, h4, h5, h6, fun i hi z => by
    have q := h7 i (clm_op hi) z
    have e1 : (CLM M k t).1 29 = M.1 29 := rfl
    have e2 : (CLM M k t).2.2 34 = M.2.2 34 := rfl
    exact ⟨q.1, lv15_c e1 e2 q.2⟩⟩
theorem g4_new {M M' : MS} {R a : Nat} {u tp : Int32} (e0 : M.1 29 = nI R) (hR : R < 20) (i29 : M'.1 29 = M.1 29 + 1) (htp : tp = 0 ∨ tp = 1) (ha : a ≤ R) (ha2 : a = R ∨ M.2.2 34 a = nI a)
    (e6 : M'.2.2 6 = M.2.2 6) (e8 : M'.2.2 8 = M.2.2 8) (e16 : M'.2.2 16 = M.2.2 16) (e30 : M'.2.2 30 = upd (M.2.2 30) R u) (e33 : M'.2.2 33 = upd (M.2.2 33) R tp) (e34 : M'.2.2 34 = upd (M.2.2 34) R (nI a)) (e32 : ∀ r, r ≠ R → M'.2.2 32 r = M.2.2 32 r) (e31 : ∀ r j : Nat, r ≠ R → j < 8 → M'.2.2 31 (8 * r + j) = M.2.2 31 (8 * r + j))
    (c : tp = 0 → bt (M'.2.2 32 R) 0 8 = true ∧ (a < R → M.2.2 33 a = 0 ∧ M.2.2 30 a = u ∧ M.2.2 32 a = M'.2.2 32 R ∧ ∀ j : Nat, (j : Int) < (M'.2.2 32 R).toInt → M.2.2 31 (8 * a + j) = M'.2.2 31 (8 * R + j))) (h : G4 M) : G4 M' := by
  obtain ⟨h1, h2, h3, h4, h5, h6, h7⟩ := h
  have eR : (M.1 29).toInt = R := by rw [e0]; exact nI_toInt (by omega)
  have eR' : (M'.1 29).toInt = (R : Int) + 1 := by
    rw [i29, ti_add (a := M.1 29) (b := 1) (y := 1) rfl rfl (by omega), eR]
  have is1 : ∀ r, isr M' r → r ≠ R → isr M r := by
    intro r hr hn
    unfold isr at hr ⊢
    omega
  have isn : ∀ r, isr M r → r ≠ R := by
    intro r hr z
    unfold isr at hr
    omega
  have is2 : ∀ r, isr M r → isr M' r := by
    intro r hr
    unfold isr at hr ⊢
    omega
  have isR : ∀ r, r ≤ R → isr M' r := by
    intro r hr
    unfold isr
    omega
  have ca : (nI a).toNatClampNeg = a := nI_clamp (by omega)
  refine ⟨bt_iff.mpr ⟨by omega, by omega⟩, fun k hk => ?_, fun r hr => ?_, fun k => ?_, fun r hr z => ?_, fun r hr z => ?_, fun k hk z => ?_⟩
  · rw [e34]; exact upd_bt (h2 k hk) ((bt_nI (by omega)).mpr ⟨by omega, by omega⟩)
  · rw [e34]
    by_cases hz : r = R
    · rw [hz, upd_s, ca]
      refine ⟨isR a ha, ?_⟩
      by_cases hz2 : a = R
      · rw [hz2, upd_s]
      · rw [upd_n hz2]
        rcases ha2 with q | q
        · exact absurd q hz2
        · exact q
    · rw [upd_n hz]
      have := h3 r (is1 r hr hz)
      rw [upd_n (isn _ this.1)]
      exact ⟨is2 _ this.1, this.2⟩
  · rw [e33]
    by_cases hz : k = R
    · rw [hz, upd_s]; exact htp
    · rw [upd_n hz]; exact h4 k
  · rw [e33] at z
    by_cases hz : r = R
    · rw [hz, upd_s] at z; rw [hz]; exact (c z).1
    · rw [upd_n hz] at z; rw [e32 r hz]; exact h5 r (is1 r hr hz) z
  · rw [e33] at z
    by_cases hz : r = R
    · rw [hz, upd_s] at z
      have c := c z
      have hb := bt_iff.mp c.1
      rw [hz, e34, upd_s, ca]
      refine ⟨ha, rfl, ?_, ?_, ?_, fun j hj => ?_⟩
      · rw [e33]
        by_cases hz2 : a = R
        · rw [hz2, upd_s]; exact z
        · rw [upd_n hz2]; exact (c.2 (by omega)).1
      · rw [e30, upd_s]
        by_cases hz2 : a = R
        · rw [hz2, upd_s]
        · rw [upd_n hz2]; exact (c.2 (by omega)).2.1
      · by_cases hz2 : a = R
        · rw [hz2]
        · rw [e32 a hz2]; exact (c.2 (by omega)).2.2.1
      · by_cases hz2 : a = R
        · rw [hz2]
        · rw [e31 a j hz2 (by omega)]; exact (c.2 (by omega)).2.2.2 j hj
    · rw [upd_n hz] at z
      have hi := is1 r hr hz
      have hnl := bt_iff.mp (h5 r hi z)
      obtain ⟨q1, q2, q3, q4, q5, q6⟩ := h6 r hi z
      have hb : (M.2.2 34 r).toNatClampNeg ≠ R := by
        unfold isr at hi
        omega
      rw [e34, upd_n hz, e33, upd_n hb, e30, upd_n hb, upd_n hz, e32 _ hb, e32 r hz]
      exact ⟨q1, q2, q3, q4, q5, fun j hj => by rw [e31 _ j hb (by omega), e31 r j hz (by omega)]; exact q6 j hj⟩
  · unfold opn at hk; rw [e6] at hk; rw [e8] at z; rw [e16]
    have := h7 k hk z
    refine ⟨this.1, is2 _ this.2.1, ?_⟩
    show M'.2.2 34 _ = _
    rw [e34, upd_n (isn _ this.2.1)]
    exact this.2.2
/-- a new reference, for the rows -/
theorem g1_new {M M' : MS} {R : Nat} {tp : Int32} (e0 : M.1 29 = nI R) (hR : R < 20) (i29 : M'.1 29 = M.1 29 + 1) (e33 : M'.2.2 33 = upd (M.2.2 33) R tp) (hA : ∀ j ∈ [1, 2, 3, 4, 6, 8, 15], M'.2.2 j = M.2.2 j) (h : G1 M) : G1 M' := by
  have e1 := hA 1 (by decide)
  have e2 := hA 2 (by decide)
  have e3 := hA 3 (by decide)
  have e4 := hA 4 (by decide)
  have e6 := hA 6 (by decide)
  have e8 := hA 8 (by decide)
  have e15 := hA 15 (by decide)
  have eR : (M.1 29).toInt = R := by rw [e0]; exact nI_toInt (by omega)
  have eR' : (M'.1 29).toInt = (R : Int) + 1 := by
    rw [i29, ti_add (a := M.1 29) (b := 1) (y := 1) rfl rfl (by omega), eR]
  have hus : ∀ u, usd M' u → usd M u := by
    intro u hu
    rw [us_iff] at hu ⊢
    rw [e1, e6, e8, e15] at hu
    exact hu
  obtain ⟨h1, h2, h3, h4, h5⟩ := h
  refine ⟨fun k hk => by rw [e1]; exact h1 k hk, fun k hk => by rw [e3]; exact h2 k hk, fun a j ha ha2 hj hs => ?_, fun u hu => by rw [e2]; exact h4 u (hus u hu), fun u j hu hs hj => ?_⟩
  · rw [e2] at hs; rw [e4]; exact h3 a j ha ha2 hj hs
  · rw [e2] at hs; rw [e3] at hj; rw [e2, e4, e33, eR']
    obtain ⟨q1, q2, q3⟩ := h5 u j (hus u hu) hs hj
    refine ⟨q1, by omega, fun h4 hp => ?_⟩
    have t1 := ti_sub (a := M.2.2 4 (40 * u + j - 40)) (b := 1) (y := 1) rfl rfl (by omega)
    have c1 := cl_toInt (x := M.2.2 4 (40 * u + j - 40) - 1) (by omega)
    rw [upd_n (by omega)]
    exact q3 h4 hp
theorem g5_c {M M' : MS} {L K : List Nat} (hA : AN L M M') (hI : JN K M M') (hL : ∀ j ∈ [35, 36, 37], j ∉ L) (hK : ∀ j ∈ [29, 38], j ∉ K) (h : G5 M) : G5 M' := by
  have e35 := hA 35 (hL 35 (by decide))
  have e36 := hA 36 (hL 36 (by decide))
  have e37 := hA 37 (hL 37 (by decide))
  have i29 := hI 29 (hK 29 (by decide))
  have i38 := hI 38 (hK 38 (by decide))
  refine ⟨fun f hf hz => ?_, fun k hk => by rw [e36]; exact h.2.1 k hk, ?_⟩
  · rw [i29] at hz; rw [e35, e36, e37]; exact h.1 f hf hz
  · unfold mi_ct; rw [i38, e35]; exact h.2.2
theorem g5_new {M M' : MS} (i29 : (M.1 29).toInt ≤ (M'.1 29).toInt) (i38 : M'.1 38 = M.1 38) (e35 : M'.2.2 35 = M.2.2 35) (e36 : M'.2.2 36 = M.2.2 36) (e37 : M'.2.2 37 = M.2.2 37) (h : G5 M) : G5 M' := by
  refine ⟨fun f hf hz => ?_, fun k hk => by rw [e36]; exact h.2.1 k hk, ?_⟩
  · rw [e35, e36, e37]; exact h.1 f hf (by omega)
  · unfold mi_ct; rw [i38, e35]; exact h.2.2
theorem g5_36 {M : MS} {f : Nat} {x : Int32} (hf : isr M f) (hx : bt x 0 60 = true) (h : G5 M) : G5 (sF M 36 f x) := by
  refine ⟨fun g hg hz => ?_, fun k hk => upd_bt (h.2.1 k hk) hx, h.2.2⟩
  have hz : (M.1 29).toInt ≤ g := hz
  have q := h.1 g hg hz
  refine ⟨q.1, ?_, q.2.2⟩
  show upd (M.2.2 36) f x g = 0
  unfold isr at hf
  rw [upd_n (by omega)]
  exact q.2.1
theorem g5_35 {M : MS} {f : Nat} (hf : isr M f) (hf2 : f < 20) (h0 : M.2.2 35 f = 0) (h6 : ¬ M.1 38 = 6) (h : G5 M) : G5 (sI (sF M 35 f 1) 38 (M.1 38 + 1)) := by
  have h38 := h.2.2
  rw [i32_eq] at h6
  have e6 : (6 : Int32).toInt = 6 := rfl
  have e1 := ti_add (a := M.1 38) (b := 1) (y := 1) rfl rfl (by have := h38.1; have := h38.2; omega)
  refine ⟨fun g hg hz => ?_, h.2.1, ?_, ?_⟩
  · have hz : (M.1 29).toInt ≤ g := hz
    have q := h.1 g hg hz
    refine ⟨?_, q.2.1, q.2.2⟩
    show upd (M.2.2 35) f 1 g = 0
    unfold isr at hf
    rw [upd_n (by omega)]
    exact q.1
  · show (M.1 38 + 1).toInt = (ctN (upd (M.2.2 35) f 1) 20 : Int)
    have c := ct_up (g := M.2.2 35) (f := f) (v := 1) 20 hf2
    rw [if_pos h0, if_neg (by decide)] at c
    have := h38.1
    omega
  · show (M.1 38 + 1).toInt ≤ 6
    have := h38.2
    omega
theorem g5_dr {M : MS} {f : Nat} (hf2 : f < 20) (h0 : ¬ M.2.2 35 f = 0) (h : G5 M) : G5 (sI (sF M 35 f 0) 38 (M.1 38 - 1)) := by
  have h38 := h.2.2
  have c := ct_up (g := M.2.2 35) (f := f) (v := 0) 20 hf2
  rw [if_neg h0, if_pos rfl] at c
  have e1 := ti_sub (a := M.1 38) (b := 1) (y := 1) rfl rfl (by have := h38.1; have := h38.2; omega)
  refine ⟨fun g hg hz => ?_, h.2.1, ?_, ?_⟩
  · have hz : (M.1 29).toInt ≤ g := hz
    have q := h.1 g hg hz
    refine ⟨?_, q.2.1, q.2.2⟩
    show upd (M.2.2 35) f 0 g = 0
    by_cases hgf : g = f
    · rw [hgf, upd_s]
    · rw [upd_n hgf]; exact q.1
  · show (M.1 38 - 1).toInt = (ctN (upd (M.2.2 35) f 0) 20 : Int)
    have := h38.1
    omega
  · show (M.1 38 - 1).toInt ≤ 6
    have := h38.2
    omega
theorem g5_37 {M : MS} {f x : Nat} {v : Int32} (hf : isr M f) (h1 : 60 * f ≤ x) (h2 : x < 60 * f + 60) (h : G5 M) : G5 (sF M 37 x v) := by
  refine ⟨fun g hg hz => ?_, h.2.1, h.2.2⟩
  have hz : (M.1 29).toInt ≤ g := hz
  have q := h.1 g hg hz
  refine ⟨q.1, q.2.1, fun j hj => ?_⟩
  show upd (M.2.2 37) x v (60 * g + j) = 0
  unfold isr at hf
  rw [upd_n (by omega)]
  exact q.2.2 j hj
theorem g6_c {M M' : MS} {L : List Nat} (hA : AN L M M') (hL : ∀ j ∈ [23, 24], j ∉ L) (h : G6 M) : G6 M' := by
  have e23 := hA 23 (hL 23 (by decide))
  have e24 := hA 24 (hL 24 (by decide))
  exact ⟨fun k hk => by rw [e23]; exact h.1 k hk, fun i => by rw [e24]; exact h.2 i⟩
theorem g7_c {M M' : MS} {L K : List Nat} (hA : AN L M M') (hI : JN K M M') (hL : 25 ∉ L) (hK : ∀ j ∈ [26, 27], j ∉ K) (h : G7 M) : G7 M' := by
  have e25 := hA 25 hL
  have i26 := hI 26 (hK 26 (by decide))
  have i27 := hI 27 (hK 27 (by decide))
  exact ⟨by unfold mi_dot; rw [i27]; exact h.1, fun j hj => by rw [i26] at hj; rw [e25]; exact h.2.1 j hj, by rw [i26]; exact h.2.2⟩
theorem g8_c {n : Nat} {M M' : MS} {K : List Nat} (hI : JN K M M') (hK : ∀ j ∈ [7, 39, 44], j ∉ K) (h : G8 n M) : G8 n M' := by
  have i7 := hI 7 (hK 7 (by decide))
  have i39 := hI 39 (hK 39 (by decide))
  have i44 := hI 44 (hK 44 (by decide))
  unfold G8
  rw [i7, i39, i44]
  exact h
theorem g9_c {b : Nat} {M M' : MS} (l0 : M'.2.1 = M.2.1) (h : G9 b M) : G9 b M' := by
  unfold G9
  rw [l0]
  exact h
theorem g8_up {n : Nat} {M : MS} (h : G8 n M) : G8 (n + 1) M := by
  obtain ⟨h1, h2, h3, h4⟩ := h
  exact ⟨by omega, h2, by omega, h4⟩
theorem g9_up {b c : Nat} {M : MS} (hb : b ≤ c) (h : G9 b M) : G9 c M := by
  obtain ⟨h5, h6, h7, h8⟩ := h
  exact ⟨h5, by omega, h7, by omega⟩
theorem iv_b {n b c : Nat} {M : MS} (hb : b ≤ c) (h : INV n b M) : INV n c M := ⟨h.1, h.2.1, h.2.2.1, h.2.2.2.1, h.2.2.2.2.1, h.2.2.2.2.2.1, h.2.2.2.2.2.2.1, h.2.2.2.2.2.2.2.1, g9_up hb h.2.2.2.2.2.2.2.2⟩
theorem iv_up {n b : Nat} {M : MS} (h : INV n b M) : INV (n + 1) (b + 16) M := ⟨h.1, h.2.1, h.2.2.1, h.2.2.2.1, h.2.2.2.2.1, h.2.2.2.2.2.1, h.2.2.2.2.2.2.1, g8_up h.2.2.2.2.2.2.2.1, g9_up (by omega) h.2.2.2.2.2.2.2.2⟩
