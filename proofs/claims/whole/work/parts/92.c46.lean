/-! references with names -/
/-- a name has at most 8 signs -/
def mi_nl (M : MS) : Prop := ∀ r, isr M r → M.2.2 33 r = 0 → bt (M.2.2 32 r) 0 8 = true
theorem rl_filN {G : GG} {M M' : MS} {ad : AD} {gi : GI} {w w' : WM} {R N fa q1 s1 v1 q2 pa : Nat} {u fv : Int32} {fb : Nat → Int32} (hL : RLa G M ad gi w) (hrc : mi_refs M) (hFF : mi_ff M) (hsf : mi_sf M) (hnl : mi_nl M) (hfr : mi_fr M) (hfv : fv = nI R) (hfa : fa = q2) (hR : R = (M.1 29).toNatClampNeg) (hR20 : R < 20) (hA : ∀ k, k ≠ 30 → k ≠ 31 → k ≠ 32 → k ≠ 33 → k ≠ 34 → M'.2.2 k = M.2.2 k) (hI : ∀ k, k ≠ 0 → k ≠ 29 → M'.1 k = M.1 k) (c29 : M'.1 29 = M.1 29 + 1) (l0 : M'.2.1 = M.2.1) (g30 : M'.2.2 30 = upd (M.2.2 30) R u) (g32 : M'.2.2 32 = upd (M.2.2 32) R (nI N)) (g33 : M'.2.2 33 = upd (M.2.2 33) R 0) (g34 : M'.2.2 34 = upd (M.2.2 34) R fv) (g31 : ∀ r j : Nat, r ≠ R → j < 8 → M'.2.2 31 (8 * r + j) = M.2.2 31 (8 * r + j)) (hN8 : N ≤ 8) (hname : ∀ j, j < N → fb j = M'.2.2 31 (8 * R + j)) (f17 : ∀ t i, lvT M t i → q1 ≠ ad t i) (f18 : ∀ t i, lvT M t i → s1 ≠ ad t i) (f19 : ∀ t i, lvT M t i → v1 ≠ ad t i) (f15 : ∀ t i, lvT M t i → q2 ≠ ad t i) (f16 : ∀ t i, lvT M t i → pa ≠ ad t i) (n17_18 : q1 ≠ s1) (n17_19 : q1 ≠ v1) (n17_15 : q1 ≠ q2) (n17_16 : q1 ≠ pa) (n18_19 : s1 ≠ v1) (n18_15 : s1 ≠ q2) (n18_16 : s1 ≠ pa) (n19_15 : v1 ≠ q2) (n19_16 : v1 ≠ pa) (n15_16 : q2 ≠ pa) (h4 : w' (ad 4 0) = some (rA (gA G 6) 20 (va_up (cF M ad) R (some q1)))) (h0 : w' (ad 0 0) = some (oC (ad 1 0) (ad 2 0) (ad 3 0) (ad 4 0) (ad 5 0) (ad 6 0) (sAd M ad (M.1 20)) (M.1 7) (M.1 29 + 1) (M.1 38) (M.2.1 21).toInt32 (M.2.1 22).toInt32 (M.1 5))) (e17 : w' q1 = some (.inr (8, [.int u, .ref s1, .int 0, .ref fa]))) (e18 : w' s1 = some (.inr (0, [.ref v1, .int 0, .int 0, .int 0]))) (e19 : w' v1 = some (.inl (gA G 1, N, .inl fb))) (e15 : w' q2 = some (.inr (10, [.ref pa, .int 0, .int 0]))) (e16 : w' pa = some (.inl (gA G 1, 60, .inl (fun _ => 0)))) (hb : ∀ b, b ≠ ad 0 0 → b ≠ ad 4 0 → b ≠ q1 → b ≠ s1 → b ≠ v1 → b ≠ q2 → b ≠ pa → w' b = w b) : RLa G M' (adu (adu (adu (adu (adu ad 17 R q1) 18 R s1) 19 R v1) 15 R q2) 16 R pa) (gu (gu gi 5 R fb) 2 R (fun _ => 0)) w' := by
  have brc := bt_iff.mp hrc
  have cR := cl_toInt (x := M.1 29) brc.1
  have t29 := ti_add (a := M.1 29) (b := 1) (y := 1) rfl rfl (by omega)
  obtain ⟨z35, z36, z37⟩ := hfr R hR20 (by omega)
  have enR : M.1 29 = nI R := by rw [hR, nI_cl brc.1]
  have m1 : M'.2.2 1 = M.2.2 1 := hA 1 (by decide) (by decide) (by decide) (by decide) (by decide)
  have m2 : M'.2.2 2 = M.2.2 2 := hA 2 (by decide) (by decide) (by decide) (by decide) (by decide)
  have m3 : M'.2.2 3 = M.2.2 3 := hA 3 (by decide) (by decide) (by decide) (by decide) (by decide)
  have m4 : M'.2.2 4 = M.2.2 4 := hA 4 (by decide) (by decide) (by decide) (by decide) (by decide)
  have m6 : M'.2.2 6 = M.2.2 6 := hA 6 (by decide) (by decide) (by decide) (by decide) (by decide)
  have m8 : M'.2.2 8 = M.2.2 8 := hA 8 (by decide) (by decide) (by decide) (by decide) (by decide)
  have m9 : M'.2.2 9 = M.2.2 9 := hA 9 (by decide) (by decide) (by decide) (by decide) (by decide)
  have m10 : M'.2.2 10 = M.2.2 10 := hA 10 (by decide) (by decide) (by decide) (by decide) (by decide)
  have m11 : M'.2.2 11 = M.2.2 11 := hA 11 (by decide) (by decide) (by decide) (by decide) (by decide)
  have m12 : M'.2.2 12 = M.2.2 12 := hA 12 (by decide) (by decide) (by decide) (by decide) (by decide)
  have m13 : M'.2.2 13 = M.2.2 13 := hA 13 (by decide) (by decide) (by decide) (by decide) (by decide)
  have m14 : M'.2.2 14 = M.2.2 14 := hA 14 (by decide) (by decide) (by decide) (by decide) (by decide)
  have m15 : M'.2.2 15 = M.2.2 15 := hA 15 (by decide) (by decide) (by decide) (by decide) (by decide)
  have m16 : M'.2.2 16 = M.2.2 16 := hA 16 (by decide) (by decide) (by decide) (by decide) (by decide)
  have m17 : M'.2.2 17 = M.2.2 17 := hA 17 (by decide) (by decide) (by decide) (by decide) (by decide)
  have m18 : M'.2.2 18 = M.2.2 18 := hA 18 (by decide) (by decide) (by decide) (by decide) (by decide)
  have m19 : M'.2.2 19 = M.2.2 19 := hA 19 (by decide) (by decide) (by decide) (by decide) (by decide)
  have m23 : M'.2.2 23 = M.2.2 23 := hA 23 (by decide) (by decide) (by decide) (by decide) (by decide)
  have m24 : M'.2.2 24 = M.2.2 24 := hA 24 (by decide) (by decide) (by decide) (by decide) (by decide)
  have m25 : M'.2.2 25 = M.2.2 25 := hA 25 (by decide) (by decide) (by decide) (by decide) (by decide)
  have m35 : M'.2.2 35 = M.2.2 35 := hA 35 (by decide) (by decide) (by decide) (by decide) (by decide)
  have m36 : M'.2.2 36 = M.2.2 36 := hA 36 (by decide) (by decide) (by decide) (by decide) (by decide)
  have m37 : M'.2.2 37 = M.2.2 37 := hA 37 (by decide) (by decide) (by decide) (by decide) (by decide)
  have m42 : M'.2.2 42 = M.2.2 42 := hA 42 (by decide) (by decide) (by decide) (by decide) (by decide)
  have m43 : M'.2.2 43 = M.2.2 43 := hA 43 (by decide) (by decide) (by decide) (by decide) (by decide)
  have i5 : M'.1 5 = M.1 5 := hI 5 (by decide) (by decide)
  have i7 : M'.1 7 = M.1 7 := hI 7 (by decide) (by decide)
  have i20 : M'.1 20 = M.1 20 := hI 20 (by decide) (by decide)
  have i26 : M'.1 26 = M.1 26 := hI 26 (by decide) (by decide)
  have i27 : M'.1 27 = M.1 27 := hI 27 (by decide) (by decide)
  have i28 : M'.1 28 = M.1 28 := hI 28 (by decide) (by decide)
  have i38 : M'.1 38 = M.1 38 := hI 38 (by decide) (by decide)
  have i39 : M'.1 39 = M.1 39 := hI 39 (by decide) (by decide)
  have i40 : M'.1 40 = M.1 40 := hI 40 (by decide) (by decide)
  have i41 : M'.1 41 = M.1 41 := hI 41 (by decide) (by decide)
  have i44 : M'.1 44 = M.1 44 := hI 44 (by decide) (by decide)
  have i45 : M'.1 45 = M.1 45 := hI 45 (by decide) (by decide)
  generalize hA' : (adu (adu (adu (adu (adu ad 17 R q1) 18 R s1) 19 R v1) 15 R q2) 16 R pa) = ad' at *
  have d0 : ad' 0 = ad 0 := hA' ▸ (rfl : (adu (adu (adu (adu (adu ad 17 R q1) 18 R s1) 19 R v1) 15 R q2) 16 R pa) 0 = ad 0)
  have d1 : ad' 1 = ad 1 := hA' ▸ (rfl : (adu (adu (adu (adu (adu ad 17 R q1) 18 R s1) 19 R v1) 15 R q2) 16 R pa) 1 = ad 1)
  have d2 : ad' 2 = ad 2 := hA' ▸ (rfl : (adu (adu (adu (adu (adu ad 17 R q1) 18 R s1) 19 R v1) 15 R q2) 16 R pa) 2 = ad 2)
  have d3 : ad' 3 = ad 3 := hA' ▸ (rfl : (adu (adu (adu (adu (adu ad 17 R q1) 18 R s1) 19 R v1) 15 R q2) 16 R pa) 3 = ad 3)
  have d4 : ad' 4 = ad 4 := hA' ▸ (rfl : (adu (adu (adu (adu (adu ad 17 R q1) 18 R s1) 19 R v1) 15 R q2) 16 R pa) 4 = ad 4)
  have d5 : ad' 5 = ad 5 := hA' ▸ (rfl : (adu (adu (adu (adu (adu ad 17 R q1) 18 R s1) 19 R v1) 15 R q2) 16 R pa) 5 = ad 5)
  have d6 : ad' 6 = ad 6 := hA' ▸ (rfl : (adu (adu (adu (adu (adu ad 17 R q1) 18 R s1) 19 R v1) 15 R q2) 16 R pa) 6 = ad 6)
  have d7 : ad' 7 = ad 7 := hA' ▸ (rfl : (adu (adu (adu (adu (adu ad 17 R q1) 18 R s1) 19 R v1) 15 R q2) 16 R pa) 7 = ad 7)
  have d8 : ad' 8 = ad 8 := hA' ▸ (rfl : (adu (adu (adu (adu (adu ad 17 R q1) 18 R s1) 19 R v1) 15 R q2) 16 R pa) 8 = ad 8)
  have d9 : ad' 9 = ad 9 := hA' ▸ (rfl : (adu (adu (adu (adu (adu ad 17 R q1) 18 R s1) 19 R v1) 15 R q2) 16 R pa) 9 = ad 9)
  have d10 : ad' 10 = ad 10 := hA' ▸ (rfl : (adu (adu (adu (adu (adu ad 17 R q1) 18 R s1) 19 R v1) 15 R q2) 16 R pa) 10 = ad 10)
  have d11 : ad' 11 = ad 11 := hA' ▸ (rfl : (adu (adu (adu (adu (adu ad 17 R q1) 18 R s1) 19 R v1) 15 R q2) 16 R pa) 11 = ad 11)
  have d12 : ad' 12 = ad 12 := hA' ▸ (rfl : (adu (adu (adu (adu (adu ad 17 R q1) 18 R s1) 19 R v1) 15 R q2) 16 R pa) 12 = ad 12)
  have d13 : ad' 13 = ad 13 := hA' ▸ (rfl : (adu (adu (adu (adu (adu ad 17 R q1) 18 R s1) 19 R v1) 15 R q2) 16 R pa) 13 = ad 13)
  have d14 : ad' 14 = ad 14 := hA' ▸ (rfl : (adu (adu (adu (adu (adu ad 17 R q1) 18 R s1) 19 R v1) 15 R q2) 16 R pa) 14 = ad 14)
  have d20 : ad' 20 = ad 20 := hA' ▸ (rfl : (adu (adu (adu (adu (adu ad 17 R q1) 18 R s1) 19 R v1) 15 R q2) 16 R pa) 20 = ad 20)
  have d21 : ad' 21 = ad 21 := hA' ▸ (rfl : (adu (adu (adu (adu (adu ad 17 R q1) 18 R s1) 19 R v1) 15 R q2) 16 R pa) 21 = ad 21)
  have d22 : ad' 22 = ad 22 := hA' ▸ (rfl : (adu (adu (adu (adu (adu ad 17 R q1) 18 R s1) 19 R v1) 15 R q2) 16 R pa) 22 = ad 22)
  have d23 : ad' 23 = ad 23 := hA' ▸ (rfl : (adu (adu (adu (adu (adu ad 17 R q1) 18 R s1) 19 R v1) 15 R q2) 16 R pa) 23 = ad 23)
  have s17 : ad' 17 R = q1 := by rw [← hA']; exact (adu_s : (adu ad 17 R q1) 17 R = q1)
  have s18 : ad' 18 R = s1 := by rw [← hA']; exact (adu_s : (adu (adu ad 17 R q1) 18 R s1) 18 R = s1)
  have s19 : ad' 19 R = v1 := by rw [← hA']; exact (adu_s : (adu (adu (adu ad 17 R q1) 18 R s1) 19 R v1) 19 R = v1)
  have s15 : ad' 15 R = q2 := by rw [← hA']; exact (adu_s : (adu (adu (adu (adu ad 17 R q1) 18 R s1) 19 R v1) 15 R q2) 15 R = q2)
  have s16 : ad' 16 R = pa := by rw [← hA']; exact (adu_s : (adu (adu (adu (adu (adu ad 17 R q1) 18 R s1) 19 R v1) 15 R q2) 16 R pa) 16 R = pa)
  have a17 : ∀ i, i ≠ R → ad' 17 i = ad 17 i := fun i hi => by rw [← hA']; exact (adu_n hi : (adu ad 17 R q1) 17 i = ad 17 i)
  have a18 : ∀ i, i ≠ R → ad' 18 i = ad 18 i := fun i hi => by rw [← hA']; exact (adu_n hi : (adu (adu ad 17 R q1) 18 R s1) 18 i = (adu ad 17 R q1) 18 i)
  have a19 : ∀ i, i ≠ R → ad' 19 i = ad 19 i := fun i hi => by rw [← hA']; exact (adu_n hi : (adu (adu (adu ad 17 R q1) 18 R s1) 19 R v1) 19 i = (adu (adu ad 17 R q1) 18 R s1) 19 i)
  have a15 : ∀ i, i ≠ R → ad' 15 i = ad 15 i := fun i hi => by rw [← hA']; exact (adu_n hi : (adu (adu (adu (adu ad 17 R q1) 18 R s1) 19 R v1) 15 R q2) 15 i = (adu (adu (adu ad 17 R q1) 18 R s1) 19 R v1) 15 i)
  have a16 : ∀ i, i ≠ R → ad' 16 i = ad 16 i := fun i hi => by rw [← hA']; exact (adu_n hi : (adu (adu (adu (adu (adu ad 17 R q1) 18 R s1) 19 R v1) 15 R q2) 16 R pa) 16 i = (adu (adu (adu (adu ad 17 R q1) 18 R s1) 19 R v1) 15 R q2) 16 i)
  generalize hG' : gu (gu gi 5 R fb) 2 R (fun _ => 0) = gi' at *
  have x0 : gi' 0 = gi 0 := by rw [← hG']; rfl
  have x1 : gi' 1 = gi 1 := by rw [← hG']; rfl
  have x3 : gi' 3 = gi 3 := by rw [← hG']; rfl
  have x4 : gi' 4 = gi 4 := by rw [← hG']; rfl
  have x6 : gi' 6 = gi 6 := by rw [← hG']; rfl
  have x7 : gi' 7 = gi 7 := by rw [← hG']; rfl
  have g2 : ∀ i, i ≠ R → gi' 2 i = gi 2 i := fun i hi => by rw [← hG']; exact if_neg (fun z => hi z.2)
  have gk2 : gi' 2 R = fun _ => 0 := by rw [← hG']; exact if_pos ⟨rfl, rfl⟩
  have g5 : ∀ i, i ≠ R → gi' 5 i = gi 5 i := fun i hi => by rw [← hG']; exact (if_neg (fun z => hi z.2) : gu gi 5 R fb 5 i = gi 5 i)
  have gk5 : gi' 5 R = fb := by rw [← hG']; exact (if_pos ⟨rfl, rfl⟩ : gu gi 5 R fb 5 R = fb)
  have n30 : ∀ i, i ≠ R → M'.2.2 30 i = M.2.2 30 i := fun i hi => by rw [g30]; exact upd_n hi
  have n32 : ∀ i, i ≠ R → M'.2.2 32 i = M.2.2 32 i := fun i hi => by rw [g32]; exact upd_n hi
  have n33 : ∀ i, i ≠ R → M'.2.2 33 i = M.2.2 33 i := fun i hi => by rw [g33]; exact upd_n hi
  have n34 : ∀ i, i ≠ R → M'.2.2 34 i = M.2.2 34 i := fun i hi => by rw [g34]; exact upd_n hi
  have k33 : M'.2.2 33 R = 0 := by rw [g33]; exact upd_s
  have k34 : M'.2.2 34 R = nI R := by rw [g34]; exact upd_s.trans hfv
  have isr_o : ∀ i, isr M' i → i ≠ R → isr M i := by
    intro i h hi
    unfold isr at *
    rw [c29, t29] at h
    omega
  have ne_R : ∀ i, isr M i → i ≠ R := by
    intro i h z
    unfold isr at h
    omega
  refine rl_addP hL (fun t i => i = R ∧ (t = 17 ∨ t = 18 ∨ t = 19 ∨ t = 15 ∨ t = 16)) (fun _ _ => False) (fun t i => i = 0 ∧ (t = 0 ∨ t = 4)) ?_ ?_ (fun _ _ h => h.elim) (fun t i hl hn0 hn1 => by
    match t, hl, hn0, hn1 with
    | 0, hl, hn0, hn1 => (have h := (show _ ∧ i = 0 from hl).2; subst h; exact ⟨lvf 0 (by decide), congrFun d0 _⟩)
    | 1, hl, hn0, hn1 => (have h := (show _ ∧ i = 0 from hl).2; subst h; exact ⟨lvf 1 (by decide), congrFun d1 _⟩)
    | 2, hl, hn0, hn1 => (have h := (show _ ∧ i = 0 from hl).2; subst h; exact ⟨lvf 2 (by decide), congrFun d2 _⟩)
    | 3, hl, hn0, hn1 => (have h := (show _ ∧ i = 0 from hl).2; subst h; exact ⟨lvf 3 (by decide), congrFun d3 _⟩)
    | 4, hl, hn0, hn1 => (have h := (show _ ∧ i = 0 from hl).2; subst h; exact ⟨lvf 4 (by decide), congrFun d4 _⟩)
    | 5, hl, hn0, hn1 => (have h := (show _ ∧ i = 0 from hl).2; subst h; exact ⟨lvf 5 (by decide), congrFun d5 _⟩)
    | 6, hl, hn0, hn1 => (have h := (show _ ∧ i = 0 from hl).2; subst h; exact ⟨lvf 6 (by decide), congrFun d6 _⟩)
    | 7, hl, hn0, hn1 => (have h := (show _ ∧ i = 0 from hl).2; subst h; exact ⟨lvf 7 (by decide), congrFun d7 _⟩)
    | 8, hl, hn0, hn1 => (have h := (show _ ∧ i = 0 from hl).2; subst h; exact ⟨lvf 8 (by decide), congrFun d8 _⟩)
    | 9, hl, hn0, hn1 => (have h := (show _ ∧ i = 0 from hl).2; subst h; exact ⟨lvf 9 (by decide), congrFun d9 _⟩)
    | 10, hl, hn0, hn1 => (have h := (show _ ∧ i = 0 from hl).2; subst h; exact ⟨lvf 10 (by decide), congrFun d10 _⟩)
    | 11, hl, hn0, hn1 => exact ⟨(by have h : usd M' i := hl; unfold usd uA uF at h; rw [m1, m6, m8, m15] at h; exact h), congrFun d11 _⟩
    | 12, hl, hn0, hn1 => exact ⟨(by have h : usd M' i := hl; unfold usd uA uF at h; rw [m1, m6, m8, m15] at h; exact h), congrFun d12 _⟩
    | 13, hl, hn0, hn1 => exact ⟨(by have h : opn M' i := hl; unfold opn at h; rw [m6] at h; exact h), congrFun d13 _⟩
    | 14, hl, hn0, hn1 => exact ⟨(by have h : opn M' i ∧ M'.2.2 8 i = 0 := hl; unfold opn at h; rw [m6, m8] at h; exact h), congrFun d14 _⟩
    | 15, hl, hn0, hn1 => (by_cases hik : i = R; exact absurd ⟨hik, Or.inr (Or.inr (Or.inr (Or.inl rfl)))⟩ hn0; exact ⟨⟨isr_o i (show isr M' i ∧ _ from hl).1 hik, (n34 i hik).symm.trans (show isr M' i ∧ M'.2.2 34 i = nI i from hl).2⟩, a15 i hik⟩)
    | 16, hl, hn0, hn1 => (by_cases hik : i = R; exact absurd ⟨hik, Or.inr (Or.inr (Or.inr (Or.inr rfl)))⟩ hn0; exact ⟨⟨isr_o i (show isr M' i ∧ _ from hl).1 hik, (n34 i hik).symm.trans (show isr M' i ∧ M'.2.2 34 i = nI i from hl).2⟩, a16 i hik⟩)
    | 17, hl, hn0, hn1 => (by_cases hik : i = R; exact absurd ⟨hik, Or.inl rfl⟩ hn0; exact ⟨isr_o i hl hik, a17 i hik⟩)
    | 18, hl, hn0, hn1 => (by_cases hik : i = R; exact absurd ⟨hik, Or.inr (Or.inl rfl)⟩ hn0; exact ⟨⟨isr_o i (show isr M' i ∧ _ from hl).1 hik, (n33 i hik).symm.trans (show isr M' i ∧ M'.2.2 33 i = 0 from hl).2⟩, a18 i hik⟩)
    | 19, hl, hn0, hn1 => (by_cases hik : i = R; exact absurd ⟨hik, Or.inr (Or.inr (Or.inl rfl))⟩ hn0; exact ⟨⟨isr_o i (show isr M' i ∧ _ from hl).1 hik, (n33 i hik).symm.trans (show isr M' i ∧ M'.2.2 33 i = 0 from hl).2⟩, a19 i hik⟩)
    | 20, hl, hn0, hn1 => exact ⟨(by have h : i < 4 ∧ 0 ≤ M'.2.2 23 i := hl; rw [m23] at h; exact h), congrFun d20 _⟩
    | 21, hl, hn0, hn1 => exact ⟨(by have h : i < 4 ∧ 0 ≤ M'.2.2 23 i := hl; rw [m23] at h; exact h), congrFun d21 _⟩
    | 22, hl, hn0, hn1 => exact ⟨(by have h : opn M' i ∧ M'.2.2 8 i = 3 := hl; unfold opn at h; rw [m6, m8] at h; exact h), congrFun d22 _⟩
    | 23, hl, hn0, hn1 => exact ⟨(by have h : opn M' i ∧ M'.2.2 8 i = 3 := hl; unfold opn at h; rw [m6, m8] at h; exact h), congrFun d23 _⟩
    | n + 24, hl, hn0, hn1 => exact absurd (show n + 24 ≤ 10 ∧ i = 0 from hl).1 (by omega)) ?_ ?_ (fun t i hl hn0 hn1 hn2 => by
    match t, hl, hn0, hn1, hn2 with
    | 0, hl, hn0, hn1, hn2 => exact absurd ⟨(show _ ∧ i = 0 from hl).2, Or.inl rfl⟩ hn2
    | 1, hl, hn0, hn1, hn2 => (refine cc_1 ?_; rw [cR_c m1 d11])
    | 2, hl, hn0, hn1, hn2 => (refine cc_2 ?_; rw [cG_c m23 d20])
    | 3, hl, hn0, hn1, hn2 => (refine cc_3 ?_; rw [cS_c2 m6 d13])
    | 4, hl, hn0, hn1, hn2 => exact absurd ⟨(show _ ∧ i = 0 from hl).2, Or.inr rfl⟩ hn2
    | 5, hl, hn0, hn1, hn2 => (refine cc_5 ?_; rw [d9, i27, i28])
    | 6, hl, hn0, hn1, hn2 => (refine cc_6 ?_; rw [i39, i40, i44, i45, d7, d8, x3])
    | 7, hl, hn0, hn1, hn2 => (refine cc_7 ?_; rw [m42])
    | 8, hl, hn0, hn1, hn2 => (refine cc_8 ?_; rw [m43])
    | 9, hl, hn0, hn1, hn2 => (refine cc_9 ?_; rw [d10, i26, x7])
    | 10, hl, hn0, hn1, hn2 => (refine cc_10 ?_; rw [x4])
    | 11, hl, hn0, hn1, hn2 => (refine cc_11 ?_; rw [m2, d12])
    | 12, hl, hn0, hn1, hn2 => (refine cc_12 ?_; rw [m3, cArr_c m2 m3 m4])
    | 13, hl, hn0, hn1, hn2 => (refine cc_13 ?_; rw [cSI_c (M := M) (M' := M') (gi := gi) (gi' := gi') (k := i) (by rw [m8]) (by rw [m10]) (by rw [m9]) (by rw [m6]) (by rw [m11]) (by rw [m13]) (by rw [m14]) (by rw [m12]) (by rw [m19]) (by rw [x0]), sAd_c2 m6 d13, m17, cX_c2 (M := M) (M' := M') (ad := ad) (ad' := ad') (k := i) (by rw [m8]) (congrFun d14 _) (fun _ => by unfold rIA; rw [m15, d11]) (by rw [m16]) (fun h8 => a15 _ (ne_R _ (hsf i (by have h : opn M' i := hl; unfold opn at h; rw [m6] at h; exact h) h8).2.1)) (congrFun d22 _)])
    | 14, hl, hn0, hn1, hn2 => (refine cc_14 ?_; rw [x1])
    | 15, hl, hn0, hn1, hn2 => (by_cases hik : i = R; exact absurd ⟨hik, Or.inr (Or.inr (Or.inr (Or.inl rfl)))⟩ hn0; refine cc_15 ?_; rw [a16 i hik, m36, m35])
    | 16, hl, hn0, hn1, hn2 => (by_cases hik : i = R; exact absurd ⟨hik, Or.inr (Or.inr (Or.inr (Or.inr rfl)))⟩ hn0; refine cc_16 ?_; rw [g2 i hik])
    | 17, hl, hn0, hn1, hn2 => (by_cases hik : i = R; exact absurd ⟨hik, Or.inl rfl⟩ hn0; refine cc_17 ?_; rw [n30 i hik, n33 i hik, n34 i hik, a18 i hik, a15 _ (ne_R _ (hFF i (isr_o i hl hik)).1)])
    | 18, hl, hn0, hn1, hn2 => (by_cases hik : i = R; exact absurd ⟨hik, Or.inr (Or.inl rfl)⟩ hn0; refine cc_18 ?_; rw [a19 i hik])
    | 19, hl, hn0, hn1, hn2 => (by_cases hik : i = R; exact absurd ⟨hik, Or.inr (Or.inr (Or.inl rfl))⟩ hn0; refine cc_19 ?_; rw [n32 i hik, g5 i hik])
    | 20, hl, hn0, hn1, hn2 => (refine cc_20 ?_; rw [d21])
    | 21, hl, hn0, hn1, hn2 => (refine cc_21 ?_; rw [m23, cGiv_c m23 m24])
    | 22, hl, hn0, hn1, hn2 => (refine cc_22 ?_; rw [d23])
    | 23, hl, hn0, hn1, hn2 => (refine cc_23 ?_; rw [m12, x6])
    | n + 24, hl, hn0, hn1, hn2 => exact absurd (show n + 24 ≤ 10 ∧ i = 0 from hl).1 (by omega)) ?_ (fun _ _ h => h.elim) ?_ ?_
  · rintro t i ⟨rfl, rfl | rfl | rfl | rfl | rfl⟩
    · rw [s17]; exact f17
    · rw [s18]; exact f18
    · rw [s19]; exact f19
    · rw [s15]; exact f15
    · rw [s16]; exact f16
  · rintro t i t' i' ⟨rfl, h⟩ ⟨rfl, h'⟩ he
    refine ⟨?_, rfl⟩
    rcases h with rfl | rfl | rfl | rfl | rfl <;> rcases h' with rfl | rfl | rfl | rfl | rfl <;> first | rfl | (exfalso; rw [s17, s18] at he; exact n17_18 he) | (exfalso; rw [s17, s19] at he; exact n17_19 he) | (exfalso; rw [s17, s15] at he; exact n17_15 he) | (exfalso; rw [s17, s16] at he; exact n17_16 he) | (exfalso; rw [s18, s17] at he; exact n17_18.symm he) | (exfalso; rw [s18, s19] at he; exact n18_19 he) | (exfalso; rw [s18, s15] at he; exact n18_15 he) | (exfalso; rw [s18, s16] at he; exact n18_16 he) | (exfalso; rw [s19, s17] at he; exact n17_19.symm he) | (exfalso; rw [s19, s18] at he; exact n18_19.symm he) | (exfalso; rw [s19, s15] at he; exact n19_15 he) | (exfalso; rw [s19, s16] at he; exact n19_16 he) | (exfalso; rw [s15, s17] at he; exact n17_15.symm he) | (exfalso; rw [s15, s18] at he; exact n18_15.symm he) | (exfalso; rw [s15, s19] at he; exact n19_15.symm he) | (exfalso; rw [s15, s16] at he; exact n15_16 he) | (exfalso; rw [s16, s17] at he; exact n17_16.symm he) | (exfalso; rw [s16, s18] at he; exact n18_16.symm he) | (exfalso; rw [s16, s19] at he; exact n19_16.symm he) | (exfalso; rw [s16, s15] at he; exact n15_16.symm he)
  · rintro t i ⟨rfl, rfl | rfl⟩
    · exact ⟨lvf 0 (by decide), rfl⟩
    · exact ⟨lvf 4 (by decide), rfl⟩
  · intro b hN hl
    have b17 := hN 17 R ⟨rfl, Or.inl rfl⟩
    have b18 := hN 18 R ⟨rfl, Or.inr (Or.inl rfl)⟩
    have b19 := hN 19 R ⟨rfl, Or.inr (Or.inr (Or.inl rfl))⟩
    have b15 := hN 15 R ⟨rfl, Or.inr (Or.inr (Or.inr (Or.inl rfl)))⟩
    have b16 := hN 16 R ⟨rfl, Or.inr (Or.inr (Or.inr (Or.inr rfl)))⟩
    rw [s17] at b17
    rw [s18] at b18
    rw [s19] at b19
    rw [s15] at b15
    rw [s16] at b16
    exact hb b (hl 0 0 ⟨rfl, Or.inl rfl⟩) (hl 4 0 ⟨rfl, Or.inr rfl⟩) b17 b18 b19 b15 b16
  · rintro t i ⟨rfl, rfl | rfl | rfl | rfl | rfl⟩ _
    · show w' (ad' 17 i) = some (.inr (8, [.int (M'.2.2 30 i), .ref (if M'.2.2 33 i = 0 then ad' 18 i else gK G 1), .int (M'.2.2 33 i), .ref (ad' 15 (M'.2.2 34 i).toNatClampNeg)]))
      have k30 : M'.2.2 30 i = u := by rw [g30]; exact upd_s
      rw [s17, k30, k33, k34, nI_clamp (by omega), s15, if_pos rfl, s18, e17, hfa]
    · show w' (ad' 18 i) = some (.inr (0, [.ref (ad' 19 i), .int 0, .int 0, .int 0]))
      rw [s18, s19]
      exact e18
    · show w' (ad' 19 i) = some (.inl (gA G 1, (M'.2.2 32 i).toNatClampNeg, .inl (gi' 5 i)))
      have k32 : M'.2.2 32 i = nI N := by rw [g32]; exact upd_s
      rw [s19, k32, gk5, nI_clamp (by omega)]
      exact e19
    · show w' (ad' 15 i) = some (.inr (10, [.ref (ad' 16 i), .int (M'.2.2 36 i), .int (M'.2.2 35 i)]))
      rw [s15, s16, m36, m35, z35, z36]
      exact e15
    · show w' (ad' 16 i) = some (.inl (gA G 1, 60, .inl (gi' 2 i)))
      rw [s16, gk2]
      exact e16
  · rintro t i ⟨rfl, rfl | rfl⟩ _ _ _
    · show w' (ad 0 0) = some (oC (ad' 1 0) (ad' 2 0) (ad' 3 0) (ad' 4 0) (ad' 5 0) (ad' 6 0) (sAd M' ad' (M'.1 20)) (M'.1 7) (M'.1 29) (M'.1 38) (M'.2.1 21).toInt32 (M'.2.1 22).toInt32 (M'.1 5))
      rw [d1, d2, d3, d4, d5, d6, sAd_c2 m6 d13, i20, i7, c29, i38, l0, i5]
      exact h0
    · show w' (ad 4 0) = some (rA (gA G 6) 20 (cF M' ad'))
      have e : cF M' ad' = va_up (cF M ad) R (some q1) := by
        funext j
        unfold cF va_up
        rw [c29, t29]
        by_cases hj : j = R
        · rw [if_pos hj, if_pos (by omega), hj, s17]
        · rw [if_neg hj, a17 j hj]
          show _ = if (j : Int) < (M.1 29).toInt then some (ad 17 j) else none
          by_cases hz : (j : Int) < (M.1 29).toInt
          · rw [if_pos hz, if_pos (by omega)]
          · rw [if_neg hz, if_neg (by omega)]
      rw [e]
      exact h4
  · refine ⟨?_, ?_, ?_, ?_, ?_, ?_⟩
    · unfold sd_p opn; rw [m6, m8, m19, m18, x0, x1]; exact hL.2.2.1
    · intro f hf j hj
      rw [m37]
      by_cases hz : f = R
      · rw [hz, gk2, z37 j hj]; show (0 : Int32) &&& 255 = 0; decide
      · rw [g2 f hz]; exact hL.2.2.2.1 f hf j hj
    · unfold sd_t; rw [i39, i40, i41, x3]; exact hL.2.2.2.2.1
    · unfold sd_n; rw [i26, m25, x4]; exact hL.2.2.2.2.2.1
    · intro r hr h33 j hj
      by_cases hrR : r = R
      · subst hrR
        have k32 : M'.2.2 32 r = nI N := by rw [g32]; exact upd_s
        rw [k32, nI_toInt (by omega)] at hj
        rw [gk5]
        exact hname j (by omega)
      · rw [n33 r hrR] at h33
        rw [n32 r hrR] at hj
        have hi := isr_o r hr hrR
        have h8 := bt_iff.mp (hnl r hi h33)
        rw [g5 r hrR, g31 r j hrR (by omega)]
        exact hL.2.2.2.2.2.2.1 r hi h33 j hj
    · unfold sd_r opn; rw [m6, m8, m12, m18, m9, x6]; exact hL.2.2.2.2.2.2.2
theorem rl_filO {G : GG} {M M' : MS} {ad : AD} {gi : GI} {w w' : WM} {R N fa q1 s1 v1 : Nat} {u fv : Int32} {fb : Nat → Int32} (hL : RLa G M ad gi w) (hrc : mi_refs M) (hFF : mi_ff M) (hsf : mi_sf M) (hnl : mi_nl M) (a0 : Nat) (ha0 : a0 < R) (hfv : fv = nI a0) (hfa : fa = ad 15 a0) (hR : R = (M.1 29).toNatClampNeg) (hR20 : R < 20) (hA : ∀ k, k ≠ 30 → k ≠ 31 → k ≠ 32 → k ≠ 33 → k ≠ 34 → M'.2.2 k = M.2.2 k) (hI : ∀ k, k ≠ 0 → k ≠ 29 → M'.1 k = M.1 k) (c29 : M'.1 29 = M.1 29 + 1) (l0 : M'.2.1 = M.2.1) (g30 : M'.2.2 30 = upd (M.2.2 30) R u) (g32 : M'.2.2 32 = upd (M.2.2 32) R (nI N)) (g33 : M'.2.2 33 = upd (M.2.2 33) R 0) (g34 : M'.2.2 34 = upd (M.2.2 34) R fv) (g31 : ∀ r j : Nat, r ≠ R → j < 8 → M'.2.2 31 (8 * r + j) = M.2.2 31 (8 * r + j)) (hN8 : N ≤ 8) (hname : ∀ j, j < N → fb j = M'.2.2 31 (8 * R + j)) (f17 : ∀ t i, lvT M t i → q1 ≠ ad t i) (f18 : ∀ t i, lvT M t i → s1 ≠ ad t i) (f19 : ∀ t i, lvT M t i → v1 ≠ ad t i) (n17_18 : q1 ≠ s1) (n17_19 : q1 ≠ v1) (n18_19 : s1 ≠ v1) (h4 : w' (ad 4 0) = some (rA (gA G 6) 20 (va_up (cF M ad) R (some q1)))) (h0 : w' (ad 0 0) = some (oC (ad 1 0) (ad 2 0) (ad 3 0) (ad 4 0) (ad 5 0) (ad 6 0) (sAd M ad (M.1 20)) (M.1 7) (M.1 29 + 1) (M.1 38) (M.2.1 21).toInt32 (M.2.1 22).toInt32 (M.1 5))) (e17 : w' q1 = some (.inr (8, [.int u, .ref s1, .int 0, .ref fa]))) (e18 : w' s1 = some (.inr (0, [.ref v1, .int 0, .int 0, .int 0]))) (e19 : w' v1 = some (.inl (gA G 1, N, .inl fb))) (hb : ∀ b, b ≠ ad 0 0 → b ≠ ad 4 0 → b ≠ q1 → b ≠ s1 → b ≠ v1 → w' b = w b) : RLa G M' (adu (adu (adu ad 17 R q1) 18 R s1) 19 R v1) (gu gi 5 R fb) w' := by
  have brc := bt_iff.mp hrc
  have cR := cl_toInt (x := M.1 29) brc.1
  have t29 := ti_add (a := M.1 29) (b := 1) (y := 1) rfl rfl (by omega)
  have isa : isr M a0 := by unfold isr; omega
  have enR : M.1 29 = nI R := by rw [hR, nI_cl brc.1]
  have m1 : M'.2.2 1 = M.2.2 1 := hA 1 (by decide) (by decide) (by decide) (by decide) (by decide)
  have m2 : M'.2.2 2 = M.2.2 2 := hA 2 (by decide) (by decide) (by decide) (by decide) (by decide)
  have m3 : M'.2.2 3 = M.2.2 3 := hA 3 (by decide) (by decide) (by decide) (by decide) (by decide)
  have m4 : M'.2.2 4 = M.2.2 4 := hA 4 (by decide) (by decide) (by decide) (by decide) (by decide)
  have m6 : M'.2.2 6 = M.2.2 6 := hA 6 (by decide) (by decide) (by decide) (by decide) (by decide)
  have m8 : M'.2.2 8 = M.2.2 8 := hA 8 (by decide) (by decide) (by decide) (by decide) (by decide)
  have m9 : M'.2.2 9 = M.2.2 9 := hA 9 (by decide) (by decide) (by decide) (by decide) (by decide)
  have m10 : M'.2.2 10 = M.2.2 10 := hA 10 (by decide) (by decide) (by decide) (by decide) (by decide)
  have m11 : M'.2.2 11 = M.2.2 11 := hA 11 (by decide) (by decide) (by decide) (by decide) (by decide)
  have m12 : M'.2.2 12 = M.2.2 12 := hA 12 (by decide) (by decide) (by decide) (by decide) (by decide)
  have m13 : M'.2.2 13 = M.2.2 13 := hA 13 (by decide) (by decide) (by decide) (by decide) (by decide)
  have m14 : M'.2.2 14 = M.2.2 14 := hA 14 (by decide) (by decide) (by decide) (by decide) (by decide)
  have m15 : M'.2.2 15 = M.2.2 15 := hA 15 (by decide) (by decide) (by decide) (by decide) (by decide)
  have m16 : M'.2.2 16 = M.2.2 16 := hA 16 (by decide) (by decide) (by decide) (by decide) (by decide)
  have m17 : M'.2.2 17 = M.2.2 17 := hA 17 (by decide) (by decide) (by decide) (by decide) (by decide)
  have m18 : M'.2.2 18 = M.2.2 18 := hA 18 (by decide) (by decide) (by decide) (by decide) (by decide)
  have m19 : M'.2.2 19 = M.2.2 19 := hA 19 (by decide) (by decide) (by decide) (by decide) (by decide)
  have m23 : M'.2.2 23 = M.2.2 23 := hA 23 (by decide) (by decide) (by decide) (by decide) (by decide)
  have m24 : M'.2.2 24 = M.2.2 24 := hA 24 (by decide) (by decide) (by decide) (by decide) (by decide)
  have m25 : M'.2.2 25 = M.2.2 25 := hA 25 (by decide) (by decide) (by decide) (by decide) (by decide)
  have m35 : M'.2.2 35 = M.2.2 35 := hA 35 (by decide) (by decide) (by decide) (by decide) (by decide)
  have m36 : M'.2.2 36 = M.2.2 36 := hA 36 (by decide) (by decide) (by decide) (by decide) (by decide)
  have m37 : M'.2.2 37 = M.2.2 37 := hA 37 (by decide) (by decide) (by decide) (by decide) (by decide)
  have m42 : M'.2.2 42 = M.2.2 42 := hA 42 (by decide) (by decide) (by decide) (by decide) (by decide)
  have m43 : M'.2.2 43 = M.2.2 43 := hA 43 (by decide) (by decide) (by decide) (by decide) (by decide)
  have i5 : M'.1 5 = M.1 5 := hI 5 (by decide) (by decide)
  have i7 : M'.1 7 = M.1 7 := hI 7 (by decide) (by decide)
  have i20 : M'.1 20 = M.1 20 := hI 20 (by decide) (by decide)
  have i26 : M'.1 26 = M.1 26 := hI 26 (by decide) (by decide)
  have i27 : M'.1 27 = M.1 27 := hI 27 (by decide) (by decide)
  have i28 : M'.1 28 = M.1 28 := hI 28 (by decide) (by decide)
  have i38 : M'.1 38 = M.1 38 := hI 38 (by decide) (by decide)
  have i39 : M'.1 39 = M.1 39 := hI 39 (by decide) (by decide)
  have i40 : M'.1 40 = M.1 40 := hI 40 (by decide) (by decide)
  have i41 : M'.1 41 = M.1 41 := hI 41 (by decide) (by decide)
  have i44 : M'.1 44 = M.1 44 := hI 44 (by decide) (by decide)
  have i45 : M'.1 45 = M.1 45 := hI 45 (by decide) (by decide)
  generalize hA' : (adu (adu (adu ad 17 R q1) 18 R s1) 19 R v1) = ad' at *
  have d0 : ad' 0 = ad 0 := hA' ▸ (rfl : (adu (adu (adu ad 17 R q1) 18 R s1) 19 R v1) 0 = ad 0)
  have d1 : ad' 1 = ad 1 := hA' ▸ (rfl : (adu (adu (adu ad 17 R q1) 18 R s1) 19 R v1) 1 = ad 1)
  have d2 : ad' 2 = ad 2 := hA' ▸ (rfl : (adu (adu (adu ad 17 R q1) 18 R s1) 19 R v1) 2 = ad 2)
  have d3 : ad' 3 = ad 3 := hA' ▸ (rfl : (adu (adu (adu ad 17 R q1) 18 R s1) 19 R v1) 3 = ad 3)
  have d4 : ad' 4 = ad 4 := hA' ▸ (rfl : (adu (adu (adu ad 17 R q1) 18 R s1) 19 R v1) 4 = ad 4)
  have d5 : ad' 5 = ad 5 := hA' ▸ (rfl : (adu (adu (adu ad 17 R q1) 18 R s1) 19 R v1) 5 = ad 5)
  have d6 : ad' 6 = ad 6 := hA' ▸ (rfl : (adu (adu (adu ad 17 R q1) 18 R s1) 19 R v1) 6 = ad 6)
  have d7 : ad' 7 = ad 7 := hA' ▸ (rfl : (adu (adu (adu ad 17 R q1) 18 R s1) 19 R v1) 7 = ad 7)
  have d8 : ad' 8 = ad 8 := hA' ▸ (rfl : (adu (adu (adu ad 17 R q1) 18 R s1) 19 R v1) 8 = ad 8)
  have d9 : ad' 9 = ad 9 := hA' ▸ (rfl : (adu (adu (adu ad 17 R q1) 18 R s1) 19 R v1) 9 = ad 9)
  have d10 : ad' 10 = ad 10 := hA' ▸ (rfl : (adu (adu (adu ad 17 R q1) 18 R s1) 19 R v1) 10 = ad 10)
  have d11 : ad' 11 = ad 11 := hA' ▸ (rfl : (adu (adu (adu ad 17 R q1) 18 R s1) 19 R v1) 11 = ad 11)
  have d12 : ad' 12 = ad 12 := hA' ▸ (rfl : (adu (adu (adu ad 17 R q1) 18 R s1) 19 R v1) 12 = ad 12)
  have d13 : ad' 13 = ad 13 := hA' ▸ (rfl : (adu (adu (adu ad 17 R q1) 18 R s1) 19 R v1) 13 = ad 13)
  have d14 : ad' 14 = ad 14 := hA' ▸ (rfl : (adu (adu (adu ad 17 R q1) 18 R s1) 19 R v1) 14 = ad 14)
  have d15 : ad' 15 = ad 15 := hA' ▸ (rfl : (adu (adu (adu ad 17 R q1) 18 R s1) 19 R v1) 15 = ad 15)
  have d16 : ad' 16 = ad 16 := hA' ▸ (rfl : (adu (adu (adu ad 17 R q1) 18 R s1) 19 R v1) 16 = ad 16)
  have d20 : ad' 20 = ad 20 := hA' ▸ (rfl : (adu (adu (adu ad 17 R q1) 18 R s1) 19 R v1) 20 = ad 20)
  have d21 : ad' 21 = ad 21 := hA' ▸ (rfl : (adu (adu (adu ad 17 R q1) 18 R s1) 19 R v1) 21 = ad 21)
  have d22 : ad' 22 = ad 22 := hA' ▸ (rfl : (adu (adu (adu ad 17 R q1) 18 R s1) 19 R v1) 22 = ad 22)
  have d23 : ad' 23 = ad 23 := hA' ▸ (rfl : (adu (adu (adu ad 17 R q1) 18 R s1) 19 R v1) 23 = ad 23)
  have s17 : ad' 17 R = q1 := by rw [← hA']; exact (adu_s : (adu ad 17 R q1) 17 R = q1)
  have s18 : ad' 18 R = s1 := by rw [← hA']; exact (adu_s : (adu (adu ad 17 R q1) 18 R s1) 18 R = s1)
  have s19 : ad' 19 R = v1 := by rw [← hA']; exact (adu_s : (adu (adu (adu ad 17 R q1) 18 R s1) 19 R v1) 19 R = v1)
  have a17 : ∀ i, i ≠ R → ad' 17 i = ad 17 i := fun i hi => by rw [← hA']; exact (adu_n hi : (adu ad 17 R q1) 17 i = ad 17 i)
  have a18 : ∀ i, i ≠ R → ad' 18 i = ad 18 i := fun i hi => by rw [← hA']; exact (adu_n hi : (adu (adu ad 17 R q1) 18 R s1) 18 i = (adu ad 17 R q1) 18 i)
  have a19 : ∀ i, i ≠ R → ad' 19 i = ad 19 i := fun i hi => by rw [← hA']; exact (adu_n hi : (adu (adu (adu ad 17 R q1) 18 R s1) 19 R v1) 19 i = (adu (adu ad 17 R q1) 18 R s1) 19 i)
  generalize hG' : gu gi 5 R fb = gi' at *
  have x0 : gi' 0 = gi 0 := by rw [← hG']; rfl
  have x1 : gi' 1 = gi 1 := by rw [← hG']; rfl
  have x2 : gi' 2 = gi 2 := by rw [← hG']; rfl
  have x3 : gi' 3 = gi 3 := by rw [← hG']; rfl
  have x4 : gi' 4 = gi 4 := by rw [← hG']; rfl
  have x6 : gi' 6 = gi 6 := by rw [← hG']; rfl
  have x7 : gi' 7 = gi 7 := by rw [← hG']; rfl
  have g5 : ∀ i, i ≠ R → gi' 5 i = gi 5 i := fun i hi => by rw [← hG']; exact (if_neg (fun z => hi z.2) : gu gi 5 R fb 5 i = gi 5 i)
  have gk5 : gi' 5 R = fb := by rw [← hG']; exact (if_pos ⟨rfl, rfl⟩ : gu gi 5 R fb 5 R = fb)
  have n30 : ∀ i, i ≠ R → M'.2.2 30 i = M.2.2 30 i := fun i hi => by rw [g30]; exact upd_n hi
  have n32 : ∀ i, i ≠ R → M'.2.2 32 i = M.2.2 32 i := fun i hi => by rw [g32]; exact upd_n hi
  have n33 : ∀ i, i ≠ R → M'.2.2 33 i = M.2.2 33 i := fun i hi => by rw [g33]; exact upd_n hi
  have n34 : ∀ i, i ≠ R → M'.2.2 34 i = M.2.2 34 i := fun i hi => by rw [g34]; exact upd_n hi
  have k33 : M'.2.2 33 R = 0 := by rw [g33]; exact upd_s
  have k34 : M'.2.2 34 R = nI a0 := by rw [g34]; exact upd_s.trans hfv
  have isr_o : ∀ i, isr M' i → i ≠ R → isr M i := by
    intro i h hi
    unfold isr at *
    rw [c29, t29] at h
    omega
  have ne_R : ∀ i, isr M i → i ≠ R := by
    intro i h z
    unfold isr at h
    omega
  refine rl_addP hL (fun t i => i = R ∧ (t = 17 ∨ t = 18 ∨ t = 19)) (fun _ _ => False) (fun t i => i = 0 ∧ (t = 0 ∨ t = 4)) ?_ ?_ (fun _ _ h => h.elim) (fun t i hl hn0 hn1 => by
    match t, hl, hn0, hn1 with
    | 0, hl, hn0, hn1 => (have h := (show _ ∧ i = 0 from hl).2; subst h; exact ⟨lvf 0 (by decide), congrFun d0 _⟩)
    | 1, hl, hn0, hn1 => (have h := (show _ ∧ i = 0 from hl).2; subst h; exact ⟨lvf 1 (by decide), congrFun d1 _⟩)
    | 2, hl, hn0, hn1 => (have h := (show _ ∧ i = 0 from hl).2; subst h; exact ⟨lvf 2 (by decide), congrFun d2 _⟩)
    | 3, hl, hn0, hn1 => (have h := (show _ ∧ i = 0 from hl).2; subst h; exact ⟨lvf 3 (by decide), congrFun d3 _⟩)
    | 4, hl, hn0, hn1 => (have h := (show _ ∧ i = 0 from hl).2; subst h; exact ⟨lvf 4 (by decide), congrFun d4 _⟩)
    | 5, hl, hn0, hn1 => (have h := (show _ ∧ i = 0 from hl).2; subst h; exact ⟨lvf 5 (by decide), congrFun d5 _⟩)
    | 6, hl, hn0, hn1 => (have h := (show _ ∧ i = 0 from hl).2; subst h; exact ⟨lvf 6 (by decide), congrFun d6 _⟩)
    | 7, hl, hn0, hn1 => (have h := (show _ ∧ i = 0 from hl).2; subst h; exact ⟨lvf 7 (by decide), congrFun d7 _⟩)
    | 8, hl, hn0, hn1 => (have h := (show _ ∧ i = 0 from hl).2; subst h; exact ⟨lvf 8 (by decide), congrFun d8 _⟩)
    | 9, hl, hn0, hn1 => (have h := (show _ ∧ i = 0 from hl).2; subst h; exact ⟨lvf 9 (by decide), congrFun d9 _⟩)
    | 10, hl, hn0, hn1 => (have h := (show _ ∧ i = 0 from hl).2; subst h; exact ⟨lvf 10 (by decide), congrFun d10 _⟩)
    | 11, hl, hn0, hn1 => exact ⟨(by have h : usd M' i := hl; unfold usd uA uF at h; rw [m1, m6, m8, m15] at h; exact h), congrFun d11 _⟩
    | 12, hl, hn0, hn1 => exact ⟨(by have h : usd M' i := hl; unfold usd uA uF at h; rw [m1, m6, m8, m15] at h; exact h), congrFun d12 _⟩
    | 13, hl, hn0, hn1 => exact ⟨(by have h : opn M' i := hl; unfold opn at h; rw [m6] at h; exact h), congrFun d13 _⟩
    | 14, hl, hn0, hn1 => exact ⟨(by have h : opn M' i ∧ M'.2.2 8 i = 0 := hl; unfold opn at h; rw [m6, m8] at h; exact h), congrFun d14 _⟩
    | 15, hl, hn0, hn1 => (by_cases hik : i = R; exact absurd (show isr M' i ∧ M'.2.2 34 i = nI i from hl).2 (by rw [hik, k34]; exact nI_ne (by omega) (by omega) (by omega)); exact ⟨⟨isr_o i (show isr M' i ∧ _ from hl).1 hik, (n34 i hik).symm.trans (show isr M' i ∧ M'.2.2 34 i = nI i from hl).2⟩, congrFun d15 _⟩)
    | 16, hl, hn0, hn1 => (by_cases hik : i = R; exact absurd (show isr M' i ∧ M'.2.2 34 i = nI i from hl).2 (by rw [hik, k34]; exact nI_ne (by omega) (by omega) (by omega)); exact ⟨⟨isr_o i (show isr M' i ∧ _ from hl).1 hik, (n34 i hik).symm.trans (show isr M' i ∧ M'.2.2 34 i = nI i from hl).2⟩, congrFun d16 _⟩)
    | 17, hl, hn0, hn1 => (by_cases hik : i = R; exact absurd ⟨hik, Or.inl rfl⟩ hn0; exact ⟨isr_o i hl hik, a17 i hik⟩)
    | 18, hl, hn0, hn1 => (by_cases hik : i = R; exact absurd ⟨hik, Or.inr (Or.inl rfl)⟩ hn0; exact ⟨⟨isr_o i (show isr M' i ∧ _ from hl).1 hik, (n33 i hik).symm.trans (show isr M' i ∧ M'.2.2 33 i = 0 from hl).2⟩, a18 i hik⟩)
    | 19, hl, hn0, hn1 => (by_cases hik : i = R; exact absurd ⟨hik, Or.inr (Or.inr rfl)⟩ hn0; exact ⟨⟨isr_o i (show isr M' i ∧ _ from hl).1 hik, (n33 i hik).symm.trans (show isr M' i ∧ M'.2.2 33 i = 0 from hl).2⟩, a19 i hik⟩)
    | 20, hl, hn0, hn1 => exact ⟨(by have h : i < 4 ∧ 0 ≤ M'.2.2 23 i := hl; rw [m23] at h; exact h), congrFun d20 _⟩
    | 21, hl, hn0, hn1 => exact ⟨(by have h : i < 4 ∧ 0 ≤ M'.2.2 23 i := hl; rw [m23] at h; exact h), congrFun d21 _⟩
    | 22, hl, hn0, hn1 => exact ⟨(by have h : opn M' i ∧ M'.2.2 8 i = 3 := hl; unfold opn at h; rw [m6, m8] at h; exact h), congrFun d22 _⟩
    | 23, hl, hn0, hn1 => exact ⟨(by have h : opn M' i ∧ M'.2.2 8 i = 3 := hl; unfold opn at h; rw [m6, m8] at h; exact h), congrFun d23 _⟩
    | n + 24, hl, hn0, hn1 => exact absurd (show n + 24 ≤ 10 ∧ i = 0 from hl).1 (by omega)) ?_ ?_ (fun t i hl hn0 hn1 hn2 => by
    match t, hl, hn0, hn1, hn2 with
    | 0, hl, hn0, hn1, hn2 => exact absurd ⟨(show _ ∧ i = 0 from hl).2, Or.inl rfl⟩ hn2
    | 1, hl, hn0, hn1, hn2 => (refine cc_1 ?_; rw [cR_c m1 d11])
    | 2, hl, hn0, hn1, hn2 => (refine cc_2 ?_; rw [cG_c m23 d20])
    | 3, hl, hn0, hn1, hn2 => (refine cc_3 ?_; rw [cS_c2 m6 d13])
    | 4, hl, hn0, hn1, hn2 => exact absurd ⟨(show _ ∧ i = 0 from hl).2, Or.inr rfl⟩ hn2
    | 5, hl, hn0, hn1, hn2 => (refine cc_5 ?_; rw [d9, i27, i28])
    | 6, hl, hn0, hn1, hn2 => (refine cc_6 ?_; rw [i39, i40, i44, i45, d7, d8, x3])
    | 7, hl, hn0, hn1, hn2 => (refine cc_7 ?_; rw [m42])
    | 8, hl, hn0, hn1, hn2 => (refine cc_8 ?_; rw [m43])
    | 9, hl, hn0, hn1, hn2 => (refine cc_9 ?_; rw [d10, i26, x7])
    | 10, hl, hn0, hn1, hn2 => (refine cc_10 ?_; rw [x4])
    | 11, hl, hn0, hn1, hn2 => (refine cc_11 ?_; rw [m2, d12])
    | 12, hl, hn0, hn1, hn2 => (refine cc_12 ?_; rw [m3, cArr_c m2 m3 m4])
    | 13, hl, hn0, hn1, hn2 => (refine cc_13 ?_; rw [cSI_c (M := M) (M' := M') (gi := gi) (gi' := gi') (k := i) (by rw [m8]) (by rw [m10]) (by rw [m9]) (by rw [m6]) (by rw [m11]) (by rw [m13]) (by rw [m14]) (by rw [m12]) (by rw [m19]) (by rw [x0]), sAd_c2 m6 d13, m17, cX_c2 (M := M) (M' := M') (ad := ad) (ad' := ad') (k := i) (by rw [m8]) (congrFun d14 _) (fun _ => by unfold rIA; rw [m15, d11]) (by rw [m16]) (fun h8 => congrFun d15 _) (congrFun d22 _)])
    | 14, hl, hn0, hn1, hn2 => (refine cc_14 ?_; rw [x1])
    | 15, hl, hn0, hn1, hn2 => (refine cc_15 ?_; rw [d16, m36, m35])
    | 16, hl, hn0, hn1, hn2 => (refine cc_16 ?_; rw [x2])
    | 17, hl, hn0, hn1, hn2 => (by_cases hik : i = R; exact absurd ⟨hik, Or.inl rfl⟩ hn0; refine cc_17 ?_; rw [n30 i hik, n33 i hik, n34 i hik, a18 i hik, d15])
    | 18, hl, hn0, hn1, hn2 => (by_cases hik : i = R; exact absurd ⟨hik, Or.inr (Or.inl rfl)⟩ hn0; refine cc_18 ?_; rw [a19 i hik])
    | 19, hl, hn0, hn1, hn2 => (by_cases hik : i = R; exact absurd ⟨hik, Or.inr (Or.inr rfl)⟩ hn0; refine cc_19 ?_; rw [n32 i hik, g5 i hik])
    | 20, hl, hn0, hn1, hn2 => (refine cc_20 ?_; rw [d21])
    | 21, hl, hn0, hn1, hn2 => (refine cc_21 ?_; rw [m23, cGiv_c m23 m24])
    | 22, hl, hn0, hn1, hn2 => (refine cc_22 ?_; rw [d23])
    | 23, hl, hn0, hn1, hn2 => (refine cc_23 ?_; rw [m12, x6])
    | n + 24, hl, hn0, hn1, hn2 => exact absurd (show n + 24 ≤ 10 ∧ i = 0 from hl).1 (by omega)) ?_ (fun _ _ h => h.elim) ?_ ?_
  · rintro t i ⟨rfl, rfl | rfl | rfl⟩
    · rw [s17]; exact f17
    · rw [s18]; exact f18
    · rw [s19]; exact f19
  · rintro t i t' i' ⟨rfl, h⟩ ⟨rfl, h'⟩ he
    refine ⟨?_, rfl⟩
    rcases h with rfl | rfl | rfl <;> rcases h' with rfl | rfl | rfl <;> first | rfl | (exfalso; rw [s17, s18] at he; exact n17_18 he) | (exfalso; rw [s17, s19] at he; exact n17_19 he) | (exfalso; rw [s18, s17] at he; exact n17_18.symm he) | (exfalso; rw [s18, s19] at he; exact n18_19 he) | (exfalso; rw [s19, s17] at he; exact n17_19.symm he) | (exfalso; rw [s19, s18] at he; exact n18_19.symm he)
  · rintro t i ⟨rfl, rfl | rfl⟩
    · exact ⟨lvf 0 (by decide), rfl⟩
    · exact ⟨lvf 4 (by decide), rfl⟩
  · intro b hN hl
    have b17 := hN 17 R ⟨rfl, Or.inl rfl⟩
    have b18 := hN 18 R ⟨rfl, Or.inr (Or.inl rfl)⟩
    have b19 := hN 19 R ⟨rfl, Or.inr (Or.inr rfl)⟩
    rw [s17] at b17
    rw [s18] at b18
    rw [s19] at b19
    exact hb b (hl 0 0 ⟨rfl, Or.inl rfl⟩) (hl 4 0 ⟨rfl, Or.inr rfl⟩) b17 b18 b19
  · rintro t i ⟨rfl, rfl | rfl | rfl⟩ _
    · show w' (ad' 17 i) = some (.inr (8, [.int (M'.2.2 30 i), .ref (if M'.2.2 33 i = 0 then ad' 18 i else gK G 1), .int (M'.2.2 33 i), .ref (ad' 15 (M'.2.2 34 i).toNatClampNeg)]))
      have k30 : M'.2.2 30 i = u := by rw [g30]; exact upd_s
      rw [s17, k30, k33, k34, nI_clamp (by omega), d15, if_pos rfl, s18, e17, hfa]
    · show w' (ad' 18 i) = some (.inr (0, [.ref (ad' 19 i), .int 0, .int 0, .int 0]))
      rw [s18, s19]
      exact e18
    · show w' (ad' 19 i) = some (.inl (gA G 1, (M'.2.2 32 i).toNatClampNeg, .inl (gi' 5 i)))
      have k32 : M'.2.2 32 i = nI N := by rw [g32]; exact upd_s
      rw [s19, k32, gk5, nI_clamp (by omega)]
      exact e19
  · rintro t i ⟨rfl, rfl | rfl⟩ _ _ _
    · show w' (ad 0 0) = some (oC (ad' 1 0) (ad' 2 0) (ad' 3 0) (ad' 4 0) (ad' 5 0) (ad' 6 0) (sAd M' ad' (M'.1 20)) (M'.1 7) (M'.1 29) (M'.1 38) (M'.2.1 21).toInt32 (M'.2.1 22).toInt32 (M'.1 5))
      rw [d1, d2, d3, d4, d5, d6, sAd_c2 m6 d13, i20, i7, c29, i38, l0, i5]
      exact h0
    · show w' (ad 4 0) = some (rA (gA G 6) 20 (cF M' ad'))
      have e : cF M' ad' = va_up (cF M ad) R (some q1) := by
        funext j
        unfold cF va_up
        rw [c29, t29]
        by_cases hj : j = R
        · rw [if_pos hj, if_pos (by omega), hj, s17]
        · rw [if_neg hj, a17 j hj]
          show _ = if (j : Int) < (M.1 29).toInt then some (ad 17 j) else none
          by_cases hz : (j : Int) < (M.1 29).toInt
          · rw [if_pos hz, if_pos (by omega)]
          · rw [if_neg hz, if_neg (by omega)]
      rw [e]
      exact h4
  · refine ⟨?_, ?_, ?_, ?_, ?_, ?_⟩
    · unfold sd_p opn; rw [m6, m8, m19, m18, x0, x1]; exact hL.2.2.1
    · unfold sd_f; rw [m37, x2]; exact hL.2.2.2.1
    · unfold sd_t; rw [i39, i40, i41, x3]; exact hL.2.2.2.2.1
    · unfold sd_n; rw [i26, m25, x4]; exact hL.2.2.2.2.2.1
    · intro r hr h33 j hj
      by_cases hrR : r = R
      · subst hrR
        have k32 : M'.2.2 32 r = nI N := by rw [g32]; exact upd_s
        rw [k32, nI_toInt (by omega)] at hj
        rw [gk5]
        exact hname j (by omega)
      · rw [n33 r hrR] at h33
        rw [n32 r hrR] at hj
        have hi := isr_o r hr hrR
        have h8 := bt_iff.mp (hnl r hi h33)
        rw [g5 r hrR, g31 r j hrR (by omega)]
        exact hL.2.2.2.2.2.2.1 r hi h33 j hj
    · unfold sd_r opn; rw [m6, m8, m12, m18, m9, x6]; exact hL.2.2.2.2.2.2.2
