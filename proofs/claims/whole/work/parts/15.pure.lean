/-! numbers -/
def bI (P : Prop) [Decidable P] : Int32 := if P then 1 else 0
theorem bI_0 {P : Prop} [Decidable P] : bI P = 0 ↔ ¬ P := by
  unfold bI
  split
  · rename_i h; exact ⟨fun z => absurd z (by decide), fun z => absurd h z⟩
  · rename_i h; exact ⟨fun _ => h, fun _ => rfl⟩
theorem bI_n0 {P : Prop} [Decidable P] : ¬ bI P = 0 ↔ P := by rw [bI_0]; exact Decidable.not_not
theorem bI_t {P : Prop} [Decidable P] (h : P) : bI P = 1 := if_pos h
theorem bI_f {P : Prop} [Decidable P] (h : ¬ P) : bI P = 0 := if_neg h
theorem bI_ok {P : Prop} [Decidable P] : okBool (some (.int (bI P))) := by
  unfold bI
  split
  · exact Or.inr rfl
  · exact Or.inl rfl
theorem i32_le (a b : Int32) : a ≤ b ↔ a.toInt ≤ b.toInt := Int32.le_iff_toInt_le
theorem i32_lt (a b : Int32) : a < b ↔ a.toInt < b.toInt := Int32.lt_iff_toInt_lt
theorem i64_le (a b : Int64) : a ≤ b ↔ a.toInt ≤ b.toInt := Int64.le_iff_toInt_le
theorem i64_lt (a b : Int64) : a < b ↔ a.toInt < b.toInt := Int64.lt_iff_toInt_lt
theorem i64_32 (a : Int32) : a.toInt64.toInt = a.toInt := Int32.toInt_toInt64 a
theorem i32_eq (a b : Int32) : a = b ↔ a.toInt = b.toInt := ⟨fun h => by rw [h], fun h => Int32.toInt_inj.mp h⟩
/-- an int between two numbers -/
def bt (x : Int32) (lo hi : Int) : Bool := decide (lo ≤ x.toInt) && decide (x.toInt ≤ hi)
theorem bt_iff {x : Int32} {lo hi : Int} : bt x lo hi = true ↔ lo ≤ x.toInt ∧ x.toInt ≤ hi := by
  unfold bt
  rw [Bool.and_eq_true, decide_eq_true_iff, decide_eq_true_iff]
theorem bt_in {x : Int32} {a b : Int64} {lo hi : Int} (ha : a.toInt = lo) (hb : b.toInt = hi) : (a ≤ x.toInt64 ∧ x.toInt64 ≤ b) ↔ bt x lo hi := by
  rw [i64_le, i64_le, i64_32, ha, hb, bt_iff]
theorem bI_c {P P' : Prop} [Decidable P] [Decidable P'] (h : P ↔ P') : bI P = bI P' := by
  unfold bI
  by_cases hp : P
  · rw [if_pos hp, if_pos (h.mp hp)]
  · rw [if_neg hp, if_neg (fun z => hp (h.mpr z))]
theorem bt_vp {x : Int32} {lo hi : Int} {n : Nat} (h : bt x lo hi) (h0 : 0 ≤ lo) (hn : hi < n) : vp_in x n := vp_in_iff.mpr ⟨by have := (bt_iff.mp h).1; omega, by have := (bt_iff.mp h).2; omega⟩
theorem bt_w {x : Int32} {lo hi lo' hi' : Int} (h : bt x lo hi) (h0 : lo' ≤ lo) (hn : hi ≤ hi') : bt x lo' hi' := bt_iff.mpr ⟨by have := (bt_iff.mp h).1; omega, by have := (bt_iff.mp h).2; omega⟩
theorem bt_nat {x : Int32} {hi : Nat} (h : bt x 0 hi) : ∃ n : Nat, n ≤ hi ∧ x = nI n ∧ n < 2 ^ 31 := by
  obtain ⟨h1, h2⟩ := bt_iff.mp h
  have h3 : x.toInt < 2 ^ 31 := Int32.toInt_lt x
  refine ⟨x.toInt.toNat, by omega, ?_, by omega⟩
  rw [i32_eq, nI_toInt (by omega)]
  omega
theorem bt_nI {n : Nat} {lo hi : Int} (hn : n < 2 ^ 31) : bt (nI n) lo hi = true ↔ lo ≤ n ∧ (n : Int) ≤ hi := by rw [bt_iff, nI_toInt hn]
theorem cl_toInt {x : Int32} (h : 0 ≤ x.toInt) : (x.toNatClampNeg : Int) = x.toInt := by
  have : x.toNatClampNeg = x.toInt.toNat := rfl
  omega
theorem nI_cl {x : Int32} (h : 0 ≤ x.toInt) : nI x.toNatClampNeg = x := by
  have h3 : x.toInt < 2 ^ 31 := Int32.toInt_lt x
  have := cl_toInt h
  rw [i32_eq, nI_toInt (by omega)]
  exact this
/-- arithmetic that stays within an int -/
theorem ti_add {a b : Int32} {x y : Int} (ha : a.toInt = x) (hb : b.toInt = y) (h : -(2 ^ 31) ≤ x + y ∧ x + y < 2 ^ 31) : (a + b).toInt = x + y := by
  rw [Int32.toInt_add, ha, hb]
  exact Int.bmod_eq_of_le (by omega) (by omega)
theorem ti_sub {a b : Int32} {x y : Int} (ha : a.toInt = x) (hb : b.toInt = y) (h : -(2 ^ 31) ≤ x - y ∧ x - y < 2 ^ 31) : (a - b).toInt = x - y := by
  rw [Int32.toInt_sub, ha, hb]
  exact Int.bmod_eq_of_le (by omega) (by omega)
theorem ti_mul {a b : Int32} {x y : Int} (ha : a.toInt = x) (hb : b.toInt = y) (h : -(2 ^ 31) ≤ x * y ∧ x * y < 2 ^ 31) : (a * b).toInt = x * y := by
  rw [Int32.toInt_mul, ha, hb]
  exact Int.bmod_eq_of_le (by omega) (by omega)
/-- the cells of array a, place k -/
theorem ix_i {a k : Int32} {n m : Int} (hn : n.natAbs ≤ 100) (ha : bt a 0 100) (hk : bt k 0 100) (e : n = 40) : ((40 : Int32) * a + k - 40).toInt = 40 * a.toInt + k.toInt - 40 := by
  obtain ⟨a1, a2⟩ := bt_iff.mp ha
  obtain ⟨k1, k2⟩ := bt_iff.mp hk
  have h1 := ti_mul (a := 40) (b := a) (x := 40) rfl rfl (by omega)
  have h2 := ti_add h1 (b := k) rfl (by omega)
  exact ti_sub h2 (b := 40) (y := 40) rfl (by omega)
theorem ix_v {a k : Int32} (ha : bt a 1 24) (hk : bt k 0 39) : vp_in ((40 : Int32) * a + k - 40) 1000 := by
  obtain ⟨a1, a2⟩ := bt_iff.mp ha
  obtain ⟨k1, k2⟩ := bt_iff.mp hk
  have h := ix_i (n := 40) (m := 0) (by decide) (a := a) (k := k) (bt_iff.mpr ⟨by omega, by omega⟩) (bt_iff.mpr ⟨by omega, by omega⟩) rfl
  exact vp_in_iff.mpr ⟨by omega, by omega⟩
def b2 (b : Bool) : Int32 := if b then 1 else 0
theorem b2_0 {b : Bool} : b2 b = 0 ↔ b = false := by cases b <;> decide
theorem b2_n0 {b : Bool} : ¬ b2 b = 0 ↔ b = true := by cases b <;> decide
theorem fr_some {P : Nat → Bool} {n i : Nat} (hi : i < n) (hb : ∀ j, j < i → P j = false) (h : P i = true) : (List.range n).find? P = some i := by
  rw [List.find?_range_eq_some]
  exact ⟨h, List.mem_range.mpr hi, fun j hj => by rw [hb j hj]; rfl⟩
theorem fr_none {P : Nat → Bool} {n : Nat} (hb : ∀ j, j < n → P j = false) : (List.range n).find? P = none := by
  rw [List.find?_eq_none]
  intro x hx
  rw [hb x (List.mem_range.mp hx)]
  exact fun z => by cases z
def oI : Option Nat → Int32
  | some k => nI k
  | none => -1
