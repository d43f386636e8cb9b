/-! numbers -/
def bI (P : Prop) [Decidable P] : Int32 := if P then 1 else 0
theorem bI_0 {P : Prop} [Decidable P] : bI P = 0 ↔ ¬ P := by
  unfold bI
  split
  · rename_i h; exact ⟨fun z => absurd z (by decide), fun z => absurd h z⟩
  · rename_i h; exact ⟨fun _ => h, fun _ => rfl⟩
theorem bI_n0 {P : Prop} [Decidable P] : ¬ bI P = 0 ↔ P := by rw [bI_0]; exact Decidable.not_not
theorem bI_t {P : Prop} [Decidable P] (h : P) : bI P = 1 := if_pos h
theorem bI_f {P : Prop} [Decidable P] (h : ¬ P) : bI P = 0 := if_neg h
theorem bI_ok {P : Prop} [Decidable P] : okBool (some (.int (bI P))) := by
  unfold bI
  split
  · exact Or.inr rfl
  · exact Or.inl rfl
theorem i32_le (a b : Int32) : a ≤ b ↔ a.toInt ≤ b.toInt := Int32.le_iff_toInt_le
theorem i32_lt (a b : Int32) : a < b ↔ a.toInt < b.toInt := Int32.lt_iff_toInt_lt
theorem i64_le (a b : Int64) : a ≤ b ↔ a.toInt ≤ b.toInt := Int64.le_iff_toInt_le
theorem i64_lt (a b : Int64) : a < b ↔ a.toInt < b.toInt := Int64.lt_iff_toInt_lt
theorem i64_32 (a : Int32) : a.toInt64.toInt = a.toInt := Int32.toInt_toInt64 a
theorem i32_eq (a b : Int32) : a = b ↔ a.toInt = b.toInt := ⟨fun h => by rw [h], fun h => Int32.toInt_inj.mp h⟩
/-- an int between two numbers -/
def bt (x : Int32) (lo hi : Int) : Prop := lo ≤ x.toInt ∧ x.toInt ≤ hi
theorem bt_in {x : Int32} {a b : Int64} {lo hi : Int} (ha : a.toInt = lo) (hb : b.toInt = hi) : (a ≤ x.toInt64 ∧ x.toInt64 ≤ b) ↔ bt x lo hi := by
  unfold bt
  rw [i64_le, i64_le, i64_32, ha, hb]
theorem bt_nat {x : Int32} {lo hi : Nat} (h : bt x lo hi) (hh : hi < 2 ^ 31) : ∃ n : Nat, lo ≤ n ∧ n ≤ hi ∧ x = nI n := by
  obtain ⟨h1, h2⟩ := h
  refine ⟨x.toInt.toNat, by omega, by omega, ?_⟩
  rw [i32_eq, nI_toInt (by omega)]
  omega
theorem bt_nI {n : Nat} {lo hi : Int} (hn : n < 2 ^ 31) : bt (nI n) lo hi ↔ lo ≤ n ∧ (n : Int) ≤ hi := by unfold bt; rw [nI_toInt hn]
