/-! the reference: its object at q 0, the array of its field k at q k; numbers M.1, longs M.2.1, arrays M.2.2 -/
abbrev MS : Type := (Nat → Int32) × (Nat → Int64) × (Nat → Nat → Int32)
def mArrs : List Nat := [1, 2, 3, 4, 6, 8, 9, 10, 11, 12, 13, 14, 15, 16, 17, 18, 19, 23, 24, 25, 30, 31, 32, 33, 34, 35, 36, 37, 42, 43]
def mSz : Nat → Nat := fun k => match k with
  | 1 => 8
  | 2 => 25
  | 3 => 25
  | 4 => 1000
  | 6 => 8
  | 8 => 8
  | 9 => 8
  | 10 => 8
  | 11 => 8
  | 12 => 8
  | 13 => 8
  | 14 => 8
  | 15 => 8
  | 16 => 8
  | 17 => 8
  | 18 => 320
  | 19 => 8
  | 23 => 4
  | 24 => 160
  | 25 => 8
  | 30 => 20
  | 31 => 160
  | 32 => 20
  | 33 => 20
  | 34 => 20
  | 35 => 20
  | 36 => 20
  | 37 => 1200
  | 42 => 2
  | 43 => 8
  | _ => 0
def mTy : Nat → Nat := fun k => match k with
  | 9 => 2
  | 33 => 2
  | 35 => 2
  | _ => 0
def mf (q : Nat → Nat) (M : MS) : List Value := [.int (M.1 0), .ref (q 1), .ref (q 2), .ref (q 3), .ref (q 4), .int (M.1 5), .ref (q 6), .int (M.1 7), .ref (q 8), .ref (q 9), .ref (q 10), .ref (q 11), .ref (q 12), .ref (q 13), .ref (q 14), .ref (q 15), .ref (q 16), .ref (q 17), .ref (q 18), .ref (q 19), .int (M.1 20), .long (M.2.1 21), .long (M.2.1 22), .ref (q 23), .ref (q 24), .ref (q 25), .int (M.1 26), .int (M.1 27), .int (M.1 28), .int (M.1 29), .ref (q 30), .ref (q 31), .ref (q 32), .ref (q 33), .ref (q 34), .ref (q 35), .ref (q 36), .ref (q 37), .int (M.1 38), .int (M.1 39), .int (M.1 40), .int (M.1 41), .ref (q 42), .ref (q 43), .int (M.1 44), .int (M.1 45)]
def mInj (q : Nat → Nat) : Prop := ∀ i j : Nat, i ∈ 0 :: mArrs → j ∈ 0 :: mArrs → q i = q j → i = j
def mcl (G : GG) (M : MS) (k : Nat) : va_E := .inl (gA G (mTy k), mSz k, .inl (M.2.2 k))
def mw (G : GG) (q : Nat → Nat) (M : MS) : WM := fun a => if a = q 0 then some (.inr (12, mf q M)) else (mArrs.find? (fun k => q k == a)).map (mcl G M)
abbrev sI (M : MS) (k : Nat) (v : Int32) : MS := (va_up M.1 k v, M.2.1, M.2.2)
abbrev sL (M : MS) (k : Nat) (v : Int64) : MS := (M.1, va_up M.2.1 k v, M.2.2)
abbrev sA (M : MS) (k : Nat) (g : Nat → Int32) : MS := (M.1, M.2.1, va_up M.2.2 k g)
abbrev sF (M : MS) (k : Nat) (i : Nat) (v : Int32) : MS := sA M k (upd (M.2.2 k) i v)
theorem mArrs_lt : ∀ k ∈ mArrs, k < 46 ∧ k ≠ 0 := by decide
theorem mw_0 {G : GG} {q : Nat → Nat} {M : MS} : mw G q M (q 0) = some (.inr (12, mf q M)) := by unfold mw; rw [if_pos rfl]
theorem mw_find {q : Nat → Nat} (hq : mInj q) {k : Nat} (hk : k ∈ mArrs) : mArrs.find? (fun j => q j == q k) = some k := by
  cases h : mArrs.find? (fun j => q j == q k) with
  | none =>
    have := List.find?_eq_none.mp h k hk
    simp at this
  | some j =>
    have h1 := List.find?_some h
    have h2 := List.mem_of_find?_eq_some h
    rw [beq_iff_eq] at h1
    rw [hq j k (List.mem_cons_of_mem _ h2) (List.mem_cons_of_mem _ hk) h1]
theorem mw_k {G : GG} {q : Nat → Nat} {M : MS} (hq : mInj q) {k : Nat} (hk : k ∈ mArrs) : mw G q M (q k) = some (mcl G M k) := by
  unfold mw
  rw [if_neg (fun h => (mArrs_lt k hk).2 (hq k 0 (List.mem_cons_of_mem _ hk) List.mem_cons_self h)), mw_find hq hk]
  rfl
theorem mw_sA {G : GG} {q : Nat → Nat} {M : MS} (hq : mInj q) {k : Nat} (hk : k ∈ mArrs) (g : Nat → Int32) : wm_up (mw G q M) (q k) (.inl (gA G (mTy k), mSz k, .inl g)) = mw G q (sA M k g) := by
  funext a
  have h0 : ¬ q k = q 0 := fun h => (mArrs_lt k hk).2 (hq k 0 (List.mem_cons_of_mem _ hk) List.mem_cons_self h)
  unfold wm_up
  by_cases ha : a = q k
  · rw [if_pos ha, ha, mw_k hq hk]
    simp [mcl, va_up]
  · rw [if_neg ha]
    unfold mw
    by_cases hb : a = q 0
    · rw [if_pos hb, if_pos hb]
      rfl
    · rw [if_neg hb, if_neg hb]
      cases h : mArrs.find? (fun k => q k == a) with
      | none => rfl
      | some j =>
        have h1 := List.find?_some h
        rw [beq_iff_eq] at h1
        have hj : j ≠ k := fun z => ha (by rw [← h1, z])
        simp [mcl, va_up, hj]
theorem mw_set {G : GG} {q : Nat → Nat} {M M' : MS} {fs : List Value} (hf : fs = mf q M') (hA : M'.2.2 = M.2.2) : wm_up (mw G q M) (q 0) (.inr (12, fs)) = mw G q M' := by
  funext a
  unfold wm_up
  by_cases ha : a = q 0
  · rw [if_pos ha, ha, mw_0, hf]
  · rw [if_neg ha]
    unfold mw
    rw [if_neg ha, if_neg ha]
    have : mcl G M = mcl G M' := by funext k; unfold mcl; rw [hA]
    rw [this]
theorem mf_0 (q : Nat → Nat) (M : MS) (v : Int32) : (mf q M).set 0 (.int v) = mf q (sI M 0 v) := rfl
theorem mf_5 (q : Nat → Nat) (M : MS) (v : Int32) : (mf q M).set 5 (.int v) = mf q (sI M 5 v) := rfl
theorem mf_7 (q : Nat → Nat) (M : MS) (v : Int32) : (mf q M).set 7 (.int v) = mf q (sI M 7 v) := rfl
theorem mf_20 (q : Nat → Nat) (M : MS) (v : Int32) : (mf q M).set 20 (.int v) = mf q (sI M 20 v) := rfl
theorem mf_26 (q : Nat → Nat) (M : MS) (v : Int32) : (mf q M).set 26 (.int v) = mf q (sI M 26 v) := rfl
theorem mf_27 (q : Nat → Nat) (M : MS) (v : Int32) : (mf q M).set 27 (.int v) = mf q (sI M 27 v) := rfl
theorem mf_28 (q : Nat → Nat) (M : MS) (v : Int32) : (mf q M).set 28 (.int v) = mf q (sI M 28 v) := rfl
theorem mf_29 (q : Nat → Nat) (M : MS) (v : Int32) : (mf q M).set 29 (.int v) = mf q (sI M 29 v) := rfl
theorem mf_38 (q : Nat → Nat) (M : MS) (v : Int32) : (mf q M).set 38 (.int v) = mf q (sI M 38 v) := rfl
theorem mf_39 (q : Nat → Nat) (M : MS) (v : Int32) : (mf q M).set 39 (.int v) = mf q (sI M 39 v) := rfl
theorem mf_40 (q : Nat → Nat) (M : MS) (v : Int32) : (mf q M).set 40 (.int v) = mf q (sI M 40 v) := rfl
theorem mf_41 (q : Nat → Nat) (M : MS) (v : Int32) : (mf q M).set 41 (.int v) = mf q (sI M 41 v) := rfl
theorem mf_44 (q : Nat → Nat) (M : MS) (v : Int32) : (mf q M).set 44 (.int v) = mf q (sI M 44 v) := rfl
theorem mf_45 (q : Nat → Nat) (M : MS) (v : Int32) : (mf q M).set 45 (.int v) = mf q (sI M 45 v) := rfl
theorem mf_21 (q : Nat → Nat) (M : MS) (v : Int64) : (mf q M).set 21 (.long v) = mf q (sL M 21 v) := rfl
theorem mf_22 (q : Nat → Nat) (M : MS) (v : Int64) : (mf q M).set 22 (.long v) = mf q (sL M 22 v) := rfl
section AMR
variable {G : GG} {p : Program} {l : Launch} {e : Env} {R : Room} {s : State} {m : MethodId} {args : Array Value} {below : List Frame} {meth : Method} {c : Code} {nL : Nat} {A : Nat → Prop} {H0 : Heap} {Q : State → Prop} {cells slots pc : Nat} {lv lv' : List (Nat × Value)} {rest : List Value} {cc : ByteArray} {q : Nat → Nat} {M : MS} {index : Nat}
theorem am_get (X : Cx G p s m args meth c A H0 cc nL RX11) (k : Nat) {v : Value} (hk : k < 46) (hlink : Cond.fieldLink RX11 index RX11 (TX11 k).2.1 (TX11 k).2.2.1 ∈ lw_g) (href : RX11 = (TX11 k).1) (hv : (mf q M)[k]? = some v) (hdg : decode cc pc = .ok (.getfield index, 3)) (kk : AW G p l e R s m args below meth c nL A H0 Q (mw G q M) cells slots (pc + 3) lv (v :: rest)) : AW G p l e R s m args below meth c nL A H0 Q (mw G q M) cells slots pc lv (.ref (q 0) :: rest) :=
  aw_get X okX11 mw_0 hk hlink (Or.inl href) hv hdg kk
theorem am_put (X : Cx G p s m args meth c A H0 cc nL RX11) (k : Nat) {v : Value} {M' : MS} (hk : k < 46) (hlink : Cond.fieldLink RX11 index RX11 (TX11 k).2.1 (TX11 k).2.2.1 ∈ lw_g) (href : RX11 = (TX11 k).1) (hfin : (TX11 k).2.2.2 = false) (hn : narrow (tyX11 k) v = v) (hfit : fits (tyX11 k) v = true) (hf : (mf q M).set k v = mf q M') (hA : M'.2.2 = M.2.2) (hdg : decode cc pc = .ok (.putfield index, 3)) (kk : AW G p l e R s m args below meth c nL A H0 Q (mw G q M') cells slots (pc + 3) lv rest) : AW G p l e R s m args below meth c nL A H0 Q (mw G q M) cells slots pc lv (v :: .ref (q 0) :: rest) :=
  aw_put X okX11 mw_0 hk hlink (Or.inl href) hfin hn hfit (by show k < 46; exact hk) hdg (by rw [mw_set hf hA]; exact kk)
theorem am_ald (X : Cx G p s m args meth c A H0 cc nL RX11) (k n : Nat) (f : Nat → Int32) {i : Int32} (hq : mInj q) (hk : k ∈ mArrs) (ht : mTy k = 0) (hn : mSz k = n) (hf : M.2.2 k = f) (hin : vp_in i n) (hdg : decode cc pc = .ok (.iaload, 1)) (kk : AW G p l e R s m args below meth c nL A H0 Q (mw G q M) cells slots (pc + 1) lv (.int (f i.toNatClampNeg) :: rest)) : AW G p l e R s m args below meth c nL A H0 Q (mw G q M) cells slots pc lv (.int i :: .ref (q k) :: rest) :=
  aw_iald X (n := n) (f := f) (by rw [mw_k hq hk]; unfold mcl; rw [ht, hn, hf]) hin hdg kk
theorem am_zld (X : Cx G p s m args meth c A H0 cc nL RX11) (k n : Nat) (f : Nat → Int32) {i : Int32} (hq : mInj q) (hk : k ∈ mArrs) (ht : mTy k = 2) (hn : mSz k = n) (hf : M.2.2 k = f) (hin : vp_in i n) (hdg : decode cc pc = .ok (.baload, 1)) (kk : AW G p l e R s m args below meth c nL A H0 Q (mw G q M) cells slots (pc + 1) lv (.int (f i.toNatClampNeg) :: rest)) : AW G p l e R s m args below meth c nL A H0 Q (mw G q M) cells slots pc lv (.int i :: .ref (q k) :: rest) :=
  aw_zald X (n := n) (f := f) (by rw [mw_k hq hk]; unfold mcl; rw [ht, hn, hf]) hin hdg kk
theorem am_ast (X : Cx G p s m args meth c A H0 cc nL RX11) (k n : Nat) {i x : Int32} (hq : mInj q) (hk : k ∈ mArrs) (ht : mTy k = 0) (hn : mSz k = n) (hin : vp_in i n) (hdg : decode cc pc = .ok (.iastore, 1)) (kk : AW G p l e R s m args below meth c nL A H0 Q (mw G q (sF M k i.toNatClampNeg x)) cells slots (pc + 1) lv rest) : AW G p l e R s m args below meth c nL A H0 Q (mw G q M) cells slots pc lv (.int x :: .int i :: .ref (q k) :: rest) :=
  aw_iast X (n := n) (f := M.2.2 k) (by rw [mw_k hq hk]; unfold mcl; rw [ht, hn]) hin hdg (by
    have h := mw_sA (G := G) (M := M) hq hk (upd (M.2.2 k) i.toNatClampNeg x)
    rw [ht, hn] at h
    rw [h]; exact kk)
theorem am_zst (X : Cx G p s m args meth c A H0 cc nL RX11) (k n : Nat) {i x : Int32} (hq : mInj q) (hk : k ∈ mArrs) (ht : mTy k = 2) (hn : mSz k = n) (hb : vp_nar .boolean x = x) (hin : vp_in i n) (hdg : decode cc pc = .ok (.bastore, 1)) (kk : AW G p l e R s m args below meth c nL A H0 Q (mw G q (sF M k i.toNatClampNeg x)) cells slots (pc + 1) lv rest) : AW G p l e R s m args below meth c nL A H0 Q (mw G q M) cells slots pc lv (.int x :: .int i :: .ref (q k) :: rest) :=
  aw_zast X (n := n) (f := M.2.2 k) (by rw [mw_k hq hk]; unfold mcl; rw [ht, hn]) hin hdg (by
    have h := mw_sA (G := G) (M := M) hq hk (upd (M.2.2 k) i.toNatClampNeg x)
    rw [ht, hn] at h
    rw [hb, h]; exact kk)
end AMR
