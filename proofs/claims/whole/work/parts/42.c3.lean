/-! Chimes: its object at q 99, soundLeft at q 3, events at q 6 -/
def ahArrs : List Nat := [3, 6]
def ahSz : Nat → Nat := fun k => match k with
  | 3 => 2
  | 6 => 8
  | _ => 0
def ahTy : Nat → Nat := fun k => match k with
  | _ => 0
def chf (q : Nat → Nat) (M : MS) : List Value := [.int (M.1 0), .int (M.1 1), .int (M.1 2), .ref (q 3), .int (M.1 4), .int (M.1 5), .ref (q 6)]
def ahInj (q : Nat → Nat) : Prop := ∀ i j : Nat, i ∈ 99 :: ahArrs → j ∈ 99 :: ahArrs → q i = q j → i = j
def ahcl (G : GG) (M : MS) (k : Nat) : va_E := .inl (gA G (ahTy k), ahSz k, .inl (M.2.2 k))
def chw (G : GG) (q : Nat → Nat) (M : MS) : WM := fun a => if a = q 99 then some (.inr (2, chf q M)) else (ahArrs.find? (fun k => q k == a)).map (ahcl G M)
theorem ahArrs_lt : ∀ k ∈ ahArrs, k < 46 ∧ k ≠ 99 := by decide
theorem chw_0 {G : GG} {q : Nat → Nat} {M : MS} : chw G q M (q 99) = some (.inr (2, chf q M)) := by unfold chw; rw [if_pos rfl]
theorem chw_find {q : Nat → Nat} (hq : ahInj q) {k : Nat} (hk : k ∈ ahArrs) : ahArrs.find? (fun j => q j == q k) = some k := by
  cases h : ahArrs.find? (fun j => q j == q k) with
  | none =>
    have := List.find?_eq_none.mp h k hk
    simp at this
  | some j =>
    have h1 := List.find?_some h
    have h2 := List.mem_of_find?_eq_some h
    rw [beq_iff_eq] at h1
    rw [hq j k (List.mem_cons_of_mem _ h2) (List.mem_cons_of_mem _ hk) h1]
theorem chw_k {G : GG} {q : Nat → Nat} {M : MS} (hq : ahInj q) {k : Nat} (hk : k ∈ ahArrs) : chw G q M (q k) = some (ahcl G M k) := by
  unfold chw
  rw [if_neg (fun h => (ahArrs_lt k hk).2 (hq k 99 (List.mem_cons_of_mem _ hk) List.mem_cons_self h)), chw_find hq hk]
  rfl
theorem chw_sA {G : GG} {q : Nat → Nat} {M : MS} (hq : ahInj q) {k : Nat} (hk : k ∈ ahArrs) (g : Nat → Int32) : wm_up (chw G q M) (q k) (.inl (gA G (ahTy k), ahSz k, .inl g)) = chw G q (sA M k g) := by
  funext a
  have h0 : ¬ q k = q 99 := fun h => (ahArrs_lt k hk).2 (hq k 99 (List.mem_cons_of_mem _ hk) List.mem_cons_self h)
  unfold wm_up
  by_cases ha : a = q k
  · rw [if_pos ha, ha, chw_k hq hk]
    simp [ahcl, va_up]
  · rw [if_neg ha]
    unfold chw
    by_cases hb : a = q 99
    · rw [if_pos hb, if_pos hb]
      rfl
    · rw [if_neg hb, if_neg hb]
      cases h : ahArrs.find? (fun k => q k == a) with
      | none => rfl
      | some j =>
        have h1 := List.find?_some h
        rw [beq_iff_eq] at h1
        have hj : j ≠ k := fun z => ha (by rw [← h1, z])
        simp [ahcl, va_up, hj]
theorem chw_set {G : GG} {q : Nat → Nat} {M M' : MS} {fs : List Value} (hf : fs = chf q M') (hA : M'.2.2 = M.2.2) : wm_up (chw G q M) (q 99) (.inr (2, fs)) = chw G q M' := by
  funext a
  unfold wm_up
  by_cases ha : a = q 99
  · rw [if_pos ha, ha, chw_0, hf]
  · rw [if_neg ha]
    unfold chw
    rw [if_neg ha, if_neg ha]
    have : ahcl G M = ahcl G M' := by funext k; unfold ahcl; rw [hA]
    rw [this]
theorem chf_0 (q : Nat → Nat) (M : MS) (v : Int32) : (chf q M).set 0 (.int v) = chf q (sI M 0 v) := rfl
theorem chf_1 (q : Nat → Nat) (M : MS) (v : Int32) : (chf q M).set 1 (.int v) = chf q (sI M 1 v) := rfl
theorem chf_2 (q : Nat → Nat) (M : MS) (v : Int32) : (chf q M).set 2 (.int v) = chf q (sI M 2 v) := rfl
theorem chf_4 (q : Nat → Nat) (M : MS) (v : Int32) : (chf q M).set 4 (.int v) = chf q (sI M 4 v) := rfl
theorem chf_5 (q : Nat → Nat) (M : MS) (v : Int32) : (chf q M).set 5 (.int v) = chf q (sI M 5 v) := rfl
section AMRah
variable {G : GG} {p : Program} {l : Launch} {e : Env} {R : Room} {s : State} {m : MethodId} {args : Array Value} {below : List Frame} {meth : Method} {c : Code} {nL : Nat} {A : Nat → Prop} {H0 : Heap} {Q : State → Prop} {cells slots pc : Nat} {lv lv' : List (Nat × Value)} {rest : List Value} {cc : ByteArray} {q : Nat → Nat} {M : MS} {index : Nat}
theorem ah_get (X : Cx G p s m args meth c A H0 cc nL RX0) (k : Nat) {v : Value} (hk : k < 7) (hlink : Cond.fieldLink RX0 index RX0 (TX0 k).2.1 (TX0 k).2.2.1 ∈ lw_g) (href : RX0 = (TX0 k).1) (hv : (chf q M)[k]? = some v) (hdg : decode cc pc = .ok (.getfield index, 3)) (kk : AW G p l e R s m args below meth c nL A H0 Q (chw G q M) cells slots (pc + 3) lv (v :: rest)) : AW G p l e R s m args below meth c nL A H0 Q (chw G q M) cells slots pc lv (.ref (q 99) :: rest) :=
  aw_get X okX0 chw_0 hk hlink (Or.inl href) hv hdg kk
theorem ah_put (X : Cx G p s m args meth c A H0 cc nL RX0) (k : Nat) {v : Value} {M' : MS} (hk : k < 7) (hlink : Cond.fieldLink RX0 index RX0 (TX0 k).2.1 (TX0 k).2.2.1 ∈ lw_g) (href : RX0 = (TX0 k).1) (hfin : (TX0 k).2.2.2 = false) (hn : narrow (tyX0 k) v = v) (hfit : fits (tyX0 k) v = true) (hf : (chf q M).set k v = chf q M') (hA : M'.2.2 = M.2.2) (hdg : decode cc pc = .ok (.putfield index, 3)) (kk : AW G p l e R s m args below meth c nL A H0 Q (chw G q M') cells slots (pc + 3) lv rest) : AW G p l e R s m args below meth c nL A H0 Q (chw G q M) cells slots pc lv (v :: .ref (q 99) :: rest) :=
  aw_put X okX0 chw_0 hk hlink (Or.inl href) hfin hn hfit (by show k < 7; exact hk) hdg (by rw [chw_set hf hA]; exact kk)
theorem ah_ald (X : Cx G p s m args meth c A H0 cc nL RX0) (k n : Nat) (f : Nat → Int32) {i : Int32} (hq : ahInj q) (hk : k ∈ ahArrs) (ht : ahTy k = 0) (hn : ahSz k = n) (hf : M.2.2 k = f) (hin : vp_in i n) (hdg : decode cc pc = .ok (.iaload, 1)) (kk : AW G p l e R s m args below meth c nL A H0 Q (chw G q M) cells slots (pc + 1) lv (.int (f i.toNatClampNeg) :: rest)) : AW G p l e R s m args below meth c nL A H0 Q (chw G q M) cells slots pc lv (.int i :: .ref (q k) :: rest) :=
  aw_iald X (n := n) (f := f) (by rw [chw_k hq hk]; unfold ahcl; rw [ht, hn, hf]) hin hdg kk
theorem ah_zld (X : Cx G p s m args meth c A H0 cc nL RX0) (k n : Nat) (f : Nat → Int32) {i : Int32} (hq : ahInj q) (hk : k ∈ ahArrs) (ht : ahTy k = 2) (hn : ahSz k = n) (hf : M.2.2 k = f) (hin : vp_in i n) (hdg : decode cc pc = .ok (.baload, 1)) (kk : AW G p l e R s m args below meth c nL A H0 Q (chw G q M) cells slots (pc + 1) lv (.int (f i.toNatClampNeg) :: rest)) : AW G p l e R s m args below meth c nL A H0 Q (chw G q M) cells slots pc lv (.int i :: .ref (q k) :: rest) :=
  aw_zald X (n := n) (f := f) (by rw [chw_k hq hk]; unfold ahcl; rw [ht, hn, hf]) hin hdg kk
theorem ah_ast (X : Cx G p s m args meth c A H0 cc nL RX0) (k n : Nat) {i x : Int32} (hq : ahInj q) (hk : k ∈ ahArrs) (ht : ahTy k = 0) (hn : ahSz k = n) (hin : vp_in i n) (hdg : decode cc pc = .ok (.iastore, 1)) (kk : AW G p l e R s m args below meth c nL A H0 Q (chw G q (sF M k i.toNatClampNeg x)) cells slots (pc + 1) lv rest) : AW G p l e R s m args below meth c nL A H0 Q (chw G q M) cells slots pc lv (.int x :: .int i :: .ref (q k) :: rest) :=
  aw_iast X (n := n) (f := M.2.2 k) (by rw [chw_k hq hk]; unfold ahcl; rw [ht, hn]) hin hdg (by
    have h := chw_sA (G := G) (M := M) hq hk (upd (M.2.2 k) i.toNatClampNeg x)
    rw [ht, hn] at h
    rw [h]; exact kk)
theorem ah_zst (X : Cx G p s m args meth c A H0 cc nL RX0) (k n : Nat) {i x : Int32} (hq : ahInj q) (hk : k ∈ ahArrs) (ht : ahTy k = 2) (hn : ahSz k = n) (hb : vp_nar .boolean x = x) (hin : vp_in i n) (hdg : decode cc pc = .ok (.bastore, 1)) (kk : AW G p l e R s m args below meth c nL A H0 Q (chw G q (sF M k i.toNatClampNeg x)) cells slots (pc + 1) lv rest) : AW G p l e R s m args below meth c nL A H0 Q (chw G q M) cells slots pc lv (.int x :: .int i :: .ref (q k) :: rest) :=
  aw_zast X (n := n) (f := M.2.2 k) (by rw [chw_k hq hk]; unfold ahcl; rw [ht, hn]) hin hdg (by
    have h := chw_sA (G := G) (M := M) hq hk (upd (M.2.2 k) i.toNatClampNeg x)
    rw [ht, hn] at h
    rw [hb, h]; exact kk)
end AMRah
