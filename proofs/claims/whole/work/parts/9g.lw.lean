/-! the law's own rows: calls beside a rest that stays, the script -/
section AWD
variable {G : GG} {p : Program} {l : Launch} {e : Env} {R : Room} {s : State} {m : MethodId} {args : Array Value} {below : List Frame} {meth : Method} {c : Code} {nL : Nat} {A : Nat → Prop} {H0 : Heap} {Q : State → Prop} {w : WM} {cells slots pc : Nat} {lv lv' : List (Nat × Value)} {rest st : List Value} {cc : ByteArray} {own : String}
variable {y : MethodName} {bytes : ByteArray} {maxL n index : Nat} {ret : Option FieldType} {rm : Room} {As : List Value} {w1 : WM} {post : Option Value → WM → Prop}
/-- a call over a part of the world: what comes back lies there, or is new -/
theorem aw_runD {mc ms : Nat} {aa : Array Value} (X : Cx G p s m args meth c A H0 cc nL own) (hsub : ∀ a x, w1 a = some x → w a = some x)
    (hr : ∀ (H : Heap) (locs : List Loc) (ls : Array Slot), wm_P G w1 H → gE G (mA w1 H.size) s H → lv_has ls nL lv → va_Run p l e R s m args below meth c H locs cells slots mc ms (F0 m pc ls st) rest (MCQ G w1 H.size post aa) (mA w1 H.size))
    (kk : ∀ (v : Option Value) (w2 : WM), post v w2 → (∀ a, w2 a ≠ none → w1 a ≠ none ∨ w a = none) → AW G p l e R s m args below meth c nL A H0 Q (wm_fr w w1 w2) (cells + mc) (slots + ms) (pc + 3) lv (v.toList ++ rest)) : AW G p l e R s m args below meth c nL A H0 Q w cells slots pc lv st := by
  intro H locs ls hP hA hS hl T hT XT
  have hP1 : wm_P G w1 H := fun a x h => hP a x (hsub a x h)
  have hA1 : ∀ q, mA w1 H.size q → A q := by
    intro q h
    rcases h with h | h
    · cases hx : w1 q with
      | none => exact absurd hx h
      | some x => exact hA q (nn_some (hsub q x hx))
    · exact X.2.2.2.2.2.2.2.1 q (Nat.le_trans hS.1 h)
  have hE : gE G (mA w1 H.size) s H := X.2.2.2.2.2.2.2.2.call hS (State.WarmedH.refl s) (fun q h => Or.inl (hA1 q h))
  obtain ⟨v, st₀, t, T', L, h0, XT', hL, e1, e2, ⟨⟨v', w2, hv, hp, hP', hA'⟩, hz, hk⟩, stp⟩ := hr H locs ls hP1 hE hl T hT XT
  cases hv
  rw [h0] at hz hk
  have hA2 : ∀ q, wm_fr w w1 w2 q ≠ none → A q := by
    intro q h
    unfold wm_fr at h
    split at h
    · exact hA q h
    · exact hA1 q (hA' q h)
  have hd : ∀ a, w2 a ≠ none → w1 a ≠ none ∨ w a = none := by
    intro a h
    rcases hA' a h with z | z
    · exact Or.inl z
    · cases hx : w a with
      | none => exact Or.inr rfl
      | some x =>
        have := wm_lt hP hx
        omega
  obtain ⟨t2, a1, b1⟩ := kk v w2 hp hd T'.heap (locs ++ L) ls (by
      rw [e1]
      intro a x h
      unfold wm_fr at h
      split at h
      · rename_i hn
        have hlt := wm_lt hP h
        refine (hP a x h).kept (hk a hlt ?_)
        intro z
        rcases z with z | z
        · exact z hn.1
        · omega
      · exact hP' a x h) hA2
    ⟨Nat.le_trans hS.1 (by rw [e1]; exact hz), fun q h1 h2 => by rw [e1, hk q (Nat.lt_of_lt_of_le h1 hS.1) (fun z => h2 (hA1 q z))]; exact hS.2.1 q h1 h2, fun q hq => by
      rcases List.mem_append.mp hq with h | h
      · exact hS.2.2 q h
      · exact hA1 _ (hL q h)⟩ hl T' rfl XT'
  exact ⟨t2, stp t2 a1, b1⟩
theorem aw_callVD {b ci N : Nat} {C : String} {T : u_T} {ty : Nat → FieldType} {fs : List Value} (X : Cx G p s m args meth c A H0 cc nL own) (hsub : ∀ a x, w1 a = some x → w a = some x) (hM : MC G l y bytes maxL ret rm (.ref b :: As) w1 post) (ok : okM y bytes maxL ret n) (okc : okC ci C T N ty) (hb : w1 b = some (.inr (ci, fs))) (hl : Cond.methodLink own index y ∈ lw_g) (hi : Cond.instanceMethod y ∈ lw_g) (hsel : Cond.selects C y y ∈ lw_g) (hn : As.length = n) (hst : st = As.reverse ++ .ref b :: rest) (hW : (rest.map fun v => v.category).sum ≤ 8) (hR : okR R rm maxL cells slots) (hdg : decode cc pc = .ok (.invokevirtual index, 3))
    (kk : ∀ (v : Option Value) (w2 : WM), post v w2 → (∀ a, w2 a ≠ none → w1 a ≠ none ∨ w a = none) → AW G p l e R s m args below meth c nL A H0 Q (wm_fr w w1 w2) (cells + rm.cells) (slots + rm.slots) (pc + 3) lv (v.toList ++ rest)) : AW G p l e R s m args below meth c nL A H0 Q w cells slots pc lv st := by
  refine aw_runD (aa := (Value.ref b :: As).toArray) X hsub (fun H locs ls hP hE hlv => ?_) kk
  obtain ⟨q0, hq⟩ := wm_pos hP hb
  exact va_runV (Ts := lw_g) ⟨X.1, X.2.1, X.2.2.1, X.2.2.2.1, X.2.2.2.2.1⟩ (hM H.size) ⟨call_B X ok hl hR, X.2.2.2.2.1 _ hi, X.2.2.2.2.1 _ hsel⟩ ⟨mcp_blind, va_recv X.2.2.2.2.2.1 (wm_toP hP _) okc.1 hq, mcp_at X.2.2.2.2.2.1 hP hE⟩ rfl hn hlv.1 hst (lv_room hW) hdg hR.2.2
theorem aw_callID {b : Nat} (X : Cx G p s m args meth c A H0 cc nL own) (hsub : ∀ a x, w1 a = some x → w a = some x) (hM : MC G l y bytes maxL none rm (.ref b :: As) w1 post) (ok : okM y bytes maxL none n) (hy : y.name = "<init>") (hl : Cond.methodLink own index y ∈ lw_g) (hi : Cond.instanceMethod y ∈ lw_g) (hn : As.length = n) (hst : st = As.reverse ++ .ref b :: rest) (hW : (rest.map fun v => v.category).sum ≤ 8) (hR : okR R rm maxL cells slots) (hdg : decode cc pc = .ok (.invokespecial index, 3))
    (kk : ∀ (v : Option Value) (w2 : WM), post v w2 → (∀ a, w2 a ≠ none → w1 a ≠ none ∨ w a = none) → AW G p l e R s m args below meth c nL A H0 Q (wm_fr w w1 w2) (cells + rm.cells) (slots + rm.slots) (pc + 3) lv (v.toList ++ rest)) : AW G p l e R s m args below meth c nL A H0 Q w cells slots pc lv st := by
  refine aw_runD (aa := (Value.ref b :: As).toArray) (mc := rm.cells) (ms := rm.slots) (post := post) X hsub (fun H locs ls hP hE hlv => ?_) kk
  exact va_runI (Ts := lw_g) ⟨X.1, X.2.1, X.2.2.1, X.2.2.2.1, X.2.2.2.2.1⟩ (hM H.size) ⟨call_B X ok hl hR, hy, X.2.2.2.2.1 _ hi⟩ ⟨mcp_blind, mcp_at X.2.2.2.2.2.1 hP hE⟩ rfl hn hlv.1 hst (lv_room hW) hdg hR.2.2
theorem aw_wid9 {k n : Nat} (h1 : cells ≤ k) (h2 : slots ≤ n) (kk : AW G p l e R s m args below meth c nL A H0 Q w k n pc lv st) : AW G p l e R s m args below meth c nL A H0 Q w cells slots pc lv st := fun H locs ls hP hA hS hl => W.widen h1 h2 (kk H locs ls hP hA hS hl)
theorem aw_lv9 (ks : List Nat) (hk : lv_pick lv ks = lv') (kk : AW G p l e R s m args below meth c nL A H0 Q w cells slots pc lv' st) : AW G p l e R s m args below meth c nL A H0 Q w cells slots pc lv st := fun H locs ls hP hA hS hl => kk H locs ls hP hA hS (lv_sub hl ks hk)
theorem aw_sld {b L : Nat} {xs : Nat → Int32} (X : Cx G p s m args meth c A H0 cc nL own) (hX : va_X b L xs s H0) (hbl : b < H0.size) (hbA : ¬ A b) {i : Int32} (hin : vp_in i L) (hdg : decode cc pc = .ok (.iaload, 1)) (kk : AW G p l e R s m args below meth c nL A H0 Q w cells slots (pc + 1) lv (.int (xs i.toNatClampNeg) :: rest)) : AW G p l e R s m args below meth c nL A H0 Q w cells slots pc lv (.int i :: .ref b :: rest) := by
  intro H locs ls hP hA hS hl
  exact va_sld X.1 X.2.1 hX hbl hbA hS hin hdg (kk H locs ls hP hA hS hl)
theorem aw_slen {b L : Nat} {xs : Nat → Int32} (X : Cx G p s m args meth c A H0 cc nL own) (hX : va_X b L xs s H0) (hbl : b < H0.size) (hbA : ¬ A b) (hdg : decode cc pc = .ok (.arraylength, 1)) (kk : AW G p l e R s m args below meth c nL A H0 Q w cells slots (pc + 1) lv (.int (Int32.ofNat L) :: rest)) : AW G p l e R s m args below meth c nL A H0 Q w cells slots pc lv (.ref b :: rest) := by
  intro H locs ls hP hA hS hl
  exact va_slen X.1 X.2.1 hX hbl hbA hS hdg (kk H locs ls hP hA hS hl)
end AWD
/-! the law's world: the class's, the reference's, the row for share -/
def LD (G : GG) (q : Nat → Nat) (M : MS) (oa : Nat) (f : Nat → Int64) (wc w : WM) : Prop :=
  (∀ a x, wc a = some x → w a = some x) ∧ (∀ a x, mw G q M a = some x → w a = some x) ∧ w oa = some (lA G f) ∧ (∀ a, wc a ≠ none → mw G q M a = none) ∧ wc oa = none ∧ mw G q M oa = none
theorem mw_dom {G : GG} {q : Nat → Nat} {M M' : MS} {a : Nat} (h : mw G q M a = none) : mw G q M' a = none := by
  unfold mw at h ⊢
  split at h
  · cases h
  · rename_i hn
    rw [if_neg hn]
    cases hf : mArrs.find? (fun k => q k == a) with
    | none => rfl
    | some j => rw [hf] at h; cases h
theorem ne_some {x : Option va_E} (h : x ≠ none) : ∃ y, x = some y := by
  cases x with
  | none => exact absurd rfl h
  | some y => exact ⟨y, rfl⟩
theorem ld_x {G : GG} {q : Nat → Nat} {M : MS} {oa : Nat} {f : Nat → Int64} {wc wc' w : WM} (hD : LD G q M oa f wc w) (hd : ∀ a, wc' a ≠ none → wc a ≠ none ∨ w a = none) : LD G q M oa f wc' (wm_fr w wc wc') := by
  obtain ⟨h1, h2, h3, h4, h5, h6⟩ := hD
  have k4 : ∀ a, wc' a ≠ none → mw G q M a = none := by
    intro a h
    rcases hd a h with z | z
    · exact h4 a z
    · cases hm : mw G q M a with
      | none => rfl
      | some x => rw [h2 a x hm] at z; cases z
  have k5 : wc' oa = none := by
    cases hm : wc' oa with
    | none => rfl
    | some x =>
      rcases hd oa (by rw [hm]; exact fun z => by cases z) with z | z
      · exact absurd h5 z
      · rw [h3] at z; cases z
  refine ⟨fun a x h => ?_, fun a x h => ?_, ?_, k4, k5, h6⟩
  · unfold wm_fr
    rw [if_neg (fun z => by rw [h] at z; cases z.2)]
    exact h
  · have n1 : wc a = none := by
      cases hm : wc a with
      | none => rfl
      | some y => rw [h4 a (by rw [hm]; exact fun z => by cases z)] at h; cases h
    have n2 : wc' a = none := by
      cases hm : wc' a with
      | none => rfl
      | some y => rw [k4 a (by rw [hm]; exact fun z => by cases z)] at h; cases h
    unfold wm_fr
    rw [if_pos ⟨n1, n2⟩]
    exact h2 a x h
  · unfold wm_fr
    rw [if_pos ⟨h5, k5⟩]
    exact h3
theorem ld_m {G : GG} {q : Nat → Nat} {M M' : MS} {oa : Nat} {f : Nat → Int64} {wc w : WM} (hD : LD G q M oa f wc w) : LD G q M' oa f wc (wm_fr w (mw G q M) (mw G q M')) := by
  obtain ⟨h1, h2, h3, h4, h5, h6⟩ := hD
  refine ⟨fun a x h => ?_, fun a x h => ?_, ?_, fun a h => mw_dom (h4 a h), h5, mw_dom h6⟩
  · have n1 : mw G q M a = none := h4 a (by rw [h]; exact fun z => by cases z)
    unfold wm_fr
    rw [if_pos ⟨n1, mw_dom n1⟩]
    exact h1 a x h
  · unfold wm_fr
    rw [if_neg (fun z => by rw [h] at z; cases z.2)]
    exact h
  · unfold wm_fr
    rw [if_pos ⟨h6, mw_dom h6⟩]
    exact h3
theorem ld_o {G : GG} {q : Nat → Nat} {M : MS} {oa : Nat} {f f' : Nat → Int64} {wc w : WM} (hD : LD G q M oa f wc w) : LD G q M oa f' wc (wm_up w oa (lA G f')) := by
  obtain ⟨h1, h2, h3, h4, h5, h6⟩ := hD
  refine ⟨fun a x h => ?_, fun a x h => ?_, wm_ups, h4, h5, h6⟩
  · rw [wm_upn (fun z => by rw [z, h5] at h; cases h)]
    exact h1 a x h
  · rw [wm_upn (fun z => by rw [z, h6] at h; cases h)]
    exact h2 a x h
def LX (G : GG) (p : Program) (s : State) (m : MethodId) (meth : Method) (c : Code) (b L : Nat) (xs : Nat → Int32) : Prop := Cx G p s m #[Value.ref b] meth c (fun q => s.heap.size ≤ q) s.heap code 7 RL ∧ va_X b L xs s s.heap ∧ b < s.heap.size ∧ L ≤ 3072
def LQ (G : GG) (q : Nat → Nat) (oa ox om k : Nat) (M : MS) (ad : AD) (gi : GI) (f : Nat → Int64) (wc w : WM) : Prop := INV k (16 * k) M ∧ RLa G M ad gi wc ∧ ad 0 0 = ox ∧ mInj q ∧ q 0 = om ∧ LD G q M oa f wc w
abbrev llv (b ox om oa k : Nat) : List (Nat × Value) := [(4, .int (nI (6 * k))), (3, .ref oa), (2, .ref om), (1, .ref ox), (0, .ref b)]
abbrev AWL (G : GG) (p : Program) (l : Launch) (e : Env) (s : State) (m : MethodId) (below : List Frame) (meth : Method) (c : Code) (b : Nat) (Q : State → Prop) (w : WM) (cells slots pc : Nat) (lv : List (Nat × Value)) (st : List Value) : Prop := AW G p l e room_1 s m #[Value.ref b] below meth c 7 (fun q => s.heap.size ≤ q) s.heap Q w cells slots pc lv st
def bz (x : Int32) : Int32 := if x = 0 then 0 else 1
theorem bz_or (x : Int32) : bz x = 0 ∨ bz x = 1 := by unfold bz; split <;> simp
theorem bz_nar (x : Int32) : vp_nar .boolean (bz x) = bz x := by rcases bz_or x with h | h <;> rw [h] <;> decide
section LWR
variable {G : GG} {p : Program} {l : Launch} {e : Env} {s : State} {m : MethodId} {below : List Frame} {meth : Method} {c : Code} {b L : Nat} {xs : Nat → Int32} {Q : State → Prop} {w wc : WM} {cells slots pc k : Nat} {lv : List (Nat × Value)} {rest st : List Value} {q : Nat → Nat} {M M' : MS} {ad : AD} {gi : GI} {f : Nat → Int64} {oa ox om : Nat}
theorem law_arg (hX : LX G p s m meth c b L xs) (hk : 6 * k + 6 ≤ L) (j : Nat) {jz : Int} (hj : j < 6) (h0 : lv.lookup 0 = some (.ref b)) (h4 : lv.lookup 4 = some (.int (nI (6 * k)))) (hz : Int32.ofInt jz = nI j) (d0 : decode code pc = .ok (.aload_n 0, 1)) (d1 : decode code (pc + 1) = .ok (.iload 4, 2)) (d2 : decode code (pc + 3) = .ok (.iconst jz, 1)) (d3 : decode code (pc + 4) = .ok (.iadd, 1)) (d4 : decode code (pc + 5) = .ok (.iaload, 1))
    (kk : AWL G p l e s m below meth c b Q w cells slots (pc + 6) lv (.int (xs (6 * k + j)) :: rest)) : AWL G p l e s m below meth c b Q w cells slots pc lv rest := by
  obtain ⟨X, hX1, hbl, hL⟩ := hX
  refine aw_aload_n X d0 rfl h0 ?_
  refine aw_iload X d1 h4 ?_
  refine aw_iconst X d2 hz ?_
  refine aw_iadd X d3 ?_
  rw [nI_add]
  refine aw_sld X hX1 hbl (Nat.not_le.mpr hbl) (pk_in (6 * k + j) L (by omega) rfl (by omega)) d4 ?_
  rw [nI_clamp (by omega)]
  exact kk
theorem law_bool (hX : LX G p s m meth c b L xs) (hk : 6 * k + 6 ≤ L) (j : Nat) {jz : Int} (hj : j < 6) (h0 : lv.lookup 0 = some (.ref b)) (h4 : lv.lookup 4 = some (.int (nI (6 * k)))) (hz : Int32.ofInt jz = nI j) (d0 : decode code pc = .ok (.aload_n 0, 1)) (d1 : decode code (pc + 1) = .ok (.iload 4, 2)) (d2 : decode code (pc + 3) = .ok (.iconst jz, 1)) (d3 : decode code (pc + 4) = .ok (.iadd, 1)) (d4 : decode code (pc + 5) = .ok (.iaload, 1)) (d6 : decode code (pc + 6) = .ok (.ifCond .eq 7, 3)) (d9 : decode code (pc + 9) = .ok (.iconst 1, 1)) (d10 : decode code (pc + 10) = .ok (.goto 4, 3)) (d13 : decode code (pc + 13) = .ok (.iconst 0, 1))
    (kk : AWL G p l e s m below meth c b Q w cells slots (pc + 14) lv (.int (bz (xs (6 * k + j))) :: rest)) : AWL G p l e s m below meth c b Q w cells slots pc lv rest := by
  refine law_arg hX hk j hj h0 h4 hz d0 d1 d2 d3 d4 ?_
  obtain ⟨X, hX1, hbl, hL⟩ := hX
  refine aw_if_eq X (tgt := pc + 13) d6 (by omega) (fun z => ?_) (fun z => ?_)
  · refine aw_iconst X (v := 0) d13 (by decide) ?_
    have e : bz (xs (6 * k + j)) = 0 := if_pos z
    rw [e] at kk
    exact kk
  · refine aw_iconst X (v := 1) d9 (by decide) ?_
    refine aw_goto X (tgt := pc + 14) d10 (by omega) ?_
    have e : bz (xs (6 * k + j)) = 1 := if_neg z
    rw [e] at kk
    exact kk
theorem okR_l {rm : Room} {maxL : Nat} (hf : rm.frames + 1 ≤ 12) (hl : 8 + (maxL + 11) + rm.locals ≤ 444) (hc : rm.cells ≤ 100) (hs : rm.slots ≤ 5000) (h1 : cells ≤ 10000) (h2 : slots ≤ 1000000) : okR room_1 rm maxL cells slots := ⟨hf, hl, by show cells + rm.cells ≤ 601024; omega, by show slots + rm.slots ≤ 7293034; omega⟩
/-- a call of the class -/
theorem law_cx (hX : LX G p s m meth c b L xs) (hD : LD G q M oa f wc w) (hR : RLa G M ad gi wc) {y : MethodName} {bytes : ByteArray} {maxL n index : Nat} {ret : Option FieldType} {rm : Room} {As : List Value} {r : Value} (hM : MC G l y bytes maxL ret rm (.ref (ad 0 0) :: As) wc (fun v w' => v = some r ∧ ∃ ad' gi', RLa G M' ad' gi' w' ∧ ad' 0 0 = ad 0 0)) (ok : okM y bytes maxL ret n) (hl : Cond.methodLink RL index y ∈ lw_g) (hi : Cond.instanceMethod y ∈ lw_g) (hsel : Cond.selects RX10 y y ∈ lw_g) (hn : As.length = n) (hst : st = As.reverse ++ .ref (ad 0 0) :: rest) (hW : (rest.map fun v => v.category).sum ≤ 8) (hf : rm.frames + 1 ≤ 12) (hlo : 8 + (maxL + 11) + rm.locals ≤ 444) (hc : rm.cells ≤ 8) (hs : rm.slots ≤ 100) (h1 : cells ≤ 10000) (h2 : slots ≤ 1000000) (hdg : decode code pc = .ok (.invokevirtual index, 3))
    (kk : ∀ (wc' w' : WM) (ad' : AD) (gi' : GI), RLa G M' ad' gi' wc' → ad' 0 0 = ad 0 0 → LD G q M oa f wc' w' → AWL G p l e s m below meth c b Q w' (cells + 8) (slots + 100) (pc + 3) lv (r :: rest)) : AWL G p l e s m below meth c b Q w cells slots pc lv st := by
  refine aw_callVD hX.1 hD.1 hM ok okX10 (show wc (ad 0 0) = some (.inr (11, [.ref (ad 1 0), .ref (ad 2 0), .ref (ad 3 0), .ref (ad 4 0), .ref (ad 5 0), .ref (ad 6 0), va_rf (sAd M ad (M.1 20)), .int (M.1 7), .int (M.1 29), .int (M.1 38), .int ((M.2.1 21).toInt32), .int ((M.2.1 22).toInt32), .int (M.1 5)])) from hR.1 0 0 (lvf 0 (by decide))) hl hi hsel hn hst hW (okR_l hf hlo (by omega) (by omega) h1 h2) hdg (fun v w2 hp hd => ?_)
  obtain ⟨rfl, ad', gi', hR', ho⟩ := hp
  exact aw_wid9 (by omega) (by omega) (kk w2 _ ad' gi' hR' ho (ld_x hD hd))
/-- a call of the reference -/
theorem law_cm (hX : LX G p s m meth c b L xs) (hD : LD G q M oa f wc w) {y : MethodName} {bytes : ByteArray} {maxL n index : Nat} {ret : Option FieldType} {rm : Room} {As : List Value} {r : Value} (hM : MC G l y bytes maxL ret rm (.ref (q 0) :: As) (mw G q M) (fun v w' => v = some r ∧ w' = mw G q M')) (ok : okM y bytes maxL ret n) (hl : Cond.methodLink RL index y ∈ lw_g) (hi : Cond.instanceMethod y ∈ lw_g) (hsel : Cond.selects RX11 y y ∈ lw_g) (hn : As.length = n) (hst : st = As.reverse ++ .ref (q 0) :: rest) (hW : (rest.map fun v => v.category).sum ≤ 8) (hf : rm.frames + 1 ≤ 12) (hlo : 8 + (maxL + 11) + rm.locals ≤ 444) (hc : rm.cells = 0) (hs : rm.slots = 0) (h1 : cells ≤ 10000) (h2 : slots ≤ 1000000) (hdg : decode code pc = .ok (.invokevirtual index, 3))
    (kk : ∀ w' : WM, LD G q M' oa f wc w' → AWL G p l e s m below meth c b Q w' cells slots (pc + 3) lv (r :: rest)) : AWL G p l e s m below meth c b Q w cells slots pc lv st := by
  refine aw_callVD hX.1 hD.2.1 hM ok okX11 mw_0 hl hi hsel hn hst hW (okR_l hf hlo (by omega) (by omega) h1 h2) hdg (fun v w2 hp hd => ?_)
  obtain ⟨rfl, rfl⟩ := hp
  exact aw_wid9 (by omega) (by omega) (kk _ (ld_m hD))
end LWR
