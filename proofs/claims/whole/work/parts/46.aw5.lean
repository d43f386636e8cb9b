/-! writes with the new world named -/
theorem ne_fr {w : WM} {a b : Nat} {x : va_E} (hb : w b = some x) (ha : w a = none) : b ≠ a := by
  intro z
  rw [z, ha] at hb
  cases hb
section AWY
variable {G : GG} {p : Program} {l : Launch} {e : Env} {R : Room} {s : State} {m : MethodId} {args : Array Value} {below : List Frame} {meth : Method} {c : Code} {nL : Nat} {A : Nat → Prop} {H0 : Heap} {Q : State → Prop} {w : WM} {cells slots pc : Nat} {lv lv' : List (Nat × Value)} {rest : List Value} {cc : ByteArray} {own : String}
variable {a ci k N index n : Nat} {C ref : String} {T : u_T} {ty : Nat → FieldType} {fs fs' : List Value} {v : Value}
theorem aw_put2 (X : Cx G p s m args meth c A H0 cc nL own) (ok : okC ci C T N ty) (hw : w a = some (.inr (ci, fs))) (hk : k < N) (hlink : Cond.fieldLink own index ref (T k).2.1 (T k).2.2.1 ∈ lw_g) (hsame : ref = (T k).1 ∨ Cond.sameField ref (T k).1 (T k).2.1 (T k).2.2.1 ∈ lw_g) (hfin : (T k).2.2.2 = false) (hn : narrow (ty k) v = v) (hfit : fits (ty k) v = true) (hlen : k < fs.length) (hfs : fs.set k v = fs') (hdg : decode cc pc = .ok (.putfield index, 3))
    (kk : ∀ w2 : WM, w2 a = some (.inr (ci, fs')) → (∀ b, b ≠ a → w2 b = w b) → w2 = wm_up w a (.inr (ci, fs')) → AW G p l e R s m args below meth c nL A H0 Q w2 cells slots (pc + 3) lv rest) : AW G p l e R s m args below meth c nL A H0 Q w cells slots pc lv (v :: .ref a :: rest) := by
  refine aw_put X ok hw hk hlink hsame hfin hn hfit hlen hdg ?_
  rw [hfs]
  exact kk _ wm_ups (fun b h => wm_upn h) rfl
theorem aw_putF2 (X : Cx G p s m args meth c A H0 cc nL own) (hin : meth.name = "<init>") (ok : okC ci C T N ty) (hw : w a = some (.inr (ci, fs))) (hk : k < N) (hlink : Cond.fieldLink own index ref (T k).2.1 (T k).2.2.1 ∈ lw_g) (hsame : ref = (T k).1 ∨ Cond.sameField ref (T k).1 (T k).2.1 (T k).2.2.1 ∈ lw_g) (hfin : (T k).2.2.2 = true) (hdecl : (T k).1 = own) (hn : narrow (ty k) v = v) (hfit : fits (ty k) v = true) (hlen : k < fs.length) (hfs : fs.set k v = fs') (hdg : decode cc pc = .ok (.putfield index, 3))
    (kk : ∀ w2 : WM, w2 a = some (.inr (ci, fs')) → (∀ b, b ≠ a → w2 b = w b) → w2 = wm_up w a (.inr (ci, fs')) → AW G p l e R s m args below meth c nL A H0 Q w2 cells slots (pc + 3) lv rest) : AW G p l e R s m args below meth c nL A H0 Q w cells slots pc lv (v :: .ref a :: rest) := by
  refine aw_putF X hin ok hw hk hlink hsame hfin hdecl hn hfit hlen hdg ?_
  rw [hfs]
  exact kk _ wm_ups (fun b h => wm_upn h) rfl
theorem aw_iast2 (X : Cx G p s m args meth c A H0 cc nL own) {f : Nat → Int32} {i x : Int32} (hw : w a = some (.inl (gA G 0, n, .inl f))) (hin : vp_in i n) (hdg : decode cc pc = .ok (.iastore, 1))
    (kk : ∀ w2 : WM, w2 a = some (.inl (gA G 0, n, .inl (upd f i.toNatClampNeg x))) → (∀ b, b ≠ a → w2 b = w b) → w2 = wm_up w a (.inl (gA G 0, n, .inl (upd f i.toNatClampNeg x))) → AW G p l e R s m args below meth c nL A H0 Q w2 cells slots (pc + 1) lv rest) : AW G p l e R s m args below meth c nL A H0 Q w cells slots pc lv (.int x :: .int i :: .ref a :: rest) :=
  aw_iast X hw hin hdg (kk _ wm_ups (fun b h => wm_upn h) rfl)
theorem aw_bast2 (X : Cx G p s m args meth c A H0 cc nL own) {f : Nat → Int32} {i x : Int32} (hw : w a = some (.inl (gA G 1, n, .inl f))) (hin : vp_in i n) (hdg : decode cc pc = .ok (.bastore, 1))
    (kk : ∀ w2 : WM, w2 a = some (.inl (gA G 1, n, .inl (upd f i.toNatClampNeg (vp_nar .byte x)))) → (∀ b, b ≠ a → w2 b = w b) → w2 = wm_up w a (.inl (gA G 1, n, .inl (upd f i.toNatClampNeg (vp_nar .byte x)))) → AW G p l e R s m args below meth c nL A H0 Q w2 cells slots (pc + 1) lv rest) : AW G p l e R s m args below meth c nL A H0 Q w cells slots pc lv (.int x :: .int i :: .ref a :: rest) :=
  aw_bast X hw hin hdg (kk _ wm_ups (fun b h => wm_upn h) rfl)
theorem aw_aastN2 (X : Cx G p s m args meth c A H0 cc nL own) (t0 : Nat) {cA : ClassId} {f : Nat → Option Nat} {i : Int32} (hw : w a = some (rA cA n f)) (ht : (gT G)[t0]? = some (cA, .object C)) (hin : vp_in i n) (hdg : decode cc pc = .ok (.aastore, 1))
    (kk : ∀ w2 : WM, w2 a = some (rA cA n (va_up f i.toNatClampNeg none)) → (∀ b, b ≠ a → w2 b = w b) → w2 = wm_up w a (rA cA n (va_up f i.toNatClampNeg none)) → AW G p l e R s m args below meth c nL A H0 Q w2 cells slots (pc + 1) lv rest) : AW G p l e R s m args below meth c nL A H0 Q w cells slots pc lv (.null :: .int i :: .ref a :: rest) :=
  aw_aastN X t0 hw ht hin hdg (kk _ wm_ups (fun b h => wm_upn h) rfl)
theorem aw_aast2 (X : Cx G p s m args meth c A H0 cc nL own) (t0 : Nat) {cA : ClassId} {b0 : Nat} {vs : List Value} {f : Nat → Option Nat} {i : Int32} (ok : okC ci C T N ty) (hw : w a = some (rA cA n f)) (ht : (gT G)[t0]? = some (cA, .object C)) (hv : w b0 = some (.inr (ci, vs))) (hin : vp_in i n) (hdg : decode cc pc = .ok (.aastore, 1))
    (kk : ∀ w2 : WM, w2 a = some (rA cA n (va_up f i.toNatClampNeg (some b0))) → (∀ b, b ≠ a → w2 b = w b) → w2 = wm_up w a (rA cA n (va_up f i.toNatClampNeg (some b0))) → AW G p l e R s m args below meth c nL A H0 Q w2 cells slots (pc + 1) lv rest) : AW G p l e R s m args below meth c nL A H0 Q w cells slots pc lv (.ref b0 :: .int i :: .ref a :: rest) :=
  aw_aast X t0 ok hw ht hv hin hdg (kk _ wm_ups (fun b h => wm_upn h) rfl)
theorem aw_new2 (X : Cx G p s m args meth c A H0 cc nL own) (ok : okC ci C T N ty) (hcl : Cond.classLink own index C ∈ lw_g) (hinst : Cond.instantiable C N ∈ lw_g) (hini : Cond.initialized C ∈ lw_g) (hfs : (List.range N).map (fun j => defaultValue (ty j)) = fs) (hcells : cells + 1 ≤ R.cells) (hslots : slots + N ≤ R.slots) (hdg : decode cc pc = .ok (.new index, 3))
    (kk : ∀ (q : Nat) (w2 : WM), w q = none → w2 q = some (.inr (ci, fs)) → (∀ b, b ≠ q → w2 b = w b) → w2 = wm_up w q (.inr (ci, fs)) → AW G p l e R s m args below meth c nL A H0 Q w2 (cells + 1) (slots + N) (pc + 3) lv (.ref q :: rest)) : AW G p l e R s m args below meth c nL A H0 Q w cells slots pc lv rest :=
  aw_new X ok hcl hinst hini hfs hcells hslots hdg (fun q h => kk q _ h wm_ups (fun b h => wm_upn h) rfl)
theorem aw_newi2 (X : Cx G p s m args meth c A H0 cc nL own) {i : Int32} (hn : ¬ i < 0) (hN : i.toNatClampNeg = n) (hb : n * 4 ≤ 536870912) (hcells : cells + 1 ≤ R.cells) (hslots : slots + n ≤ R.slots) (hdg : decode cc pc = .ok (.newarray .int, 2))
    (kk : ∀ (q : Nat) (w2 : WM), w q = none → w2 q = some (.inl (gA G 0, n, .inl (fun _ => 0))) → (∀ b, b ≠ q → w2 b = w b) → w2 = wm_up w q (.inl (gA G 0, n, .inl (fun _ => 0))) → AW G p l e R s m args below meth c nL A H0 Q w2 (cells + 1) (slots + n) (pc + 2) lv (.ref q :: rest)) : AW G p l e R s m args below meth c nL A H0 Q w cells slots pc lv (.int i :: rest) :=
  aw_newa X 0 (atype := .int) (ty0 := .int) (a0 := (n, .inl (fun _ => 0))) ac_int rfl rfl (fun _ h => h) (fun _ => rfl) hn hN hb hcells hslots hdg (fun q h => kk q _ h wm_ups (fun b h => wm_upn h) rfl)
theorem aw_newb2 (X : Cx G p s m args meth c A H0 cc nL own) {i : Int32} (hn : ¬ i < 0) (hN : i.toNatClampNeg = n) (hb : n ≤ 536870912) (hcells : cells + 1 ≤ R.cells) (hslots : slots + n ≤ R.slots) (hdg : decode cc pc = .ok (.newarray .byte, 2))
    (kk : ∀ (q : Nat) (w2 : WM), w q = none → w2 q = some (.inl (gA G 1, n, .inl (fun _ => 0))) → (∀ b, b ≠ q → w2 b = w b) → w2 = wm_up w q (.inl (gA G 1, n, .inl (fun _ => 0))) → AW G p l e R s m args below meth c nL A H0 Q w2 (cells + 1) (slots + n) (pc + 2) lv (.ref q :: rest)) : AW G p l e R s m args below meth c nL A H0 Q w cells slots pc lv (.int i :: rest) :=
  aw_newa X 1 (atype := .byte) (ty0 := .byte) (a0 := (n, .inl (fun _ => 0))) ac_byte rfl rfl (fun _ h => h) (fun _ => rfl) hn hN (by show n * 1 ≤ _; omega) hcells hslots hdg (fun q h => kk q _ h wm_ups (fun b h => wm_upn h) rfl)
end AWY
