theorem same_of {s : State} {args : Array Value} {ref O n d : String} (hts : ∀ w ∈ lw_g, w.before args s = true) (h : ref = O ∨ Cond.sameField ref O n d ∈ lw_g) : ∀ x, s.fieldFound? O n d = some x → s.fieldFound? ref n d = some x := by
  rcases h with h | h
  · intro x hx; rw [h]; exact hx
  · exact u_same (hts _ h)
theorem nn_some {w : WM} {a : Nat} {e : va_E} (h : w a = some e) : w a ≠ none := by rw [h]; exact fun z => by cases z
section AWH
variable {G : GG} {p : Program} {l : Launch} {e : Env} {R : Room} {s : State} {m : MethodId} {args : Array Value} {below : List Frame} {meth : Method} {c : Code} {nL : Nat} {A : Nat → Prop} {H0 : Heap} {Q : State → Prop} {w : WM} {cells slots pc : Nat} {lv lv' : List (Nat × Value)} {rest : List Value} {cc : ByteArray} {own : String}
variable {a ci k N index n : Nat} {C ref : String} {T : u_T} {ty : Nat → FieldType} {fs : List Value} {v : Value}
theorem aw_get (X : Cx G p s m args meth c A H0 cc nL own) (ok : okC ci C T N ty) (hw : w a = some (.inr (ci, fs))) (hk : k < N) (hlink : Cond.fieldLink own index ref (T k).2.1 (T k).2.2.1 ∈ lw_g) (hsame : ref = (T k).1 ∨ Cond.sameField ref (T k).1 (T k).2.1 (T k).2.2.1 ∈ lw_g) (hv : fs[k]? = some v) (hdg : decode cc pc = .ok (.getfield index, 3))
    (kk : AW G p l e R s m args below meth c nL A H0 Q w cells slots (pc + 3) lv (v :: rest)) : AW G p l e R s m args below meth c nL A H0 Q w cells slots pc lv (.ref a :: rest) := by
  intro H locs ls hP hA hS hl
  obtain ⟨q0, hq⟩ := wm_pos hP hw
  exact va_get (D := gD G) X.1 X.2.1 X.2.2.2.2.1 ok.2.1 X.2.2.2.1 X.2.2.2.2.2.1 (wm_toP hP _) q0 hq ok.1 k hk (X.2.2.2.2.1 _ hlink) (same_of X.2.2.2.2.1 hsame) hv hdg (kk H locs ls hP hA hS hl)
theorem aw_put (X : Cx G p s m args meth c A H0 cc nL own) (ok : okC ci C T N ty) (hw : w a = some (.inr (ci, fs))) (hk : k < N) (hlink : Cond.fieldLink own index ref (T k).2.1 (T k).2.2.1 ∈ lw_g) (hsame : ref = (T k).1 ∨ Cond.sameField ref (T k).1 (T k).2.1 (T k).2.2.1 ∈ lw_g) (hfin : (T k).2.2.2 = false) (hn : narrow (ty k) v = v) (hfit : fits (ty k) v = true) (hlen : k < fs.length) (hdg : decode cc pc = .ok (.putfield index, 3))
    (kk : AW G p l e R s m args below meth c nL A H0 Q (wm_up w a (.inr (ci, fs.set k v))) cells slots (pc + 3) lv rest) : AW G p l e R s m args below meth c nL A H0 Q w cells slots pc lv (v :: .ref a :: rest) := by
  intro H locs ls hP hA hS hl
  obtain ⟨q0, hq⟩ := wm_pos hP hw
  exact va_put (D := gD G) X.1 X.2.1 X.2.2.2.2.1 ok.2.1 ty ok.2.2.1 ok.2.2.2 X.2.2.2.1 X.2.2.2.2.2.1 (wm_toP hP _) (wm_toD hA _) hS q0 hq ok.1 k hk (X.2.2.2.2.1 _ hlink) (same_of X.2.2.2.2.1 hsame) hfin (ok.2.2.1 k hk) hn hfit hlen hdg
    (fun H1 locs1 hP1 _ hS1 => kk H1 locs1 ls (wm_set hP hq hP1) (wm_upA hA (hA a (nn_some hw))) hS1 hl)
theorem aw_putF (X : Cx G p s m args meth c A H0 cc nL own) (hin : meth.name = "<init>") (ok : okC ci C T N ty) (hw : w a = some (.inr (ci, fs))) (hk : k < N) (hlink : Cond.fieldLink own index ref (T k).2.1 (T k).2.2.1 ∈ lw_g) (hsame : ref = (T k).1 ∨ Cond.sameField ref (T k).1 (T k).2.1 (T k).2.2.1 ∈ lw_g) (hfin : (T k).2.2.2 = true) (hdecl : (T k).1 = own) (hn : narrow (ty k) v = v) (hfit : fits (ty k) v = true) (hlen : k < fs.length) (hdg : decode cc pc = .ok (.putfield index, 3))
    (kk : AW G p l e R s m args below meth c nL A H0 Q (wm_up w a (.inr (ci, fs.set k v))) cells slots (pc + 3) lv rest) : AW G p l e R s m args below meth c nL A H0 Q w cells slots pc lv (v :: .ref a :: rest) := by
  intro H locs ls hP hA hS hl
  obtain ⟨q0, hq⟩ := wm_pos hP hw
  exact va_putF (D := gD G) X.1 X.2.1 X.2.2.2.2.1 ok.2.1 ty ok.2.2.1 ok.2.2.2 X.2.2.2.1 X.2.2.2.2.2.1 (wm_toP hP _) (wm_toD hA _) hS q0 hq ok.1 k hk (X.2.2.2.2.1 _ hlink) (same_of X.2.2.2.2.1 hsame) hfin hin hdecl (ok.2.2.1 k hk) hn hfit hlen hdg
    (fun H1 locs1 hP1 _ hS1 => kk H1 locs1 ls (wm_set hP hq hP1) (wm_upA hA (hA a (nn_some hw))) hS1 hl)
theorem aw_iald (X : Cx G p s m args meth c A H0 cc nL own) {f : Nat → Int32} {i : Int32} (hw : w a = some (.inl (gA G 0, n, .inl f))) (hin : vp_in i n) (hdg : decode cc pc = .ok (.iaload, 1))
    (kk : AW G p l e R s m args below meth c nL A H0 Q w cells slots (pc + 1) lv (.int (f i.toNatClampNeg) :: rest)) : AW G p l e R s m args below meth c nL A H0 Q w cells slots pc lv (.int i :: .ref a :: rest) := by
  intro H locs ls hP hA hS hl
  obtain ⟨q0, hq⟩ := wm_pos hP hw
  exact va_iald X.1 X.2.1 X.2.2.2.2.2.1 (wm_toP hP _) q0 0 hq rfl hin hdg (kk H locs ls hP hA hS hl)
theorem aw_bald (X : Cx G p s m args meth c A H0 cc nL own) {f : Nat → Int32} {i : Int32} (hw : w a = some (.inl (gA G 1, n, .inl f))) (hin : vp_in i n) (hdg : decode cc pc = .ok (.baload, 1))
    (kk : AW G p l e R s m args below meth c nL A H0 Q w cells slots (pc + 1) lv (.int (f i.toNatClampNeg) :: rest)) : AW G p l e R s m args below meth c nL A H0 Q w cells slots pc lv (.int i :: .ref a :: rest) := by
  intro H locs ls hP hA hS hl
  obtain ⟨q0, hq⟩ := wm_pos hP hw
  exact va_bald X.1 X.2.1 X.2.2.2.2.2.1 (wm_toP hP _) q0 1 hq rfl hin hdg (kk H locs ls hP hA hS hl)
theorem aw_zald (X : Cx G p s m args meth c A H0 cc nL own) {f : Nat → Int32} {i : Int32} (hw : w a = some (.inl (gA G 2, n, .inl f))) (hin : vp_in i n) (hdg : decode cc pc = .ok (.baload, 1))
    (kk : AW G p l e R s m args below meth c nL A H0 Q w cells slots (pc + 1) lv (.int (f i.toNatClampNeg) :: rest)) : AW G p l e R s m args below meth c nL A H0 Q w cells slots pc lv (.int i :: .ref a :: rest) := by
  intro H locs ls hP hA hS hl
  obtain ⟨q0, hq⟩ := wm_pos hP hw
  exact va_zald X.1 X.2.1 X.2.2.2.2.2.1 (wm_toP hP _) q0 2 hq rfl hin hdg (kk H locs ls hP hA hS hl)
theorem aw_lald (X : Cx G p s m args meth c A H0 cc nL own) {f : Nat → Int64} {i : Int32} (hw : w a = some (.inl (gA G 3, n, .inr (.inl f)))) (hin : vp_in i n) (hdg : decode cc pc = .ok (.laload, 1))
    (kk : AW G p l e R s m args below meth c nL A H0 Q w cells slots (pc + 1) lv (.long (f i.toNatClampNeg) :: rest)) : AW G p l e R s m args below meth c nL A H0 Q w cells slots pc lv (.int i :: .ref a :: rest) := by
  intro H locs ls hP hA hS hl
  obtain ⟨q0, hq⟩ := wm_pos hP hw
  exact va_lald X.1 X.2.1 X.2.2.2.2.2.1 (wm_toP hP _) q0 3 hq rfl hin hdg (kk H locs ls hP hA hS hl)
theorem aw_iast (X : Cx G p s m args meth c A H0 cc nL own) {f : Nat → Int32} {i x : Int32} (hw : w a = some (.inl (gA G 0, n, .inl f))) (hin : vp_in i n) (hdg : decode cc pc = .ok (.iastore, 1))
    (kk : AW G p l e R s m args below meth c nL A H0 Q (wm_up w a (.inl (gA G 0, n, .inl (upd f i.toNatClampNeg x)))) cells slots (pc + 1) lv rest) : AW G p l e R s m args below meth c nL A H0 Q w cells slots pc lv (.int x :: .int i :: .ref a :: rest) := by
  intro H locs ls hP hA hS hl
  obtain ⟨q0, hq⟩ := wm_pos hP hw
  exact va_iast X.1 X.2.1 X.2.2.2.2.2.1 (wm_toP hP _) (wm_toD hA _) hS q0 0 hq rfl hin hdg (fun H1 locs1 hP1 _ hS1 => kk H1 locs1 ls (wm_set hP hq hP1) (wm_upA hA (hA a (nn_some hw))) hS1 hl)
theorem aw_bast (X : Cx G p s m args meth c A H0 cc nL own) {f : Nat → Int32} {i x : Int32} (hw : w a = some (.inl (gA G 1, n, .inl f))) (hin : vp_in i n) (hdg : decode cc pc = .ok (.bastore, 1))
    (kk : AW G p l e R s m args below meth c nL A H0 Q (wm_up w a (.inl (gA G 1, n, .inl (upd f i.toNatClampNeg (vp_nar .byte x))))) cells slots (pc + 1) lv rest) : AW G p l e R s m args below meth c nL A H0 Q w cells slots pc lv (.int x :: .int i :: .ref a :: rest) := by
  intro H locs ls hP hA hS hl
  obtain ⟨q0, hq⟩ := wm_pos hP hw
  exact va_bast X.1 X.2.1 X.2.2.2.2.2.1 (wm_toP hP _) (wm_toD hA _) hS q0 1 hq rfl hin hdg (fun H1 locs1 hP1 _ hS1 => kk H1 locs1 ls (wm_set hP hq hP1) (wm_upA hA (hA a (nn_some hw))) hS1 hl)
theorem aw_zast (X : Cx G p s m args meth c A H0 cc nL own) {f : Nat → Int32} {i x : Int32} (hw : w a = some (.inl (gA G 2, n, .inl f))) (hin : vp_in i n) (hdg : decode cc pc = .ok (.bastore, 1))
    (kk : AW G p l e R s m args below meth c nL A H0 Q (wm_up w a (.inl (gA G 2, n, .inl (upd f i.toNatClampNeg (vp_nar .boolean x))))) cells slots (pc + 1) lv rest) : AW G p l e R s m args below meth c nL A H0 Q w cells slots pc lv (.int x :: .int i :: .ref a :: rest) := by
  intro H locs ls hP hA hS hl
  obtain ⟨q0, hq⟩ := wm_pos hP hw
  exact va_zast X.1 X.2.1 X.2.2.2.2.2.1 (wm_toP hP _) (wm_toD hA _) hS q0 2 hq rfl hin hdg (fun H1 locs1 hP1 _ hS1 => kk H1 locs1 ls (wm_set hP hq hP1) (wm_upA hA (hA a (nn_some hw))) hS1 hl)
theorem aw_last (X : Cx G p s m args meth c A H0 cc nL own) {f : Nat → Int64} {i : Int32} {x : Int64} (hw : w a = some (.inl (gA G 3, n, .inr (.inl f)))) (hin : vp_in i n) (hdg : decode cc pc = .ok (.lastore, 1))
    (kk : AW G p l e R s m args below meth c nL A H0 Q (wm_up w a (.inl (gA G 3, n, .inr (.inl (vp_updL f i.toNatClampNeg x))))) cells slots (pc + 1) lv rest) : AW G p l e R s m args below meth c nL A H0 Q w cells slots pc lv (.long x :: .int i :: .ref a :: rest) := by
  intro H locs ls hP hA hS hl
  obtain ⟨q0, hq⟩ := wm_pos hP hw
  exact va_last X.1 X.2.1 X.2.2.2.2.2.1 (wm_toP hP _) (wm_toD hA _) hS q0 3 hq rfl hin hdg (fun H1 locs1 hP1 _ hS1 => kk H1 locs1 ls (wm_set hP hq hP1) (wm_upA hA (hA a (nn_some hw))) hS1 hl)
theorem aw_alen (X : Cx G p s m args meth c A H0 cc nL own) (t0 : Nat) {x : vp_A} {ty0 : FieldType} {cA : ClassId} (hw : w a = some (.inl (cA, x))) (ht : (gT G)[t0]? = some (cA, ty0)) {v : Int32} (hv : Int32.ofNat x.1 = v) (hdg : decode cc pc = .ok (.arraylength, 1))
    (kk : AW G p l e R s m args below meth c nL A H0 Q w cells slots (pc + 1) lv (.int v :: rest)) : AW G p l e R s m args below meth c nL A H0 Q w cells slots pc lv (.ref a :: rest) := by
  intro H locs ls hP hA hS hl
  obtain ⟨q0, hq⟩ := wm_pos hP hw
  exact va_alen X.1 X.2.1 X.2.2.2.2.2.1 (wm_toP hP _) q0 t0 hq ht hv hdg (kk H locs ls hP hA hS hl)
theorem aw_new (X : Cx G p s m args meth c A H0 cc nL own) (ok : okC ci C T N ty) (hcl : Cond.classLink own index C ∈ lw_g) (hinst : Cond.instantiable C N ∈ lw_g) (hini : Cond.initialized C ∈ lw_g) (hfs : (List.range N).map (fun j => defaultValue (ty j)) = fs) (hcells : cells + 1 ≤ R.cells) (hslots : slots + N ≤ R.slots) (hdg : decode cc pc = .ok (.new index, 3))
    (kk : ∀ q : Nat, w q = none → AW G p l e R s m args below meth c nL A H0 Q (wm_up w q (.inr (ci, fs))) (cells + 1) (slots + N) (pc + 3) lv (.ref q :: rest)) : AW G p l e R s m args below meth c nL A H0 Q w cells slots pc lv rest := by
  intro H locs ls hP hA hS hl
  refine va_new (D := gD G) (ci := ci) (fs := fs) X.1 X.2.1 X.2.2.2.2.1 ok.2.1 ty ok.2.2.1 X.2.2.2.1 (X.2.2.2.2.1 _ hcl) (X.2.2.2.2.1 _ hinst) (X.2.2.2.2.1 _ hini) X.2.2.2.2.2.1 (wm_toP hP H.size) (wm_toD hA _) hS X.2.2.2.2.2.2.2.1 ok.1 (fun j hj => ?_) hcells hslots hdg (fun q H1 hP1 hD1 hS1 => ?_)
  · subst hfs
    simp [vp_V, hj]
  · obtain ⟨h1, h2, h3⟩ := wm_push hP hP1 hD1
    exact kk q h2 H1 locs ls h1 (wm_upA hA h3) hS1 hl
theorem aw_objInit (X : Cx G p s m args meth c A H0 cc nL own) (hlink : Cond.methodLink own index Lib.objectInit ∈ lw_g) (hinst : Cond.instanceMethod Lib.objectInit ∈ lw_g) (hcode : Cond.code Lib.objectInit ⟨#[0xb1]⟩ 1 none ∈ lw_g) (hf : 1 ≤ R.frames) (hlo : (rest.map fun v => v.category).sum + 12 ≤ R.locals) (hdg : decode cc pc = .ok (.invokespecial index, 3))
    (kk : AW G p l e R s m args below meth c nL A H0 Q w cells slots (pc + 3) lv rest) : AW G p l e R s m args below meth c nL A H0 Q w cells slots pc lv (.ref a :: rest) := by
  intro H locs ls hP hA hS hl
  exact W.objInit X.1 X.2.1 X.2.2.2.1 (X.2.2.2.2.1 _ hlink) (X.2.2.2.2.1 _ hinst) (X.2.2.2.2.1 _ hcode) rfl (by rw [X.2.2.1]; exact hl.1) rfl hdg hf (show 2 * (F0 m pc ls (Value.ref a :: rest)).monitorRoom + _ + 12 ≤ _ from by rw [show (F0 m pc ls (Value.ref a :: rest)).monitorRoom = 0 from rfl]; omega) (kk H locs ls hP hA hS hl)
/-- an array of numbers comes: t0 its place in gT -/
theorem aw_newa (X : Cx G p s m args meth c A H0 cc nL own) (t0 : Nat) {atype : ArrayType} {ty0 : FieldType} {cA : ClassId} {a0 : vp_A} {i : Int32} (harr : Cond.arrayClass (newarray.typeOf atype) ∈ lw_g) (hty : newarray.typeOf atype = ty0) (ht : (gT G)[t0]? = some (cA, ty0)) (hnm : ∀ U, va_RA U cA ty0 → U.vm.findClass ("[" ++ ty0.toString) = some cA) (ha : ∀ cA : ClassId, vp_cell cA a0 = arrV cA n (fun _ => defaultValue ty0)) (hn : ¬ i < 0) (hN : i.toNatClampNeg = n) (hbytes : n * componentBytes ty0 ≤ 536870912) (hcells : cells + 1 ≤ R.cells) (hslots : slots + n ≤ R.slots) (hdg : decode cc pc = .ok (.newarray atype, 2))
    (kk : ∀ q : Nat, w q = none → AW G p l e R s m args below meth c nL A H0 Q (wm_up w q (.inl (cA, a0))) (cells + 1) (slots + n) (pc + 2) lv (.ref q :: rest)) : AW G p l e R s m args below meth c nL A H0 Q w cells slots pc lv (.int i :: rest) := by
  intro H locs ls hP hA hS hl
  refine va_newa (D := gD G) X.1 X.2.1 (X.2.2.2.2.1 _ harr) hty X.2.2.2.2.2.1 (wm_toP hP H.size) (wm_toD hA _) hS X.2.2.2.2.2.2.2.1 ha hn hN hbytes hcells hslots hdg (fun q cA1 H1 hK1 hP1 hD1 hS1 => ?_)
  have hsame : cA1 = cA := by
    have h1 := (hK1.2 (gT G).length (cA1, ty0) (by simp)).2
    have h2 := hnm s (X.2.2.2.2.2.1.2 t0 _ ht).2
    have h3 : s.vm.findClass ("[" ++ ty0.toString) = some cA1 := by
      subst hty
      cases atype <;> exact h1
    exact Option.some.inj (h3.symm.trans h2)
  subst hsame
  obtain ⟨h1, h2, h3⟩ := wm_push hP hP1 hD1
  exact kk q h2 H1 locs ls h1 (wm_upA hA h3) hS1 hl
end AWH
/-! contracts -/
def wsM (y : MethodName) (cc : ByteArray) (maxL : Nat) (ret : Option FieldType) : List Cond := .code y cc maxL ret :: lw_g
def mA (w : WM) (sz : Nat) : Nat → Prop := fun q => w q ≠ none ∨ sz ≤ q
def MCP (G : GG) (w : WM) (sz : Nat) (U : State) : Prop := U.heap.size = sz ∧ wm_P G w U.heap ∧ va_K (gD G) vwCl (gT G) U ∧ gE G (mA w sz) U U.heap
def MCQ (G : GG) (w : WM) (sz : Nat) (post : Option Value → WM → Prop) : Array Value → State → Outcome → State → Prop := fun _ st oc t => (∃ (v : Option Value) (w' : WM), oc = .returned v ∧ post v w' ∧ wm_P G w' t.heap ∧ ∀ a, w' a ≠ none → mA w sz a) ∧ va_F (mA w sz) st t
def MC (G : GG) (l : Launch) (y : MethodName) (cc : ByteArray) (maxL : Nat) (ret : Option FieldType) (rm : Room) (av : List Value) (w : WM) (post : Option Value → WM → Prop) : Prop :=
  ∀ sz : Nat, Met l y (wsM y cc maxL ret) rm (va_Pc av (MCP G w sz)) (MCQ G w sz post) rm.cells rm.slots (mA w sz)
/-- how a walk of a body may end -/
def RT (G : GG) (p : Program) (l : Launch) (e : Env) (R : Room) (s : State) (m : MethodId) (args : Array Value) (below : List Frame) (meth : Method) (c : Code) (cc : ByteArray) (nL : Nat) (A : Nat → Prop) (H0 : Heap) (Q : State → Prop) (ins : Instr) (okv : Option Value → Prop) (post : Option Value → WM → Prop) : Prop :=
  ∀ (v : Option Value) (w' : WM) (cells slots pc : Nat) (lv : List (Nat × Value)), decode cc pc = .ok (ins, 1) → okv v → cells ≤ R.cells → slots ≤ R.slots → post v w' → AW G p l e R s m args below meth c nL A H0 Q w' cells slots pc lv v.toList
def okInt (v : Option Value) : Prop := ∃ x : Int32, v = some (.int x)
def okBool (v : Option Value) : Prop := v = some (.int 0) ∨ v = some (.int 1)
def okLong (v : Option Value) : Prop := ∃ x : Int64, v = some (.long x)
def okVoid (v : Option Value) : Prop := v = none
def okRef (v : Option Value) : Prop := ∃ r : Option Nat, v = some (va_rf r)
section MCO
variable {G : GG} {l : Launch} {y : MethodName} {cc : ByteArray} {maxL : Nat} {ret : Option FieldType} {rm : Room} {av : List Value} {w : WM} {post : Option Value → WM → Prop} {lv0 : List (Nat × Value)}
theorem mc_of (ins : Instr) (okv : Option Value → Prop) (hy : plainName y.cls = true) (hs : (lg_sl av).length ≤ maxL) (hlv : lv_args 0 av = lv0)
    (hend : ∀ (p : Program) (e : Env) (s : State) (m : MethodId) (below : List Frame) (meth : Method) (c : Code) (v : Option Value) (H : Heap) (locs : List Loc) (ls : Array Slot) (pc : Nat), p.tables.exec = Jvm.exec → c.code = cc → meth.sig.returnType = ret → meth.locks = false → decode cc pc = .ok (ins, 1) → okv v → (∀ t : State, t.heap = H → s.WarmedH t.vm → MCQ G w s.heap.size post av.toArray s (.returned v) t) → (∀ q ∈ locs, mA w s.heap.size q.base) → W p l e rm s m av.toArray below meth c H locs rm.cells rm.slots (MQ below (MCQ G w s.heap.size post) av.toArray s rm.cells rm.slots (mA w s.heap.size)) (F0 m pc ls v.toList))
    (body : ∀ (p : Program) (e : Env) (s : State) (m : MethodId) (args : Array Value) (below : List Frame) (meth : Method) (c : Code) (A : Nat → Prop) (H0 : Heap) (Q : State → Prop), Cx G p s m args meth c A H0 cc maxL y.cls → meth.name = y.name → RT G p l e rm s m args below meth c cc maxL A H0 Q ins okv post → AW G p l e rm s m args below meth c maxL A H0 Q w 0 0 0 lv0 []) : MC G l y cc maxL ret rm av w post := by
  intro sz
  refine Met.ofW (cc := cc) (maxL := maxL) (ret := ret) hy rfl ?_
  intro p e s m args below meth c s₁ B hml hv
  obtain ⟨rfl, hsz, hP, hK, hE⟩ := hv
  subst hsz
  have hts := atoms_spec (ws := wsM y cc maxL ret) B.pre
  have X : Cx G p s m av.toArray meth c (mA w s.heap.size) s.heap cc maxL y.cls := ⟨B.exec, B.bytes, hml, findClass_of_methodNamed B.named, fun w hw => hts w (List.mem_cons_of_mem _ hw), hK, B.notSynchronized, fun _ h => Or.inr h, hE⟩
  rw [lg_entry_eq]
  subst hlv
  refine body p e s m av.toArray below meth c (mA w s.heap.size) s.heap _ X (name_of_methodNamed B.named B.method).1 ?_ s.heap [] _ hP (fun a h => Or.inl h) va_S.rf (lv_entry av hs)
  intro v w' cells slots pc lv hdg hok hc hsl hp H locs ls hP' hA' hS' hl'
  refine W.widen hc hsl ?_
  exact hend p e s m below meth c v H locs ls pc B.exec B.bytes B.returns B.notSynchronized hdg hok (fun t ht hW => ⟨⟨v, w', rfl, hp, by rw [ht]; exact hP', hA'⟩, hS'.F ht⟩) hS'.2.2
theorem mc_int (hy : plainName y.cls = true) (hs : (lg_sl av).length ≤ maxL) (hlv : lv_args 0 av = lv0) (hret : ret = some .int)
    (body : ∀ (p : Program) (e : Env) (s : State) (m : MethodId) (args : Array Value) (below : List Frame) (meth : Method) (c : Code) (A : Nat → Prop) (H0 : Heap) (Q : State → Prop), Cx G p s m args meth c A H0 cc maxL y.cls → meth.name = y.name → RT G p l e rm s m args below meth c cc maxL A H0 Q .ireturn okInt post → AW G p l e rm s m args below meth c maxL A H0 Q w 0 0 0 lv0 []) : MC G l y cc maxL ret rm av w post := by
  refine mc_of .ireturn okInt hy hs hlv ?_ body
  intro p e s m below meth c v H locs ls pc hx hb hr hk hdg hok hq hf
  obtain ⟨x, rfl⟩ := hok
  exact W.iret hx hb (hr.trans hret) hq hf hdg hk
theorem mc_bool (hy : plainName y.cls = true) (hs : (lg_sl av).length ≤ maxL) (hlv : lv_args 0 av = lv0) (hret : ret = some .boolean)
    (body : ∀ (p : Program) (e : Env) (s : State) (m : MethodId) (args : Array Value) (below : List Frame) (meth : Method) (c : Code) (A : Nat → Prop) (H0 : Heap) (Q : State → Prop), Cx G p s m args meth c A H0 cc maxL y.cls → meth.name = y.name → RT G p l e rm s m args below meth c cc maxL A H0 Q .ireturn okBool post → AW G p l e rm s m args below meth c maxL A H0 Q w 0 0 0 lv0 []) : MC G l y cc maxL ret rm av w post := by
  refine mc_of .ireturn okBool hy hs hlv ?_ body
  intro p e s m below meth c v H locs ls pc hx hb hr hk hdg hok hq hf
  rcases hok with rfl | rfl
  · exact W.zret hx hb (hr.trans hret) rfl hq hf hdg hk
  · exact W.zret hx hb (hr.trans hret) rfl hq hf hdg hk
theorem mc_long (hy : plainName y.cls = true) (hs : (lg_sl av).length ≤ maxL) (hlv : lv_args 0 av = lv0) (hret : ret = some .long)
    (body : ∀ (p : Program) (e : Env) (s : State) (m : MethodId) (args : Array Value) (below : List Frame) (meth : Method) (c : Code) (A : Nat → Prop) (H0 : Heap) (Q : State → Prop), Cx G p s m args meth c A H0 cc maxL y.cls → meth.name = y.name → RT G p l e rm s m args below meth c cc maxL A H0 Q .lreturn okLong post → AW G p l e rm s m args below meth c maxL A H0 Q w 0 0 0 lv0 []) : MC G l y cc maxL ret rm av w post := by
  refine mc_of .lreturn okLong hy hs hlv ?_ body
  intro p e s m below meth c v H locs ls pc hx hb hr hk hdg hok hq hf
  obtain ⟨x, rfl⟩ := hok
  exact W.lret hx hb (hr.trans hret) hq hf hdg hk
theorem mc_void (hy : plainName y.cls = true) (hs : (lg_sl av).length ≤ maxL) (hlv : lv_args 0 av = lv0) (hret : ret = none)
    (body : ∀ (p : Program) (e : Env) (s : State) (m : MethodId) (args : Array Value) (below : List Frame) (meth : Method) (c : Code) (A : Nat → Prop) (H0 : Heap) (Q : State → Prop), Cx G p s m args meth c A H0 cc maxL y.cls → meth.name = y.name → RT G p l e rm s m args below meth c cc maxL A H0 Q .return_ okVoid post → AW G p l e rm s m args below meth c maxL A H0 Q w 0 0 0 lv0 []) : MC G l y cc maxL ret rm av w post := by
  refine mc_of .return_ okVoid hy hs hlv ?_ body
  intro p e s m below meth c v H locs ls pc hx hb hr hk hdg hok hq hf
  cases hok
  exact W.vret hx hb (hr.trans hret) hq hf hdg hk
theorem mc_ref (hy : plainName y.cls = true) (hs : (lg_sl av).length ≤ maxL) (hlv : lv_args 0 av = lv0) {rt : FieldType} (hret : ret = some rt) (hrt : (∃ n, rt = .object n) ∨ ∃ t, rt = .array t)
    (body : ∀ (p : Program) (e : Env) (s : State) (m : MethodId) (args : Array Value) (below : List Frame) (meth : Method) (c : Code) (A : Nat → Prop) (H0 : Heap) (Q : State → Prop), Cx G p s m args meth c A H0 cc maxL y.cls → meth.name = y.name → RT G p l e rm s m args below meth c cc maxL A H0 Q .areturn okRef post → AW G p l e rm s m args below meth c maxL A H0 Q w 0 0 0 lv0 []) : MC G l y cc maxL ret rm av w post := by
  refine mc_of .areturn okRef hy hs hlv ?_ body
  intro p e s m below meth c v H locs ls pc hx hb hr hk hdg hok hq hf
  obtain ⟨r, rfl⟩ := hok
  cases r with
  | none => exact W.aret hx hb (hr.trans hret) hrt (Or.inl rfl) hq hf hdg hk
  | some a => exact W.aret hx hb (hr.trans hret) hrt (Or.inr ⟨a, rfl⟩) hq hf hdg hk
end MCO
