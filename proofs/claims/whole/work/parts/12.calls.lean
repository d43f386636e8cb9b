/-! calls by contract over map worlds -/
def okM (y : MethodName) (bytes : ByteArray) (maxL : Nat) (ret : Option FieldType) (n : Nat) : Prop :=
  Cond.code y bytes maxL ret ∈ lw_g ∧ Cond.initialized y.cls ∈ lw_g ∧ (y.cls ≠ "java/lang/invoke/MethodHandle" ∧ y.cls ≠ "java/lang/invoke/VarHandle") ∧ (parseMethodDescriptor y.desc).map (fun d => d.parameters.length) = some n
def wm_fr (w w1 w2 : WM) : WM := fun a => if w1 a = none ∧ w2 a = none then w a else w2 a
theorem wm_fr_self (w w2 : WM) : wm_fr w w w2 = w2 := by
  funext a
  unfold wm_fr
  split
  · rename_i h; rw [h.1, h.2]
  · rfl
def okR (R rm : Room) (maxL cells slots : Nat) : Prop := rm.frames + 1 ≤ R.frames ∧ 8 + (maxL + 11) + rm.locals ≤ R.locals ∧ cells + rm.cells ≤ R.cells ∧ slots + rm.slots ≤ R.slots
section AWC
variable {G : GG} {p : Program} {l : Launch} {e : Env} {R : Room} {s : State} {m : MethodId} {args : Array Value} {below : List Frame} {meth : Method} {c : Code} {nL : Nat} {A : Nat → Prop} {H0 : Heap} {Q : State → Prop} {w : WM} {cells slots pc : Nat} {lv lv' : List (Nat × Value)} {rest st : List Value} {cc : ByteArray} {own : String}
variable {y : MethodName} {bytes : ByteArray} {maxL n index : Nat} {ret : Option FieldType} {rm : Room} {As : List Value} {w1 : WM} {post : Option Value → WM → Prop}
theorem aw_run {mc ms : Nat} {aa : Array Value} (X : Cx G p s m args meth c A H0 cc nL own) (hsub : ∀ a x, w1 a = some x → w a = some x)
    (hr : ∀ (H : Heap) (locs : List Loc) (ls : Array Slot), wm_P G w1 H → gE G (mA w1 H.size) s H → lv_has ls nL lv → va_Run p l e R s m args below meth c H locs cells slots mc ms (F0 m pc ls st) rest (MCQ G w1 H.size post aa) (mA w1 H.size))
    (kk : ∀ (v : Option Value) (w2 : WM), post v w2 → AW G p l e R s m args below meth c nL A H0 Q (wm_fr w w1 w2) (cells + mc) (slots + ms) (pc + 3) lv (v.toList ++ rest)) : AW G p l e R s m args below meth c nL A H0 Q w cells slots pc lv st := by
  intro H locs ls hP hA hS hl T hT XT
  have hP1 : wm_P G w1 H := fun a x h => hP a x (hsub a x h)
  have hA1 : ∀ q, mA w1 H.size q → A q := by
    intro q h
    rcases h with h | h
    · cases hx : w1 q with
      | none => exact absurd hx h
      | some x => exact hA q (nn_some (hsub q x hx))
    · exact X.2.2.2.2.2.2.2.1 q (Nat.le_trans hS.1 h)
  have hE : gE G (mA w1 H.size) s H := X.2.2.2.2.2.2.2.2.call hS (State.WarmedH.refl s) (fun q h => Or.inl (hA1 q h))
  obtain ⟨v, st₀, t, T', L, h0, XT', hL, e1, e2, ⟨⟨v', w2, hv, hp, hP', hA'⟩, hz, hk⟩, stp⟩ := hr H locs ls hP1 hE hl T hT XT
  cases hv
  rw [h0] at hz hk
  have hA2 : ∀ q, wm_fr w w1 w2 q ≠ none → A q := by
    intro q h
    unfold wm_fr at h
    split at h
    · exact hA q h
    · exact hA1 q (hA' q h)
  obtain ⟨t2, a1, b1⟩ := kk v w2 hp T'.heap (locs ++ L) ls (by
      rw [e1]
      intro a x h
      unfold wm_fr at h
      split at h
      · rename_i hn
        have hlt := wm_lt hP h
        refine (hP a x h).kept (hk a hlt ?_)
        intro z
        rcases z with z | z
        · exact z hn.1
        · omega
      · exact hP' a x h) hA2
    ⟨Nat.le_trans hS.1 (by rw [e1]; exact hz), fun q h1 h2 => by rw [e1, hk q (Nat.lt_of_lt_of_le h1 hS.1) (fun z => h2 (hA1 q z))]; exact hS.2.1 q h1 h2, fun q hq => by
      rcases List.mem_append.mp hq with h | h
      · exact hS.2.2 q h
      · exact hA1 _ (hL q h)⟩ hl T' rfl XT'
  exact ⟨t2, stp t2 a1, b1⟩
theorem mcp_blind {av : List Value} {sz : Nat} : FrameBlind (va_Pc av (MCP G w1 sz)) := by
  intro a U g mk h
  obtain ⟨h1, h2, h3, h4, h5⟩ := h
  exact ⟨h1, h2, h3, va_K.moved (u := U) (U := U.calling g mk a) (Vm.Alike.refl U.vm) h4, gE.vm (s := U) (U := U.calling g mk a) h5 rfl⟩
theorem mcp_at {av : List Value} {H : Heap} (hK : va_K (gD G) vwCl (gT G) s) (hP : wm_P G w1 H) (hE : gE G (mA w1 H.size) s H) : ∀ U : State, U.heap = H → s.WarmedH U.vm → va_Pc av (MCP G w1 H.size) av.toArray U := by
  intro U hU hW
  refine ⟨rfl, by rw [hU], by rw [hU]; exact hP, va_K.moved hW.alike hK, ?_⟩
  rw [hU]
  exact hE.call (locs := []) va_S.rf hW (fun q h => Or.inl h)
theorem call_B (X : Cx G p s m args meth c A H0 cc nL own) (ok : okM y bytes maxL ret n) (hl : Cond.methodLink own index y ∈ lw_g) (hR : okR R rm maxL cells slots) : CallB R s args own index y bytes maxL ret (wsM y bytes maxL ret) rm rm.cells rm.slots n := by
  refine ⟨rfl, rfl, hR.1, hR.2.1, fun w hw a' U hW => ?_, List.mem_cons_self, X.2.2.2.2.1 _ ok.1, X.2.2.2.2.1 _ ok.2.1, ok.2.2.1, fun sig h => ?_, X.2.2.2.2.1 _ hl⟩
  · rcases List.mem_cons.mp hw with h | h
    · rw [h]; exact g_warm X.2.2.2.2.1 hW _ ok.1
    · exact g_warm X.2.2.2.2.1 hW _ h
  · have := ok.2.2.2
    rw [h] at this
    exact (Option.some.inj this).symm
theorem aw_callSF (X : Cx G p s m args meth c A H0 cc nL own) (hsub : ∀ a x, w1 a = some x → w a = some x) (hM : MC G l y bytes maxL ret rm As w1 post) (ok : okM y bytes maxL ret n) (hl : Cond.methodLink own index y ∈ lw_g) (hs : Cond.static y ∈ lw_g) (hn : As.length = n) (hst : st = As.reverse ++ rest) (hW : (rest.map fun v => v.category).sum ≤ 8) (hR : okR R rm maxL cells slots) (hdg : decode cc pc = .ok (.invokestatic index, 3))
    (kk : ∀ (v : Option Value) (w2 : WM), post v w2 → AW G p l e R s m args below meth c nL A H0 Q (wm_fr w w1 w2) (cells + rm.cells) (slots + rm.slots) (pc + 3) lv (v.toList ++ rest)) : AW G p l e R s m args below meth c nL A H0 Q w cells slots pc lv st := by
  refine aw_run (aa := As.toArray) X hsub (fun H locs ls hP hE hlv => ?_) kk
  exact va_runS (Ts := lw_g) ⟨X.1, X.2.1, X.2.2.1, X.2.2.2.1, X.2.2.2.2.1⟩ (hM H.size) ⟨call_B X ok hl hR, X.2.2.2.2.1 _ hs⟩ ⟨mcp_blind, mcp_at X.2.2.2.2.2.1 hP hE⟩ rfl hn hlv.1 hst (lv_room hW) hdg hR.2.2
theorem aw_callS (X : Cx G p s m args meth c A H0 cc nL own) (hM : MC G l y bytes maxL ret rm As w post) (ok : okM y bytes maxL ret n) (hl : Cond.methodLink own index y ∈ lw_g) (hs : Cond.static y ∈ lw_g) (hn : As.length = n) (hst : st = As.reverse ++ rest) (hW : (rest.map fun v => v.category).sum ≤ 8) (hR : okR R rm maxL cells slots) (hdg : decode cc pc = .ok (.invokestatic index, 3))
    (kk : ∀ (v : Option Value) (w2 : WM), post v w2 → AW G p l e R s m args below meth c nL A H0 Q w2 (cells + rm.cells) (slots + rm.slots) (pc + 3) lv (v.toList ++ rest)) : AW G p l e R s m args below meth c nL A H0 Q w cells slots pc lv st :=
  aw_callSF X (fun _ _ h => h) hM ok hl hs hn hst hW hR hdg (fun v w2 h => by rw [wm_fr_self]; exact kk v w2 h)
theorem aw_callVF {b ci N : Nat} {C : String} {T : u_T} {ty : Nat → FieldType} {fs : List Value} (X : Cx G p s m args meth c A H0 cc nL own) (hsub : ∀ a x, w1 a = some x → w a = some x) (hM : MC G l y bytes maxL ret rm (.ref b :: As) w1 post) (ok : okM y bytes maxL ret n) (okc : okC ci C T N ty) (hb : w1 b = some (.inr (ci, fs))) (hl : Cond.methodLink own index y ∈ lw_g) (hi : Cond.instanceMethod y ∈ lw_g) (hsel : Cond.selects C y y ∈ lw_g) (hn : As.length = n) (hst : st = As.reverse ++ .ref b :: rest) (hW : (rest.map fun v => v.category).sum ≤ 8) (hR : okR R rm maxL cells slots) (hdg : decode cc pc = .ok (.invokevirtual index, 3))
    (kk : ∀ (v : Option Value) (w2 : WM), post v w2 → AW G p l e R s m args below meth c nL A H0 Q (wm_fr w w1 w2) (cells + rm.cells) (slots + rm.slots) (pc + 3) lv (v.toList ++ rest)) : AW G p l e R s m args below meth c nL A H0 Q w cells slots pc lv st := by
  refine aw_run (aa := (Value.ref b :: As).toArray) X hsub (fun H locs ls hP hE hlv => ?_) kk
  obtain ⟨q0, hq⟩ := wm_pos hP hb
  exact va_runV (Ts := lw_g) ⟨X.1, X.2.1, X.2.2.1, X.2.2.2.1, X.2.2.2.2.1⟩ (hM H.size) ⟨call_B X ok hl hR, X.2.2.2.2.1 _ hi, X.2.2.2.2.1 _ hsel⟩ ⟨mcp_blind, va_recv X.2.2.2.2.2.1 (wm_toP hP _) okc.1 hq, mcp_at X.2.2.2.2.2.1 hP hE⟩ rfl hn hlv.1 hst (lv_room hW) hdg hR.2.2
theorem aw_callV {b ci N : Nat} {C : String} {T : u_T} {ty : Nat → FieldType} {fs : List Value} (X : Cx G p s m args meth c A H0 cc nL own) (hM : MC G l y bytes maxL ret rm (.ref b :: As) w post) (ok : okM y bytes maxL ret n) (okc : okC ci C T N ty) (hb : w b = some (.inr (ci, fs))) (hl : Cond.methodLink own index y ∈ lw_g) (hi : Cond.instanceMethod y ∈ lw_g) (hsel : Cond.selects C y y ∈ lw_g) (hn : As.length = n) (hst : st = As.reverse ++ .ref b :: rest) (hW : (rest.map fun v => v.category).sum ≤ 8) (hR : okR R rm maxL cells slots) (hdg : decode cc pc = .ok (.invokevirtual index, 3))
    (kk : ∀ (v : Option Value) (w2 : WM), post v w2 → AW G p l e R s m args below meth c nL A H0 Q w2 (cells + rm.cells) (slots + rm.slots) (pc + 3) lv (v.toList ++ rest)) : AW G p l e R s m args below meth c nL A H0 Q w cells slots pc lv st :=
  aw_callVF X (fun _ _ h => h) hM ok okc hb hl hi hsel hn hst hW hR hdg (fun v w2 h => by rw [wm_fr_self]; exact kk v w2 h)
theorem aw_callI {b : Nat} (X : Cx G p s m args meth c A H0 cc nL own) (hM : MC G l y bytes maxL none rm (.ref b :: As) w post) (ok : okM y bytes maxL none n) (hy : y.name = "<init>") (hl : Cond.methodLink own index y ∈ lw_g) (hi : Cond.instanceMethod y ∈ lw_g) (hn : As.length = n) (hst : st = As.reverse ++ .ref b :: rest) (hW : (rest.map fun v => v.category).sum ≤ 8) (hR : okR R rm maxL cells slots) (hdg : decode cc pc = .ok (.invokespecial index, 3))
    (kk : ∀ (v : Option Value) (w2 : WM), post v w2 → AW G p l e R s m args below meth c nL A H0 Q w2 (cells + rm.cells) (slots + rm.slots) (pc + 3) lv (v.toList ++ rest)) : AW G p l e R s m args below meth c nL A H0 Q w cells slots pc lv st := by
  refine aw_run (aa := (Value.ref b :: As).toArray) (mc := rm.cells) (ms := rm.slots) (post := post) X (fun _ _ h => h) (fun H locs ls hP hE hlv => ?_) (fun v w2 h => by rw [wm_fr_self]; exact kk v w2 h)
  exact va_runI (Ts := lw_g) ⟨X.1, X.2.1, X.2.2.1, X.2.2.2.1, X.2.2.2.2.1⟩ (hM H.size) ⟨call_B X ok hl hR, hy, X.2.2.2.2.1 _ hi⟩ ⟨mcp_blind, mcp_at X.2.2.2.2.2.1 hP hE⟩ rfl hn hlv.1 hst (lv_room hW) hdg hR.2.2
end AWC
