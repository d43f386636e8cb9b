/-! the law's own share -/
def rmL : Room := { frames := 8, cells := 1, slots := 6, locals := 120 }
def lA (G : GG) (f : Nat → Int64) : va_E := .inl (gA G 3, 1, .inr (.inl f))
def wsL : List Cond := Cond.codeWith yL_share cL_share 3 (some .int) [(0, 8, 11, 13)] :: lw_g
def pS (G : GG) (w : WM) (oa : Nat) (f : Nat → Int64) (sp sd : Int32) : Option Value → WM → Prop := fun v w' => (sd = 0 → v = some (.int 1) ∧ w' = w) ∧ (¬ sd = 0 → v = some (.int 0) ∧ w' = wm_up w oa (lA G (vp_updL f 0 (sp / sd).toInt64)))
set_option maxHeartbeats 4000000 in
theorem kL_share (G : GG) (l : Launch) (hl : l.stackTraces = false) (w : WM) (o oa aR aG aS aF aN aC : Nat) (cur : Option Nat) (ln rc ft sp sd lf : Int32) (f : Nat → Int64) (hO : w o = some (.inr (11, [.ref aR, .ref aG, .ref aS, .ref aF, .ref aN, .ref aC, va_rf cur, .int ln, .int rc, .int ft, .int sp, .int sd, .int lf]))) (hA1 : w oa = some (lA G f)) (sz : Nat) : Met l yL_share wsL rmL (va_Pc [.ref o, .ref oa] (MCP G w sz)) (MCQ G w sz (pS G w oa f sp sd)) 1 6 (mA w sz) := by
  refine va_MetW (cc := cL_share) (maxL := 3) (ret := some .int) (hh := [(0, 8, 11, 13)]) (by decide) rfl ?_
  intro p e s m args below meth c s₁ B hml hv
  obtain ⟨rfl, hsz, hP, hK, hE⟩ := hv
  subst hsz
  have hts := atoms_spec (ws := wsL) B.pre
  have X : Cx G p s m [Value.ref o, Value.ref oa].toArray meth c (mA w s.heap.size) s.heap cL_share 3 RL := ⟨B.exec, B.bytes, hml, findClass_of_methodNamed B.named, fun w hw => hts w (List.mem_cons_of_mem _ hw), hK, B.notSynchronized, fun _ h => Or.inr h, hE⟩
  have htab : c.exceptionTable.toList = [⟨0, 8, 11, 13⟩] := vx_table (x := yL_share) B (hts _ List.mem_cons_self)
  rw [lg_entry_eq]
  have RTN : ∀ (x : Int32) (w' : WM) (cells slots pc : Nat) (lv : List (Nat × Value)), decode cL_share pc = .ok (.ireturn, 1) → cells ≤ 1 → slots ≤ 6 → pS G w oa f sp sd (some (.int x)) w' → AW G p l e rmL s m [Value.ref o, Value.ref oa].toArray below meth c 3 (mA w s.heap.size) s.heap (MQ below (MCQ G w s.heap.size (pS G w oa f sp sd)) [Value.ref o, Value.ref oa].toArray s 1 6 (mA w s.heap.size)) w' cells slots pc lv [.int x] := by
    intro x w' cells slots pc lv hdg hc hs hp H locs ls hP' hA' hS' hl'
    refine W.widen hc hs ?_
    exact W.iret X.1 X.2.1 B.returns (fun t ht hW => ⟨⟨_, w', rfl, hp, by rw [ht]; exact hP', fun a h => hA' a h⟩, hS'.F ht⟩) hS'.2.2 hdg X.2.2.2.2.2.2.1
  have key : AW G p l e rmL s m [Value.ref o, Value.ref oa].toArray below meth c 3 (mA w s.heap.size) s.heap (MQ below (MCQ G w s.heap.size (pS G w oa f sp sd)) [Value.ref o, Value.ref oa].toArray s 1 6 (mA w s.heap.size)) w 0 0 0 [(0, .ref o), (1, .ref oa)] [] := by
    refine aw_aload_n X dL_share_0 rfl rfl ?_
    refine aw_iconst X (v := 0) dL_share_1 (by decide) ?_
    refine aw_aload_n X dL_share_2 rfl rfl ?_
    intro H locs ls hP' hA' hS' hlv
    have hA1' : ∀ q, mA w H.size q → mA w s.heap.size q := by
      intro q h
      rcases h with h | h
      · exact Or.inl h
      · exact Or.inr (Nat.le_trans hS'.1 h)
    have hE1 : gE G (mA w H.size) s H := hE.call hS' (State.WarmedH.refl s) (fun q h => Or.inl (hA1' q h))
    have hRm : okR rmL rmS 1 0 0 := ⟨by decide, by decide, by decide, by decide⟩
    obtain ⟨q0, hq⟩ := wm_pos hP' hO
    have hr := vx_runV (e := e) (below := below) (meth := meth) (Ts := lw_g) (As := []) (rest := [.int 0, .ref oa]) ⟨X.1, X.2.1, X.2.2.1, X.2.2.2.1, X.2.2.2.2.1⟩ (vX10_share G l hl w o aR aG aS aF aN aC cur ln rc ft sp sd lf hO H.size) ⟨call_B X okm_X10_share ml_L_7 hRm, X.2.2.2.2.1 _ im_X10_share, X.2.2.2.2.1 _ se_X10_X10_share⟩ ⟨mcp_blind, va_recv X.2.2.2.2.2.1 (wm_toP hP' _) okX10.1 hq, mcp_at X.2.2.2.2.2.1 hP' hE1⟩ (g := F0 m 3 ls [.ref o, .int 0, .ref oa]) rfl rfl hlv.1 rfl (lv_room (Nat.le_of_ble_eq_true rfl)) dL_share_3 (cells := 0) (slots := 0) (locs := locs) ⟨by decide, by decide⟩
    intro T hT XT
    rcases hr T hT XT with ⟨v, st₀, t, T', L, h0, XT', hL, e1, e2, ⟨⟨v', w2, hv, hp, hP2, hA2⟩, hz, hk⟩, stp⟩ | ⟨q, st₀, t, T', L, E, ce, h0, XT', hL, e1, e2, ⟨hEx, hsd, hP2, hz, hk⟩, hce, hcv, hcl, stp⟩
    · cases hv
      rw [h0] at hz hk
      obtain ⟨rfl, hsd, hw2⟩ := hp
      rw [hw2] at hP2 hA2
      have kk : AW G p l e rmL s m [Value.ref o, Value.ref oa].toArray below meth c 3 (mA w s.heap.size) s.heap (MQ below (MCQ G w s.heap.size (pS G w oa f sp sd)) [Value.ref o, Value.ref oa].toArray s 1 6 (mA w s.heap.size)) w (0 + 1) (0 + 6) (3 + 3) [(0, .ref o), (1, .ref oa)] [.int (sp / sd), .int 0, .ref oa] := by
        refine aw_i2l X dL_share_6 ?_
        refine aw_last X (n := 1) (f := f) hA1 (vp_in_iff.mpr ⟨by decide, by decide⟩) dL_share_7 ?_
        refine aw_goto X (tgt := 14) dL_share_8 rfl ?_
        refine aw_iconst X (v := 0) dL_share_14 (by decide) ?_
        exact RTN 0 _ _ _ _ _ dL_share_15 (by decide) (by decide) ⟨fun z => absurd z hsd, fun _ => ⟨rfl, rfl⟩⟩
      obtain ⟨t2, a1, b1⟩ := kk T'.heap (locs ++ L) ls (by rw [e1]; exact hP2) (fun a h => hA1' a (hA2 a h))
        ⟨Nat.le_trans hS'.1 (by rw [e1]; exact hz), fun q h1 h2 => by rw [e1, hk q (Nat.lt_of_lt_of_le h1 hS'.1) (fun z => h2 (hA1' q z))]; exact hS'.2.1 q h1 h2, fun q hq => by
          rcases List.mem_append.mp hq with h | h
          · exact hS'.2.2 q h
          · exact hA1' _ (hL q h)⟩ hlv T' rfl XT'
      exact ⟨t2, stp t2 a1, b1⟩
    · rw [h0] at hz hk
      subst hEx
      have kk : AW G p l e rmL s m [Value.ref o, Value.ref oa].toArray below meth c 3 (mA w s.heap.size) s.heap (MQ below (MCQ G w s.heap.size (pS G w oa f sp sd)) [Value.ref o, Value.ref oa].toArray s 1 6 (mA w s.heap.size)) w (0 + 1) (0 + 6) 11 [(0, .ref o), (1, .ref oa)] [.ref q] := by
        refine aw_astore_n X (lv' := [(2, .ref q), (0, .ref o), (1, .ref oa)]) dL_share_11 rfl (by decide) rfl ?_
        refine aw_iconst X (v := 1) dL_share_12 (by decide) ?_
        exact RTN 1 _ _ _ _ _ dL_share_13 (by decide) (by decide) ⟨fun _ => ⟨rfl, rfl⟩, fun z => absurd hsd z⟩
      have hw := cx_catch (rest := [.int 0, .ref oa]) (pc := 3) X.2.2.2.1 ⟨0, 8, 11, 13⟩ htab (by decide) (by decide) (X.2.2.2.2.1 _ cl_LAE) (x_un rfl (hE.1 _ ca_AE)) (by rw [e1]; exact hce) hcv hcl (kk T'.heap (locs ++ L) ls (by rw [e1]; exact hP2) hA'
        ⟨Nat.le_trans hS'.1 (by rw [e1]; exact hz), fun q h1 h2 => by rw [e1, hk q (Nat.lt_of_lt_of_le h1 hS'.1) (fun z => h2 (hA1' q z))]; exact hS'.2.1 q h1 h2, fun q hq => by
          rcases List.mem_append.mp hq with h | h
          · exact hS'.2.2 q h
          · exact hA1' _ (hL q h)⟩ hlv)
      obtain ⟨t2, a1, b1⟩ := hw T' rfl XT'
      exact ⟨t2, stp.trans a1, b1⟩
  exact key s.heap [] _ hP (fun a h => Or.inl h) va_S.rf (lv_entry [.ref o, .ref oa] (Nat.le_of_ble_eq_true rfl))
