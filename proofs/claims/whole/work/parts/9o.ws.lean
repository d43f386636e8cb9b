/-! from the law's entry -/
theorem whole_start {p : Program} {e : Env} {s : State} {m : MethodId} {below : List Frame} {meth : Method} {c : Code} (l : Launch) (hst : l.stackTraces = false) {b L : Nat} {xs : Nat → Int32} (hL : L ≤ 3072) (C0 : lw_At p s m meth c b L xs) : W p l e room_1 s m #[Value.ref b] below meth c s.heap [] 0 0 (lw_Z below #[Value.ref b] s) (entryFrame m ([Value.ref b] : List Value).toArray 7) := by
  obtain ⟨hx, hb, hr, hml, hown, hts, hXs, hbl, hlocks, hgv⟩ := C0
  obtain ⟨G, hG, X⟩ := law_G hx hb hml hown hts hlocks hgv
  have hLX : LX G p s m meth c b L xs := ⟨X, hXs, hbl, hL⟩
  rw [lg_entry_eq]
  have key : AWL G p l e s m below meth c b (lw_Z below #[Value.ref b] s) (fun _ => none) 0 0 0 [(0, .ref b)] [] := by
    refine aw_new X okX10 (fs := [.null, .null, .null, .null, .null, .null, .null, .int 0, .int 0, .int 0, .int 0, .int 0, .int 0]) cl_L_8 is_X10 in_X10 rfl (Nat.le_of_ble_eq_true rfl) (Nat.le_of_ble_eq_true rfl) dL_law_0 (fun o1 ho1 => ?_)
    refine aw_dup X dL_law_3 rfl ?_
    refine aw_callID X (fun _ _ h => h) (kX10_init G l _ o1 wm_ups) okm_X10_init rfl ml_L_15 im_X10_init rfl rfl (Nat.le_of_ble_eq_true rfl) ⟨Nat.le_of_ble_eq_true rfl, Nat.le_of_ble_eq_true rfl, Nat.le_of_ble_eq_true rfl, Nat.le_of_ble_eq_true rfl⟩ dL_law_4 (fun v w2 hp hd => ?_)
    obtain ⟨rfl, ad, gi, hox, hR⟩ := hp
    rw [wm_fr_self]
    refine aw_astore_n X (lv' := [(1, .ref o1), (0, .ref b)]) dL_law_7 rfl (by decide) rfl ?_
    refine aw_new X okX11 (fs := mfp (fun _ => none)) cl_L_16 is_X11 in_X11 rfl (Nat.le_of_ble_eq_true rfl) (Nat.le_of_ble_eq_true rfl) dL_law_8 (fun o2 ho2 => ?_)
    refine aw_dup X dL_law_11 rfl ?_
    refine aw_callID (w1 := fun a => if a = o2 then some (.inr (12, mfp (fun _ => none))) else none) X (fun a x h => ?_) (kX11_init G l o2) okm_X11_init rfl ml_L_18 im_X11_init rfl rfl (Nat.le_of_ble_eq_true rfl) ⟨Nat.le_of_ble_eq_true rfl, Nat.le_of_ble_eq_true rfl, Nat.le_of_ble_eq_true rfl, Nat.le_of_ble_eq_true rfl⟩ dL_law_12 (fun v w3 hp hd3 => ?_)
    · have h : (if a = o2 then some (Sum.inr (12, mfp (fun _ => none))) else none) = some x := h
      by_cases ha : a = o2
      · rw [if_pos ha] at h
        rw [ha, wm_ups]
        exact h
      · rw [if_neg ha] at h
        cases h
    · obtain ⟨rfl, q, hq, hom, rfl⟩ := hp
      have k4 : ∀ a, w2 a ≠ none → mw G q mInit a = none := by
        intro a ha
        have hao : a ≠ o2 := fun z => ha (by rw [z]; exact ho2)
        cases hm : mw G q mInit a with
        | none => rfl
        | some x =>
          rcases hd3 a (by rw [hm]; exact fun z => by cases z) with z | z
          · exact absurd (if_neg hao) z
          · rw [wm_upn hao] at z
            exact absurd z ha
      have k1 : ∀ a x, w2 a = some x → wm_fr (wm_up w2 o2 (.inr (12, mfp (fun _ => none)))) (fun a => if a = o2 then some (.inr (12, mfp (fun _ => none))) else none) (mw G q mInit) a = some x := by
        intro a x h
        have hne : w2 a ≠ none := by rw [h]; exact fun z => by cases z
        have hao : a ≠ o2 := fun z => hne (by rw [z]; exact ho2)
        unfold wm_fr
        rw [if_pos ⟨if_neg hao, k4 a hne⟩, wm_upn hao]
        exact h
      have k2 : ∀ a x, mw G q mInit a = some x → wm_fr (wm_up w2 o2 (.inr (12, mfp (fun _ => none)))) (fun a => if a = o2 then some (.inr (12, mfp (fun _ => none))) else none) (mw G q mInit) a = some x := by
        intro a x h
        unfold wm_fr
        rw [if_neg (fun z => by rw [h] at z; cases z.2)]
        exact h
      refine aw_astore_n X (lv' := [(2, .ref o2), (1, .ref o1), (0, .ref b)]) dL_law_15 rfl (by decide) rfl ?_
      refine aw_iconst X (v := 1) dL_law_16 (by decide) ?_
      refine aw_newa X 3 (atype := .long) (ty0 := .long) (n := 1) (a0 := (1, .inr (.inl (fun _ => 0)))) ac_long rfl rfl (fun _ h => h) (fun _ => rfl) (by decide) (by decide) (by decide) (Nat.le_of_ble_eq_true rfl) (Nat.le_of_ble_eq_true rfl) dL_law_17 (fun oa hoa => ?_)
      refine aw_astore_n X (lv' := [(3, .ref oa), (2, .ref o2), (1, .ref o1), (0, .ref b)]) dL_law_19 rfl (by decide) rfl ?_
      refine aw_iconst X (v := 0) dL_law_20 (by decide) ?_
      refine aw_istore X (lv' := llv b o1 o2 oa 0) dL_law_21 (by decide) rfl ?_
      have n1 : w2 oa = none := by
        cases hm : w2 oa with
        | none => rfl
        | some x => rw [k1 oa x hm] at hoa; cases hoa
      have n2 : mw G q mInit oa = none := by
        cases hm : mw G q mInit oa with
        | none => rfl
        | some x => rw [k2 oa x hm] at hoa; cases hoa
      refine aw_wid9 (k := 50 + 8 * 0) (n := 3300 + 100 * 0) (Nat.le_of_ble_eq_true rfl) (Nat.le_of_ble_eq_true rfl) ?_
      refine law_loop hLX hst hr q oa o1 o2 L 0 mInit ad gi (fun _ => 0) w2 _ (by omega) (by omega) ⟨iv_init, hR, hox, hq, hom, fun a x h => ?_, fun a x h => ?_, wm_ups, k4, n1, n2⟩
      · rw [wm_upn (fun z => by rw [z, n1] at h; cases h)]
        exact k1 a x h
      · rw [wm_upn (fun z => by rw [z, n2] at h; cases h)]
        exact k2 a x h
  exact key s.heap [] _ (by intro a x h; exact absurd (show (none : Option va_E) = some x from h) (fun z => by cases z)) (fun a h => absurd rfl h) va_S.rf (lv_entry [.ref b] (Nat.le_of_ble_eq_true rfl))
