/-! new arrays in rows -/
theorem aw_widen {G : GG} {p : Program} {l : Launch} {e : Env} {R : Room} {s : State} {m : MethodId} {args : Array Value} {below : List Frame} {meth : Method} {c : Code} {nL : Nat} {A : Nat → Prop} {H0 : Heap} {Q : State → Prop} {w : WM} {cells slots pc : Nat} {lv : List (Nat × Value)} {st : List Value} (k n : Nat) (h1 : cells ≤ k) (h2 : slots ≤ n) (kk : AW G p l e R s m args below meth c nL A H0 Q w k n pc lv st) : AW G p l e R s m args below meth c nL A H0 Q w cells slots pc lv st :=
  fun H locs ls hP hA hS hl => W.widen h1 h2 (kk H locs ls hP hA hS hl)
def it_fill : Nat → (Nat → Int32)
  | 0 => fun _ => 0
  | j + 1 => upd (it_fill j) (nI j).toNatClampNeg (-1)
def it_new (sort : Int32) (N : Nat) : Nat → Int32 := if sort = 3 ∨ sort = 4 then it_fill N else fun _ => 0
set_option maxRecDepth 100000 in
set_option maxHeartbeats 4000000 in
theorem kX2_init (G : GG) (l : Launch) (w : WM) (o N : Nat) (so : Int32) (hN : N ≤ 40) (hO : w o = some (.inr (4, [.int 0, .null]))) : MC G l yX2_init cX2_init 4 (none) ({ frames := 1, cells := 1, slots := 40, locals := 20 } : Room) [.ref o, .int so, .int (nI N)] w (fun v w' => v = none ∧ ∃ va : Nat, w va = none ∧ w' o = some (.inr (4, [.int so, .ref va])) ∧ w' va = some (.inl (gA G 0, N, .inl (it_new so N))) ∧ ∀ b, b ≠ o → b ≠ va → w' b = w b) := by
  refine mc_void (by decide) (Nat.le_of_ble_eq_true rfl) rfl rfl ?_
  intro p e s m args below meth c A H0 Q X hnm RTN
  have X : Cx G p s m args meth c A H0 cX2_init 4 RX2 := X
  have hin : meth.name = "<init>" := hnm
  refine aw_aload_n X dX2_init_0 rfl rfl ?_
  refine aw_objInit X ml_X2_3 im_obj cd_obj (Nat.le_of_ble_eq_true rfl) (Nat.le_of_ble_eq_true rfl) dX2_init_1 ?_
  refine aw_aload_n X dX2_init_4 rfl rfl ?_
  refine aw_iload_n X dX2_init_5 rfl rfl ?_
  refine aw_putF2 X hin okX2 (k := 0) (fs' := [.int so, .null]) hO (Nat.le_of_ble_eq_true rfl) fl_X2_9 (Or.inl rfl) rfl rfl (rfl ) ( rfl) (Nat.le_of_ble_eq_true rfl) rfl dX2_init_6 (fun w1 hk2 hn3 he4 => ?_)
  refine aw_aload_n X dX2_init_9 rfl rfl ?_
  refine aw_iload_n X dX2_init_10 rfl rfl ?_
  refine aw_if_ge (tgt := 18) X dX2_init_11 rfl (fun c11 => ?_) (fun c11 => ?_)
  · refine aw_iload_n X dX2_init_18 rfl rfl ?_
    refine aw_newi2 (n := N) X (nI_pos (by omega)) (nI_clamp (by omega)) (by omega) (Nat.le_refl 1) (by show 0 + N ≤ 40; omega) dX2_init_19 (fun q5 w6 hf7 hk8 hn9 he10 => ?_)
    have hk11 := (hn9 _ (ne_fr hk2 hf7)).trans hk2
    refine aw_widen 1 40 (Nat.le_refl 1) (by omega) ?_
    refine aw_putF2 X hin okX2 (k := 1) (fs' := [.int so, .ref q5]) hk11 (Nat.le_of_ble_eq_true rfl) fl_X2_15 (Or.inl rfl) rfl rfl (rfl ) ( rfl) (Nat.le_of_ble_eq_true rfl) rfl dX2_init_21 (fun w12 hk13 hn14 he15 => ?_)
    have hk16 := (hn14 _ (Ne.symm (ne_oa hk11 hk8))).trans hk8
    have hoth : ∀ b, b ≠ o → b ≠ q5 → w12 b = w b := (fun b h1 h2 => by rw [he15, wm_upn h1, he10, wm_upn h2, he4, wm_upn h1])
    have hvn : w q5 = none := by have h := hf7; rw [he4, wm_upn (Ne.symm (ne_oa hk13 hk16))] at h; exact h
    skip
    have hne9 : o ≠ q5 := ne_oa hk13 hk16
    have L : (so = 3 ∨ so = 4) → ∀ (nn i : Nat) (x : Int32) (W9 : WM), x = nI i → i ≤ N → W9 o = some (.inr (4, [.int so, .ref q5])) → W9 q5 = some (.inl (gA G 0, N, .inl (it_fill i))) → (∀ b, b ≠ o → b ≠ q5 → W9 b = w b) → N + 1 ≤ i + nn → AW G p l e ({ frames := 1, cells := 1, slots := 40, locals := 20 } : Room) s m args below meth c 4 A H0 Q W9 1 40 36 [(3, .int x), (0, .ref o), (1, .int so), (2, .int (nI N))] [] := by
      intro hso nn
      induction nn with
      | zero => intro i x W9 hx h1 ho9 hv9 hb9 h2; exact absurd h2 (by omega)
      | succ nn ih =>
        intro i x W9 hx h1 ho9 hv9 hb9 h2
        subst hx
        refine aw_iload_n X dX2_init_36 rfl rfl ?_
        refine aw_aload_n X dX2_init_37 rfl rfl ?_
        refine aw_get X okX2 (k := 1) ho9 (Nat.le_of_ble_eq_true rfl) fl_X2_15 (Or.inl rfl) rfl dX2_init_38 ?_
        refine aw_alen X 0 hv9 rfl (v := (nI N)) rfl dX2_init_41 ?_
        refine aw_icmp_ge (tgt := 58) X dX2_init_42 rfl (fun c42 => ?_) (fun c42 => ?_)
        · have h9 : i = N := by have := (nI_leI (a := N) (b := i) (by omega) (by omega)).mp c42; omega
          refine RTN (none) _ _ _ _ _ dX2_init_58 (rfl) (Nat.le_of_ble_eq_true rfl) (Nat.le_of_ble_eq_true rfl) ?_
          exact ⟨rfl, q5, hvn, ho9, by rw [hv9, it_new, if_pos hso, h9], hb9⟩
        · have h9 : i < N := Nat.lt_of_not_le (fun h => c42 ((nI_leI (a := N) (b := i) (by omega) (by omega)).mpr h))
          refine aw_aload_n X dX2_init_45 rfl rfl ?_
          refine aw_get X okX2 (k := 1) ho9 (Nat.le_of_ble_eq_true rfl) fl_X2_15 (Or.inl rfl) rfl dX2_init_46 ?_
          refine aw_iload_n X dX2_init_49 rfl rfl ?_
          refine aw_iconst X dX2_init_50 ci_m1 ?_
          refine aw_iast2 X hv9 (vp_in_nI h9 (by omega)) dX2_init_51 (fun w17 hk18 hn19 he20 => ?_)
          have hk21 := (hn19 _ hne9).trans ho9
          refine aw_iinc (lv' := [(3, _), (0, _), (1, _), (2, _)]) X dX2_init_52 rfl (iinc_1 _) (by decide) rfl ?_
          refine aw_goto (tgt := 36) X dX2_init_55 rfl ?_
          refine aw_lv [0, 1, 2, 3] rfl ?_
          exact ih (i + 1) _ _ (nI_1 i) (by omega) hk21 hk18 (fun b h1 h2 => by rw [he20, wm_upn h2]; exact hb9 b h1 h2) (by omega)
    refine aw_iload_n X dX2_init_24 rfl rfl ?_
    refine aw_iconst X dX2_init_25 ci_3 ?_
    refine aw_icmp_eq (tgt := 34) X dX2_init_26 rfl (fun c26 => ?_) (fun c26 => ?_)
    · refine aw_iconst X dX2_init_34 ci_0 ?_
      refine aw_istore_n (lv' := [(3, _), (0, _), (1, _), (2, _)]) X dX2_init_35 rfl (by decide) rfl ?_
      refine aw_lv [0, 1, 2, 3] rfl ?_
      exact L (by first | exact Or.inl c26 | exact Or.inr c31) (N + 1) 0 _ _ rfl (by omega) hk13 hk16 hoth (by omega)
    · refine aw_iload_n X dX2_init_29 rfl rfl ?_
      refine aw_iconst X dX2_init_30 ci_4 ?_
      refine aw_icmp_ne (tgt := 58) X dX2_init_31 rfl (fun c31 => ?_) (fun c31 => ?_)
      · refine RTN (none) _ _ _ _ _ dX2_init_58 (rfl) (Nat.le_of_ble_eq_true rfl) (Nat.le_of_ble_eq_true rfl) ?_
        exact ⟨rfl, q5, hvn, hk13, by rw [hk16, it_new, if_neg (by rintro (h | h); exact c26 h; exact c31 h)], hoth⟩
      · refine aw_iconst X dX2_init_34 ci_0 ?_
        refine aw_istore_n (lv' := [(3, _), (0, _), (1, _), (2, _)]) X dX2_init_35 rfl (by decide) rfl ?_
        refine aw_lv [0, 1, 2, 3] rfl ?_
        exact L (by first | exact Or.inl c26 | exact Or.inr c31) (N + 1) 0 _ _ rfl (by omega) hk13 hk16 hoth (by omega)
  · exact absurd (nI_pos' (by omega)) c11
