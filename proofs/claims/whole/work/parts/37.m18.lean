/-! the constructor -/
def mfp (q : Nat → Option Nat) : List Value := [.int 0, va_rf (q 1), va_rf (q 2), va_rf (q 3), va_rf (q 4), .int 0, va_rf (q 6), .int 0, va_rf (q 8), va_rf (q 9), va_rf (q 10), va_rf (q 11), va_rf (q 12), va_rf (q 13), va_rf (q 14), va_rf (q 15), va_rf (q 16), va_rf (q 17), va_rf (q 18), va_rf (q 19), .int 0, .long 0, .long 0, va_rf (q 23), va_rf (q 24), va_rf (q 25), .int 0, .int 0, .int 0, .int 0, va_rf (q 30), va_rf (q 31), va_rf (q 32), va_rf (q 33), va_rf (q 34), va_rf (q 35), va_rf (q 36), va_rf (q 37), .int 0, .int 0, .int 0, .int 0, va_rf (q 42), va_rf (q 43), .int 0, .int 0]
def M00 : MS := (fun _ => 0, fun _ => 0, fun _ _ => 0)
def mwp (G : GG) (o : Nat) (q : Nat → Option Nat) : WM := fun a => if a = o then some (.inr (12, mfp q)) else (mArrs.find? (fun k => q k == some a)).map (mcl G M00)
def pInj (o : Nat) (q : Nat → Option Nat) : Prop := (∀ i j a : Nat, i ∈ mArrs → j ∈ mArrs → q i = some a → q j = some a → i = j) ∧ ∀ i : Nat, i ∈ mArrs → q i ≠ some o
theorem mwp_0 (G : GG) (o : Nat) : mwp G o (fun _ => none) = fun a => if a = o then some (.inr (12, mfp (fun _ => none))) else none := by
  funext a
  unfold mwp
  have : mArrs.find? (fun _ => (none : Option Nat) == some a) = none := by
    rw [List.find?_eq_none]; intro x _ h; cases h
  rw [this]
  rfl
theorem mwp_o {G : GG} {o : Nat} {q : Nat → Option Nat} : mwp G o q o = some (.inr (12, mfp q)) := by unfold mwp; rw [if_pos rfl]
theorem mwp_up {G : GG} {o a k : Nat} {q : Nat → Option Nat} (hp : pInj o q) (hk : k ∈ mArrs) (ha : mwp G o q a = none) {fs : List Value} (hf : fs = mfp (va_up q k (some a))) (hqk : q k = none) :
    a ≠ o ∧ pInj o (va_up q k (some a)) ∧ wm_up (wm_up (mwp G o q) a (mcl G M00 k)) o (.inr (12, fs)) = mwp G o (va_up q k (some a)) := by
  have hao : a ≠ o := fun z => by rw [z, mwp_o] at ha; cases ha
  have hnew : ∀ j ∈ mArrs, q j ≠ some a := by
    intro j hj z
    unfold mwp at ha
    rw [if_neg hao] at ha
    rw [Option.map_eq_none_iff, List.find?_eq_none] at ha
    exact ha j hj (by rw [z]; simp)
  refine ⟨hao, ⟨?_, ?_⟩, ?_⟩
  · intro i j x hmi hmj hi hj
    by_cases h1 : i = k <;> by_cases h2 : j = k
    · rw [h1, h2]
    · rw [h1, va_us] at hi
      rw [va_up_ne _ _ h2] at hj
      exact absurd (hj.trans hi.symm) (hnew j hmj)
    · rw [h2, va_us] at hj
      rw [va_up_ne _ _ h1] at hi
      exact absurd (hi.trans hj.symm) (hnew i hmi)
    · rw [va_up_ne _ _ h1] at hi
      rw [va_up_ne _ _ h2] at hj
      exact hp.1 i j x hmi hmj hi hj
  · intro i hmi
    by_cases h1 : i = k
    · rw [h1, va_us]; intro z; exact hao (Option.some.inj z)
    · rw [va_up_ne _ _ h1]; exact hp.2 i hmi
  · funext b
    unfold wm_up
    by_cases hb : b = o
    · rw [if_pos hb, hb, mwp_o, hf]
    · rw [if_neg hb]
      unfold mwp
      rw [if_neg hb, if_neg hb]
      by_cases hba : b = a
      · rw [if_pos hba]
        have : mArrs.find? (fun j => va_up q k (some a) j == some b) = some k := by
          cases h : mArrs.find? (fun j => va_up q k (some a) j == some b) with
          | none =>
            have := List.find?_eq_none.mp h k hk
            rw [va_us, hba] at this
            simp at this
          | some j =>
            have h1 := List.find?_some h
            have h2 := List.mem_of_find?_eq_some h
            rw [beq_iff_eq, hba] at h1
            by_cases hj : j = k
            · rw [hj]
            · rw [va_up_ne _ _ hj] at h1
              exact absurd h1 (hnew j h2)
        rw [this]
        rfl
      · rw [if_neg hba]
        have : (fun j => va_up q k (some a) j == some b) = fun j => q j == some b := by
          funext j
          by_cases hj : j = k
          · rw [hj, va_us, hqk]
            have : ¬ a = b := fun z => hba z.symm
            simp [this]
          · rw [va_up_ne _ _ hj]
        rw [this]
theorem mwp_mw {G : GG} {o : Nat} {q : Nat → Option Nat} (Q : Nat → Nat) (h0 : Q 0 = o) (hQ : ∀ k ∈ mArrs, q k = some (Q k)) (hf : mfp q = mf Q M00) : mwp G o q = mw G Q M00 := by
  funext a
  unfold mwp mw
  rw [h0, hf]
  have : mArrs.find? (fun k => q k == some a) = mArrs.find? (fun k => Q k == a) := by
    have : ∀ (l : List Nat), (∀ k ∈ l, k ∈ mArrs) → l.find? (fun k => q k == some a) = l.find? (fun k => Q k == a) := by
      intro l
      induction l with
      | nil => intro _; rfl
      | cons x r ih =>
        intro hl
        rw [List.find?_cons, List.find?_cons, hQ x (hl x List.mem_cons_self), ih (fun k hk => hl k (List.mem_cons_of_mem _ hk))]
        have : (some (Q x) == some a) = (Q x == a) := by simp
        rw [this]
    exact this mArrs (fun _ h => h)
  rw [this]
section AMI
variable {G : GG} {p : Program} {l : Launch} {e : Env} {R : Room} {s : State} {m : MethodId} {args : Array Value} {below : List Frame} {meth : Method} {c : Code} {nL : Nat} {A : Nat → Prop} {H0 : Heap} {Q : State → Prop} {cells slots pc : Nat} {lv : List (Nat × Value)} {rest : List Value} {cc : ByteArray} {o : Nat} {q : Nat → Option Nat} {index : Nat}
theorem am_newp (X : Cx G p s m args meth c A H0 cc nL RX11) (hin : meth.name = "<init>") (k n kp : Nat) (atype : ArrayType) (ty0 : FieldType) {i : Int32} {Qp : Nat → Nat} (hA : ∀ j ∈ mArrs, j < kp → q j = some (Qp j)) (hz : ∀ j, kp ≤ j → q j = none) (hp : pInj o q) (hord : ∀ j ∈ mArrs, j < k → j < kp) (hkk : kp ≤ k) (hk : k ∈ mArrs) (hn : mSz k = n) (harr : Cond.arrayClass (newarray.typeOf atype) ∈ lw_g) (hty : newarray.typeOf atype = ty0) (ht : (gT G)[mTy k]? = some (gA G (mTy k), ty0)) (hnm : ∀ U, va_RA U (gA G (mTy k)) ty0 → U.vm.findClass ("[" ++ ty0.toString) = some (gA G (mTy k))) (ha : ∀ cA : ClassId, vp_cell cA (n, .inl (fun _ => 0)) = arrV cA n (fun _ => defaultValue ty0)) (hi0 : ¬ i < 0) (hN : i.toNatClampNeg = n) (hbytes : n * componentBytes ty0 ≤ 536870912) (hcells : cells + 1 ≤ R.cells) (hslots : slots + n ≤ R.slots) (hdg : decode cc pc = .ok (.newarray atype, 2))
    (hk46 : k < 46) (hlink : Cond.fieldLink RX11 index RX11 (TX11 k).2.1 (TX11 k).2.2.1 ∈ lw_g) (href : RX11 = (TX11 k).1) (hfin : (TX11 k).2.2.2 = true) (hn2 : ∀ a, narrow (tyX11 k) (.ref a) = .ref a) (hfit : ∀ a, fits (tyX11 k) (.ref a) = true) (hset : ∀ a, (mfp q).set k (.ref a) = mfp (va_up q k (some a))) (hdg2 : decode cc (pc + 2) = .ok (.putfield index, 3))
    (kk : ∀ (q' : Nat → Option Nat) (Q' : Nat → Nat), Q' 0 = Qp 0 → (∀ j ∈ mArrs, j < k + 1 → q' j = some (Q' j)) → (∀ j, k + 1 ≤ j → q' j = none) → pInj o q' → AW G p l e R s m args below meth c nL A H0 Q (mwp G o q') (cells + 1) (slots + n) (pc + 2 + 3) lv rest) : AW G p l e R s m args below meth c nL A H0 Q (mwp G o q) cells slots pc lv (.int i :: .ref o :: rest) := by
  refine aw_newa X (mTy k) (a0 := (n, .inl (fun _ => 0))) harr hty ht hnm ha hi0 hN hbytes hcells hslots hdg (fun a hfr => ?_)
  obtain ⟨h1, h2, h3⟩ := mwp_up (fs := (mfp q).set k (.ref a)) hp hk hfr (hset a) (hz k hkk)
  have hm : mcl G M00 k = .inl (gA G (mTy k), n, .inl (fun _ => 0)) := by unfold mcl; rw [hn]; rfl
  rw [hm] at h3
  refine aw_putF X hin okX11 (fs := mfp q) (by rw [wm_upn (fun z => h1 z.symm)]; exact mwp_o) hk46 hlink (Or.inl href) hfin href.symm (hn2 a) (hfit a) (by show k < 46; exact hk46) hdg2 ?_
  rw [h3]
  refine kk _ (va_up Qp k a) (va_up_ne _ _ (fun z => (mArrs_lt k hk).2 z.symm)) (fun j hj hjk => ?_) (fun j hj => ?_) h2
  · by_cases h : j = k
    · rw [h, va_us, va_us]
    · rw [va_up_ne _ _ h, va_up_ne _ _ h]
      exact hA j hj (hord j hj (by omega))
  · rw [va_up_ne _ _ (by omega)]
    exact hz j (by omega)
end AMI
def mo_gi : Nat → MS
  | 0 => M00
  | j + 1 => sF (mo_gi j) 23 (nI j).toNatClampNeg (-1)
def mInit : MS := mo_gi 4
set_option maxRecDepth 100000 in
set_option maxHeartbeats 4000000 in
theorem kX11_init (G : GG) (l : Launch) (o : Nat) : MC G l yX11_init cX11_init 2 none ({ frames := 1, cells := 30, slots := 3136, locals := 20 } : Room) [.ref o] (fun a => if a = o then some (.inr (12, mfp (fun _ => none))) else none) (fun v w' => v = none ∧ ∃ Q : Nat → Nat, mInj Q ∧ Q 0 = o ∧ w' = mw G Q mInit) := by
  rw [← mwp_0]
  refine mc_void (by decide) (Nat.le_of_ble_eq_true rfl) rfl rfl ?_
  intro p e s m args below meth c A H0 Q X hnm RTN
  have X : Cx G p s m args meth c A H0 cX11_init 2 RX11 := X
  have hin : meth.name = "<init>" := hnm
  have hp : pInj o (fun _ => none) := ⟨fun i j a _ _ h => (by cases h), fun i _ h => (by cases h)⟩
  have hA : ∀ j ∈ mArrs, j < 0 → (fun _ => (none : Option Nat)) j = some ((fun _ => o) j) := fun j _ h => absurd h (Nat.not_lt_zero j)
  have hz : ∀ j, 0 ≤ j → (fun _ => (none : Option Nat)) j = none := fun _ _ => rfl
  have h0 : (fun _ : Nat => o) 0 = o := rfl
  generalize (fun _ : Nat => o) = Qp at hA h0
  generalize (fun _ : Nat => (none : Option Nat)) = q9 at hA hz hp ⊢
  refine aw_aload_n X dX11_init_0 rfl rfl ?_
  refine aw_objInit X ml_X11_127 im_obj cd_obj (Nat.le_of_ble_eq_true rfl) (Nat.le_of_ble_eq_true rfl) dX11_init_1 ?_
  refine aw_aload_n X dX11_init_4 rfl rfl ?_
  refine aw_bipush X dX11_init_5 cb_8 ?_
  refine am_newp X hin 1 8 0 .int .int hA hz hp (by decide) (by decide) (by decide) rfl ac_int rfl rfl (fun _ h => h) (fun _ => rfl) (by decide) (by decide) (by decide) (Nat.le_of_ble_eq_true rfl) (Nat.le_of_ble_eq_true rfl) dX11_init_7 (Nat.le_of_ble_eq_true rfl) fl_X11_16 rfl rfl (fun _ => rfl) (fun _ => rfl) (fun _ => rfl) dX11_init_9 (fun q8 Q8 h8 hA8 hz8 hp8 => ?_)
  have h0 := h8.trans h0
  clear hA hz hp h8
  generalize q8 = q9 at hA8 hz8 hp8 ⊢
  generalize Q8 = Qp at hA8 h0
  have hA := hA8
  have hz := hz8
  have hp := hp8
  clear hA8 hz8 hp8
  refine aw_aload_n X dX11_init_12 rfl rfl ?_
  refine aw_bipush X dX11_init_13 cb_25 ?_
  refine am_newp X hin 2 25 2 .int .int hA hz hp (by decide) (by decide) (by decide) rfl ac_int rfl rfl (fun _ h => h) (fun _ => rfl) (by decide) (by decide) (by decide) (Nat.le_of_ble_eq_true rfl) (Nat.le_of_ble_eq_true rfl) dX11_init_15 (Nat.le_of_ble_eq_true rfl) fl_X11_43 rfl rfl (fun _ => rfl) (fun _ => rfl) (fun _ => rfl) dX11_init_17 (fun q8 Q8 h8 hA8 hz8 hp8 => ?_)
  have h0 := h8.trans h0
  clear hA hz hp h8
  generalize q8 = q9 at hA8 hz8 hp8 ⊢
  generalize Q8 = Qp at hA8 h0
  have hA := hA8
  have hz := hz8
  have hp := hp8
  clear hA8 hz8 hp8
  refine aw_aload_n X dX11_init_20 rfl rfl ?_
  refine aw_bipush X dX11_init_21 cb_25 ?_
  refine am_newp X hin 3 25 3 .int .int hA hz hp (by decide) (by decide) (by decide) rfl ac_int rfl rfl (fun _ h => h) (fun _ => rfl) (by decide) (by decide) (by decide) (Nat.le_of_ble_eq_true rfl) (Nat.le_of_ble_eq_true rfl) dX11_init_23 (Nat.le_of_ble_eq_true rfl) fl_X11_46 rfl rfl (fun _ => rfl) (fun _ => rfl) (fun _ => rfl) dX11_init_25 (fun q8 Q8 h8 hA8 hz8 hp8 => ?_)
  have h0 := h8.trans h0
  clear hA hz hp h8
  generalize q8 = q9 at hA8 hz8 hp8 ⊢
  generalize Q8 = Qp at hA8 h0
  have hA := hA8
  have hz := hz8
  have hp := hp8
  clear hA8 hz8 hp8
  refine aw_aload_n X dX11_init_28 rfl rfl ?_
  refine aw_sipush X dX11_init_29 cs_1000 ?_
  refine am_newp X hin 4 1000 4 .int .int hA hz hp (by decide) (by decide) (by decide) rfl ac_int rfl rfl (fun _ h => h) (fun _ => rfl) (by decide) (by decide) (by decide) (Nat.le_of_ble_eq_true rfl) (Nat.le_of_ble_eq_true rfl) dX11_init_32 (Nat.le_of_ble_eq_true rfl) fl_X11_49 rfl rfl (fun _ => rfl) (fun _ => rfl) (fun _ => rfl) dX11_init_34 (fun q8 Q8 h8 hA8 hz8 hp8 => ?_)
  have h0 := h8.trans h0
  clear hA hz hp h8
  generalize q8 = q9 at hA8 hz8 hp8 ⊢
  generalize Q8 = Qp at hA8 h0
  have hA := hA8
  have hz := hz8
  have hp := hp8
  clear hA8 hz8 hp8
  refine aw_aload_n X dX11_init_37 rfl rfl ?_
  refine aw_bipush X dX11_init_38 cb_8 ?_
  refine am_newp X hin 6 8 5 .int .int hA hz hp (by decide) (by decide) (by decide) rfl ac_int rfl rfl (fun _ h => h) (fun _ => rfl) (by decide) (by decide) (by decide) (Nat.le_of_ble_eq_true rfl) (Nat.le_of_ble_eq_true rfl) dX11_init_40 (Nat.le_of_ble_eq_true rfl) fl_X11_20 rfl rfl (fun _ => rfl) (fun _ => rfl) (fun _ => rfl) dX11_init_42 (fun q8 Q8 h8 hA8 hz8 hp8 => ?_)
  have h0 := h8.trans h0
  clear hA hz hp h8
  generalize q8 = q9 at hA8 hz8 hp8 ⊢
  generalize Q8 = Qp at hA8 h0
  have hA := hA8
  have hz := hz8
  have hp := hp8
  clear hA8 hz8 hp8
  refine aw_aload_n X dX11_init_45 rfl rfl ?_
  refine aw_bipush X dX11_init_46 cb_8 ?_
  refine am_newp X hin 8 8 7 .int .int hA hz hp (by decide) (by decide) (by decide) rfl ac_int rfl rfl (fun _ h => h) (fun _ => rfl) (by decide) (by decide) (by decide) (Nat.le_of_ble_eq_true rfl) (Nat.le_of_ble_eq_true rfl) dX11_init_48 (Nat.le_of_ble_eq_true rfl) fl_X11_23 rfl rfl (fun _ => rfl) (fun _ => rfl) (fun _ => rfl) dX11_init_50 (fun q8 Q8 h8 hA8 hz8 hp8 => ?_)
  have h0 := h8.trans h0
  clear hA hz hp h8
  generalize q8 = q9 at hA8 hz8 hp8 ⊢
  generalize Q8 = Qp at hA8 h0
  have hA := hA8
  have hz := hz8
  have hp := hp8
  clear hA8 hz8 hp8
  refine aw_aload_n X dX11_init_53 rfl rfl ?_
  refine aw_bipush X dX11_init_54 cb_8 ?_
  refine am_newp X hin 9 8 9 .boolean .boolean hA hz hp (by decide) (by decide) (by decide) rfl ac_boolean rfl rfl (fun _ h => h) (fun _ => rfl) (by decide) (by decide) (by decide) (Nat.le_of_ble_eq_true rfl) (Nat.le_of_ble_eq_true rfl) dX11_init_56 (Nat.le_of_ble_eq_true rfl) fl_X11_74 rfl rfl (fun _ => rfl) (fun _ => rfl) (fun _ => rfl) dX11_init_58 (fun q8 Q8 h8 hA8 hz8 hp8 => ?_)
  have h0 := h8.trans h0
  clear hA hz hp h8
  generalize q8 = q9 at hA8 hz8 hp8 ⊢
  generalize Q8 = Qp at hA8 h0
  have hA := hA8
  have hz := hz8
  have hp := hp8
  clear hA8 hz8 hp8
  refine aw_aload_n X dX11_init_61 rfl rfl ?_
  refine aw_bipush X dX11_init_62 cb_8 ?_
  refine am_newp X hin 10 8 10 .int .int hA hz hp (by decide) (by decide) (by decide) rfl ac_int rfl rfl (fun _ h => h) (fun _ => rfl) (by decide) (by decide) (by decide) (Nat.le_of_ble_eq_true rfl) (Nat.le_of_ble_eq_true rfl) dX11_init_64 (Nat.le_of_ble_eq_true rfl) fl_X11_77 rfl rfl (fun _ => rfl) (fun _ => rfl) (fun _ => rfl) dX11_init_66 (fun q8 Q8 h8 hA8 hz8 hp8 => ?_)
  have h0 := h8.trans h0
  clear hA hz hp h8
  generalize q8 = q9 at hA8 hz8 hp8 ⊢
  generalize Q8 = Qp at hA8 h0
  have hA := hA8
  have hz := hz8
  have hp := hp8
  clear hA8 hz8 hp8
  refine aw_aload_n X dX11_init_69 rfl rfl ?_
  refine aw_bipush X dX11_init_70 cb_8 ?_
  refine am_newp X hin 11 8 11 .int .int hA hz hp (by decide) (by decide) (by decide) rfl ac_int rfl rfl (fun _ h => h) (fun _ => rfl) (by decide) (by decide) (by decide) (Nat.le_of_ble_eq_true rfl) (Nat.le_of_ble_eq_true rfl) dX11_init_72 (Nat.le_of_ble_eq_true rfl) fl_X11_80 rfl rfl (fun _ => rfl) (fun _ => rfl) (fun _ => rfl) dX11_init_74 (fun q8 Q8 h8 hA8 hz8 hp8 => ?_)
  have h0 := h8.trans h0
  clear hA hz hp h8
  generalize q8 = q9 at hA8 hz8 hp8 ⊢
  generalize Q8 = Qp at hA8 h0
  have hA := hA8
  have hz := hz8
  have hp := hp8
  clear hA8 hz8 hp8
  refine aw_aload_n X dX11_init_77 rfl rfl ?_
  refine aw_bipush X dX11_init_78 cb_8 ?_
  refine am_newp X hin 12 8 12 .int .int hA hz hp (by decide) (by decide) (by decide) rfl ac_int rfl rfl (fun _ h => h) (fun _ => rfl) (by decide) (by decide) (by decide) (Nat.le_of_ble_eq_true rfl) (Nat.le_of_ble_eq_true rfl) dX11_init_80 (Nat.le_of_ble_eq_true rfl) fl_X11_83 rfl rfl (fun _ => rfl) (fun _ => rfl) (fun _ => rfl) dX11_init_82 (fun q8 Q8 h8 hA8 hz8 hp8 => ?_)
  have h0 := h8.trans h0
  clear hA hz hp h8
  generalize q8 = q9 at hA8 hz8 hp8 ⊢
  generalize Q8 = Qp at hA8 h0
  have hA := hA8
  have hz := hz8
  have hp := hp8
  clear hA8 hz8 hp8
  refine aw_aload_n X dX11_init_85 rfl rfl ?_
  refine aw_bipush X dX11_init_86 cb_8 ?_
  refine am_newp X hin 13 8 13 .int .int hA hz hp (by decide) (by decide) (by decide) rfl ac_int rfl rfl (fun _ h => h) (fun _ => rfl) (by decide) (by decide) (by decide) (Nat.le_of_ble_eq_true rfl) (Nat.le_of_ble_eq_true rfl) dX11_init_88 (Nat.le_of_ble_eq_true rfl) fl_X11_86 rfl rfl (fun _ => rfl) (fun _ => rfl) (fun _ => rfl) dX11_init_90 (fun q8 Q8 h8 hA8 hz8 hp8 => ?_)
  have h0 := h8.trans h0
  clear hA hz hp h8
  generalize q8 = q9 at hA8 hz8 hp8 ⊢
  generalize Q8 = Qp at hA8 h0
  have hA := hA8
  have hz := hz8
  have hp := hp8
  clear hA8 hz8 hp8
  refine aw_aload_n X dX11_init_93 rfl rfl ?_
  refine aw_bipush X dX11_init_94 cb_8 ?_
  refine am_newp X hin 14 8 14 .int .int hA hz hp (by decide) (by decide) (by decide) rfl ac_int rfl rfl (fun _ h => h) (fun _ => rfl) (by decide) (by decide) (by decide) (Nat.le_of_ble_eq_true rfl) (Nat.le_of_ble_eq_true rfl) dX11_init_96 (Nat.le_of_ble_eq_true rfl) fl_X11_89 rfl rfl (fun _ => rfl) (fun _ => rfl) (fun _ => rfl) dX11_init_98 (fun q8 Q8 h8 hA8 hz8 hp8 => ?_)
  have h0 := h8.trans h0
  clear hA hz hp h8
  generalize q8 = q9 at hA8 hz8 hp8 ⊢
  generalize Q8 = Qp at hA8 h0
  have hA := hA8
  have hz := hz8
  have hp := hp8
  clear hA8 hz8 hp8
  refine aw_aload_n X dX11_init_101 rfl rfl ?_
  refine aw_bipush X dX11_init_102 cb_8 ?_
  refine am_newp X hin 15 8 15 .int .int hA hz hp (by decide) (by decide) (by decide) rfl ac_int rfl rfl (fun _ h => h) (fun _ => rfl) (by decide) (by decide) (by decide) (Nat.le_of_ble_eq_true rfl) (Nat.le_of_ble_eq_true rfl) dX11_init_104 (Nat.le_of_ble_eq_true rfl) fl_X11_26 rfl rfl (fun _ => rfl) (fun _ => rfl) (fun _ => rfl) dX11_init_106 (fun q8 Q8 h8 hA8 hz8 hp8 => ?_)
  have h0 := h8.trans h0
  clear hA hz hp h8
  generalize q8 = q9 at hA8 hz8 hp8 ⊢
  generalize Q8 = Qp at hA8 h0
  have hA := hA8
  have hz := hz8
  have hp := hp8
  clear hA8 hz8 hp8
  refine aw_aload_n X dX11_init_109 rfl rfl ?_
  refine aw_bipush X dX11_init_110 cb_8 ?_
  refine am_newp X hin 16 8 16 .int .int hA hz hp (by decide) (by decide) (by decide) rfl ac_int rfl rfl (fun _ h => h) (fun _ => rfl) (by decide) (by decide) (by decide) (Nat.le_of_ble_eq_true rfl) (Nat.le_of_ble_eq_true rfl) dX11_init_112 (Nat.le_of_ble_eq_true rfl) fl_X11_92 rfl rfl (fun _ => rfl) (fun _ => rfl) (fun _ => rfl) dX11_init_114 (fun q8 Q8 h8 hA8 hz8 hp8 => ?_)
  have h0 := h8.trans h0
  clear hA hz hp h8
  generalize q8 = q9 at hA8 hz8 hp8 ⊢
  generalize Q8 = Qp at hA8 h0
  have hA := hA8
  have hz := hz8
  have hp := hp8
  clear hA8 hz8 hp8
  refine aw_aload_n X dX11_init_117 rfl rfl ?_
  refine aw_bipush X dX11_init_118 cb_8 ?_
  refine am_newp X hin 17 8 17 .int .int hA hz hp (by decide) (by decide) (by decide) rfl ac_int rfl rfl (fun _ h => h) (fun _ => rfl) (by decide) (by decide) (by decide) (Nat.le_of_ble_eq_true rfl) (Nat.le_of_ble_eq_true rfl) dX11_init_120 (Nat.le_of_ble_eq_true rfl) fl_X11_95 rfl rfl (fun _ => rfl) (fun _ => rfl) (fun _ => rfl) dX11_init_122 (fun q8 Q8 h8 hA8 hz8 hp8 => ?_)
  have h0 := h8.trans h0
  clear hA hz hp h8
  generalize q8 = q9 at hA8 hz8 hp8 ⊢
  generalize Q8 = Qp at hA8 h0
  have hA := hA8
  have hz := hz8
  have hp := hp8
  clear hA8 hz8 hp8
  refine aw_aload_n X dX11_init_125 rfl rfl ?_
  refine aw_sipush X dX11_init_126 cs_320 ?_
  refine am_newp X hin 18 320 18 .int .int hA hz hp (by decide) (by decide) (by decide) rfl ac_int rfl rfl (fun _ h => h) (fun _ => rfl) (by decide) (by decide) (by decide) (Nat.le_of_ble_eq_true rfl) (Nat.le_of_ble_eq_true rfl) dX11_init_129 (Nat.le_of_ble_eq_true rfl) fl_X11_133 rfl rfl (fun _ => rfl) (fun _ => rfl) (fun _ => rfl) dX11_init_131 (fun q8 Q8 h8 hA8 hz8 hp8 => ?_)
  have h0 := h8.trans h0
  clear hA hz hp h8
  generalize q8 = q9 at hA8 hz8 hp8 ⊢
  generalize Q8 = Qp at hA8 h0
  have hA := hA8
  have hz := hz8
  have hp := hp8
  clear hA8 hz8 hp8
  refine aw_aload_n X dX11_init_134 rfl rfl ?_
  refine aw_bipush X dX11_init_135 cb_8 ?_
  refine am_newp X hin 19 8 19 .int .int hA hz hp (by decide) (by decide) (by decide) rfl ac_int rfl rfl (fun _ h => h) (fun _ => rfl) (by decide) (by decide) (by decide) (Nat.le_of_ble_eq_true rfl) (Nat.le_of_ble_eq_true rfl) dX11_init_137 (Nat.le_of_ble_eq_true rfl) fl_X11_98 rfl rfl (fun _ => rfl) (fun _ => rfl) (fun _ => rfl) dX11_init_139 (fun q8 Q8 h8 hA8 hz8 hp8 => ?_)
  have h0 := h8.trans h0
  clear hA hz hp h8
  generalize q8 = q9 at hA8 hz8 hp8 ⊢
  generalize Q8 = Qp at hA8 h0
  have hA := hA8
  have hz := hz8
  have hp := hp8
  clear hA8 hz8 hp8
  refine aw_aload_n X dX11_init_142 rfl rfl ?_
  refine aw_iconst X dX11_init_143 ci_4 ?_
  refine am_newp X hin 23 4 20 .int .int hA hz hp (by decide) (by decide) (by decide) rfl ac_int rfl rfl (fun _ h => h) (fun _ => rfl) (by decide) (by decide) (by decide) (Nat.le_of_ble_eq_true rfl) (Nat.le_of_ble_eq_true rfl) dX11_init_144 (Nat.le_of_ble_eq_true rfl) fl_X11_136 rfl rfl (fun _ => rfl) (fun _ => rfl) (fun _ => rfl) dX11_init_146 (fun q8 Q8 h8 hA8 hz8 hp8 => ?_)
  have h0 := h8.trans h0
  clear hA hz hp h8
  generalize q8 = q9 at hA8 hz8 hp8 ⊢
  generalize Q8 = Qp at hA8 h0
  have hA := hA8
  have hz := hz8
  have hp := hp8
  clear hA8 hz8 hp8
  refine aw_aload_n X dX11_init_149 rfl rfl ?_
  refine aw_sipush X dX11_init_150 cs_160 ?_
  refine am_newp X hin 24 160 24 .int .int hA hz hp (by decide) (by decide) (by decide) rfl ac_int rfl rfl (fun _ h => h) (fun _ => rfl) (by decide) (by decide) (by decide) (Nat.le_of_ble_eq_true rfl) (Nat.le_of_ble_eq_true rfl) dX11_init_153 (Nat.le_of_ble_eq_true rfl) fl_X11_139 rfl rfl (fun _ => rfl) (fun _ => rfl) (fun _ => rfl) dX11_init_155 (fun q8 Q8 h8 hA8 hz8 hp8 => ?_)
  have h0 := h8.trans h0
  clear hA hz hp h8
  generalize q8 = q9 at hA8 hz8 hp8 ⊢
  generalize Q8 = Qp at hA8 h0
  have hA := hA8
  have hz := hz8
  have hp := hp8
  clear hA8 hz8 hp8
  refine aw_aload_n X dX11_init_158 rfl rfl ?_
  refine aw_bipush X dX11_init_159 cb_8 ?_
  refine am_newp X hin 25 8 25 .int .int hA hz hp (by decide) (by decide) (by decide) rfl ac_int rfl rfl (fun _ h => h) (fun _ => rfl) (by decide) (by decide) (by decide) (Nat.le_of_ble_eq_true rfl) (Nat.le_of_ble_eq_true rfl) dX11_init_161 (Nat.le_of_ble_eq_true rfl) fl_X11_142 rfl rfl (fun _ => rfl) (fun _ => rfl) (fun _ => rfl) dX11_init_163 (fun q8 Q8 h8 hA8 hz8 hp8 => ?_)
  have h0 := h8.trans h0
  clear hA hz hp h8
  generalize q8 = q9 at hA8 hz8 hp8 ⊢
  generalize Q8 = Qp at hA8 h0
  have hA := hA8
  have hz := hz8
  have hp := hp8
  clear hA8 hz8 hp8
  refine aw_aload_n X dX11_init_166 rfl rfl ?_
  refine aw_bipush X dX11_init_167 cb_20 ?_
  refine am_newp X hin 30 20 26 .int .int hA hz hp (by decide) (by decide) (by decide) rfl ac_int rfl rfl (fun _ h => h) (fun _ => rfl) (by decide) (by decide) (by decide) (Nat.le_of_ble_eq_true rfl) (Nat.le_of_ble_eq_true rfl) dX11_init_169 (Nat.le_of_ble_eq_true rfl) fl_X11_145 rfl rfl (fun _ => rfl) (fun _ => rfl) (fun _ => rfl) dX11_init_171 (fun q8 Q8 h8 hA8 hz8 hp8 => ?_)
  have h0 := h8.trans h0
  clear hA hz hp h8
  generalize q8 = q9 at hA8 hz8 hp8 ⊢
  generalize Q8 = Qp at hA8 h0
  have hA := hA8
  have hz := hz8
  have hp := hp8
  clear hA8 hz8 hp8
  refine aw_aload_n X dX11_init_174 rfl rfl ?_
  refine aw_sipush X dX11_init_175 cs_160 ?_
  refine am_newp X hin 31 160 31 .int .int hA hz hp (by decide) (by decide) (by decide) rfl ac_int rfl rfl (fun _ h => h) (fun _ => rfl) (by decide) (by decide) (by decide) (Nat.le_of_ble_eq_true rfl) (Nat.le_of_ble_eq_true rfl) dX11_init_178 (Nat.le_of_ble_eq_true rfl) fl_X11_148 rfl rfl (fun _ => rfl) (fun _ => rfl) (fun _ => rfl) dX11_init_180 (fun q8 Q8 h8 hA8 hz8 hp8 => ?_)
  have h0 := h8.trans h0
  clear hA hz hp h8
  generalize q8 = q9 at hA8 hz8 hp8 ⊢
  generalize Q8 = Qp at hA8 h0
  have hA := hA8
  have hz := hz8
  have hp := hp8
  clear hA8 hz8 hp8
  refine aw_aload_n X dX11_init_183 rfl rfl ?_
  refine aw_bipush X dX11_init_184 cb_20 ?_
  refine am_newp X hin 32 20 32 .int .int hA hz hp (by decide) (by decide) (by decide) rfl ac_int rfl rfl (fun _ h => h) (fun _ => rfl) (by decide) (by decide) (by decide) (Nat.le_of_ble_eq_true rfl) (Nat.le_of_ble_eq_true rfl) dX11_init_186 (Nat.le_of_ble_eq_true rfl) fl_X11_151 rfl rfl (fun _ => rfl) (fun _ => rfl) (fun _ => rfl) dX11_init_188 (fun q8 Q8 h8 hA8 hz8 hp8 => ?_)
  have h0 := h8.trans h0
  clear hA hz hp h8
  generalize q8 = q9 at hA8 hz8 hp8 ⊢
  generalize Q8 = Qp at hA8 h0
  have hA := hA8
  have hz := hz8
  have hp := hp8
  clear hA8 hz8 hp8
  refine aw_aload_n X dX11_init_191 rfl rfl ?_
  refine aw_bipush X dX11_init_192 cb_20 ?_
  refine am_newp X hin 33 20 33 .boolean .boolean hA hz hp (by decide) (by decide) (by decide) rfl ac_boolean rfl rfl (fun _ h => h) (fun _ => rfl) (by decide) (by decide) (by decide) (Nat.le_of_ble_eq_true rfl) (Nat.le_of_ble_eq_true rfl) dX11_init_194 (Nat.le_of_ble_eq_true rfl) fl_X11_67 rfl rfl (fun _ => rfl) (fun _ => rfl) (fun _ => rfl) dX11_init_196 (fun q8 Q8 h8 hA8 hz8 hp8 => ?_)
  have h0 := h8.trans h0
  clear hA hz hp h8
  generalize q8 = q9 at hA8 hz8 hp8 ⊢
  generalize Q8 = Qp at hA8 h0
  have hA := hA8
  have hz := hz8
  have hp := hp8
  clear hA8 hz8 hp8
  refine aw_aload_n X dX11_init_199 rfl rfl ?_
  refine aw_bipush X dX11_init_200 cb_20 ?_
  refine am_newp X hin 34 20 34 .int .int hA hz hp (by decide) (by decide) (by decide) rfl ac_int rfl rfl (fun _ h => h) (fun _ => rfl) (by decide) (by decide) (by decide) (Nat.le_of_ble_eq_true rfl) (Nat.le_of_ble_eq_true rfl) dX11_init_202 (Nat.le_of_ble_eq_true rfl) fl_X11_112 rfl rfl (fun _ => rfl) (fun _ => rfl) (fun _ => rfl) dX11_init_204 (fun q8 Q8 h8 hA8 hz8 hp8 => ?_)
  have h0 := h8.trans h0
  clear hA hz hp h8
  generalize q8 = q9 at hA8 hz8 hp8 ⊢
  generalize Q8 = Qp at hA8 h0
  have hA := hA8
  have hz := hz8
  have hp := hp8
  clear hA8 hz8 hp8
  refine aw_aload_n X dX11_init_207 rfl rfl ?_
  refine aw_bipush X dX11_init_208 cb_20 ?_
  refine am_newp X hin 35 20 35 .boolean .boolean hA hz hp (by decide) (by decide) (by decide) rfl ac_boolean rfl rfl (fun _ h => h) (fun _ => rfl) (by decide) (by decide) (by decide) (Nat.le_of_ble_eq_true rfl) (Nat.le_of_ble_eq_true rfl) dX11_init_210 (Nat.le_of_ble_eq_true rfl) fl_X11_115 rfl rfl (fun _ => rfl) (fun _ => rfl) (fun _ => rfl) dX11_init_212 (fun q8 Q8 h8 hA8 hz8 hp8 => ?_)
  have h0 := h8.trans h0
  clear hA hz hp h8
  generalize q8 = q9 at hA8 hz8 hp8 ⊢
  generalize Q8 = Qp at hA8 h0
  have hA := hA8
  have hz := hz8
  have hp := hp8
  clear hA8 hz8 hp8
  refine aw_aload_n X dX11_init_215 rfl rfl ?_
  refine aw_bipush X dX11_init_216 cb_20 ?_
  refine am_newp X hin 36 20 36 .int .int hA hz hp (by decide) (by decide) (by decide) rfl ac_int rfl rfl (fun _ h => h) (fun _ => rfl) (by decide) (by decide) (by decide) (Nat.le_of_ble_eq_true rfl) (Nat.le_of_ble_eq_true rfl) dX11_init_218 (Nat.le_of_ble_eq_true rfl) fl_X11_121 rfl rfl (fun _ => rfl) (fun _ => rfl) (fun _ => rfl) dX11_init_220 (fun q8 Q8 h8 hA8 hz8 hp8 => ?_)
  have h0 := h8.trans h0
  clear hA hz hp h8
  generalize q8 = q9 at hA8 hz8 hp8 ⊢
  generalize Q8 = Qp at hA8 h0
  have hA := hA8
  have hz := hz8
  have hp := hp8
  clear hA8 hz8 hp8
  refine aw_aload_n X dX11_init_223 rfl rfl ?_
  refine aw_sipush X dX11_init_224 cs_1200 ?_
  refine am_newp X hin 37 1200 37 .int .int hA hz hp (by decide) (by decide) (by decide) rfl ac_int rfl rfl (fun _ h => h) (fun _ => rfl) (by decide) (by decide) (by decide) (Nat.le_of_ble_eq_true rfl) (Nat.le_of_ble_eq_true rfl) dX11_init_227 (Nat.le_of_ble_eq_true rfl) fl_X11_154 rfl rfl (fun _ => rfl) (fun _ => rfl) (fun _ => rfl) dX11_init_229 (fun q8 Q8 h8 hA8 hz8 hp8 => ?_)
  have h0 := h8.trans h0
  clear hA hz hp h8
  generalize q8 = q9 at hA8 hz8 hp8 ⊢
  generalize Q8 = Qp at hA8 h0
  have hA := hA8
  have hz := hz8
  have hp := hp8
  clear hA8 hz8 hp8
  refine aw_aload_n X dX11_init_232 rfl rfl ?_
  refine aw_iconst X dX11_init_233 ci_2 ?_
  refine am_newp X hin 42 2 38 .int .int hA hz hp (by decide) (by decide) (by decide) rfl ac_int rfl rfl (fun _ h => h) (fun _ => rfl) (by decide) (by decide) (by decide) (Nat.le_of_ble_eq_true rfl) (Nat.le_of_ble_eq_true rfl) dX11_init_234 (Nat.le_of_ble_eq_true rfl) fl_X11_157 rfl rfl (fun _ => rfl) (fun _ => rfl) (fun _ => rfl) dX11_init_236 (fun q8 Q8 h8 hA8 hz8 hp8 => ?_)
  have h0 := h8.trans h0
  clear hA hz hp h8
  generalize q8 = q9 at hA8 hz8 hp8 ⊢
  generalize Q8 = Qp at hA8 h0
  have hA := hA8
  have hz := hz8
  have hp := hp8
  clear hA8 hz8 hp8
  refine aw_aload_n X dX11_init_239 rfl rfl ?_
  refine aw_bipush X dX11_init_240 cb_8 ?_
  refine am_newp X hin 43 8 43 .int .int hA hz hp (by decide) (by decide) (by decide) rfl ac_int rfl rfl (fun _ h => h) (fun _ => rfl) (by decide) (by decide) (by decide) (Nat.le_of_ble_eq_true rfl) (Nat.le_of_ble_eq_true rfl) dX11_init_242 (Nat.le_of_ble_eq_true rfl) fl_X11_160 rfl rfl (fun _ => rfl) (fun _ => rfl) (fun _ => rfl) dX11_init_244 (fun q8 Q8 h8 hA8 hz8 hp8 => ?_)
  have h0 := h8.trans h0
  clear hA hz hp h8
  generalize q8 = q9 at hA8 hz8 hp8 ⊢
  generalize Q8 = Qp at hA8 h0
  have hA := hA8
  have hz := hz8
  have hp := hp8
  clear hA8 hz8 hp8
  have hQk : ∀ k ∈ mArrs, q9 k = some (Qp k) := fun k hk => hA k hk (by revert k; decide)
  have e1 := hQk 1 (by decide)
  have e2 := hQk 2 (by decide)
  have e3 := hQk 3 (by decide)
  have e4 := hQk 4 (by decide)
  have e6 := hQk 6 (by decide)
  have e8 := hQk 8 (by decide)
  have e9 := hQk 9 (by decide)
  have e10 := hQk 10 (by decide)
  have e11 := hQk 11 (by decide)
  have e12 := hQk 12 (by decide)
  have e13 := hQk 13 (by decide)
  have e14 := hQk 14 (by decide)
  have e15 := hQk 15 (by decide)
  have e16 := hQk 16 (by decide)
  have e17 := hQk 17 (by decide)
  have e18 := hQk 18 (by decide)
  have e19 := hQk 19 (by decide)
  have e23 := hQk 23 (by decide)
  have e24 := hQk 24 (by decide)
  have e25 := hQk 25 (by decide)
  have e30 := hQk 30 (by decide)
  have e31 := hQk 31 (by decide)
  have e32 := hQk 32 (by decide)
  have e33 := hQk 33 (by decide)
  have e34 := hQk 34 (by decide)
  have e35 := hQk 35 (by decide)
  have e36 := hQk 36 (by decide)
  have e37 := hQk 37 (by decide)
  have e42 := hQk 42 (by decide)
  have e43 := hQk 43 (by decide)
  have hmf : mfp q9 = mf Qp M00 := by unfold mfp mf; rw [e1, e2, e3, e4, e6, e8, e9, e10, e11, e12, e13, e14, e15, e16, e17, e18, e19, e23, e24, e25, e30, e31, e32, e33, e34, e35, e36, e37, e42, e43]; rfl
  have hmw := mwp_mw (G := G) (o := o) (q := q9) Qp h0 hQk hmf
  rw [hmw]
  have hq : mInj Qp := by
    intro i j hi hj hij
    rcases List.mem_cons.mp hi with hi | hi <;> rcases List.mem_cons.mp hj with hj | hj
    · rw [hi, hj]
    · rw [hi, h0] at hij
      exact absurd (by rw [hQk j hj, ← hij]) (hp.2 j hj)
    · rw [hj, h0] at hij
      exact absurd (by rw [hQk i hi, hij]) (hp.2 i hi)
    · exact hp.1 i j (Qp i) hi hj (hQk i hi) (by rw [hij]; exact hQk j hj)
  have ho : o = Qp 0 := h0.symm
  clear hmw hp hQk hA hz h0 hmf e1 e2 e3 e4 e6 e8 e9 e10 e11 e12 e13 e14 e15 e16 e17 e18 e19 e23 e24 e25 e30 e31 e32 e33 e34 e35 e36 e37 e42 e43
  subst ho
  have L : ∀ (nn j : Nat) (x : Int32), x = nI j → j ≤ 4 → 5 ≤ j + nn → AW G p l e ({ frames := 1, cells := 30, slots := 3136, locals := 20 } : Room) s m args below meth c 2 A H0 Q (mw G Qp (mo_gi j)) ((((((((((((((((((((((((((((((0 + 1) + 1) + 1) + 1) + 1) + 1) + 1) + 1) + 1) + 1) + 1) + 1) + 1) + 1) + 1) + 1) + 1) + 1) + 1) + 1) + 1) + 1) + 1) + 1) + 1) + 1) + 1) + 1) + 1) + 1) ((((((((((((((((((((((((((((((0 + 8) + 25) + 25) + 1000) + 8) + 8) + 8) + 8) + 8) + 8) + 8) + 8) + 8) + 8) + 8) + 320) + 8) + 4) + 160) + 8) + 20) + 160) + 20) + 20) + 20) + 20) + 20) + 1200) + 2) + 8) 249 [(1, .int x), (0, .ref (Qp 0))] [] := by
    intro nn
    induction nn with
    | zero => intro j x hx h1 h2; exact absurd h2 (by omega)
    | succ nn ih =>
      intro j x hx h1 h2
      subst hx
      refine aw_iload_n X dX11_init_249 rfl rfl ?_
      refine aw_iconst X dX11_init_250 ci_4 ?_
      refine aw_icmp_ge (tgt := 267) X dX11_init_251 rfl (fun c251 => ?_) (fun c251 => ?_)
      · have h9 : j = 4 := by have := ge_i (N := 4) rfl (by omega) (by decide) c251; omega
        refine RTN (none) _ _ _ _ _ dX11_init_267 (rfl) (Nat.le_of_ble_eq_true rfl) (Nat.le_of_ble_eq_true rfl) ?_
        subst h9
        exact ⟨rfl, Qp, hq, rfl, rfl⟩
      · have h9 : j < 4 := lt_i (N := 4) rfl (by omega) (by decide) c251
        refine aw_aload_n X dX11_init_254 rfl rfl ?_
        refine am_get X 23 (Nat.le_of_ble_eq_true rfl) fl_X11_136 rfl rfl dX11_init_255 ?_
        refine aw_iload_n X dX11_init_258 rfl rfl ?_
        refine aw_iconst X dX11_init_259 ci_m1 ?_
        refine am_ast X 23 _ hq (by decide) rfl rfl (vp_in_nI h9 (by decide)) dX11_init_260 ?_
        refine aw_iinc (lv' := [(1, _), (0, _)]) X dX11_init_261 rfl (iinc_1 _) (by decide) rfl ?_
        refine aw_goto (tgt := 249) X dX11_init_264 rfl ?_
        refine aw_lv [0, 1] rfl ?_
        exact ih (j + 1) _ (nI_1 j) (by omega) (by omega)
  refine aw_iconst X dX11_init_247 ci_0 ?_
  refine aw_istore_n (lv' := [(1, _), (0, _)]) X dX11_init_248 rfl (by decide) rfl ?_
  refine aw_lv [0, 1] rfl ?_
  exact L 5 0 _ rfl (by decide) (by decide)
