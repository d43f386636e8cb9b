/-! copy -/
def mo_cb (M : MS) (a at_ b to_ : Int32) (N : Nat) : Nat → MS
  | 0 => M
  | t + 1 => sF (mo_cb M a at_ b to_ N t) 4 ((((40 * b) + to_) + nI (N - 1 - t)) - 40).toNatClampNeg ((mo_cb M a at_ b to_ N t).2.2 4 ((((40 * a) + at_) + nI (N - 1 - t)) - 40).toNatClampNeg)
def mo_cv (M : MS) (a at_ : Int32) (i : Nat) : Int32 := M.2.2 4 ((((40 * a) + at_) + nI i) - 40).toNatClampNeg
def mo_cs (M : MS) (a at_ b : Int32) (i : Nat) : Bool := decide (M.2.2 2 a.toNatClampNeg = 3) && (decide (M.2.2 2 b.toNatClampNeg = 4) && (!decide (mo_cv M a at_ i ≤ 0) && decide (M.2.2 33 (mo_cv M a at_ i - 1).toNatClampNeg = 0)))
def mo_cf (a at_ b to_ : Int32) : Nat → Nat → MS → Int32 × MS
  | 0, _, M => (1, M)
  | m + 1, i, M => if mo_cs M a at_ b i then ((-10) - 5, sI M 5 5) else mo_cf a at_ b to_ m (i + 1) (sF M 4 ((((40 * b) + to_) + nI i) - 40).toNatClampNeg (mo_cv M a at_ i))
def mo_copy (M : MS) (r at_ sr to_ n : Int32) : Int32 × MS :=
  if bt r 0 7 ∧ bt sr 0 7 then
    if (M.2.2 1 r.toNatClampNeg) = 0 ∨ (M.2.2 1 sr.toNatClampNeg) = 0 then ((-10) - 1, sI (sI M 0 0) 5 1)
    else if (M.2.2 2 (M.2.2 1 r.toNatClampNeg).toNatClampNeg) = (M.2.2 2 (M.2.2 1 sr.toNatClampNeg).toNatClampNeg) ∨ (¬ (M.2.2 2 (M.2.2 1 r.toNatClampNeg).toNatClampNeg) ≤ 2 ∧ 2 < (M.2.2 2 (M.2.2 1 sr.toNatClampNeg).toNatClampNeg)) then
      if at_ < 0 ∨ to_ < 0 ∨ n < 0 ∨ (M.2.2 3 (M.2.2 1 r.toNatClampNeg).toNatClampNeg).toInt64 < at_.toInt64 + n.toInt64 ∨ ¬ to_.toInt64 + n.toInt64 ≤ (M.2.2 3 (M.2.2 1 sr.toNatClampNeg).toNatClampNeg).toInt64 then ((-10) - 3, sI (sI M 0 0) 5 3)
      else if (M.2.2 1 r.toNatClampNeg) = (M.2.2 1 sr.toNatClampNeg) ∧ ¬ to_ ≤ at_ then (1, mo_cb (sI M 0 0) (M.2.2 1 r.toNatClampNeg) at_ (M.2.2 1 sr.toNatClampNeg) to_ n.toNatClampNeg n.toNatClampNeg)
      else mo_cf (M.2.2 1 r.toNatClampNeg) at_ (M.2.2 1 sr.toNatClampNeg) to_ n.toNatClampNeg 0 (sI M 0 0)
    else ((-10) - 5, sI (sI M 0 0) 5 5)
  else (-2, (sI M 0 0))
theorem add64 (a b : Int32) : (a.toInt64 + b.toInt64).toInt = a.toInt + b.toInt := by
  have h1 := Int32.toInt_lt a
  have h2 := Int32.toInt_lt b
  have h3 := Int32.le_toInt a
  have h4 := Int32.le_toInt b
  rw [Int64.toInt_add, i64_32, i64_32]
  exact Int.bmod_eq_of_le (by omega) (by omega)
theorem ixc {a at_ : Int32} {j : Nat} (ha : bt a 1 24) (h0 : ¬ at_ < 0) (hj : at_.toInt + j < 40) : ((((40 * a) + at_) + nI j) - 40).toInt = 40 * a.toInt + at_.toInt + j - 40 := by
  obtain ⟨a1, a2⟩ := bt_iff.mp ha
  rw [i32_lt] at h0
  have e0 : (0 : Int32).toInt = 0 := rfl
  have h1 := ti_mul (a := 40) (b := a) (x := 40) rfl rfl (by omega)
  have h2 := ti_add h1 (b := at_) rfl (by omega)
  have h3 := ti_add h2 (nI_toInt (n := j) (by omega)) (by omega)
  exact ti_sub h3 (b := 40) (y := 40) rfl (by omega)
theorem ixcv {a at_ : Int32} {j : Nat} (ha : bt a 1 24) (h0 : ¬ at_ < 0) (hj : at_.toInt + j < 40) : vp_in ((((40 * a) + at_) + nI j) - 40) 1000 := by
  have h := ixc ha h0 hj
  obtain ⟨a1, a2⟩ := bt_iff.mp ha
  rw [i32_lt] at h0
  have e0 : (0 : Int32).toInt = 0 := rfl
  exact vp_in_iff.mpr ⟨by omega, by omega⟩
/-- what arrays of references hold: 0, or a reference's number and 1 -/
def mi_cell (M : MS) : Prop := ∀ a j : Nat, 1 ≤ a → a ≤ 24 → j < 40 → 2 < (M.2.2 2 a).toInt → bt (M.2.2 4 (40 * a + j - 40)) 0 20 = true
theorem ixcl {a at_ : Int32} {j : Nat} (ha : bt a 1 24) (h0 : ¬ at_ < 0) (hj : at_.toInt + j < 40) : ((((40 * a) + at_) + nI j) - 40).toNatClampNeg = 40 * a.toNatClampNeg + (at_.toNatClampNeg + j) - 40 := by
  have h := ixc ha h0 hj
  obtain ⟨a1, a2⟩ := bt_iff.mp ha
  rw [i32_lt] at h0
  have e0 : (0 : Int32).toInt = 0 := rfl
  have e1 : a.toNatClampNeg = a.toInt.toNat := rfl
  have e2 : at_.toNatClampNeg = at_.toInt.toNat := rfl
  have e3 : ((((40 * a) + at_) + nI j) - 40).toNatClampNeg = ((((40 * a) + at_) + nI j) - 40).toInt.toNat := rfl
  omega
/-- outside of b's cells nothing has changed -/
def cf_ok (M N : MS) (b : Nat) : Prop := (∀ j, j ≠ 4 → N.2.2 j = M.2.2 j) ∧ ∀ x, (x < 40 * b - 40 ∨ 40 * b ≤ x) → N.2.2 4 x = M.2.2 4 x
theorem cf_step {M N : MS} {b x : Nat} {v : Int32} (h : cf_ok M N b) (hx : 40 * b - 40 ≤ x) (hx2 : x < 40 * b) : cf_ok M (sF N 4 x v) b := by
  refine ⟨fun j hj => by rw [sF_f _ _ _ _ hj]; exact h.1 j hj, fun y hy => ?_⟩
  rw [sF_us, pk_un (by omega)]
  exact h.2 y hy
theorem nz_bt {a : Int32} (h : bt a 0 24) (h0 : ¬ a = 0) : bt a 1 24 := by
  have h1 := bt_iff.mp h
  have h2 : a.toInt ≠ 0 := fun z => h0 ((i32_eq _ 0).mpr z)
  exact bt_iff.mpr ⟨by omega, by omega⟩
theorem cell_vp {M N : MS} {a b at_ : Int32} {i : Nat} (hC : mi_cell M) (ha : bt a 1 24) (hb : bt b 1 24) (h0 : ¬ at_ < 0) (hj : at_.toInt + i < 40) (hok : cf_ok M N b.toNatClampNeg) (c1 : N.2.2 2 a.toNatClampNeg = 3) (c2 : N.2.2 2 b.toNatClampNeg = 4) (c3 : ¬ N.2.2 4 ((((40 * a) + at_) + nI i) - 40).toNatClampNeg ≤ 0) : vp_in (N.2.2 4 ((((40 * a) + at_) + nI i) - 40).toNatClampNeg - 1) 20 := by
  obtain ⟨a1, a2⟩ := bt_iff.mp ha
  obtain ⟨b1, b2⟩ := bt_iff.mp hb
  have e1 : a.toNatClampNeg = a.toInt.toNat := rfl
  have e2 : b.toNatClampNeg = b.toInt.toNat := rfl
  have e3 : at_.toNatClampNeg = at_.toInt.toNat := rfl
  have hs := hok.1 2 (by decide)
  rw [hs] at c1 c2
  have hne : a.toNatClampNeg ≠ b.toNatClampNeg := fun z => by rw [z, c2] at c1; exact absurd c1 (by decide)
  rw [i32_lt] at h0
  have e0 : (0 : Int32).toInt = 0 := rfl
  have hcl := ixcl ha (by rw [i32_lt]; exact h0) hj
  rw [hcl] at c3 ⊢
  rw [hok.2 _ (by omega)] at c3 ⊢
  have hv := bt_iff.mp (hC a.toNatClampNeg (at_.toNatClampNeg + i) (by omega) (by omega) (by omega) (by rw [c1]; decide))
  rw [i32_le] at c3
  have h5 := ti_sub (a := M.2.2 4 (40 * a.toNatClampNeg + (at_.toNatClampNeg + i) - 40)) (b := 1) (y := 1) rfl rfl (by omega)
  exact vp_in_iff.mpr ⟨by omega, by omega⟩
set_option maxRecDepth 100000 in
set_option maxHeartbeats 4000000 in
theorem kX11_copy (G : GG) (l : Launch) (q : Nat → Nat) (M : MS) (hq : mInj q) (hR : mi_row M) (hS : mi_size M) (hC : mi_cell M) (r at_ sr to_ n : Int32) : MC G l yX11_copy cX11_copy 10 ((Option.some .int)) ({ frames := 2, cells := 0, slots := 0, locals := 45 } : Room) [.ref (q 0), .int r, .int at_, .int sr, .int to_, .int n] (mw G q M) (fun v w' => v = some (.int (mo_copy M r at_ sr to_ n).1) ∧ w' = mw G q (mo_copy M r at_ sr to_ n).2) := by
  refine mc_int (by decide) (Nat.le_of_ble_eq_true rfl) rfl rfl ?_
  intro p e s m args below meth c A H0 Q X hnm RTN
  have X : Cx G p s m args meth c A H0 cX11_copy 10 RX11 := X
  refine aw_aload_n X dX11_copy_0 rfl rfl ?_
  refine aw_iconst X dX11_copy_1 ci_0 ?_
  refine am_put X 0 (M' := sI _ 0 _) (Nat.le_of_ble_eq_true rfl) fl_X11_1 rfl rfl (rfl) (rfl) (mf_0 _ _ _) rfl dX11_copy_2 ?_
  refine aw_iload_n X dX11_copy_5 rfl rfl ?_
  refine aw_callS X (kX11_isRow _ _ _ _) okm_X11_isRow ml_X11_29 st_X11_isRow rfl rfl (Nat.le_of_ble_eq_true rfl) ⟨Nat.le_of_ble_eq_true rfl, Nat.le_of_ble_eq_true rfl, Nat.le_of_ble_eq_true rfl, Nat.le_of_ble_eq_true rfl⟩ dX11_copy_6 (fun v w2 hp => ?_)
  obtain ⟨rfl, rfl⟩ := hp
  refine aw_if_eq (tgt := 19) X dX11_copy_9 rfl (fun c9 => ?_) (fun c9 => ?_)
  · rw [bI_0] at c9
    refine aw_bipush X dX11_copy_19 cb_m2 ?_
    refine RTN (some (.int _)) _ _ _ _ _ dX11_copy_21 (⟨_, rfl⟩) (Nat.le_of_ble_eq_true rfl) (Nat.le_of_ble_eq_true rfl) ?_
    first | (constructor <;> ((try simp only [mo_copy, c9, if_true, if_false, not_true_eq_false, not_false_eq_true, and_self, true_and, and_true, false_and, and_false, or_true, true_or, or_false, false_or, reduceCtorEq, ne_eq, va_us, pk_us]); (try with_reducible rfl); done)) | (clear RTN X; constructor <;> ((try simp_all only [mo_copy, if_true, if_false, not_true_eq_false, not_false_eq_true, and_self, true_and, and_true, false_and, and_false, or_true, true_or, or_false, false_or, reduceCtorEq, ne_eq, va_us, pk_us]); (try with_reducible rfl); done)) | (constructor <;> ((try simp only [mo_copy, c9, if_true, if_false, not_true_eq_false, not_false_eq_true, and_self, true_and, and_true, false_and, and_false, or_true, true_or, or_false, false_or, reduceCtorEq, ne_eq, va_us, pk_us]); (try rfl); done))
  · rw [bI_n0] at c9
    refine aw_iload_n X dX11_copy_12 rfl rfl ?_
    refine aw_callS X (kX11_isRow _ _ _ _) okm_X11_isRow ml_X11_29 st_X11_isRow rfl rfl (Nat.le_of_ble_eq_true rfl) ⟨Nat.le_of_ble_eq_true rfl, Nat.le_of_ble_eq_true rfl, Nat.le_of_ble_eq_true rfl, Nat.le_of_ble_eq_true rfl⟩ dX11_copy_13 (fun v w2 hp => ?_)
    obtain ⟨rfl, rfl⟩ := hp
    refine aw_if_ne (tgt := 22) X dX11_copy_16 rfl (fun c16 => ?_) (fun c16 => ?_)
    · rw [bI_n0] at c16
      refine aw_aload_n X dX11_copy_22 rfl rfl ?_
      refine am_get X 1 (Nat.le_of_ble_eq_true rfl) fl_X11_16 rfl rfl dX11_copy_23 ?_
      refine aw_iload_n X dX11_copy_26 rfl rfl ?_
      refine am_ald X 1 _ (M.2.2 1) hq (by decide) rfl rfl rfl (bt_vp (c9) (by decide) (by decide)) dX11_copy_27 ?_
      refine aw_istore (lv' := [(6, _), (0, _), (1, _), (2, _), (3, _), (4, _), (5, _)]) X dX11_copy_28 (by decide) rfl ?_
      refine aw_aload_n X dX11_copy_30 rfl rfl ?_
      refine am_get X 1 (Nat.le_of_ble_eq_true rfl) fl_X11_16 rfl rfl dX11_copy_31 ?_
      refine aw_iload_n X dX11_copy_34 rfl rfl ?_
      refine am_ald X 1 _ (M.2.2 1) hq (by decide) rfl rfl rfl (bt_vp (c16) (by decide) (by decide)) dX11_copy_35 ?_
      refine aw_istore (lv' := [(7, _), (6, _), (0, _), (1, _), (2, _), (3, _), (4, _), (5, _)]) X dX11_copy_36 (by decide) rfl ?_
      refine aw_iload X dX11_copy_38 rfl ?_
      refine aw_if_eq (tgt := 48) X dX11_copy_40 rfl (fun c40 => ?_) (fun c40 => ?_)
      · refine aw_aload_n X dX11_copy_48 rfl rfl ?_
        refine aw_iconst X dX11_copy_49 ci_1 ?_
        refine aw_callV X (kX11_fails _ _ _ _ hq _) okm_X11_fails okX11 mw_0 ml_X11_35 im_X11_fails se_X11_X11_fails rfl rfl (Nat.le_of_ble_eq_true rfl) ⟨Nat.le_of_ble_eq_true rfl, Nat.le_of_ble_eq_true rfl, Nat.le_of_ble_eq_true rfl, Nat.le_of_ble_eq_true rfl⟩ dX11_copy_50 (fun v w2 hp => ?_)
        obtain ⟨rfl, rfl⟩ := hp
        refine RTN (some (.int _)) _ _ _ _ _ dX11_copy_53 (⟨_, rfl⟩) (Nat.le_of_ble_eq_true rfl) (Nat.le_of_ble_eq_true rfl) ?_
        first | (constructor <;> ((try simp only [mo_copy, c9, c16, (eq_true c40), if_true, if_false, not_true_eq_false, not_false_eq_true, and_self, true_and, and_true, false_and, and_false, or_true, true_or, or_false, false_or, reduceCtorEq, ne_eq, va_us, pk_us]); (try with_reducible rfl); done)) | (clear RTN X; constructor <;> ((try simp_all only [mo_copy, if_true, if_false, not_true_eq_false, not_false_eq_true, and_self, true_and, and_true, false_and, and_false, or_true, true_or, or_false, false_or, reduceCtorEq, ne_eq, va_us, pk_us]); (try with_reducible rfl); done)) | (constructor <;> ((try simp only [mo_copy, c9, c16, (eq_true c40), if_true, if_false, not_true_eq_false, not_false_eq_true, and_self, true_and, and_true, false_and, and_false, or_true, true_or, or_false, false_or, reduceCtorEq, ne_eq, va_us, pk_us]); (try rfl); done))
      · refine aw_iload X dX11_copy_43 rfl ?_
        refine aw_if_ne (tgt := 54) X dX11_copy_45 rfl (fun c45 => ?_) (fun c45 => ?_)
        · refine aw_aload_n X dX11_copy_54 rfl rfl ?_
          refine am_get X 2 (Nat.le_of_ble_eq_true rfl) fl_X11_43 rfl rfl dX11_copy_55 ?_
          refine aw_iload X dX11_copy_58 rfl ?_
          refine am_ald X 2 _ (M.2.2 2) hq (by decide) rfl rfl rfl (bt_vp (hR _ (cl_lt c9 (by decide) (by decide))) (by decide) (by decide)) dX11_copy_60 ?_
          refine aw_aload_n X dX11_copy_61 rfl rfl ?_
          refine am_get X 2 (Nat.le_of_ble_eq_true rfl) fl_X11_43 rfl rfl dX11_copy_62 ?_
          refine aw_iload X dX11_copy_65 rfl ?_
          refine am_ald X 2 _ (M.2.2 2) hq (by decide) rfl rfl rfl (bt_vp (hR _ (cl_lt c16 (by decide) (by decide))) (by decide) (by decide)) dX11_copy_67 ?_
          refine aw_icmp_eq (tgt := 99) X dX11_copy_68 rfl (fun c68 => ?_) (fun c68 => ?_)
          · refine aw_iload_n X dX11_copy_99 rfl rfl ?_
            refine aw_if_lt (tgt := 150) X dX11_copy_100 rfl (fun c100 => ?_) (fun c100 => ?_)
            · refine aw_aload_n X dX11_copy_150 rfl rfl ?_
              refine aw_iconst X dX11_copy_151 ci_3 ?_
              refine aw_callV X (kX11_fails _ _ _ _ hq _) okm_X11_fails okX11 mw_0 ml_X11_35 im_X11_fails se_X11_X11_fails rfl rfl (Nat.le_of_ble_eq_true rfl) ⟨Nat.le_of_ble_eq_true rfl, Nat.le_of_ble_eq_true rfl, Nat.le_of_ble_eq_true rfl, Nat.le_of_ble_eq_true rfl⟩ dX11_copy_152 (fun v w2 hp => ?_)
              obtain ⟨rfl, rfl⟩ := hp
              refine RTN (some (.int _)) _ _ _ _ _ dX11_copy_155 (⟨_, rfl⟩) (Nat.le_of_ble_eq_true rfl) (Nat.le_of_ble_eq_true rfl) ?_
              first | (constructor <;> ((try simp only [mo_copy, c9, c16, c40, c45, (eq_true c68), c100, if_true, if_false, not_true_eq_false, not_false_eq_true, and_self, true_and, and_true, false_and, and_false, or_true, true_or, or_false, false_or, reduceCtorEq, ne_eq, va_us, pk_us]); (try with_reducible rfl); done)) | (clear RTN X; constructor <;> ((try simp_all only [mo_copy, if_true, if_false, not_true_eq_false, not_false_eq_true, and_self, true_and, and_true, false_and, and_false, or_true, true_or, or_false, false_or, reduceCtorEq, ne_eq, va_us, pk_us]); (try with_reducible rfl); done)) | (constructor <;> ((try simp only [mo_copy, c9, c16, c40, c45, (eq_true c68), c100, if_true, if_false, not_true_eq_false, not_false_eq_true, and_self, true_and, and_true, false_and, and_false, or_true, true_or, or_false, false_or, reduceCtorEq, ne_eq, va_us, pk_us]); (try rfl); done))
            · refine aw_iload X dX11_copy_103 rfl ?_
              refine aw_if_lt (tgt := 150) X dX11_copy_105 rfl (fun c105 => ?_) (fun c105 => ?_)
              · refine aw_aload_n X dX11_copy_150 rfl rfl ?_
                refine aw_iconst X dX11_copy_151 ci_3 ?_
                refine aw_callV X (kX11_fails _ _ _ _ hq _) okm_X11_fails okX11 mw_0 ml_X11_35 im_X11_fails se_X11_X11_fails rfl rfl (Nat.le_of_ble_eq_true rfl) ⟨Nat.le_of_ble_eq_true rfl, Nat.le_of_ble_eq_true rfl, Nat.le_of_ble_eq_true rfl, Nat.le_of_ble_eq_true rfl⟩ dX11_copy_152 (fun v w2 hp => ?_)
                obtain ⟨rfl, rfl⟩ := hp
                refine RTN (some (.int _)) _ _ _ _ _ dX11_copy_155 (⟨_, rfl⟩) (Nat.le_of_ble_eq_true rfl) (Nat.le_of_ble_eq_true rfl) ?_
                first | (constructor <;> ((try simp only [mo_copy, c9, c16, c40, c45, (eq_true c68), c100, c105, if_true, if_false, not_true_eq_false, not_false_eq_true, and_self, true_and, and_true, false_and, and_false, or_true, true_or, or_false, false_or, reduceCtorEq, ne_eq, va_us, pk_us]); (try with_reducible rfl); done)) | (clear RTN X; constructor <;> ((try simp_all only [mo_copy, if_true, if_false, not_true_eq_false, not_false_eq_true, and_self, true_and, and_true, false_and, and_false, or_true, true_or, or_false, false_or, reduceCtorEq, ne_eq, va_us, pk_us]); (try with_reducible rfl); done)) | (constructor <;> ((try simp only [mo_copy, c9, c16, c40, c45, (eq_true c68), c100, c105, if_true, if_false, not_true_eq_false, not_false_eq_true, and_self, true_and, and_true, false_and, and_false, or_true, true_or, or_false, false_or, reduceCtorEq, ne_eq, va_us, pk_us]); (try rfl); done))
              · refine aw_iload X dX11_copy_108 rfl ?_
                refine aw_if_lt (tgt := 150) X dX11_copy_110 rfl (fun c110 => ?_) (fun c110 => ?_)
                · refine aw_aload_n X dX11_copy_150 rfl rfl ?_
                  refine aw_iconst X dX11_copy_151 ci_3 ?_
                  refine aw_callV X (kX11_fails _ _ _ _ hq _) okm_X11_fails okX11 mw_0 ml_X11_35 im_X11_fails se_X11_X11_fails rfl rfl (Nat.le_of_ble_eq_true rfl) ⟨Nat.le_of_ble_eq_true rfl, Nat.le_of_ble_eq_true rfl, Nat.le_of_ble_eq_true rfl, Nat.le_of_ble_eq_true rfl⟩ dX11_copy_152 (fun v w2 hp => ?_)
                  obtain ⟨rfl, rfl⟩ := hp
                  refine RTN (some (.int _)) _ _ _ _ _ dX11_copy_155 (⟨_, rfl⟩) (Nat.le_of_ble_eq_true rfl) (Nat.le_of_ble_eq_true rfl) ?_
                  first | (constructor <;> ((try simp only [mo_copy, c9, c16, c40, c45, (eq_true c68), c100, c105, c110, if_true, if_false, not_true_eq_false, not_false_eq_true, and_self, true_and, and_true, false_and, and_false, or_true, true_or, or_false, false_or, reduceCtorEq, ne_eq, va_us, pk_us]); (try with_reducible rfl); done)) | (clear RTN X; constructor <;> ((try simp_all only [mo_copy, if_true, if_false, not_true_eq_false, not_false_eq_true, and_self, true_and, and_true, false_and, and_false, or_true, true_or, or_false, false_or, reduceCtorEq, ne_eq, va_us, pk_us]); (try with_reducible rfl); done)) | (constructor <;> ((try simp only [mo_copy, c9, c16, c40, c45, (eq_true c68), c100, c105, c110, if_true, if_false, not_true_eq_false, not_false_eq_true, and_self, true_and, and_true, false_and, and_false, or_true, true_or, or_false, false_or, reduceCtorEq, ne_eq, va_us, pk_us]); (try rfl); done))
                · refine aw_iload_n X dX11_copy_113 rfl rfl ?_
                  refine aw_i2l X dX11_copy_114 ?_
                  refine aw_iload X dX11_copy_115 rfl ?_
                  refine aw_i2l X dX11_copy_117 ?_
                  refine aw_ladd X dX11_copy_118 ?_
                  refine aw_aload_n X dX11_copy_119 rfl rfl ?_
                  refine am_get X 3 (Nat.le_of_ble_eq_true rfl) fl_X11_46 rfl rfl dX11_copy_120 ?_
                  refine aw_iload X dX11_copy_123 rfl ?_
                  refine am_ald X 3 _ (M.2.2 3) hq (by decide) rfl rfl rfl (bt_vp (hR _ (cl_lt c9 (by decide) (by decide))) (by decide) (by decide)) dX11_copy_125 ?_
                  refine aw_i2l X dX11_copy_126 ?_
                  refine aw_lcmp X dX11_copy_127 ?_
                  refine aw_if_gt (tgt := 150) X dX11_copy_128 rfl (fun c128 => ?_) (fun c128 => ?_)
                  · rw [lg_cmp_gt] at c128
                    refine aw_aload_n X dX11_copy_150 rfl rfl ?_
                    refine aw_iconst X dX11_copy_151 ci_3 ?_
                    refine aw_callV X (kX11_fails _ _ _ _ hq _) okm_X11_fails okX11 mw_0 ml_X11_35 im_X11_fails se_X11_X11_fails rfl rfl (Nat.le_of_ble_eq_true rfl) ⟨Nat.le_of_ble_eq_true rfl, Nat.le_of_ble_eq_true rfl, Nat.le_of_ble_eq_true rfl, Nat.le_of_ble_eq_true rfl⟩ dX11_copy_152 (fun v w2 hp => ?_)
                    obtain ⟨rfl, rfl⟩ := hp
                    refine RTN (some (.int _)) _ _ _ _ _ dX11_copy_155 (⟨_, rfl⟩) (Nat.le_of_ble_eq_true rfl) (Nat.le_of_ble_eq_true rfl) ?_
                    first | (constructor <;> ((try simp only [mo_copy, c9, c16, c40, c45, (eq_true c68), c100, c105, c110, c128, if_true, if_false, not_true_eq_false, not_false_eq_true, and_self, true_and, and_true, false_and, and_false, or_true, true_or, or_false, false_or, reduceCtorEq, ne_eq, va_us, pk_us]); (try with_reducible rfl); done)) | (clear RTN X; constructor <;> ((try simp_all only [mo_copy, if_true, if_false, not_true_eq_false, not_false_eq_true, and_self, true_and, and_true, false_and, and_false, or_true, true_or, or_false, false_or, reduceCtorEq, ne_eq, va_us, pk_us]); (try with_reducible rfl); done)) | (constructor <;> ((try simp only [mo_copy, c9, c16, c40, c45, (eq_true c68), c100, c105, c110, c128, if_true, if_false, not_true_eq_false, not_false_eq_true, and_self, true_and, and_true, false_and, and_false, or_true, true_or, or_false, false_or, reduceCtorEq, ne_eq, va_us, pk_us]); (try rfl); done))
                  · rw [lg_cmp_gt] at c128
                    refine aw_iload X dX11_copy_131 rfl ?_
                    refine aw_i2l X dX11_copy_133 ?_
                    refine aw_iload X dX11_copy_134 rfl ?_
                    refine aw_i2l X dX11_copy_136 ?_
                    refine aw_ladd X dX11_copy_137 ?_
                    refine aw_aload_n X dX11_copy_138 rfl rfl ?_
                    refine am_get X 3 (Nat.le_of_ble_eq_true rfl) fl_X11_46 rfl rfl dX11_copy_139 ?_
                    refine aw_iload X dX11_copy_142 rfl ?_
                    refine am_ald X 3 _ (M.2.2 3) hq (by decide) rfl rfl rfl (bt_vp (hR _ (cl_lt c16 (by decide) (by decide))) (by decide) (by decide)) dX11_copy_144 ?_
                    refine aw_i2l X dX11_copy_145 ?_
                    refine aw_lcmp X dX11_copy_146 ?_
                    refine aw_if_le (tgt := 156) X dX11_copy_147 rfl (fun c147 => ?_) (fun c147 => ?_)
                    · rw [lg_cmp_le] at c147
                      have ha : bt (M.2.2 1 r.toNatClampNeg) 1 24 := nz_bt (hR _ (cl_lt c9 (by decide) (by decide))) c40
                      have hb : bt (M.2.2 1 sr.toNatClampNeg) 1 24 := nz_bt (hR _ (cl_lt c16 (by decide) (by decide))) c45
                      have hza := bt_iff.mp (hS (M.2.2 1 r.toNatClampNeg).toNatClampNeg (cl_lt ha (by decide) (by decide)))
                      have hzb := bt_iff.mp (hS (M.2.2 1 sr.toNatClampNeg).toNatClampNeg (cl_lt hb (by decide) (by decide)))
                      have hn0 : 0 ≤ n.toInt := by rw [i32_lt] at c110; have e0 : (0 : Int32).toInt = 0 := rfl; omega
                      have ha0 : 0 ≤ at_.toInt := by rw [i32_lt] at c100; have e0 : (0 : Int32).toInt = 0 := rfl; omega
                      have hb0 : 0 ≤ to_.toInt := by rw [i32_lt] at c105; have e0 : (0 : Int32).toInt = 0 := rfl; omega
                      have hla : at_.toInt + n.toInt ≤ (M.2.2 3 (M.2.2 1 r.toNatClampNeg).toNatClampNeg).toInt := by rw [i64_lt, add64, i64_32] at c128; omega
                      have hlb : to_.toInt + n.toInt ≤ (M.2.2 3 (M.2.2 1 sr.toNatClampNeg).toNatClampNeg).toInt := by rw [i64_le, add64, i64_32] at c147; exact c147
                      obtain ⟨N, hNe, hNi⟩ : ∃ N : Nat, n = nI N ∧ (N : Int) = n.toInt := ⟨n.toNatClampNeg, (nI_cl hn0).symm, cl_toInt hn0⟩
                      have hNc : n.toNatClampNeg = N := by have h := cl_toInt hn0; omega
                      have hb1 : 1 ≤ (M.2.2 1 sr.toNatClampNeg).toNatClampNeg := by have h1 := bt_iff.mp hb; have h2 := cl_toInt (x := (M.2.2 1 sr.toNatClampNeg)) (by omega); omega
                      have LB : (M.2.2 1 r.toNatClampNeg) = (M.2.2 1 sr.toNatClampNeg) → ¬ to_ ≤ at_ → ∀ (nn t : Nat) (x : Int32), x = nI (N - t) - 1 → t ≤ N → N + 1 ≤ t + nn → AW G p l e ({ frames := 2, cells := 0, slots := 0, locals := 45 } : Room) s m args below meth c 10 A H0 Q (mw G q (mo_cb (sI M 0 0) (M.2.2 1 r.toNatClampNeg) at_ (M.2.2 1 sr.toNatClampNeg) to_ N t)) 0 0 175 [(8, .int x), (7, .int (M.2.2 1 sr.toNatClampNeg)), (6, .int (M.2.2 1 r.toNatClampNeg)), (0, .ref (q 0)), (1, .int r), (2, .int at_), (3, .int sr), (4, .int to_), (5, .int n)] [] := by
                        intro c160 c166 nn
                        induction nn with
                        | zero => intro t x hx h1 h2; exact absurd h2 (by omega)
                        | succ nn ih =>
                          intro t x hx h1 h2
                          refine aw_iload X dX11_copy_175 rfl ?_
                          refine aw_if_lt (tgt := 223) X dX11_copy_177 rfl (fun c177 => ?_) (fun c177 => ?_)
                          · have h9 : t = N := by
                              rcases Nat.lt_or_ge t N with h | h
                              · exact absurd (by rw [hx, show N - t = (N - 1 - t) + 1 by omega, nI_pred] at c177; exact c177) (nI_pos (by omega))
                              · omega
                            refine aw_iconst X dX11_copy_223 ci_1 ?_
                            refine RTN (some (.int _)) _ _ _ _ _ dX11_copy_224 (⟨_, rfl⟩) (Nat.le_of_ble_eq_true rfl) (Nat.le_of_ble_eq_true rfl) ?_
                            subst h9
                            constructor <;> simp only [mo_copy, c9, c16, c40, c45, (eq_true c68), c100, c105, c110, c128, c147, (eq_true c160), c166, hNc, if_true, if_false, not_true_eq_false, not_false_eq_true, and_self, true_and, and_true, false_and, and_false, or_true, true_or, or_false, false_or, reduceCtorEq, ne_eq, va_us, pk_us]
                          · have h9 : t < N := by
                              rcases Nat.lt_or_ge t N with h | h
                              · exact h
                              · exact absurd (by rw [hx, show N - t = 0 by omega]; decide) c177
                            have hx2 : x = nI (N - 1 - t) := by rw [hx, show N - t = (N - 1 - t) + 1 by omega]; exact nI_pred _
                            clear hx
                            subst hx2
                            refine aw_aload_n X dX11_copy_180 rfl rfl ?_
                            refine am_get X 4 (Nat.le_of_ble_eq_true rfl) fl_X11_49 rfl rfl dX11_copy_181 ?_
                            refine aw_bipush X dX11_copy_184 cb_40 ?_
                            refine aw_iload X dX11_copy_186 rfl ?_
                            refine aw_imul X dX11_copy_188 ?_
                            refine aw_iload X dX11_copy_189 rfl ?_
                            refine aw_iadd X dX11_copy_191 ?_
                            refine aw_iload X dX11_copy_192 rfl ?_
                            refine aw_iadd X dX11_copy_194 ?_
                            refine aw_bipush X dX11_copy_195 cb_40 ?_
                            refine aw_isub X dX11_copy_197 ?_
                            refine aw_aload_n X dX11_copy_198 rfl rfl ?_
                            refine am_get X 4 (Nat.le_of_ble_eq_true rfl) fl_X11_49 rfl rfl dX11_copy_199 ?_
                            refine aw_bipush X dX11_copy_202 cb_40 ?_
                            refine aw_iload X dX11_copy_204 rfl ?_
                            refine aw_imul X dX11_copy_206 ?_
                            refine aw_iload_n X dX11_copy_207 rfl rfl ?_
                            refine aw_iadd X dX11_copy_208 ?_
                            refine aw_iload X dX11_copy_209 rfl ?_
                            refine aw_iadd X dX11_copy_211 ?_
                            refine aw_bipush X dX11_copy_212 cb_40 ?_
                            refine aw_isub X dX11_copy_214 ?_
                            refine am_ald X 4 _ ((mo_cb (sI M 0 0) (M.2.2 1 r.toNatClampNeg) at_ (M.2.2 1 sr.toNatClampNeg) to_ N t).2.2 4) hq (by decide) rfl rfl rfl (ixcv ha c100 (by omega)) dX11_copy_215 ?_
                            refine am_ast X 4 _ hq (by decide) rfl rfl (ixcv hb c105 (by omega)) dX11_copy_216 ?_
                            refine aw_iinc (lv' := [(8, _), (7, _), (6, _), (0, _), (1, _), (2, _), (3, _), (4, _), (5, _)]) X dX11_copy_217 rfl (iinc_m1 _) (by decide) rfl ?_
                            refine aw_goto (tgt := 175) X dX11_copy_220 rfl ?_
                            refine aw_lv [0, 1, 2, 3, 4, 5, 6, 7, 8] rfl ?_
                            exact ih (t + 1) _ (by rw [show N - (t + 1) = N - 1 - t by omega]; exact (Int32.sub_eq_add_neg _ 1).symm) (by omega) (by omega)
                      have LF : (mo_copy M r at_ sr to_ n = (mo_cf (M.2.2 1 r.toNatClampNeg) at_ (M.2.2 1 sr.toNatClampNeg) to_ N 0 (sI M 0 0))) → ∀ (nn i : Nat) (x : Int32) (N2 : MS), x = nI i → i ≤ N → cf_ok M N2 (M.2.2 1 sr.toNatClampNeg).toNatClampNeg → mo_cf (M.2.2 1 r.toNatClampNeg) at_ (M.2.2 1 sr.toNatClampNeg) to_ (N - i) i N2 = (mo_cf (M.2.2 1 r.toNatClampNeg) at_ (M.2.2 1 sr.toNatClampNeg) to_ N 0 (sI M 0 0)) → N + 1 ≤ i + nn → AW G p l e ({ frames := 2, cells := 0, slots := 0, locals := 45 } : Room) s m args below meth c 10 A H0 Q (mw G q N2) 0 0 228 [(8, .int x), (7, .int (M.2.2 1 sr.toNatClampNeg)), (6, .int (M.2.2 1 r.toNatClampNeg)), (0, .ref (q 0)), (1, .int r), (2, .int at_), (3, .int sr), (4, .int to_), (5, .int n)] [] := by
                        intro htot nn
                        induction nn with
                        | zero => intro i x N2 hx h1 hok hcc h2; exact absurd h2 (by omega)
                        | succ nn ih =>
                          intro i x N2 hx h1 hok hcc h2
                          subst hx
                          refine aw_iload X dX11_copy_228 rfl ?_
                          refine aw_iload X dX11_copy_230 rfl ?_
                          refine aw_icmp_ge (tgt := 327) X dX11_copy_232 rfl (fun c232 => ?_) (fun c232 => ?_)
                          · have c232 : nI N ≤ nI i := by rw [← hNe]; exact c232
                            have h9 : i = N := by have := (nI_leI (a := N) (b := i) (by omega) (by omega)).mp c232; omega
                            refine aw_iconst X dX11_copy_327 ci_1 ?_
                            refine RTN (some (.int _)) _ _ _ _ _ dX11_copy_328 (⟨_, rfl⟩) (Nat.le_of_ble_eq_true rfl) (Nat.le_of_ble_eq_true rfl) ?_
                            rw [htot, ← hcc]
                            rw [h9, Nat.sub_self]
                            exact ⟨rfl, rfl⟩
                          · have c232 : ¬ nI N ≤ nI i := by rw [← hNe]; exact c232
                            have h9 : i < N := Nat.lt_of_not_le (fun h => c232 ((nI_leI (a := N) (b := i) (by omega) (by omega)).mpr h))
                            refine aw_aload_n X dX11_copy_235 rfl rfl ?_
                            refine am_get X 4 (Nat.le_of_ble_eq_true rfl) fl_X11_49 rfl rfl dX11_copy_236 ?_
                            refine aw_bipush X dX11_copy_239 cb_40 ?_
                            refine aw_iload X dX11_copy_241 rfl ?_
                            refine aw_imul X dX11_copy_243 ?_
                            refine aw_iload_n X dX11_copy_244 rfl rfl ?_
                            refine aw_iadd X dX11_copy_245 ?_
                            refine aw_iload X dX11_copy_246 rfl ?_
                            refine aw_iadd X dX11_copy_248 ?_
                            refine aw_bipush X dX11_copy_249 cb_40 ?_
                            refine aw_isub X dX11_copy_251 ?_
                            refine am_ald X 4 _ (N2.2.2 4) hq (by decide) rfl rfl rfl (ixcv ha c100 (by omega)) dX11_copy_252 ?_
                            refine aw_istore (lv' := [(9, _), (8, _), (7, _), (6, _), (0, _), (1, _), (2, _), (3, _), (4, _), (5, _)]) X dX11_copy_253 (by decide) rfl ?_
                            refine aw_aload_n X dX11_copy_255 rfl rfl ?_
                            refine am_get X 2 (Nat.le_of_ble_eq_true rfl) fl_X11_43 rfl rfl dX11_copy_256 ?_
                            refine aw_iload X dX11_copy_259 rfl ?_
                            refine am_ald X 2 _ (N2.2.2 2) hq (by decide) rfl rfl rfl (bt_vp ha (by decide) (by decide)) dX11_copy_261 ?_
                            refine aw_iconst X dX11_copy_262 ci_3 ?_
                            refine aw_icmp_ne (tgt := 300) X dX11_copy_263 rfl (fun c263 => ?_) (fun c263 => ?_)
                            · refine aw_aload_n X dX11_copy_300 rfl rfl ?_
                              refine am_get X 4 (Nat.le_of_ble_eq_true rfl) fl_X11_49 rfl rfl dX11_copy_301 ?_
                              refine aw_bipush X dX11_copy_304 cb_40 ?_
                              refine aw_iload X dX11_copy_306 rfl ?_
                              refine aw_imul X dX11_copy_308 ?_
                              refine aw_iload X dX11_copy_309 rfl ?_
                              refine aw_iadd X dX11_copy_311 ?_
                              refine aw_iload X dX11_copy_312 rfl ?_
                              refine aw_iadd X dX11_copy_314 ?_
                              refine aw_bipush X dX11_copy_315 cb_40 ?_
                              refine aw_isub X dX11_copy_317 ?_
                              refine aw_iload X dX11_copy_318 rfl ?_
                              refine am_ast X 4 _ hq (by decide) rfl rfl (ixcv hb c105 (by omega)) dX11_copy_320 ?_
                              refine aw_iinc (lv' := [(8, _), (9, _), (7, _), (6, _), (0, _), (1, _), (2, _), (3, _), (4, _), (5, _)]) X dX11_copy_321 rfl (iinc_1 _) (by decide) rfl ?_
                              refine aw_goto (tgt := 228) X dX11_copy_324 rfl ?_
                              refine aw_lv [0, 2, 3, 4, 5, 6, 7, 8, 9] rfl ?_
                              refine ih (i + 1) _ _ (nI_1 i) (by omega) (cf_step hok ?_ ?_) ?_ (by omega)
                              · rw [ixcl hb c105 (by omega)]; omega
                              · rw [ixcl hb c105 (by omega)]; have := cl_toInt hb0; omega
                              · rw [← hcc, show N - i = (N - (i + 1)) + 1 by omega]
                                simp [mo_cf, mo_cs, mo_cv, c263]
                            · refine aw_aload_n X dX11_copy_266 rfl rfl ?_
                              refine am_get X 2 (Nat.le_of_ble_eq_true rfl) fl_X11_43 rfl rfl dX11_copy_267 ?_
                              refine aw_iload X dX11_copy_270 rfl ?_
                              refine am_ald X 2 _ (N2.2.2 2) hq (by decide) rfl rfl rfl (bt_vp hb (by decide) (by decide)) dX11_copy_272 ?_
                              refine aw_iconst X dX11_copy_273 ci_4 ?_
                              refine aw_icmp_ne (tgt := 300) X dX11_copy_274 rfl (fun c274 => ?_) (fun c274 => ?_)
                              · refine aw_aload_n X dX11_copy_300 rfl rfl ?_
                                refine am_get X 4 (Nat.le_of_ble_eq_true rfl) fl_X11_49 rfl rfl dX11_copy_301 ?_
                                refine aw_bipush X dX11_copy_304 cb_40 ?_
                                refine aw_iload X dX11_copy_306 rfl ?_
                                refine aw_imul X dX11_copy_308 ?_
                                refine aw_iload X dX11_copy_309 rfl ?_
                                refine aw_iadd X dX11_copy_311 ?_
                                refine aw_iload X dX11_copy_312 rfl ?_
                                refine aw_iadd X dX11_copy_314 ?_
                                refine aw_bipush X dX11_copy_315 cb_40 ?_
                                refine aw_isub X dX11_copy_317 ?_
                                refine aw_iload X dX11_copy_318 rfl ?_
                                refine am_ast X 4 _ hq (by decide) rfl rfl (ixcv hb c105 (by omega)) dX11_copy_320 ?_
                                refine aw_iinc (lv' := [(8, _), (9, _), (7, _), (6, _), (0, _), (1, _), (2, _), (3, _), (4, _), (5, _)]) X dX11_copy_321 rfl (iinc_1 _) (by decide) rfl ?_
                                refine aw_goto (tgt := 228) X dX11_copy_324 rfl ?_
                                refine aw_lv [0, 2, 3, 4, 5, 6, 7, 8, 9] rfl ?_
                                refine ih (i + 1) _ _ (nI_1 i) (by omega) (cf_step hok ?_ ?_) ?_ (by omega)
                                · rw [ixcl hb c105 (by omega)]; omega
                                · rw [ixcl hb c105 (by omega)]; have := cl_toInt hb0; omega
                                · rw [← hcc, show N - i = (N - (i + 1)) + 1 by omega]
                                  simp [mo_cf, mo_cs, mo_cv, (eq_true c263), c274]
                              · refine aw_iload X dX11_copy_277 rfl ?_
                                refine aw_if_le (tgt := 300) X dX11_copy_279 rfl (fun c279 => ?_) (fun c279 => ?_)
                                · refine aw_aload_n X dX11_copy_300 rfl rfl ?_
                                  refine am_get X 4 (Nat.le_of_ble_eq_true rfl) fl_X11_49 rfl rfl dX11_copy_301 ?_
                                  refine aw_bipush X dX11_copy_304 cb_40 ?_
                                  refine aw_iload X dX11_copy_306 rfl ?_
                                  refine aw_imul X dX11_copy_308 ?_
                                  refine aw_iload X dX11_copy_309 rfl ?_
                                  refine aw_iadd X dX11_copy_311 ?_
                                  refine aw_iload X dX11_copy_312 rfl ?_
                                  refine aw_iadd X dX11_copy_314 ?_
                                  refine aw_bipush X dX11_copy_315 cb_40 ?_
                                  refine aw_isub X dX11_copy_317 ?_
                                  refine aw_iload X dX11_copy_318 rfl ?_
                                  refine am_ast X 4 _ hq (by decide) rfl rfl (ixcv hb c105 (by omega)) dX11_copy_320 ?_
                                  refine aw_iinc (lv' := [(8, _), (9, _), (7, _), (6, _), (0, _), (1, _), (2, _), (3, _), (4, _), (5, _)]) X dX11_copy_321 rfl (iinc_1 _) (by decide) rfl ?_
                                  refine aw_goto (tgt := 228) X dX11_copy_324 rfl ?_
                                  refine aw_lv [0, 2, 3, 4, 5, 6, 7, 8, 9] rfl ?_
                                  refine ih (i + 1) _ _ (nI_1 i) (by omega) (cf_step hok ?_ ?_) ?_ (by omega)
                                  · rw [ixcl hb c105 (by omega)]; omega
                                  · rw [ixcl hb c105 (by omega)]; have := cl_toInt hb0; omega
                                  · rw [← hcc, show N - i = (N - (i + 1)) + 1 by omega]
                                    simp [mo_cf, mo_cs, mo_cv, (eq_true c263), (eq_true c274), (eq_true c279)]
                                · refine aw_aload_n X dX11_copy_282 rfl rfl ?_
                                  refine am_get X 33 (Nat.le_of_ble_eq_true rfl) fl_X11_67 rfl rfl dX11_copy_283 ?_
                                  refine aw_iload X dX11_copy_286 rfl ?_
                                  refine aw_iconst X dX11_copy_288 ci_1 ?_
                                  refine aw_isub X dX11_copy_289 ?_
                                  refine am_zld X 33 _ (N2.2.2 33) hq (by decide) rfl rfl rfl (cell_vp hC ha hb c100 (by omega) hok c263 c274 c279) dX11_copy_290 ?_
                                  refine aw_if_ne (tgt := 300) X dX11_copy_291 rfl (fun c291 => ?_) (fun c291 => ?_)
                                  · refine aw_aload_n X dX11_copy_300 rfl rfl ?_
                                    refine am_get X 4 (Nat.le_of_ble_eq_true rfl) fl_X11_49 rfl rfl dX11_copy_301 ?_
                                    refine aw_bipush X dX11_copy_304 cb_40 ?_
                                    refine aw_iload X dX11_copy_306 rfl ?_
                                    refine aw_imul X dX11_copy_308 ?_
                                    refine aw_iload X dX11_copy_309 rfl ?_
                                    refine aw_iadd X dX11_copy_311 ?_
                                    refine aw_iload X dX11_copy_312 rfl ?_
                                    refine aw_iadd X dX11_copy_314 ?_
                                    refine aw_bipush X dX11_copy_315 cb_40 ?_
                                    refine aw_isub X dX11_copy_317 ?_
                                    refine aw_iload X dX11_copy_318 rfl ?_
                                    refine am_ast X 4 _ hq (by decide) rfl rfl (ixcv hb c105 (by omega)) dX11_copy_320 ?_
                                    refine aw_iinc (lv' := [(8, _), (9, _), (7, _), (6, _), (0, _), (1, _), (2, _), (3, _), (4, _), (5, _)]) X dX11_copy_321 rfl (iinc_1 _) (by decide) rfl ?_
                                    refine aw_goto (tgt := 228) X dX11_copy_324 rfl ?_
                                    refine aw_lv [0, 2, 3, 4, 5, 6, 7, 8, 9] rfl ?_
                                    refine ih (i + 1) _ _ (nI_1 i) (by omega) (cf_step hok ?_ ?_) ?_ (by omega)
                                    · rw [ixcl hb c105 (by omega)]; omega
                                    · rw [ixcl hb c105 (by omega)]; have := cl_toInt hb0; omega
                                    · rw [← hcc, show N - i = (N - (i + 1)) + 1 by omega]
                                      simp [mo_cf, mo_cs, mo_cv, (eq_true c263), (eq_true c274), c279, c291]
                                  · refine aw_aload_n X dX11_copy_294 rfl rfl ?_
                                    refine aw_iconst X dX11_copy_295 ci_5 ?_
                                    refine aw_callV X (kX11_fails _ _ _ _ hq _) okm_X11_fails okX11 mw_0 ml_X11_35 im_X11_fails se_X11_X11_fails rfl rfl (Nat.le_of_ble_eq_true rfl) ⟨Nat.le_of_ble_eq_true rfl, Nat.le_of_ble_eq_true rfl, Nat.le_of_ble_eq_true rfl, Nat.le_of_ble_eq_true rfl⟩ dX11_copy_296 (fun v w2 hp => ?_)
                                    obtain ⟨rfl, rfl⟩ := hp
                                    refine RTN (some (.int _)) _ _ _ _ _ dX11_copy_299 (⟨_, rfl⟩) (Nat.le_of_ble_eq_true rfl) (Nat.le_of_ble_eq_true rfl) ?_
                                    rw [htot, ← hcc]
                                    rw [show N - i = (N - (i + 1)) + 1 by omega]
                                    constructor <;> simp [mo_cf, mo_cs, mo_cv, c263, c274, c279, c291]
                      refine aw_lv [0, 1, 2, 3, 4, 5, 6, 7] rfl ?_
                      refine aw_iload X dX11_copy_156 rfl ?_
                      refine aw_iload X dX11_copy_158 rfl ?_
                      refine aw_icmp_ne (tgt := 225) X dX11_copy_160 rfl (fun c160 => ?_) (fun c160 => ?_)
                      · refine aw_iconst X dX11_copy_225 ci_0 ?_
                        refine aw_istore (lv' := [(8, _), (7, _), (6, _), (0, _), (1, _), (2, _), (3, _), (4, _), (5, _)]) X dX11_copy_226 (by decide) rfl ?_
                        refine aw_lv [0, 1, 2, 3, 4, 5, 6, 7, 8] rfl ?_
                        refine LF ?_ (N + 1) 0 _ _ rfl (by omega) ⟨fun _ _ => rfl, fun _ _ => rfl⟩ (by rw [Nat.sub_zero]) (by omega)
                        simp only [mo_copy, c9, c16, c40, c45, (eq_true c68), c100, c105, c110, c128, c147, c160, hNc, if_true, if_false, not_true_eq_false, not_false_eq_true, and_self, true_and, and_true, false_and, and_false, or_true, true_or, or_false, false_or, reduceCtorEq, ne_eq, va_us, pk_us]
                      · refine aw_iload_n X dX11_copy_163 rfl rfl ?_
                        refine aw_iload X dX11_copy_164 rfl ?_
                        refine aw_icmp_ge (tgt := 225) X dX11_copy_166 rfl (fun c166 => ?_) (fun c166 => ?_)
                        · refine aw_iconst X dX11_copy_225 ci_0 ?_
                          refine aw_istore (lv' := [(8, _), (7, _), (6, _), (0, _), (1, _), (2, _), (3, _), (4, _), (5, _)]) X dX11_copy_226 (by decide) rfl ?_
                          refine aw_lv [0, 1, 2, 3, 4, 5, 6, 7, 8] rfl ?_
                          refine LF ?_ (N + 1) 0 _ _ rfl (by omega) ⟨fun _ _ => rfl, fun _ _ => rfl⟩ (by rw [Nat.sub_zero]) (by omega)
                          simp only [mo_copy, c9, c16, c40, c45, (eq_true c68), c100, c105, c110, c128, c147, (eq_true c160), (eq_true c166), hNc, if_true, if_false, not_true_eq_false, not_false_eq_true, and_self, true_and, and_true, false_and, and_false, or_true, true_or, or_false, false_or, reduceCtorEq, ne_eq, va_us, pk_us]
                        · refine aw_iload X dX11_copy_169 rfl ?_
                          refine aw_iconst X dX11_copy_171 ci_1 ?_
                          refine aw_isub X dX11_copy_172 ?_
                          refine aw_istore (lv' := [(8, _), (7, _), (6, _), (0, _), (1, _), (2, _), (3, _), (4, _), (5, _)]) X dX11_copy_173 (by decide) rfl ?_
                          refine aw_lv [0, 1, 2, 3, 4, 5, 6, 7, 8] rfl ?_
                          exact LB c160 c166 (N + 1) 0 _ (by rw [hNe]; rfl) (by omega) (by omega)
                    · rw [lg_cmp_le] at c147
                      refine aw_aload_n X dX11_copy_150 rfl rfl ?_
                      refine aw_iconst X dX11_copy_151 ci_3 ?_
                      refine aw_callV X (kX11_fails _ _ _ _ hq _) okm_X11_fails okX11 mw_0 ml_X11_35 im_X11_fails se_X11_X11_fails rfl rfl (Nat.le_of_ble_eq_true rfl) ⟨Nat.le_of_ble_eq_true rfl, Nat.le_of_ble_eq_true rfl, Nat.le_of_ble_eq_true rfl, Nat.le_of_ble_eq_true rfl⟩ dX11_copy_152 (fun v w2 hp => ?_)
                      obtain ⟨rfl, rfl⟩ := hp
                      refine RTN (some (.int _)) _ _ _ _ _ dX11_copy_155 (⟨_, rfl⟩) (Nat.le_of_ble_eq_true rfl) (Nat.le_of_ble_eq_true rfl) ?_
                      first | (constructor <;> ((try simp only [mo_copy, c9, c16, c40, c45, (eq_true c68), c100, c105, c110, c128, c147, if_true, if_false, not_true_eq_false, not_false_eq_true, and_self, true_and, and_true, false_and, and_false, or_true, true_or, or_false, false_or, reduceCtorEq, ne_eq, va_us, pk_us]); (try with_reducible rfl); done)) | (clear RTN X; constructor <;> ((try simp_all only [mo_copy, if_true, if_false, not_true_eq_false, not_false_eq_true, and_self, true_and, and_true, false_and, and_false, or_true, true_or, or_false, false_or, reduceCtorEq, ne_eq, va_us, pk_us]); (try with_reducible rfl); done)) | (constructor <;> ((try simp only [mo_copy, c9, c16, c40, c45, (eq_true c68), c100, c105, c110, c128, c147, if_true, if_false, not_true_eq_false, not_false_eq_true, and_self, true_and, and_true, false_and, and_false, or_true, true_or, or_false, false_or, reduceCtorEq, ne_eq, va_us, pk_us]); (try rfl); done))
          · refine aw_aload_n X dX11_copy_71 rfl rfl ?_
            refine am_get X 2 (Nat.le_of_ble_eq_true rfl) fl_X11_43 rfl rfl dX11_copy_72 ?_
            refine aw_iload X dX11_copy_75 rfl ?_
            refine am_ald X 2 _ (M.2.2 2) hq (by decide) rfl rfl rfl (bt_vp (hR _ (cl_lt c9 (by decide) (by decide))) (by decide) (by decide)) dX11_copy_77 ?_
            refine aw_iconst X dX11_copy_78 ci_2 ?_
            refine aw_icmp_le (tgt := 93) X dX11_copy_79 rfl (fun c79 => ?_) (fun c79 => ?_)
            · refine aw_aload_n X dX11_copy_93 rfl rfl ?_
              refine aw_iconst X dX11_copy_94 ci_5 ?_
              refine aw_callV X (kX11_fails _ _ _ _ hq _) okm_X11_fails okX11 mw_0 ml_X11_35 im_X11_fails se_X11_X11_fails rfl rfl (Nat.le_of_ble_eq_true rfl) ⟨Nat.le_of_ble_eq_true rfl, Nat.le_of_ble_eq_true rfl, Nat.le_of_ble_eq_true rfl, Nat.le_of_ble_eq_true rfl⟩ dX11_copy_95 (fun v w2 hp => ?_)
              obtain ⟨rfl, rfl⟩ := hp
              refine RTN (some (.int _)) _ _ _ _ _ dX11_copy_98 (⟨_, rfl⟩) (Nat.le_of_ble_eq_true rfl) (Nat.le_of_ble_eq_true rfl) ?_
              first | (constructor <;> ((try simp only [mo_copy, c9, c16, c40, c45, c68, c79, if_true, if_false, not_true_eq_false, not_false_eq_true, and_self, true_and, and_true, false_and, and_false, or_true, true_or, or_false, false_or, reduceCtorEq, ne_eq, va_us, pk_us]); (try with_reducible rfl); done)) | (clear RTN X; constructor <;> ((try simp_all only [mo_copy, if_true, if_false, not_true_eq_false, not_false_eq_true, and_self, true_and, and_true, false_and, and_false, or_true, true_or, or_false, false_or, reduceCtorEq, ne_eq, va_us, pk_us]); (try with_reducible rfl); done)) | (constructor <;> ((try simp only [mo_copy, c9, c16, c40, c45, c68, c79, if_true, if_false, not_true_eq_false, not_false_eq_true, and_self, true_and, and_true, false_and, and_false, or_true, true_or, or_false, false_or, reduceCtorEq, ne_eq, va_us, pk_us]); (try rfl); done))
            · refine aw_aload_n X dX11_copy_82 rfl rfl ?_
              refine am_get X 2 (Nat.le_of_ble_eq_true rfl) fl_X11_43 rfl rfl dX11_copy_83 ?_
              refine aw_iload X dX11_copy_86 rfl ?_
              refine am_ald X 2 _ (M.2.2 2) hq (by decide) rfl rfl rfl (bt_vp (hR _ (cl_lt c16 (by decide) (by decide))) (by decide) (by decide)) dX11_copy_88 ?_
              refine aw_iconst X dX11_copy_89 ci_2 ?_
              refine aw_icmp_gt (tgt := 99) X dX11_copy_90 rfl (fun c90 => ?_) (fun c90 => ?_)
              · refine aw_iload_n X dX11_copy_99 rfl rfl ?_
                refine aw_if_lt (tgt := 150) X dX11_copy_100 rfl (fun c100 => ?_) (fun c100 => ?_)
                · refine aw_aload_n X dX11_copy_150 rfl rfl ?_
                  refine aw_iconst X dX11_copy_151 ci_3 ?_
                  refine aw_callV X (kX11_fails _ _ _ _ hq _) okm_X11_fails okX11 mw_0 ml_X11_35 im_X11_fails se_X11_X11_fails rfl rfl (Nat.le_of_ble_eq_true rfl) ⟨Nat.le_of_ble_eq_true rfl, Nat.le_of_ble_eq_true rfl, Nat.le_of_ble_eq_true rfl, Nat.le_of_ble_eq_true rfl⟩ dX11_copy_152 (fun v w2 hp => ?_)
                  obtain ⟨rfl, rfl⟩ := hp
                  refine RTN (some (.int _)) _ _ _ _ _ dX11_copy_155 (⟨_, rfl⟩) (Nat.le_of_ble_eq_true rfl) (Nat.le_of_ble_eq_true rfl) ?_
                  first | (constructor <;> ((try simp only [mo_copy, c9, c16, c40, c45, c68, c79, c90, c100, if_true, if_false, not_true_eq_false, not_false_eq_true, and_self, true_and, and_true, false_and, and_false, or_true, true_or, or_false, false_or, reduceCtorEq, ne_eq, va_us, pk_us]); (try with_reducible rfl); done)) | (clear RTN X; constructor <;> ((try simp_all only [mo_copy, if_true, if_false, not_true_eq_false, not_false_eq_true, and_self, true_and, and_true, false_and, and_false, or_true, true_or, or_false, false_or, reduceCtorEq, ne_eq, va_us, pk_us]); (try with_reducible rfl); done)) | (constructor <;> ((try simp only [mo_copy, c9, c16, c40, c45, c68, c79, c90, c100, if_true, if_false, not_true_eq_false, not_false_eq_true, and_self, true_and, and_true, false_and, and_false, or_true, true_or, or_false, false_or, reduceCtorEq, ne_eq, va_us, pk_us]); (try rfl); done))
                · refine aw_iload X dX11_copy_103 rfl ?_
                  refine aw_if_lt (tgt := 150) X dX11_copy_105 rfl (fun c105 => ?_) (fun c105 => ?_)
                  · refine aw_aload_n X dX11_copy_150 rfl rfl ?_
                    refine aw_iconst X dX11_copy_151 ci_3 ?_
                    refine aw_callV X (kX11_fails _ _ _ _ hq _) okm_X11_fails okX11 mw_0 ml_X11_35 im_X11_fails se_X11_X11_fails rfl rfl (Nat.le_of_ble_eq_true rfl) ⟨Nat.le_of_ble_eq_true rfl, Nat.le_of_ble_eq_true rfl, Nat.le_of_ble_eq_true rfl, Nat.le_of_ble_eq_true rfl⟩ dX11_copy_152 (fun v w2 hp => ?_)
                    obtain ⟨rfl, rfl⟩ := hp
                    refine RTN (some (.int _)) _ _ _ _ _ dX11_copy_155 (⟨_, rfl⟩) (Nat.le_of_ble_eq_true rfl) (Nat.le_of_ble_eq_true rfl) ?_
                    first | (constructor <;> ((try simp only [mo_copy, c9, c16, c40, c45, c68, c79, c90, c100, c105, if_true, if_false, not_true_eq_false, not_false_eq_true, and_self, true_and, and_true, false_and, and_false, or_true, true_or, or_false, false_or, reduceCtorEq, ne_eq, va_us, pk_us]); (try with_reducible rfl); done)) | (clear RTN X; constructor <;> ((try simp_all only [mo_copy, if_true, if_false, not_true_eq_false, not_false_eq_true, and_self, true_and, and_true, false_and, and_false, or_true, true_or, or_false, false_or, reduceCtorEq, ne_eq, va_us, pk_us]); (try with_reducible rfl); done)) | (constructor <;> ((try simp only [mo_copy, c9, c16, c40, c45, c68, c79, c90, c100, c105, if_true, if_false, not_true_eq_false, not_false_eq_true, and_self, true_and, and_true, false_and, and_false, or_true, true_or, or_false, false_or, reduceCtorEq, ne_eq, va_us, pk_us]); (try rfl); done))
                  · refine aw_iload X dX11_copy_108 rfl ?_
                    refine aw_if_lt (tgt := 150) X dX11_copy_110 rfl (fun c110 => ?_) (fun c110 => ?_)
                    · refine aw_aload_n X dX11_copy_150 rfl rfl ?_
                      refine aw_iconst X dX11_copy_151 ci_3 ?_
                      refine aw_callV X (kX11_fails _ _ _ _ hq _) okm_X11_fails okX11 mw_0 ml_X11_35 im_X11_fails se_X11_X11_fails rfl rfl (Nat.le_of_ble_eq_true rfl) ⟨Nat.le_of_ble_eq_true rfl, Nat.le_of_ble_eq_true rfl, Nat.le_of_ble_eq_true rfl, Nat.le_of_ble_eq_true rfl⟩ dX11_copy_152 (fun v w2 hp => ?_)
                      obtain ⟨rfl, rfl⟩ := hp
                      refine RTN (some (.int _)) _ _ _ _ _ dX11_copy_155 (⟨_, rfl⟩) (Nat.le_of_ble_eq_true rfl) (Nat.le_of_ble_eq_true rfl) ?_
                      first | (constructor <;> ((try simp only [mo_copy, c9, c16, c40, c45, c68, c79, c90, c100, c105, c110, if_true, if_false, not_true_eq_false, not_false_eq_true, and_self, true_and, and_true, false_and, and_false, or_true, true_or, or_false, false_or, reduceCtorEq, ne_eq, va_us, pk_us]); (try with_reducible rfl); done)) | (clear RTN X; constructor <;> ((try simp_all only [mo_copy, if_true, if_false, not_true_eq_false, not_false_eq_true, and_self, true_and, and_true, false_and, and_false, or_true, true_or, or_false, false_or, reduceCtorEq, ne_eq, va_us, pk_us]); (try with_reducible rfl); done)) | (constructor <;> ((try simp only [mo_copy, c9, c16, c40, c45, c68, c79, c90, c100, c105, c110, if_true, if_false, not_true_eq_false, not_false_eq_true, and_self, true_and, and_true, false_and, and_false, or_true, true_or, or_false, false_or, reduceCtorEq, ne_eq, va_us, pk_us]); (try rfl); done))
                    · refine aw_iload_n X dX11_copy_113 rfl rfl ?_
                      refine aw_i2l X dX11_copy_114 ?_
                      refine aw_iload X dX11_copy_115 rfl ?_
                      refine aw_i2l X dX11_copy_117 ?_
                      refine aw_ladd X dX11_copy_118 ?_
                      refine aw_aload_n X dX11_copy_119 rfl rfl ?_
                      refine am_get X 3 (Nat.le_of_ble_eq_true rfl) fl_X11_46 rfl rfl dX11_copy_120 ?_
                      refine aw_iload X dX11_copy_123 rfl ?_
                      refine am_ald X 3 _ (M.2.2 3) hq (by decide) rfl rfl rfl (bt_vp (hR _ (cl_lt c9 (by decide) (by decide))) (by decide) (by decide)) dX11_copy_125 ?_
                      refine aw_i2l X dX11_copy_126 ?_
                      refine aw_lcmp X dX11_copy_127 ?_
                      refine aw_if_gt (tgt := 150) X dX11_copy_128 rfl (fun c128 => ?_) (fun c128 => ?_)
                      · rw [lg_cmp_gt] at c128
                        refine aw_aload_n X dX11_copy_150 rfl rfl ?_
                        refine aw_iconst X dX11_copy_151 ci_3 ?_
                        refine aw_callV X (kX11_fails _ _ _ _ hq _) okm_X11_fails okX11 mw_0 ml_X11_35 im_X11_fails se_X11_X11_fails rfl rfl (Nat.le_of_ble_eq_true rfl) ⟨Nat.le_of_ble_eq_true rfl, Nat.le_of_ble_eq_true rfl, Nat.le_of_ble_eq_true rfl, Nat.le_of_ble_eq_true rfl⟩ dX11_copy_152 (fun v w2 hp => ?_)
                        obtain ⟨rfl, rfl⟩ := hp
                        refine RTN (some (.int _)) _ _ _ _ _ dX11_copy_155 (⟨_, rfl⟩) (Nat.le_of_ble_eq_true rfl) (Nat.le_of_ble_eq_true rfl) ?_
                        first | (constructor <;> ((try simp only [mo_copy, c9, c16, c40, c45, c68, c79, c90, c100, c105, c110, c128, if_true, if_false, not_true_eq_false, not_false_eq_true, and_self, true_and, and_true, false_and, and_false, or_true, true_or, or_false, false_or, reduceCtorEq, ne_eq, va_us, pk_us]); (try with_reducible rfl); done)) | (clear RTN X; constructor <;> ((try simp_all only [mo_copy, if_true, if_false, not_true_eq_false, not_false_eq_true, and_self, true_and, and_true, false_and, and_false, or_true, true_or, or_false, false_or, reduceCtorEq, ne_eq, va_us, pk_us]); (try with_reducible rfl); done)) | (constructor <;> ((try simp only [mo_copy, c9, c16, c40, c45, c68, c79, c90, c100, c105, c110, c128, if_true, if_false, not_true_eq_false, not_false_eq_true, and_self, true_and, and_true, false_and, and_false, or_true, true_or, or_false, false_or, reduceCtorEq, ne_eq, va_us, pk_us]); (try rfl); done))
                      · rw [lg_cmp_gt] at c128
                        refine aw_iload X dX11_copy_131 rfl ?_
                        refine aw_i2l X dX11_copy_133 ?_
                        refine aw_iload X dX11_copy_134 rfl ?_
                        refine aw_i2l X dX11_copy_136 ?_
                        refine aw_ladd X dX11_copy_137 ?_
                        refine aw_aload_n X dX11_copy_138 rfl rfl ?_
                        refine am_get X 3 (Nat.le_of_ble_eq_true rfl) fl_X11_46 rfl rfl dX11_copy_139 ?_
                        refine aw_iload X dX11_copy_142 rfl ?_
                        refine am_ald X 3 _ (M.2.2 3) hq (by decide) rfl rfl rfl (bt_vp (hR _ (cl_lt c16 (by decide) (by decide))) (by decide) (by decide)) dX11_copy_144 ?_
                        refine aw_i2l X dX11_copy_145 ?_
                        refine aw_lcmp X dX11_copy_146 ?_
                        refine aw_if_le (tgt := 156) X dX11_copy_147 rfl (fun c147 => ?_) (fun c147 => ?_)
                        · rw [lg_cmp_le] at c147
                          have ha : bt (M.2.2 1 r.toNatClampNeg) 1 24 := nz_bt (hR _ (cl_lt c9 (by decide) (by decide))) c40
                          have hb : bt (M.2.2 1 sr.toNatClampNeg) 1 24 := nz_bt (hR _ (cl_lt c16 (by decide) (by decide))) c45
                          have hza := bt_iff.mp (hS (M.2.2 1 r.toNatClampNeg).toNatClampNeg (cl_lt ha (by decide) (by decide)))
                          have hzb := bt_iff.mp (hS (M.2.2 1 sr.toNatClampNeg).toNatClampNeg (cl_lt hb (by decide) (by decide)))
                          have hn0 : 0 ≤ n.toInt := by rw [i32_lt] at c110; have e0 : (0 : Int32).toInt = 0 := rfl; omega
                          have ha0 : 0 ≤ at_.toInt := by rw [i32_lt] at c100; have e0 : (0 : Int32).toInt = 0 := rfl; omega
                          have hb0 : 0 ≤ to_.toInt := by rw [i32_lt] at c105; have e0 : (0 : Int32).toInt = 0 := rfl; omega
                          have hla : at_.toInt + n.toInt ≤ (M.2.2 3 (M.2.2 1 r.toNatClampNeg).toNatClampNeg).toInt := by rw [i64_lt, add64, i64_32] at c128; omega
                          have hlb : to_.toInt + n.toInt ≤ (M.2.2 3 (M.2.2 1 sr.toNatClampNeg).toNatClampNeg).toInt := by rw [i64_le, add64, i64_32] at c147; exact c147
                          obtain ⟨N, hNe, hNi⟩ : ∃ N : Nat, n = nI N ∧ (N : Int) = n.toInt := ⟨n.toNatClampNeg, (nI_cl hn0).symm, cl_toInt hn0⟩
                          have hNc : n.toNatClampNeg = N := by have h := cl_toInt hn0; omega
                          have hb1 : 1 ≤ (M.2.2 1 sr.toNatClampNeg).toNatClampNeg := by have h1 := bt_iff.mp hb; have h2 := cl_toInt (x := (M.2.2 1 sr.toNatClampNeg)) (by omega); omega
                          have LB : (M.2.2 1 r.toNatClampNeg) = (M.2.2 1 sr.toNatClampNeg) → ¬ to_ ≤ at_ → ∀ (nn t : Nat) (x : Int32), x = nI (N - t) - 1 → t ≤ N → N + 1 ≤ t + nn → AW G p l e ({ frames := 2, cells := 0, slots := 0, locals := 45 } : Room) s m args below meth c 10 A H0 Q (mw G q (mo_cb (sI M 0 0) (M.2.2 1 r.toNatClampNeg) at_ (M.2.2 1 sr.toNatClampNeg) to_ N t)) 0 0 175 [(8, .int x), (7, .int (M.2.2 1 sr.toNatClampNeg)), (6, .int (M.2.2 1 r.toNatClampNeg)), (0, .ref (q 0)), (1, .int r), (2, .int at_), (3, .int sr), (4, .int to_), (5, .int n)] [] := by
                            intro c160 c166 nn
                            induction nn with
                            | zero => intro t x hx h1 h2; exact absurd h2 (by omega)
                            | succ nn ih =>
                              intro t x hx h1 h2
                              refine aw_iload X dX11_copy_175 rfl ?_
                              refine aw_if_lt (tgt := 223) X dX11_copy_177 rfl (fun c177 => ?_) (fun c177 => ?_)
                              · have h9 : t = N := by
                                  rcases Nat.lt_or_ge t N with h | h
                                  · exact absurd (by rw [hx, show N - t = (N - 1 - t) + 1 by omega, nI_pred] at c177; exact c177) (nI_pos (by omega))
                                  · omega
                                refine aw_iconst X dX11_copy_223 ci_1 ?_
                                refine RTN (some (.int _)) _ _ _ _ _ dX11_copy_224 (⟨_, rfl⟩) (Nat.le_of_ble_eq_true rfl) (Nat.le_of_ble_eq_true rfl) ?_
                                subst h9
                                constructor <;> simp only [mo_copy, c9, c16, c40, c45, c68, c79, c90, c100, c105, c110, c128, c147, (eq_true c160), c166, hNc, if_true, if_false, not_true_eq_false, not_false_eq_true, and_self, true_and, and_true, false_and, and_false, or_true, true_or, or_false, false_or, reduceCtorEq, ne_eq, va_us, pk_us]
                              · have h9 : t < N := by
                                  rcases Nat.lt_or_ge t N with h | h
                                  · exact h
                                  · exact absurd (by rw [hx, show N - t = 0 by omega]; decide) c177
                                have hx2 : x = nI (N - 1 - t) := by rw [hx, show N - t = (N - 1 - t) + 1 by omega]; exact nI_pred _
                                clear hx
                                subst hx2
                                refine aw_aload_n X dX11_copy_180 rfl rfl ?_
                                refine am_get X 4 (Nat.le_of_ble_eq_true rfl) fl_X11_49 rfl rfl dX11_copy_181 ?_
                                refine aw_bipush X dX11_copy_184 cb_40 ?_
                                refine aw_iload X dX11_copy_186 rfl ?_
                                refine aw_imul X dX11_copy_188 ?_
                                refine aw_iload X dX11_copy_189 rfl ?_
                                refine aw_iadd X dX11_copy_191 ?_
                                refine aw_iload X dX11_copy_192 rfl ?_
                                refine aw_iadd X dX11_copy_194 ?_
                                refine aw_bipush X dX11_copy_195 cb_40 ?_
                                refine aw_isub X dX11_copy_197 ?_
                                refine aw_aload_n X dX11_copy_198 rfl rfl ?_
                                refine am_get X 4 (Nat.le_of_ble_eq_true rfl) fl_X11_49 rfl rfl dX11_copy_199 ?_
                                refine aw_bipush X dX11_copy_202 cb_40 ?_
                                refine aw_iload X dX11_copy_204 rfl ?_
                                refine aw_imul X dX11_copy_206 ?_
                                refine aw_iload_n X dX11_copy_207 rfl rfl ?_
                                refine aw_iadd X dX11_copy_208 ?_
                                refine aw_iload X dX11_copy_209 rfl ?_
                                refine aw_iadd X dX11_copy_211 ?_
                                refine aw_bipush X dX11_copy_212 cb_40 ?_
                                refine aw_isub X dX11_copy_214 ?_
                                refine am_ald X 4 _ ((mo_cb (sI M 0 0) (M.2.2 1 r.toNatClampNeg) at_ (M.2.2 1 sr.toNatClampNeg) to_ N t).2.2 4) hq (by decide) rfl rfl rfl (ixcv ha c100 (by omega)) dX11_copy_215 ?_
                                refine am_ast X 4 _ hq (by decide) rfl rfl (ixcv hb c105 (by omega)) dX11_copy_216 ?_
                                refine aw_iinc (lv' := [(8, _), (7, _), (6, _), (0, _), (1, _), (2, _), (3, _), (4, _), (5, _)]) X dX11_copy_217 rfl (iinc_m1 _) (by decide) rfl ?_
                                refine aw_goto (tgt := 175) X dX11_copy_220 rfl ?_
                                refine aw_lv [0, 1, 2, 3, 4, 5, 6, 7, 8] rfl ?_
                                exact ih (t + 1) _ (by rw [show N - (t + 1) = N - 1 - t by omega]; exact (Int32.sub_eq_add_neg _ 1).symm) (by omega) (by omega)
                          have LF : (mo_copy M r at_ sr to_ n = (mo_cf (M.2.2 1 r.toNatClampNeg) at_ (M.2.2 1 sr.toNatClampNeg) to_ N 0 (sI M 0 0))) → ∀ (nn i : Nat) (x : Int32) (N2 : MS), x = nI i → i ≤ N → cf_ok M N2 (M.2.2 1 sr.toNatClampNeg).toNatClampNeg → mo_cf (M.2.2 1 r.toNatClampNeg) at_ (M.2.2 1 sr.toNatClampNeg) to_ (N - i) i N2 = (mo_cf (M.2.2 1 r.toNatClampNeg) at_ (M.2.2 1 sr.toNatClampNeg) to_ N 0 (sI M 0 0)) → N + 1 ≤ i + nn → AW G p l e ({ frames := 2, cells := 0, slots := 0, locals := 45 } : Room) s m args below meth c 10 A H0 Q (mw G q N2) 0 0 228 [(8, .int x), (7, .int (M.2.2 1 sr.toNatClampNeg)), (6, .int (M.2.2 1 r.toNatClampNeg)), (0, .ref (q 0)), (1, .int r), (2, .int at_), (3, .int sr), (4, .int to_), (5, .int n)] [] := by
                            intro htot nn
                            induction nn with
                            | zero => intro i x N2 hx h1 hok hcc h2; exact absurd h2 (by omega)
                            | succ nn ih =>
                              intro i x N2 hx h1 hok hcc h2
                              subst hx
                              refine aw_iload X dX11_copy_228 rfl ?_
                              refine aw_iload X dX11_copy_230 rfl ?_
                              refine aw_icmp_ge (tgt := 327) X dX11_copy_232 rfl (fun c232 => ?_) (fun c232 => ?_)
                              · have c232 : nI N ≤ nI i := by rw [← hNe]; exact c232
                                have h9 : i = N := by have := (nI_leI (a := N) (b := i) (by omega) (by omega)).mp c232; omega
                                refine aw_iconst X dX11_copy_327 ci_1 ?_
                                refine RTN (some (.int _)) _ _ _ _ _ dX11_copy_328 (⟨_, rfl⟩) (Nat.le_of_ble_eq_true rfl) (Nat.le_of_ble_eq_true rfl) ?_
                                rw [htot, ← hcc]
                                rw [h9, Nat.sub_self]
                                exact ⟨rfl, rfl⟩
                              · have c232 : ¬ nI N ≤ nI i := by rw [← hNe]; exact c232
                                have h9 : i < N := Nat.lt_of_not_le (fun h => c232 ((nI_leI (a := N) (b := i) (by omega) (by omega)).mpr h))
                                refine aw_aload_n X dX11_copy_235 rfl rfl ?_
                                refine am_get X 4 (Nat.le_of_ble_eq_true rfl) fl_X11_49 rfl rfl dX11_copy_236 ?_
                                refine aw_bipush X dX11_copy_239 cb_40 ?_
                                refine aw_iload X dX11_copy_241 rfl ?_
                                refine aw_imul X dX11_copy_243 ?_
                                refine aw_iload_n X dX11_copy_244 rfl rfl ?_
                                refine aw_iadd X dX11_copy_245 ?_
                                refine aw_iload X dX11_copy_246 rfl ?_
                                refine aw_iadd X dX11_copy_248 ?_
                                refine aw_bipush X dX11_copy_249 cb_40 ?_
                                refine aw_isub X dX11_copy_251 ?_
                                refine am_ald X 4 _ (N2.2.2 4) hq (by decide) rfl rfl rfl (ixcv ha c100 (by omega)) dX11_copy_252 ?_
                                refine aw_istore (lv' := [(9, _), (8, _), (7, _), (6, _), (0, _), (1, _), (2, _), (3, _), (4, _), (5, _)]) X dX11_copy_253 (by decide) rfl ?_
                                refine aw_aload_n X dX11_copy_255 rfl rfl ?_
                                refine am_get X 2 (Nat.le_of_ble_eq_true rfl) fl_X11_43 rfl rfl dX11_copy_256 ?_
                                refine aw_iload X dX11_copy_259 rfl ?_
                                refine am_ald X 2 _ (N2.2.2 2) hq (by decide) rfl rfl rfl (bt_vp ha (by decide) (by decide)) dX11_copy_261 ?_
                                refine aw_iconst X dX11_copy_262 ci_3 ?_
                                refine aw_icmp_ne (tgt := 300) X dX11_copy_263 rfl (fun c263 => ?_) (fun c263 => ?_)
                                · refine aw_aload_n X dX11_copy_300 rfl rfl ?_
                                  refine am_get X 4 (Nat.le_of_ble_eq_true rfl) fl_X11_49 rfl rfl dX11_copy_301 ?_
                                  refine aw_bipush X dX11_copy_304 cb_40 ?_
                                  refine aw_iload X dX11_copy_306 rfl ?_
                                  refine aw_imul X dX11_copy_308 ?_
                                  refine aw_iload X dX11_copy_309 rfl ?_
                                  refine aw_iadd X dX11_copy_311 ?_
                                  refine aw_iload X dX11_copy_312 rfl ?_
                                  refine aw_iadd X dX11_copy_314 ?_
                                  refine aw_bipush X dX11_copy_315 cb_40 ?_
                                  refine aw_isub X dX11_copy_317 ?_
                                  refine aw_iload X dX11_copy_318 rfl ?_
                                  refine am_ast X 4 _ hq (by decide) rfl rfl (ixcv hb c105 (by omega)) dX11_copy_320 ?_
                                  refine aw_iinc (lv' := [(8, _), (9, _), (7, _), (6, _), (0, _), (1, _), (2, _), (3, _), (4, _), (5, _)]) X dX11_copy_321 rfl (iinc_1 _) (by decide) rfl ?_
                                  refine aw_goto (tgt := 228) X dX11_copy_324 rfl ?_
                                  refine aw_lv [0, 2, 3, 4, 5, 6, 7, 8, 9] rfl ?_
                                  refine ih (i + 1) _ _ (nI_1 i) (by omega) (cf_step hok ?_ ?_) ?_ (by omega)
                                  · rw [ixcl hb c105 (by omega)]; omega
                                  · rw [ixcl hb c105 (by omega)]; have := cl_toInt hb0; omega
                                  · rw [← hcc, show N - i = (N - (i + 1)) + 1 by omega]
                                    simp [mo_cf, mo_cs, mo_cv, c263]
                                · refine aw_aload_n X dX11_copy_266 rfl rfl ?_
                                  refine am_get X 2 (Nat.le_of_ble_eq_true rfl) fl_X11_43 rfl rfl dX11_copy_267 ?_
                                  refine aw_iload X dX11_copy_270 rfl ?_
                                  refine am_ald X 2 _ (N2.2.2 2) hq (by decide) rfl rfl rfl (bt_vp hb (by decide) (by decide)) dX11_copy_272 ?_
                                  refine aw_iconst X dX11_copy_273 ci_4 ?_
                                  refine aw_icmp_ne (tgt := 300) X dX11_copy_274 rfl (fun c274 => ?_) (fun c274 => ?_)
                                  · refine aw_aload_n X dX11_copy_300 rfl rfl ?_
                                    refine am_get X 4 (Nat.le_of_ble_eq_true rfl) fl_X11_49 rfl rfl dX11_copy_301 ?_
                                    refine aw_bipush X dX11_copy_304 cb_40 ?_
                                    refine aw_iload X dX11_copy_306 rfl ?_
                                    refine aw_imul X dX11_copy_308 ?_
                                    refine aw_iload X dX11_copy_309 rfl ?_
                                    refine aw_iadd X dX11_copy_311 ?_
                                    refine aw_iload X dX11_copy_312 rfl ?_
                                    refine aw_iadd X dX11_copy_314 ?_
                                    refine aw_bipush X dX11_copy_315 cb_40 ?_
                                    refine aw_isub X dX11_copy_317 ?_
                                    refine aw_iload X dX11_copy_318 rfl ?_
                                    refine am_ast X 4 _ hq (by decide) rfl rfl (ixcv hb c105 (by omega)) dX11_copy_320 ?_
                                    refine aw_iinc (lv' := [(8, _), (9, _), (7, _), (6, _), (0, _), (1, _), (2, _), (3, _), (4, _), (5, _)]) X dX11_copy_321 rfl (iinc_1 _) (by decide) rfl ?_
                                    refine aw_goto (tgt := 228) X dX11_copy_324 rfl ?_
                                    refine aw_lv [0, 2, 3, 4, 5, 6, 7, 8, 9] rfl ?_
                                    refine ih (i + 1) _ _ (nI_1 i) (by omega) (cf_step hok ?_ ?_) ?_ (by omega)
                                    · rw [ixcl hb c105 (by omega)]; omega
                                    · rw [ixcl hb c105 (by omega)]; have := cl_toInt hb0; omega
                                    · rw [← hcc, show N - i = (N - (i + 1)) + 1 by omega]
                                      simp [mo_cf, mo_cs, mo_cv, (eq_true c263), c274]
                                  · refine aw_iload X dX11_copy_277 rfl ?_
                                    refine aw_if_le (tgt := 300) X dX11_copy_279 rfl (fun c279 => ?_) (fun c279 => ?_)
                                    · refine aw_aload_n X dX11_copy_300 rfl rfl ?_
                                      refine am_get X 4 (Nat.le_of_ble_eq_true rfl) fl_X11_49 rfl rfl dX11_copy_301 ?_
                                      refine aw_bipush X dX11_copy_304 cb_40 ?_
                                      refine aw_iload X dX11_copy_306 rfl ?_
                                      refine aw_imul X dX11_copy_308 ?_
                                      refine aw_iload X dX11_copy_309 rfl ?_
                                      refine aw_iadd X dX11_copy_311 ?_
                                      refine aw_iload X dX11_copy_312 rfl ?_
                                      refine aw_iadd X dX11_copy_314 ?_
                                      refine aw_bipush X dX11_copy_315 cb_40 ?_
                                      refine aw_isub X dX11_copy_317 ?_
                                      refine aw_iload X dX11_copy_318 rfl ?_
                                      refine am_ast X 4 _ hq (by decide) rfl rfl (ixcv hb c105 (by omega)) dX11_copy_320 ?_
                                      refine aw_iinc (lv' := [(8, _), (9, _), (7, _), (6, _), (0, _), (1, _), (2, _), (3, _), (4, _), (5, _)]) X dX11_copy_321 rfl (iinc_1 _) (by decide) rfl ?_
                                      refine aw_goto (tgt := 228) X dX11_copy_324 rfl ?_
                                      refine aw_lv [0, 2, 3, 4, 5, 6, 7, 8, 9] rfl ?_
                                      refine ih (i + 1) _ _ (nI_1 i) (by omega) (cf_step hok ?_ ?_) ?_ (by omega)
                                      · rw [ixcl hb c105 (by omega)]; omega
                                      · rw [ixcl hb c105 (by omega)]; have := cl_toInt hb0; omega
                                      · rw [← hcc, show N - i = (N - (i + 1)) + 1 by omega]
                                        simp [mo_cf, mo_cs, mo_cv, (eq_true c263), (eq_true c274), (eq_true c279)]
                                    · refine aw_aload_n X dX11_copy_282 rfl rfl ?_
                                      refine am_get X 33 (Nat.le_of_ble_eq_true rfl) fl_X11_67 rfl rfl dX11_copy_283 ?_
                                      refine aw_iload X dX11_copy_286 rfl ?_
                                      refine aw_iconst X dX11_copy_288 ci_1 ?_
                                      refine aw_isub X dX11_copy_289 ?_
                                      refine am_zld X 33 _ (N2.2.2 33) hq (by decide) rfl rfl rfl (cell_vp hC ha hb c100 (by omega) hok c263 c274 c279) dX11_copy_290 ?_
                                      refine aw_if_ne (tgt := 300) X dX11_copy_291 rfl (fun c291 => ?_) (fun c291 => ?_)
                                      · refine aw_aload_n X dX11_copy_300 rfl rfl ?_
                                        refine am_get X 4 (Nat.le_of_ble_eq_true rfl) fl_X11_49 rfl rfl dX11_copy_301 ?_
                                        refine aw_bipush X dX11_copy_304 cb_40 ?_
                                        refine aw_iload X dX11_copy_306 rfl ?_
                                        refine aw_imul X dX11_copy_308 ?_
                                        refine aw_iload X dX11_copy_309 rfl ?_
                                        refine aw_iadd X dX11_copy_311 ?_
                                        refine aw_iload X dX11_copy_312 rfl ?_
                                        refine aw_iadd X dX11_copy_314 ?_
                                        refine aw_bipush X dX11_copy_315 cb_40 ?_
                                        refine aw_isub X dX11_copy_317 ?_
                                        refine aw_iload X dX11_copy_318 rfl ?_
                                        refine am_ast X 4 _ hq (by decide) rfl rfl (ixcv hb c105 (by omega)) dX11_copy_320 ?_
                                        refine aw_iinc (lv' := [(8, _), (9, _), (7, _), (6, _), (0, _), (1, _), (2, _), (3, _), (4, _), (5, _)]) X dX11_copy_321 rfl (iinc_1 _) (by decide) rfl ?_
                                        refine aw_goto (tgt := 228) X dX11_copy_324 rfl ?_
                                        refine aw_lv [0, 2, 3, 4, 5, 6, 7, 8, 9] rfl ?_
                                        refine ih (i + 1) _ _ (nI_1 i) (by omega) (cf_step hok ?_ ?_) ?_ (by omega)
                                        · rw [ixcl hb c105 (by omega)]; omega
                                        · rw [ixcl hb c105 (by omega)]; have := cl_toInt hb0; omega
                                        · rw [← hcc, show N - i = (N - (i + 1)) + 1 by omega]
                                          simp [mo_cf, mo_cs, mo_cv, (eq_true c263), (eq_true c274), c279, c291]
                                      · refine aw_aload_n X dX11_copy_294 rfl rfl ?_
                                        refine aw_iconst X dX11_copy_295 ci_5 ?_
                                        refine aw_callV X (kX11_fails _ _ _ _ hq _) okm_X11_fails okX11 mw_0 ml_X11_35 im_X11_fails se_X11_X11_fails rfl rfl (Nat.le_of_ble_eq_true rfl) ⟨Nat.le_of_ble_eq_true rfl, Nat.le_of_ble_eq_true rfl, Nat.le_of_ble_eq_true rfl, Nat.le_of_ble_eq_true rfl⟩ dX11_copy_296 (fun v w2 hp => ?_)
                                        obtain ⟨rfl, rfl⟩ := hp
                                        refine RTN (some (.int _)) _ _ _ _ _ dX11_copy_299 (⟨_, rfl⟩) (Nat.le_of_ble_eq_true rfl) (Nat.le_of_ble_eq_true rfl) ?_
                                        rw [htot, ← hcc]
                                        rw [show N - i = (N - (i + 1)) + 1 by omega]
                                        constructor <;> simp [mo_cf, mo_cs, mo_cv, c263, c274, c279, c291]
                          refine aw_lv [0, 1, 2, 3, 4, 5, 6, 7] rfl ?_
                          refine aw_iload X dX11_copy_156 rfl ?_
                          refine aw_iload X dX11_copy_158 rfl ?_
                          refine aw_icmp_ne (tgt := 225) X dX11_copy_160 rfl (fun c160 => ?_) (fun c160 => ?_)
                          · refine aw_iconst X dX11_copy_225 ci_0 ?_
                            refine aw_istore (lv' := [(8, _), (7, _), (6, _), (0, _), (1, _), (2, _), (3, _), (4, _), (5, _)]) X dX11_copy_226 (by decide) rfl ?_
                            refine aw_lv [0, 1, 2, 3, 4, 5, 6, 7, 8] rfl ?_
                            refine LF ?_ (N + 1) 0 _ _ rfl (by omega) ⟨fun _ _ => rfl, fun _ _ => rfl⟩ (by rw [Nat.sub_zero]) (by omega)
                            simp only [mo_copy, c9, c16, c40, c45, c68, c79, c90, c100, c105, c110, c128, c147, c160, hNc, if_true, if_false, not_true_eq_false, not_false_eq_true, and_self, true_and, and_true, false_and, and_false, or_true, true_or, or_false, false_or, reduceCtorEq, ne_eq, va_us, pk_us]
                          · refine aw_iload_n X dX11_copy_163 rfl rfl ?_
                            refine aw_iload X dX11_copy_164 rfl ?_
                            refine aw_icmp_ge (tgt := 225) X dX11_copy_166 rfl (fun c166 => ?_) (fun c166 => ?_)
                            · refine aw_iconst X dX11_copy_225 ci_0 ?_
                              refine aw_istore (lv' := [(8, _), (7, _), (6, _), (0, _), (1, _), (2, _), (3, _), (4, _), (5, _)]) X dX11_copy_226 (by decide) rfl ?_
                              refine aw_lv [0, 1, 2, 3, 4, 5, 6, 7, 8] rfl ?_
                              refine LF ?_ (N + 1) 0 _ _ rfl (by omega) ⟨fun _ _ => rfl, fun _ _ => rfl⟩ (by rw [Nat.sub_zero]) (by omega)
                              simp only [mo_copy, c9, c16, c40, c45, c68, c79, c90, c100, c105, c110, c128, c147, (eq_true c160), (eq_true c166), hNc, if_true, if_false, not_true_eq_false, not_false_eq_true, and_self, true_and, and_true, false_and, and_false, or_true, true_or, or_false, false_or, reduceCtorEq, ne_eq, va_us, pk_us]
                            · refine aw_iload X dX11_copy_169 rfl ?_
                              refine aw_iconst X dX11_copy_171 ci_1 ?_
                              refine aw_isub X dX11_copy_172 ?_
                              refine aw_istore (lv' := [(8, _), (7, _), (6, _), (0, _), (1, _), (2, _), (3, _), (4, _), (5, _)]) X dX11_copy_173 (by decide) rfl ?_
                              refine aw_lv [0, 1, 2, 3, 4, 5, 6, 7, 8] rfl ?_
                              exact LB c160 c166 (N + 1) 0 _ (by rw [hNe]; rfl) (by omega) (by omega)
                        · rw [lg_cmp_le] at c147
                          refine aw_aload_n X dX11_copy_150 rfl rfl ?_
                          refine aw_iconst X dX11_copy_151 ci_3 ?_
                          refine aw_callV X (kX11_fails _ _ _ _ hq _) okm_X11_fails okX11 mw_0 ml_X11_35 im_X11_fails se_X11_X11_fails rfl rfl (Nat.le_of_ble_eq_true rfl) ⟨Nat.le_of_ble_eq_true rfl, Nat.le_of_ble_eq_true rfl, Nat.le_of_ble_eq_true rfl, Nat.le_of_ble_eq_true rfl⟩ dX11_copy_152 (fun v w2 hp => ?_)
                          obtain ⟨rfl, rfl⟩ := hp
                          refine RTN (some (.int _)) _ _ _ _ _ dX11_copy_155 (⟨_, rfl⟩) (Nat.le_of_ble_eq_true rfl) (Nat.le_of_ble_eq_true rfl) ?_
                          first | (constructor <;> ((try simp only [mo_copy, c9, c16, c40, c45, c68, c79, c90, c100, c105, c110, c128, c147, if_true, if_false, not_true_eq_false, not_false_eq_true, and_self, true_and, and_true, false_and, and_false, or_true, true_or, or_false, false_or, reduceCtorEq, ne_eq, va_us, pk_us]); (try with_reducible rfl); done)) | (clear RTN X; constructor <;> ((try simp_all only [mo_copy, if_true, if_false, not_true_eq_false, not_false_eq_true, and_self, true_and, and_true, false_and, and_false, or_true, true_or, or_false, false_or, reduceCtorEq, ne_eq, va_us, pk_us]); (try with_reducible rfl); done)) | (constructor <;> ((try simp only [mo_copy, c9, c16, c40, c45, c68, c79, c90, c100, c105, c110, c128, c147, if_true, if_false, not_true_eq_false, not_false_eq_true, and_self, true_and, and_true, false_and, and_false, or_true, true_or, or_false, false_or, reduceCtorEq, ne_eq, va_us, pk_us]); (try rfl); done))
              · refine aw_aload_n X dX11_copy_93 rfl rfl ?_
                refine aw_iconst X dX11_copy_94 ci_5 ?_
                refine aw_callV X (kX11_fails _ _ _ _ hq _) okm_X11_fails okX11 mw_0 ml_X11_35 im_X11_fails se_X11_X11_fails rfl rfl (Nat.le_of_ble_eq_true rfl) ⟨Nat.le_of_ble_eq_true rfl, Nat.le_of_ble_eq_true rfl, Nat.le_of_ble_eq_true rfl, Nat.le_of_ble_eq_true rfl⟩ dX11_copy_95 (fun v w2 hp => ?_)
                obtain ⟨rfl, rfl⟩ := hp
                refine RTN (some (.int _)) _ _ _ _ _ dX11_copy_98 (⟨_, rfl⟩) (Nat.le_of_ble_eq_true rfl) (Nat.le_of_ble_eq_true rfl) ?_
                first | (constructor <;> ((try simp only [mo_copy, c9, c16, c40, c45, c68, c79, c90, if_true, if_false, not_true_eq_false, not_false_eq_true, and_self, true_and, and_true, false_and, and_false, or_true, true_or, or_false, false_or, reduceCtorEq, ne_eq, va_us, pk_us]); (try with_reducible rfl); done)) | (clear RTN X; constructor <;> ((try simp_all only [mo_copy, if_true, if_false, not_true_eq_false, not_false_eq_true, and_self, true_and, and_true, false_and, and_false, or_true, true_or, or_false, false_or, reduceCtorEq, ne_eq, va_us, pk_us]); (try with_reducible rfl); done)) | (constructor <;> ((try simp only [mo_copy, c9, c16, c40, c45, c68, c79, c90, if_true, if_false, not_true_eq_false, not_false_eq_true, and_self, true_and, and_true, false_and, and_false, or_true, true_or, or_false, false_or, reduceCtorEq, ne_eq, va_us, pk_us]); (try rfl); done))
        · refine aw_aload_n X dX11_copy_48 rfl rfl ?_
          refine aw_iconst X dX11_copy_49 ci_1 ?_
          refine aw_callV X (kX11_fails _ _ _ _ hq _) okm_X11_fails okX11 mw_0 ml_X11_35 im_X11_fails se_X11_X11_fails rfl rfl (Nat.le_of_ble_eq_true rfl) ⟨Nat.le_of_ble_eq_true rfl, Nat.le_of_ble_eq_true rfl, Nat.le_of_ble_eq_true rfl, Nat.le_of_ble_eq_true rfl⟩ dX11_copy_50 (fun v w2 hp => ?_)
          obtain ⟨rfl, rfl⟩ := hp
          refine RTN (some (.int _)) _ _ _ _ _ dX11_copy_53 (⟨_, rfl⟩) (Nat.le_of_ble_eq_true rfl) (Nat.le_of_ble_eq_true rfl) ?_
          first | (constructor <;> ((try simp only [mo_copy, c9, c16, c40, (eq_true c45), if_true, if_false, not_true_eq_false, not_false_eq_true, and_self, true_and, and_true, false_and, and_false, or_true, true_or, or_false, false_or, reduceCtorEq, ne_eq, va_us, pk_us]); (try with_reducible rfl); done)) | (clear RTN X; constructor <;> ((try simp_all only [mo_copy, if_true, if_false, not_true_eq_false, not_false_eq_true, and_self, true_and, and_true, false_and, and_false, or_true, true_or, or_false, false_or, reduceCtorEq, ne_eq, va_us, pk_us]); (try with_reducible rfl); done)) | (constructor <;> ((try simp only [mo_copy, c9, c16, c40, (eq_true c45), if_true, if_false, not_true_eq_false, not_false_eq_true, and_self, true_and, and_true, false_and, and_false, or_true, true_or, or_false, false_or, reduceCtorEq, ne_eq, va_us, pk_us]); (try rfl); done))
    · rw [bI_0] at c16
      refine aw_bipush X dX11_copy_19 cb_m2 ?_
      refine RTN (some (.int _)) _ _ _ _ _ dX11_copy_21 (⟨_, rfl⟩) (Nat.le_of_ble_eq_true rfl) (Nat.le_of_ble_eq_true rfl) ?_
      first | (constructor <;> ((try simp only [mo_copy, c9, c16, if_true, if_false, not_true_eq_false, not_false_eq_true, and_self, true_and, and_true, false_and, and_false, or_true, true_or, or_false, false_or, reduceCtorEq, ne_eq, va_us, pk_us]); (try with_reducible rfl); done)) | (clear RTN X; constructor <;> ((try simp_all only [mo_copy, if_true, if_false, not_true_eq_false, not_false_eq_true, and_self, true_and, and_true, false_and, and_false, or_true, true_or, or_false, false_or, reduceCtorEq, ne_eq, va_us, pk_us]); (try with_reducible rfl); done)) | (constructor <;> ((try simp only [mo_copy, c9, c16, if_true, if_false, not_true_eq_false, not_false_eq_true, and_self, true_and, and_true, false_and, and_false, or_true, true_or, or_false, false_or, reduceCtorEq, ne_eq, va_us, pk_us]); (try rfl); done))
