def mi_bytes (M : MS) : Prop := ∀ k, k < 20 → bt (M.2.2 36 k) 0 60 = true
def mi_last (M : MS) : Prop := ∀ k, k < 8 → bt (M.2.2 12 k) 0 40 = true
theorem ixget {f p B : Int32} {w j : Nat} (hf : bt f 0 19) (hp : bt p 0 60) (hb : bt B 0 60) (hlt : p < B / nI w) (hw : w = 1 ∨ w = 4) (hj : j < w) : vp_in (((60 * f) + (p * nI w)) + nI j) 1200 := by
  obtain ⟨fn, f1, rfl, _⟩ := bt_nat (hi := 19) hf
  obtain ⟨pn, p1, rfl, _⟩ := bt_nat (hi := 60) hp
  obtain ⟨bn, b1, rfl, _⟩ := bt_nat (hi := 60) hb
  rw [pk_div (by omega) (by omega) (by omega)] at hlt
  have h1 := (nI_ltI (by omega) (by rcases hw with h | h <;> rw [h] <;> omega)).mp hlt
  have h2 : pn * w + j < 60 := by rcases hw with h | h <;> rw [h] at h1 hj ⊢ <;> omega
  rw [show (60 : Int32) = nI 60 from rfl, pk_mul, pk_mul, nI_add, nI_add]
  exact vp_in_nI (by omega) (by decide)
theorem lt_bt {p L : Int32} (hp : bt p 0 60) (hL : bt L 0 40) (h : p < L) : bt p 0 39 := by
  rw [i32_lt] at h
  have h1 := bt_iff.mp hp
  have h2 := bt_iff.mp hL
  exact bt_iff.mpr ⟨by omega, by omega⟩
def mo_g1 (M : MS) (k : Nat) : Int32 := (0 <<< ((8 : Int32) &&& 31)) ||| M.2.2 37 (((60 * M.2.2 16 k) + (M.2.2 11 k * 1)) + 0).toNatClampNeg
def mo_g4 (M : MS) (k : Nat) : Int32 := (((((((0 <<< ((8 : Int32) &&& 31)) ||| M.2.2 37 (((60 * M.2.2 16 k) + (M.2.2 11 k * 4)) + 0).toNatClampNeg) <<< ((8 : Int32) &&& 31)) ||| M.2.2 37 (((60 * M.2.2 16 k) + (M.2.2 11 k * 4)) + 1).toNatClampNeg) <<< ((8 : Int32) &&& 31)) ||| M.2.2 37 (((60 * M.2.2 16 k) + (M.2.2 11 k * 4)) + 2).toNatClampNeg) <<< ((8 : Int32) &&& 31)) ||| M.2.2 37 (((60 * M.2.2 16 k) + (M.2.2 11 k * 4)) + 3).toNatClampNeg
def mo_gv (M : MS) (k : Nat) (ki : Int32) : Int32 :=
  if M.2.2 8 k = 1 then (if M.2.2 9 k = 0 then M.2.2 4 (((40 * M.2.2 15 k) + M.2.2 11 k) - 40).toNatClampNeg &&& 255 else sgn (M.2.2 4 (((40 * M.2.2 15 k) + M.2.2 11 k) - 40).toNatClampNeg))
  else if M.2.2 8 k = 2 then (if M.2.2 9 k = 0 then mo_g1 M k else sgn (mo_g4 M k))
  else M.2.2 18 ((40 * ki) + M.2.2 11 k).toNatClampNeg
def mo_get (M : MS) (t : Int32) : Int32 × MS :=
  if 0 ≤ (oI (mo_pl (sI M 0 0) t)) then
    if M.2.2 10 (oI (mo_pl (sI M 0 0) t)).toNatClampNeg = 2 ∨ M.2.2 10 (oI (mo_pl (sI M 0 0) t)).toNatClampNeg = 3 then
      if M.2.2 11 (oI (mo_pl (sI M 0 0) t)).toNatClampNeg < mo_end (sI M 0 0) (oI (mo_pl (sI M 0 0) t)).toNatClampNeg then
        if M.2.2 8 (oI (mo_pl (sI M 0 0) t)).toNatClampNeg = 1 ∧ ¬ mo_pf (sI M 0 0) (oI (mo_pl (sI M 0 0) t)).toNatClampNeg ≤ 0 then ((-10) - mo_pf (sI M 0 0) (oI (mo_pl (sI M 0 0) t)).toNatClampNeg, sI (sI M 0 0) 5 (mo_pf (sI M 0 0) (oI (mo_pl (sI M 0 0) t)).toNatClampNeg))
        else (mo_gv M (oI (mo_pl (sI M 0 0) t)).toNatClampNeg (oI (mo_pl (sI M 0 0) t)), sF (sF (sI M 0 0) 11 (oI (mo_pl (sI M 0 0) t)).toNatClampNeg (M.2.2 11 (oI (mo_pl (sI M 0 0) t)).toNatClampNeg + 1)) 14 (oI (mo_pl (sI M 0 0) t)).toNatClampNeg (M.2.2 14 (oI (mo_pl (sI M 0 0) t)).toNatClampNeg + 1))
      else (-1, (sI M 0 0))
    else (-4, (sI M 0 0))
  else (-2, (sI M 0 0))
set_option maxRecDepth 100000 in
set_option maxHeartbeats 4000000 in
theorem kX11_get (G : GG) (l : Launch) (q : Nat → Nat) (M : MS) (hq : mInj q) (hS : mi_size M) (hA1 : mi_arr M) (hPl : mi_place M) (hKd : mi_kind M) (hFl : mi_file M) (hBy : mi_bytes M) (hLa : mi_last M) (t : Int32) : MC G l yX11_get cX11_get 6 ((Option.some .int)) ({ frames := 2, cells := 0, slots := 0, locals := 49 } : Room) [.ref (q 0), .int t] (mw G q M) (fun v w' => v = some (.int (mo_get M t).1) ∧ w' = mw G q (mo_get M t).2) := by
  refine mc_int (by decide) (Nat.le_of_ble_eq_true rfl) rfl rfl ?_
  intro p e s m args below meth c A H0 Q X hnm RTN
  have X : Cx G p s m args meth c A H0 cX11_get 6 RX11 := X
  refine aw_aload_n X dX11_get_0 rfl rfl ?_
  refine aw_iconst X dX11_get_1 ci_0 ?_
  refine am_put X 0 (M' := sI _ 0 _) (Nat.le_of_ble_eq_true rfl) fl_X11_1 rfl rfl (rfl) (rfl) (mf_0 _ _ _) rfl dX11_get_2 ?_
  refine aw_aload_n X dX11_get_5 rfl rfl ?_
  refine aw_iload_n X dX11_get_6 rfl rfl ?_
  refine aw_callV X (kX11_placeOf _ _ _ _ hq _) okm_X11_placeOf okX11 mw_0 ml_X11_183 im_X11_placeOf se_X11_X11_placeOf rfl rfl (Nat.le_of_ble_eq_true rfl) ⟨Nat.le_of_ble_eq_true rfl, Nat.le_of_ble_eq_true rfl, Nat.le_of_ble_eq_true rfl, Nat.le_of_ble_eq_true rfl⟩ dX11_get_7 (fun v w2 hp => ?_)
  obtain ⟨rfl, rfl⟩ := hp
  refine aw_istore_n (lv' := [(2, _), (0, _), (1, _)]) X dX11_get_10 rfl (by decide) rfl ?_
  refine aw_iload_n X dX11_get_11 rfl rfl ?_
  refine aw_if_ge (tgt := 18) X dX11_get_12 rfl (fun c12 => ?_) (fun c12 => ?_)
  · refine aw_aload_n X dX11_get_18 rfl rfl ?_
    refine am_get X 10 (Nat.le_of_ble_eq_true rfl) fl_X11_77 rfl rfl dX11_get_19 ?_
    refine aw_iload_n X dX11_get_22 rfl rfl ?_
    refine am_ald X 10 _ (M.2.2 10) hq (by decide) rfl rfl rfl (bt_vp ((pl_bt' c12)) (by decide) (by decide)) dX11_get_23 ?_
    refine aw_iconst X dX11_get_24 ci_2 ?_
    refine aw_icmp_eq (tgt := 41) X dX11_get_25 rfl (fun c25 => ?_) (fun c25 => ?_)
    · refine aw_aload_n X dX11_get_41 rfl rfl ?_
      refine am_get X 11 (Nat.le_of_ble_eq_true rfl) fl_X11_80 rfl rfl dX11_get_42 ?_
      refine aw_iload_n X dX11_get_45 rfl rfl ?_
      refine am_ald X 11 _ (M.2.2 11) hq (by decide) rfl rfl rfl (bt_vp ((pl_bt' c12)) (by decide) (by decide)) dX11_get_46 ?_
      refine aw_aload_n X dX11_get_47 rfl rfl ?_
      refine aw_iload_n X dX11_get_48 rfl rfl ?_
      refine aw_callV X (kX11_endOf _ _ _ _ hq (oI (mo_pl (sI M 0 0) t)) (pl_bt' c12) (fun h => hFl _ (cl_lt (pl_bt' c12) (by decide) (by decide)) h)) okm_X11_endOf okX11 mw_0 ml_X11_124 im_X11_endOf se_X11_X11_endOf rfl rfl (Nat.le_of_ble_eq_true rfl) ⟨Nat.le_of_ble_eq_true rfl, Nat.le_of_ble_eq_true rfl, Nat.le_of_ble_eq_true rfl, Nat.le_of_ble_eq_true rfl⟩ dX11_get_49 (fun v w2 hp => ?_)
      obtain ⟨rfl, rfl⟩ := hp
      refine aw_icmp_lt (tgt := 57) X dX11_get_52 rfl (fun c52 => ?_) (fun c52 => ?_)
      · refine aw_iconst X dX11_get_57 ci_0 ?_
        refine aw_istore_n (lv' := [(3, _), (2, _), (0, _), (1, _)]) X dX11_get_58 rfl (by decide) rfl ?_
        refine aw_aload_n X dX11_get_59 rfl rfl ?_
        refine am_get X 8 (Nat.le_of_ble_eq_true rfl) fl_X11_23 rfl rfl dX11_get_60 ?_
        refine aw_iload_n X dX11_get_63 rfl rfl ?_
        refine am_ald X 8 _ (M.2.2 8) hq (by decide) rfl rfl rfl (bt_vp ((pl_bt' c12)) (by decide) (by decide)) dX11_get_64 ?_
        refine aw_iconst X dX11_get_65 ci_1 ?_
        refine aw_icmp_ne (tgt := 166) X dX11_get_66 rfl (fun c66 => ?_) (fun c66 => ?_)
        · refine aw_aload_n X dX11_get_166 rfl rfl ?_
          refine am_get X 8 (Nat.le_of_ble_eq_true rfl) fl_X11_23 rfl rfl dX11_get_167 ?_
          refine aw_iload_n X dX11_get_170 rfl rfl ?_
          refine am_ald X 8 _ (M.2.2 8) hq (by decide) rfl rfl rfl (bt_vp ((pl_bt' c12)) (by decide) (by decide)) dX11_get_171 ?_
          refine aw_iconst X dX11_get_172 ci_2 ?_
          refine aw_icmp_ne (tgt := 262) X dX11_get_173 rfl (fun c173 => ?_) (fun c173 => ?_)
          · refine aw_aload_n X dX11_get_262 rfl rfl ?_
            refine am_get X 18 (Nat.le_of_ble_eq_true rfl) fl_X11_133 rfl rfl dX11_get_263 ?_
            refine aw_bipush X dX11_get_266 cb_40 ?_
            refine aw_iload_n X dX11_get_268 rfl rfl ?_
            refine aw_imul X dX11_get_269 ?_
            refine aw_aload_n X dX11_get_270 rfl rfl ?_
            refine am_get X 11 (Nat.le_of_ble_eq_true rfl) fl_X11_80 rfl rfl dX11_get_271 ?_
            refine aw_iload_n X dX11_get_274 rfl rfl ?_
            refine am_ald X 11 _ (M.2.2 11) hq (by decide) rfl rfl rfl (bt_vp ((pl_bt' c12)) (by decide) (by decide)) dX11_get_275 ?_
            refine aw_iadd X dX11_get_276 ?_
            refine am_ald X 18 _ (M.2.2 18) hq (by decide) rfl rfl rfl (ix8 (pl_bt' c12) (lt_bt (hPl _ (cl_lt (pl_bt' c12) (by decide) (by decide))) (hLa _ (cl_lt (pl_bt' c12) (by decide) (by decide))) (by have h := c52; simp only [mo_end, c173, if_false] at h; exact h))) dX11_get_277 ?_
            refine aw_istore_n (lv' := [(3, _), (2, _), (0, _), (1, _)]) X dX11_get_278 rfl (by decide) rfl ?_
            refine aw_aload_n X dX11_get_279 rfl rfl ?_
            refine am_get X 11 (Nat.le_of_ble_eq_true rfl) fl_X11_80 rfl rfl dX11_get_280 ?_
            refine aw_iload_n X dX11_get_283 rfl rfl ?_
            refine aw_dup2_11 X dX11_get_284 rfl rfl ?_
            refine am_ald X 11 _ (M.2.2 11) hq (by decide) rfl rfl rfl (bt_vp ((pl_bt' c12)) (by decide) (by decide)) dX11_get_285 ?_
            refine aw_iconst X dX11_get_286 ci_1 ?_
            refine aw_iadd X dX11_get_287 ?_
            refine am_ast X 11 _ hq (by decide) rfl rfl (bt_vp ((pl_bt' c12)) (by decide) (by decide)) dX11_get_288 ?_
            refine aw_aload_n X dX11_get_289 rfl rfl ?_
            refine am_get X 14 (Nat.le_of_ble_eq_true rfl) fl_X11_89 rfl rfl dX11_get_290 ?_
            refine aw_iload_n X dX11_get_293 rfl rfl ?_
            refine aw_dup2_11 X dX11_get_294 rfl rfl ?_
            refine am_ald X 14 _ (M.2.2 14) hq (by decide) rfl rfl rfl (bt_vp ((pl_bt' c12)) (by decide) (by decide)) dX11_get_295 ?_
            refine aw_iconst X dX11_get_296 ci_1 ?_
            refine aw_iadd X dX11_get_297 ?_
            refine am_ast X 14 _ hq (by decide) rfl rfl (bt_vp ((pl_bt' c12)) (by decide) (by decide)) dX11_get_298 ?_
            refine aw_iload_n X dX11_get_299 rfl rfl ?_
            refine RTN (some (.int _)) _ _ _ _ _ dX11_get_300 (⟨_, rfl⟩) (Nat.le_of_ble_eq_true rfl) (Nat.le_of_ble_eq_true rfl) ?_
            constructor <;> simp only [mo_get, mo_gv, mo_pf, mo_g1, mo_g4, c12, (eq_true c25), c52, c66, c173, if_true, if_false, not_true_eq_false, not_false_eq_true, and_self, true_and, and_true, false_and, and_false, or_true, true_or, or_false, false_or, reduceCtorEq, ne_eq, va_us, pk_us]
          · refine aw_aload_n X dX11_get_176 rfl rfl ?_
            refine am_get X 9 (Nat.le_of_ble_eq_true rfl) fl_X11_74 rfl rfl dX11_get_177 ?_
            refine aw_iload_n X dX11_get_180 rfl rfl ?_
            refine am_zld X 9 _ (M.2.2 9) hq (by decide) rfl rfl rfl (bt_vp ((pl_bt' c12)) (by decide) (by decide)) dX11_get_181 ?_
            refine aw_if_eq (tgt := 189) X dX11_get_182 rfl (fun c182 => ?_) (fun c182 => ?_)
            · refine aw_iconst X dX11_get_189 ci_1 ?_
              refine aw_istore (lv' := [(4, _), (3, _), (2, _), (0, _), (1, _)]) X dX11_get_190 (by decide) rfl ?_
              refine aw_iconst X dX11_get_192 ci_0 ?_
              refine aw_istore (lv' := [(5, _), (4, _), (3, _), (2, _), (0, _), (1, _)]) X dX11_get_193 (by decide) rfl ?_
              refine aw_iload X dX11_get_195 rfl ?_
              refine aw_iload X dX11_get_197 rfl ?_
              refine aw_icmp_ge (tgt := 241) X dX11_get_199 rfl (fun c199 => ?_) (fun c199 => ?_)
              · exact absurd c199 (by decide)
              · refine aw_iload_n X dX11_get_202 rfl rfl ?_
                refine aw_bipush X dX11_get_203 cb_8 ?_
                refine aw_ishl X dX11_get_205 ?_
                refine aw_aload_n X dX11_get_206 rfl rfl ?_
                refine am_get X 37 (Nat.le_of_ble_eq_true rfl) fl_X11_154 rfl rfl dX11_get_207 ?_
                refine aw_bipush X dX11_get_210 cb_60 ?_
                refine aw_aload_n X dX11_get_212 rfl rfl ?_
                refine am_get X 16 (Nat.le_of_ble_eq_true rfl) fl_X11_92 rfl rfl dX11_get_213 ?_
                refine aw_iload_n X dX11_get_216 rfl rfl ?_
                refine am_ald X 16 _ (M.2.2 16) hq (by decide) rfl rfl rfl (bt_vp ((pl_bt' c12)) (by decide) (by decide)) dX11_get_217 ?_
                refine aw_imul X dX11_get_218 ?_
                refine aw_aload_n X dX11_get_219 rfl rfl ?_
                refine am_get X 11 (Nat.le_of_ble_eq_true rfl) fl_X11_80 rfl rfl dX11_get_220 ?_
                refine aw_iload_n X dX11_get_223 rfl rfl ?_
                refine am_ald X 11 _ (M.2.2 11) hq (by decide) rfl rfl rfl (bt_vp ((pl_bt' c12)) (by decide) (by decide)) dX11_get_224 ?_
                refine aw_iload X dX11_get_225 rfl ?_
                refine aw_imul X dX11_get_227 ?_
                refine aw_iadd X dX11_get_228 ?_
                refine aw_iload X dX11_get_229 rfl ?_
                refine aw_iadd X dX11_get_231 ?_
                refine am_ald X 37 _ (M.2.2 37) hq (by decide) rfl rfl rfl (ixget (w := 1) (j := 0) (hFl _ (cl_lt (pl_bt' c12) (by decide) (by decide)) c173) (hPl _ (cl_lt (pl_bt' c12) (by decide) (by decide))) (hBy _ (cl_lt (hFl _ (cl_lt (pl_bt' c12) (by decide) (by decide)) c173) (by decide) (by decide))) (by have h := c52; simp only [mo_end, c173, c182, if_true, if_false] at h; exact h) (by decide) (by decide)) dX11_get_232 ?_
                refine aw_ior X dX11_get_233 ?_
                refine aw_istore_n (lv' := [(3, _), (5, _), (4, _), (2, _), (0, _), (1, _)]) X dX11_get_234 rfl (by decide) rfl ?_
                refine aw_iinc (v := 1) (lv' := [(5, _), (3, _), (4, _), (2, _), (0, _), (1, _)]) X dX11_get_235 rfl (by decide) (by decide) rfl ?_
                refine aw_goto (tgt := 195) X dX11_get_238 rfl ?_
                refine aw_iload X dX11_get_195 rfl ?_
                refine aw_iload X dX11_get_197 rfl ?_
                refine aw_icmp_ge (tgt := 241) X dX11_get_199 rfl (fun c199 => ?_) (fun c199 => ?_)
                · refine aw_aload_n X dX11_get_241 rfl rfl ?_
                  refine am_get X 9 (Nat.le_of_ble_eq_true rfl) fl_X11_74 rfl rfl dX11_get_242 ?_
                  refine aw_iload_n X dX11_get_245 rfl rfl ?_
                  refine am_zld X 9 _ (M.2.2 9) hq (by decide) rfl rfl rfl (bt_vp ((pl_bt' c12)) (by decide) (by decide)) dX11_get_246 ?_
                  refine aw_if_eq (tgt := 257) X dX11_get_247 rfl (fun c247 => ?_) (fun c247 => ?_)
                  · refine aw_iload_n X dX11_get_257 rfl rfl ?_
                    refine aw_istore_n (lv' := [(3, _), (5, _), (4, _), (2, _), (0, _), (1, _)]) X dX11_get_258 rfl (by decide) rfl ?_
                    refine aw_goto (tgt := 279) X dX11_get_259 rfl ?_
                    refine aw_aload_n X dX11_get_279 rfl rfl ?_
                    refine am_get X 11 (Nat.le_of_ble_eq_true rfl) fl_X11_80 rfl rfl dX11_get_280 ?_
                    refine aw_iload_n X dX11_get_283 rfl rfl ?_
                    refine aw_dup2_11 X dX11_get_284 rfl rfl ?_
                    refine am_ald X 11 _ (M.2.2 11) hq (by decide) rfl rfl rfl (bt_vp ((pl_bt' c12)) (by decide) (by decide)) dX11_get_285 ?_
                    refine aw_iconst X dX11_get_286 ci_1 ?_
                    refine aw_iadd X dX11_get_287 ?_
                    refine am_ast X 11 _ hq (by decide) rfl rfl (bt_vp ((pl_bt' c12)) (by decide) (by decide)) dX11_get_288 ?_
                    refine aw_aload_n X dX11_get_289 rfl rfl ?_
                    refine am_get X 14 (Nat.le_of_ble_eq_true rfl) fl_X11_89 rfl rfl dX11_get_290 ?_
                    refine aw_iload_n X dX11_get_293 rfl rfl ?_
                    refine aw_dup2_11 X dX11_get_294 rfl rfl ?_
                    refine am_ald X 14 _ (M.2.2 14) hq (by decide) rfl rfl rfl (bt_vp ((pl_bt' c12)) (by decide) (by decide)) dX11_get_295 ?_
                    refine aw_iconst X dX11_get_296 ci_1 ?_
                    refine aw_iadd X dX11_get_297 ?_
                    refine am_ast X 14 _ hq (by decide) rfl rfl (bt_vp ((pl_bt' c12)) (by decide) (by decide)) dX11_get_298 ?_
                    refine aw_iload_n X dX11_get_299 rfl rfl ?_
                    refine RTN (some (.int _)) _ _ _ _ _ dX11_get_300 (⟨_, rfl⟩) (Nat.le_of_ble_eq_true rfl) (Nat.le_of_ble_eq_true rfl) ?_
                    constructor <;> simp only [mo_get, mo_gv, mo_pf, mo_g1, mo_g4, c12, (eq_true c25), c52, c66, (eq_true c173), (eq_true c182), (eq_true c247), if_true, if_false, not_true_eq_false, not_false_eq_true, and_self, true_and, and_true, false_and, and_false, or_true, true_or, or_false, false_or, reduceCtorEq, ne_eq, va_us, pk_us]
                  · exact absurd c182 c247
                · exact absurd c199 (by decide)
            · refine aw_iconst X dX11_get_185 ci_4 ?_
              refine aw_goto (tgt := 190) X dX11_get_186 rfl ?_
              refine aw_istore (lv' := [(4, _), (3, _), (2, _), (0, _), (1, _)]) X dX11_get_190 (by decide) rfl ?_
              refine aw_iconst X dX11_get_192 ci_0 ?_
              refine aw_istore (lv' := [(5, _), (4, _), (3, _), (2, _), (0, _), (1, _)]) X dX11_get_193 (by decide) rfl ?_
              refine aw_iload X dX11_get_195 rfl ?_
              refine aw_iload X dX11_get_197 rfl ?_
              refine aw_icmp_ge (tgt := 241) X dX11_get_199 rfl (fun c199 => ?_) (fun c199 => ?_)
              · exact absurd c199 (by decide)
              · refine aw_iload_n X dX11_get_202 rfl rfl ?_
                refine aw_bipush X dX11_get_203 cb_8 ?_
                refine aw_ishl X dX11_get_205 ?_
                refine aw_aload_n X dX11_get_206 rfl rfl ?_
                refine am_get X 37 (Nat.le_of_ble_eq_true rfl) fl_X11_154 rfl rfl dX11_get_207 ?_
                refine aw_bipush X dX11_get_210 cb_60 ?_
                refine aw_aload_n X dX11_get_212 rfl rfl ?_
                refine am_get X 16 (Nat.le_of_ble_eq_true rfl) fl_X11_92 rfl rfl dX11_get_213 ?_
                refine aw_iload_n X dX11_get_216 rfl rfl ?_
                refine am_ald X 16 _ (M.2.2 16) hq (by decide) rfl rfl rfl (bt_vp ((pl_bt' c12)) (by decide) (by decide)) dX11_get_217 ?_
                refine aw_imul X dX11_get_218 ?_
                refine aw_aload_n X dX11_get_219 rfl rfl ?_
                refine am_get X 11 (Nat.le_of_ble_eq_true rfl) fl_X11_80 rfl rfl dX11_get_220 ?_
                refine aw_iload_n X dX11_get_223 rfl rfl ?_
                refine am_ald X 11 _ (M.2.2 11) hq (by decide) rfl rfl rfl (bt_vp ((pl_bt' c12)) (by decide) (by decide)) dX11_get_224 ?_
                refine aw_iload X dX11_get_225 rfl ?_
                refine aw_imul X dX11_get_227 ?_
                refine aw_iadd X dX11_get_228 ?_
                refine aw_iload X dX11_get_229 rfl ?_
                refine aw_iadd X dX11_get_231 ?_
                refine am_ald X 37 _ (M.2.2 37) hq (by decide) rfl rfl rfl (ixget (w := 4) (j := 0) (hFl _ (cl_lt (pl_bt' c12) (by decide) (by decide)) c173) (hPl _ (cl_lt (pl_bt' c12) (by decide) (by decide))) (hBy _ (cl_lt (hFl _ (cl_lt (pl_bt' c12) (by decide) (by decide)) c173) (by decide) (by decide))) (by have h := c52; simp only [mo_end, c173, c182, if_true, if_false] at h; exact h) (by decide) (by decide)) dX11_get_232 ?_
                refine aw_ior X dX11_get_233 ?_
                refine aw_istore_n (lv' := [(3, _), (5, _), (4, _), (2, _), (0, _), (1, _)]) X dX11_get_234 rfl (by decide) rfl ?_
                refine aw_iinc (v := 1) (lv' := [(5, _), (3, _), (4, _), (2, _), (0, _), (1, _)]) X dX11_get_235 rfl (by decide) (by decide) rfl ?_
                refine aw_goto (tgt := 195) X dX11_get_238 rfl ?_
                refine aw_iload X dX11_get_195 rfl ?_
                refine aw_iload X dX11_get_197 rfl ?_
                refine aw_icmp_ge (tgt := 241) X dX11_get_199 rfl (fun c199 => ?_) (fun c199 => ?_)
                · exact absurd c199 (by decide)
                · refine aw_iload_n X dX11_get_202 rfl rfl ?_
                  refine aw_bipush X dX11_get_203 cb_8 ?_
                  refine aw_ishl X dX11_get_205 ?_
                  refine aw_aload_n X dX11_get_206 rfl rfl ?_
                  refine am_get X 37 (Nat.le_of_ble_eq_true rfl) fl_X11_154 rfl rfl dX11_get_207 ?_
                  refine aw_bipush X dX11_get_210 cb_60 ?_
                  refine aw_aload_n X dX11_get_212 rfl rfl ?_
                  refine am_get X 16 (Nat.le_of_ble_eq_true rfl) fl_X11_92 rfl rfl dX11_get_213 ?_
                  refine aw_iload_n X dX11_get_216 rfl rfl ?_
                  refine am_ald X 16 _ (M.2.2 16) hq (by decide) rfl rfl rfl (bt_vp ((pl_bt' c12)) (by decide) (by decide)) dX11_get_217 ?_
                  refine aw_imul X dX11_get_218 ?_
                  refine aw_aload_n X dX11_get_219 rfl rfl ?_
                  refine am_get X 11 (Nat.le_of_ble_eq_true rfl) fl_X11_80 rfl rfl dX11_get_220 ?_
                  refine aw_iload_n X dX11_get_223 rfl rfl ?_
                  refine am_ald X 11 _ (M.2.2 11) hq (by decide) rfl rfl rfl (bt_vp ((pl_bt' c12)) (by decide) (by decide)) dX11_get_224 ?_
                  refine aw_iload X dX11_get_225 rfl ?_
                  refine aw_imul X dX11_get_227 ?_
                  refine aw_iadd X dX11_get_228 ?_
                  refine aw_iload X dX11_get_229 rfl ?_
                  refine aw_iadd X dX11_get_231 ?_
                  refine am_ald X 37 _ (M.2.2 37) hq (by decide) rfl rfl rfl (ixget (w := 4) (j := 1) (hFl _ (cl_lt (pl_bt' c12) (by decide) (by decide)) c173) (hPl _ (cl_lt (pl_bt' c12) (by decide) (by decide))) (hBy _ (cl_lt (hFl _ (cl_lt (pl_bt' c12) (by decide) (by decide)) c173) (by decide) (by decide))) (by have h := c52; simp only [mo_end, c173, c182, if_true, if_false] at h; exact h) (by decide) (by decide)) dX11_get_232 ?_
                  refine aw_ior X dX11_get_233 ?_
                  refine aw_istore_n (lv' := [(3, _), (5, _), (4, _), (2, _), (0, _), (1, _)]) X dX11_get_234 rfl (by decide) rfl ?_
                  refine aw_iinc (v := 2) (lv' := [(5, _), (3, _), (4, _), (2, _), (0, _), (1, _)]) X dX11_get_235 rfl (by decide) (by decide) rfl ?_
                  refine aw_goto (tgt := 195) X dX11_get_238 rfl ?_
                  refine aw_iload X dX11_get_195 rfl ?_
                  refine aw_iload X dX11_get_197 rfl ?_
                  refine aw_icmp_ge (tgt := 241) X dX11_get_199 rfl (fun c199 => ?_) (fun c199 => ?_)
                  · exact absurd c199 (by decide)
                  · refine aw_iload_n X dX11_get_202 rfl rfl ?_
                    refine aw_bipush X dX11_get_203 cb_8 ?_
                    refine aw_ishl X dX11_get_205 ?_
                    refine aw_aload_n X dX11_get_206 rfl rfl ?_
                    refine am_get X 37 (Nat.le_of_ble_eq_true rfl) fl_X11_154 rfl rfl dX11_get_207 ?_
                    refine aw_bipush X dX11_get_210 cb_60 ?_
                    refine aw_aload_n X dX11_get_212 rfl rfl ?_
                    refine am_get X 16 (Nat.le_of_ble_eq_true rfl) fl_X11_92 rfl rfl dX11_get_213 ?_
                    refine aw_iload_n X dX11_get_216 rfl rfl ?_
                    refine am_ald X 16 _ (M.2.2 16) hq (by decide) rfl rfl rfl (bt_vp ((pl_bt' c12)) (by decide) (by decide)) dX11_get_217 ?_
                    refine aw_imul X dX11_get_218 ?_
                    refine aw_aload_n X dX11_get_219 rfl rfl ?_
                    refine am_get X 11 (Nat.le_of_ble_eq_true rfl) fl_X11_80 rfl rfl dX11_get_220 ?_
                    refine aw_iload_n X dX11_get_223 rfl rfl ?_
                    refine am_ald X 11 _ (M.2.2 11) hq (by decide) rfl rfl rfl (bt_vp ((pl_bt' c12)) (by decide) (by decide)) dX11_get_224 ?_
                    refine aw_iload X dX11_get_225 rfl ?_
                    refine aw_imul X dX11_get_227 ?_
                    refine aw_iadd X dX11_get_228 ?_
                    refine aw_iload X dX11_get_229 rfl ?_
                    refine aw_iadd X dX11_get_231 ?_
                    refine am_ald X 37 _ (M.2.2 37) hq (by decide) rfl rfl rfl (ixget (w := 4) (j := 2) (hFl _ (cl_lt (pl_bt' c12) (by decide) (by decide)) c173) (hPl _ (cl_lt (pl_bt' c12) (by decide) (by decide))) (hBy _ (cl_lt (hFl _ (cl_lt (pl_bt' c12) (by decide) (by decide)) c173) (by decide) (by decide))) (by have h := c52; simp only [mo_end, c173, c182, if_true, if_false] at h; exact h) (by decide) (by decide)) dX11_get_232 ?_
                    refine aw_ior X dX11_get_233 ?_
                    refine aw_istore_n (lv' := [(3, _), (5, _), (4, _), (2, _), (0, _), (1, _)]) X dX11_get_234 rfl (by decide) rfl ?_
                    refine aw_iinc (v := 3) (lv' := [(5, _), (3, _), (4, _), (2, _), (0, _), (1, _)]) X dX11_get_235 rfl (by decide) (by decide) rfl ?_
                    refine aw_goto (tgt := 195) X dX11_get_238 rfl ?_
                    refine aw_iload X dX11_get_195 rfl ?_
                    refine aw_iload X dX11_get_197 rfl ?_
                    refine aw_icmp_ge (tgt := 241) X dX11_get_199 rfl (fun c199 => ?_) (fun c199 => ?_)
                    · exact absurd c199 (by decide)
                    · refine aw_iload_n X dX11_get_202 rfl rfl ?_
                      refine aw_bipush X dX11_get_203 cb_8 ?_
                      refine aw_ishl X dX11_get_205 ?_
                      refine aw_aload_n X dX11_get_206 rfl rfl ?_
                      refine am_get X 37 (Nat.le_of_ble_eq_true rfl) fl_X11_154 rfl rfl dX11_get_207 ?_
                      refine aw_bipush X dX11_get_210 cb_60 ?_
                      refine aw_aload_n X dX11_get_212 rfl rfl ?_
                      refine am_get X 16 (Nat.le_of_ble_eq_true rfl) fl_X11_92 rfl rfl dX11_get_213 ?_
                      refine aw_iload_n X dX11_get_216 rfl rfl ?_
                      refine am_ald X 16 _ (M.2.2 16) hq (by decide) rfl rfl rfl (bt_vp ((pl_bt' c12)) (by decide) (by decide)) dX11_get_217 ?_
                      refine aw_imul X dX11_get_218 ?_
                      refine aw_aload_n X dX11_get_219 rfl rfl ?_
                      refine am_get X 11 (Nat.le_of_ble_eq_true rfl) fl_X11_80 rfl rfl dX11_get_220 ?_
                      refine aw_iload_n X dX11_get_223 rfl rfl ?_
                      refine am_ald X 11 _ (M.2.2 11) hq (by decide) rfl rfl rfl (bt_vp ((pl_bt' c12)) (by decide) (by decide)) dX11_get_224 ?_
                      refine aw_iload X dX11_get_225 rfl ?_
                      refine aw_imul X dX11_get_227 ?_
                      refine aw_iadd X dX11_get_228 ?_
                      refine aw_iload X dX11_get_229 rfl ?_
                      refine aw_iadd X dX11_get_231 ?_
                      refine am_ald X 37 _ (M.2.2 37) hq (by decide) rfl rfl rfl (ixget (w := 4) (j := 3) (hFl _ (cl_lt (pl_bt' c12) (by decide) (by decide)) c173) (hPl _ (cl_lt (pl_bt' c12) (by decide) (by decide))) (hBy _ (cl_lt (hFl _ (cl_lt (pl_bt' c12) (by decide) (by decide)) c173) (by decide) (by decide))) (by have h := c52; simp only [mo_end, c173, c182, if_true, if_false] at h; exact h) (by decide) (by decide)) dX11_get_232 ?_
                      refine aw_ior X dX11_get_233 ?_
                      refine aw_istore_n (lv' := [(3, _), (5, _), (4, _), (2, _), (0, _), (1, _)]) X dX11_get_234 rfl (by decide) rfl ?_
                      refine aw_iinc (v := 4) (lv' := [(5, _), (3, _), (4, _), (2, _), (0, _), (1, _)]) X dX11_get_235 rfl (by decide) (by decide) rfl ?_
                      refine aw_goto (tgt := 195) X dX11_get_238 rfl ?_
                      refine aw_iload X dX11_get_195 rfl ?_
                      refine aw_iload X dX11_get_197 rfl ?_
                      refine aw_icmp_ge (tgt := 241) X dX11_get_199 rfl (fun c199 => ?_) (fun c199 => ?_)
                      · refine aw_aload_n X dX11_get_241 rfl rfl ?_
                        refine am_get X 9 (Nat.le_of_ble_eq_true rfl) fl_X11_74 rfl rfl dX11_get_242 ?_
                        refine aw_iload_n X dX11_get_245 rfl rfl ?_
                        refine am_zld X 9 _ (M.2.2 9) hq (by decide) rfl rfl rfl (bt_vp ((pl_bt' c12)) (by decide) (by decide)) dX11_get_246 ?_
                        refine aw_if_eq (tgt := 257) X dX11_get_247 rfl (fun c247 => ?_) (fun c247 => ?_)
                        · exact absurd c247 c182
                        · refine aw_iload_n X dX11_get_250 rfl rfl ?_
                          refine aw_callS X (kX11_signOf _ _ _ _) okm_X11_signOf ml_X11_165 st_X11_signOf rfl rfl (Nat.le_of_ble_eq_true rfl) ⟨Nat.le_of_ble_eq_true rfl, Nat.le_of_ble_eq_true rfl, Nat.le_of_ble_eq_true rfl, Nat.le_of_ble_eq_true rfl⟩ dX11_get_251 (fun v w2 hp => ?_)
                          obtain ⟨rfl, rfl⟩ := hp
                          refine aw_goto (tgt := 258) X dX11_get_254 rfl ?_
                          refine aw_istore_n (lv' := [(3, _), (5, _), (4, _), (2, _), (0, _), (1, _)]) X dX11_get_258 rfl (by decide) rfl ?_
                          refine aw_goto (tgt := 279) X dX11_get_259 rfl ?_
                          refine aw_aload_n X dX11_get_279 rfl rfl ?_
                          refine am_get X 11 (Nat.le_of_ble_eq_true rfl) fl_X11_80 rfl rfl dX11_get_280 ?_
                          refine aw_iload_n X dX11_get_283 rfl rfl ?_
                          refine aw_dup2_11 X dX11_get_284 rfl rfl ?_
                          refine am_ald X 11 _ (M.2.2 11) hq (by decide) rfl rfl rfl (bt_vp ((pl_bt' c12)) (by decide) (by decide)) dX11_get_285 ?_
                          refine aw_iconst X dX11_get_286 ci_1 ?_
                          refine aw_iadd X dX11_get_287 ?_
                          refine am_ast X 11 _ hq (by decide) rfl rfl (bt_vp ((pl_bt' c12)) (by decide) (by decide)) dX11_get_288 ?_
                          refine aw_aload_n X dX11_get_289 rfl rfl ?_
                          refine am_get X 14 (Nat.le_of_ble_eq_true rfl) fl_X11_89 rfl rfl dX11_get_290 ?_
                          refine aw_iload_n X dX11_get_293 rfl rfl ?_
                          refine aw_dup2_11 X dX11_get_294 rfl rfl ?_
                          refine am_ald X 14 _ (M.2.2 14) hq (by decide) rfl rfl rfl (bt_vp ((pl_bt' c12)) (by decide) (by decide)) dX11_get_295 ?_
                          refine aw_iconst X dX11_get_296 ci_1 ?_
                          refine aw_iadd X dX11_get_297 ?_
                          refine am_ast X 14 _ hq (by decide) rfl rfl (bt_vp ((pl_bt' c12)) (by decide) (by decide)) dX11_get_298 ?_
                          refine aw_iload_n X dX11_get_299 rfl rfl ?_
                          refine RTN (some (.int _)) _ _ _ _ _ dX11_get_300 (⟨_, rfl⟩) (Nat.le_of_ble_eq_true rfl) (Nat.le_of_ble_eq_true rfl) ?_
                          constructor <;> simp only [mo_get, mo_gv, mo_pf, mo_g1, mo_g4, c12, (eq_true c25), c52, c66, (eq_true c173), c182, c247, if_true, if_false, not_true_eq_false, not_false_eq_true, and_self, true_and, and_true, false_and, and_false, or_true, true_or, or_false, false_or, reduceCtorEq, ne_eq, va_us, pk_us]
                      · exact absurd c199 (by decide)
        · refine aw_aload_n X dX11_get_69 rfl rfl ?_
          refine aw_aload_n X dX11_get_70 rfl rfl ?_
          refine am_get X 15 (Nat.le_of_ble_eq_true rfl) fl_X11_26 rfl rfl dX11_get_71 ?_
          refine aw_iload_n X dX11_get_74 rfl rfl ?_
          refine am_ald X 15 _ (M.2.2 15) hq (by decide) rfl rfl rfl (bt_vp ((pl_bt' c12)) (by decide) (by decide)) dX11_get_75 ?_
          refine aw_aload_n X dX11_get_76 rfl rfl ?_
          refine am_get X 9 (Nat.le_of_ble_eq_true rfl) fl_X11_74 rfl rfl dX11_get_77 ?_
          refine aw_iload_n X dX11_get_80 rfl rfl ?_
          refine am_zld X 9 _ (M.2.2 9) hq (by decide) rfl rfl rfl (bt_vp ((pl_bt' c12)) (by decide) (by decide)) dX11_get_81 ?_
          refine aw_if_eq (tgt := 89) X dX11_get_82 rfl (fun c82 => ?_) (fun c82 => ?_)
          · refine aw_iconst X dX11_get_89 ci_1 ?_
            refine aw_aload_n X dX11_get_90 rfl rfl ?_
            refine am_get X 11 (Nat.le_of_ble_eq_true rfl) fl_X11_80 rfl rfl dX11_get_91 ?_
            refine aw_iload_n X dX11_get_94 rfl rfl ?_
            refine am_ald X 11 _ (M.2.2 11) hq (by decide) rfl rfl rfl (bt_vp ((pl_bt' c12)) (by decide) (by decide)) dX11_get_95 ?_
            refine aw_callV X (kX11_against _ _ _ _ hq (M.2.2 15 (oI (mo_pl (sI M 0 0) t)).toNatClampNeg) _ _ (hA1 _ (cl_lt (pl_bt' c12) (by decide) (by decide)))) okm_X11_against okX11 mw_0 ml_X11_54 im_X11_against se_X11_X11_against rfl rfl (Nat.le_of_ble_eq_true rfl) ⟨Nat.le_of_ble_eq_true rfl, Nat.le_of_ble_eq_true rfl, Nat.le_of_ble_eq_true rfl, Nat.le_of_ble_eq_true rfl⟩ dX11_get_96 (fun v w2 hp => ?_)
            obtain ⟨rfl, rfl⟩ := hp
            refine aw_istore (lv' := [(4, _), (3, _), (2, _), (0, _), (1, _)]) X dX11_get_99 (by decide) rfl ?_
            refine aw_iload X dX11_get_101 rfl ?_
            refine aw_if_le (tgt := 113) X dX11_get_103 rfl (fun c103 => ?_) (fun c103 => ?_)
            · refine aw_aload_n X dX11_get_113 rfl rfl ?_
              refine am_get X 4 (Nat.le_of_ble_eq_true rfl) fl_X11_49 rfl rfl dX11_get_114 ?_
              refine aw_bipush X dX11_get_117 cb_40 ?_
              refine aw_aload_n X dX11_get_119 rfl rfl ?_
              refine am_get X 15 (Nat.le_of_ble_eq_true rfl) fl_X11_26 rfl rfl dX11_get_120 ?_
              refine aw_iload_n X dX11_get_123 rfl rfl ?_
              refine am_ald X 15 _ (M.2.2 15) hq (by decide) rfl rfl rfl (bt_vp ((pl_bt' c12)) (by decide) (by decide)) dX11_get_124 ?_
              refine aw_imul X dX11_get_125 ?_
              refine aw_aload_n X dX11_get_126 rfl rfl ?_
              refine am_get X 11 (Nat.le_of_ble_eq_true rfl) fl_X11_80 rfl rfl dX11_get_127 ?_
              refine aw_iload_n X dX11_get_130 rfl rfl ?_
              refine am_ald X 11 _ (M.2.2 11) hq (by decide) rfl rfl rfl (bt_vp ((pl_bt' c12)) (by decide) (by decide)) dX11_get_131 ?_
              refine aw_iadd X dX11_get_132 ?_
              refine aw_bipush X dX11_get_133 cb_40 ?_
              refine aw_isub X dX11_get_135 ?_
              refine am_ald X 4 _ (M.2.2 4) hq (by decide) rfl rfl rfl (ix_v (ag_ok hS (hA1 _ (cl_lt (pl_bt' c12) (by decide) (by decide))) c103).1 (ag_ok hS (hA1 _ (cl_lt (pl_bt' c12) (by decide) (by decide))) c103).2) dX11_get_136 ?_
              refine aw_istore (lv' := [(5, _), (4, _), (3, _), (2, _), (0, _), (1, _)]) X dX11_get_137 (by decide) rfl ?_
              refine aw_aload_n X dX11_get_139 rfl rfl ?_
              refine am_get X 9 (Nat.le_of_ble_eq_true rfl) fl_X11_74 rfl rfl dX11_get_140 ?_
              refine aw_iload_n X dX11_get_143 rfl rfl ?_
              refine am_zld X 9 _ (M.2.2 9) hq (by decide) rfl rfl rfl (bt_vp ((pl_bt' c12)) (by decide) (by decide)) dX11_get_144 ?_
              refine aw_if_eq (tgt := 156) X dX11_get_145 rfl (fun c145 => ?_) (fun c145 => ?_)
              · refine aw_iload X dX11_get_156 rfl ?_
                refine aw_sipush X dX11_get_158 cs_255 ?_
                refine aw_iand X dX11_get_161 ?_
                refine aw_istore_n (lv' := [(3, _), (5, _), (4, _), (2, _), (0, _), (1, _)]) X dX11_get_162 rfl (by decide) rfl ?_
                refine aw_goto (tgt := 279) X dX11_get_163 rfl ?_
                refine aw_aload_n X dX11_get_279 rfl rfl ?_
                refine am_get X 11 (Nat.le_of_ble_eq_true rfl) fl_X11_80 rfl rfl dX11_get_280 ?_
                refine aw_iload_n X dX11_get_283 rfl rfl ?_
                refine aw_dup2_11 X dX11_get_284 rfl rfl ?_
                refine am_ald X 11 _ (M.2.2 11) hq (by decide) rfl rfl rfl (bt_vp ((pl_bt' c12)) (by decide) (by decide)) dX11_get_285 ?_
                refine aw_iconst X dX11_get_286 ci_1 ?_
                refine aw_iadd X dX11_get_287 ?_
                refine am_ast X 11 _ hq (by decide) rfl rfl (bt_vp ((pl_bt' c12)) (by decide) (by decide)) dX11_get_288 ?_
                refine aw_aload_n X dX11_get_289 rfl rfl ?_
                refine am_get X 14 (Nat.le_of_ble_eq_true rfl) fl_X11_89 rfl rfl dX11_get_290 ?_
                refine aw_iload_n X dX11_get_293 rfl rfl ?_
                refine aw_dup2_11 X dX11_get_294 rfl rfl ?_
                refine am_ald X 14 _ (M.2.2 14) hq (by decide) rfl rfl rfl (bt_vp ((pl_bt' c12)) (by decide) (by decide)) dX11_get_295 ?_
                refine aw_iconst X dX11_get_296 ci_1 ?_
                refine aw_iadd X dX11_get_297 ?_
                refine am_ast X 14 _ hq (by decide) rfl rfl (bt_vp ((pl_bt' c12)) (by decide) (by decide)) dX11_get_298 ?_
                refine aw_iload_n X dX11_get_299 rfl rfl ?_
                refine RTN (some (.int _)) _ _ _ _ _ dX11_get_300 (⟨_, rfl⟩) (Nat.le_of_ble_eq_true rfl) (Nat.le_of_ble_eq_true rfl) ?_
                constructor <;> simp only [mo_get, mo_gv, mo_pf, mo_g1, mo_g4, c12, (eq_true c25), c52, (eq_true c66), (eq_true c82), c103, (eq_true c145), if_true, if_false, not_true_eq_false, not_false_eq_true, and_self, true_and, and_true, false_and, and_false, or_true, true_or, or_false, false_or, reduceCtorEq, ne_eq, va_us, pk_us]
              · exact absurd c82 c145
            · refine aw_aload_n X dX11_get_106 rfl rfl ?_
              refine aw_iload X dX11_get_107 rfl ?_
              refine aw_callV X (kX11_fails _ _ _ _ hq _) okm_X11_fails okX11 mw_0 ml_X11_35 im_X11_fails se_X11_X11_fails rfl rfl (Nat.le_of_ble_eq_true rfl) ⟨Nat.le_of_ble_eq_true rfl, Nat.le_of_ble_eq_true rfl, Nat.le_of_ble_eq_true rfl, Nat.le_of_ble_eq_true rfl⟩ dX11_get_109 (fun v w2 hp => ?_)
              obtain ⟨rfl, rfl⟩ := hp
              refine RTN (some (.int _)) _ _ _ _ _ dX11_get_112 (⟨_, rfl⟩) (Nat.le_of_ble_eq_true rfl) (Nat.le_of_ble_eq_true rfl) ?_
              constructor <;> simp only [mo_get, mo_gv, mo_pf, mo_g1, mo_g4, c12, (eq_true c25), c52, (eq_true c66), (eq_true c82), c103, if_true, if_false, not_true_eq_false, not_false_eq_true, and_self, true_and, and_true, false_and, and_false, or_true, true_or, or_false, false_or, reduceCtorEq, ne_eq, va_us, pk_us]
          · refine aw_iconst X dX11_get_85 ci_2 ?_
            refine aw_goto (tgt := 90) X dX11_get_86 rfl ?_
            refine aw_aload_n X dX11_get_90 rfl rfl ?_
            refine am_get X 11 (Nat.le_of_ble_eq_true rfl) fl_X11_80 rfl rfl dX11_get_91 ?_
            refine aw_iload_n X dX11_get_94 rfl rfl ?_
            refine am_ald X 11 _ (M.2.2 11) hq (by decide) rfl rfl rfl (bt_vp ((pl_bt' c12)) (by decide) (by decide)) dX11_get_95 ?_
            refine aw_callV X (kX11_against _ _ _ _ hq (M.2.2 15 (oI (mo_pl (sI M 0 0) t)).toNatClampNeg) _ _ (hA1 _ (cl_lt (pl_bt' c12) (by decide) (by decide)))) okm_X11_against okX11 mw_0 ml_X11_54 im_X11_against se_X11_X11_against rfl rfl (Nat.le_of_ble_eq_true rfl) ⟨Nat.le_of_ble_eq_true rfl, Nat.le_of_ble_eq_true rfl, Nat.le_of_ble_eq_true rfl, Nat.le_of_ble_eq_true rfl⟩ dX11_get_96 (fun v w2 hp => ?_)
            obtain ⟨rfl, rfl⟩ := hp
            refine aw_istore (lv' := [(4, _), (3, _), (2, _), (0, _), (1, _)]) X dX11_get_99 (by decide) rfl ?_
            refine aw_iload X dX11_get_101 rfl ?_
            refine aw_if_le (tgt := 113) X dX11_get_103 rfl (fun c103 => ?_) (fun c103 => ?_)
            · refine aw_aload_n X dX11_get_113 rfl rfl ?_
              refine am_get X 4 (Nat.le_of_ble_eq_true rfl) fl_X11_49 rfl rfl dX11_get_114 ?_
              refine aw_bipush X dX11_get_117 cb_40 ?_
              refine aw_aload_n X dX11_get_119 rfl rfl ?_
              refine am_get X 15 (Nat.le_of_ble_eq_true rfl) fl_X11_26 rfl rfl dX11_get_120 ?_
              refine aw_iload_n X dX11_get_123 rfl rfl ?_
              refine am_ald X 15 _ (M.2.2 15) hq (by decide) rfl rfl rfl (bt_vp ((pl_bt' c12)) (by decide) (by decide)) dX11_get_124 ?_
              refine aw_imul X dX11_get_125 ?_
              refine aw_aload_n X dX11_get_126 rfl rfl ?_
              refine am_get X 11 (Nat.le_of_ble_eq_true rfl) fl_X11_80 rfl rfl dX11_get_127 ?_
              refine aw_iload_n X dX11_get_130 rfl rfl ?_
              refine am_ald X 11 _ (M.2.2 11) hq (by decide) rfl rfl rfl (bt_vp ((pl_bt' c12)) (by decide) (by decide)) dX11_get_131 ?_
              refine aw_iadd X dX11_get_132 ?_
              refine aw_bipush X dX11_get_133 cb_40 ?_
              refine aw_isub X dX11_get_135 ?_
              refine am_ald X 4 _ (M.2.2 4) hq (by decide) rfl rfl rfl (ix_v (ag_ok hS (hA1 _ (cl_lt (pl_bt' c12) (by decide) (by decide))) c103).1 (ag_ok hS (hA1 _ (cl_lt (pl_bt' c12) (by decide) (by decide))) c103).2) dX11_get_136 ?_
              refine aw_istore (lv' := [(5, _), (4, _), (3, _), (2, _), (0, _), (1, _)]) X dX11_get_137 (by decide) rfl ?_
              refine aw_aload_n X dX11_get_139 rfl rfl ?_
              refine am_get X 9 (Nat.le_of_ble_eq_true rfl) fl_X11_74 rfl rfl dX11_get_140 ?_
              refine aw_iload_n X dX11_get_143 rfl rfl ?_
              refine am_zld X 9 _ (M.2.2 9) hq (by decide) rfl rfl rfl (bt_vp ((pl_bt' c12)) (by decide) (by decide)) dX11_get_144 ?_
              refine aw_if_eq (tgt := 156) X dX11_get_145 rfl (fun c145 => ?_) (fun c145 => ?_)
              · exact absurd c145 c82
              · refine aw_iload X dX11_get_148 rfl ?_
                refine aw_callS X (kX11_signOf _ _ _ _) okm_X11_signOf ml_X11_165 st_X11_signOf rfl rfl (Nat.le_of_ble_eq_true rfl) ⟨Nat.le_of_ble_eq_true rfl, Nat.le_of_ble_eq_true rfl, Nat.le_of_ble_eq_true rfl, Nat.le_of_ble_eq_true rfl⟩ dX11_get_150 (fun v w2 hp => ?_)
                obtain ⟨rfl, rfl⟩ := hp
                refine aw_goto (tgt := 162) X dX11_get_153 rfl ?_
                refine aw_istore_n (lv' := [(3, _), (5, _), (4, _), (2, _), (0, _), (1, _)]) X dX11_get_162 rfl (by decide) rfl ?_
                refine aw_goto (tgt := 279) X dX11_get_163 rfl ?_
                refine aw_aload_n X dX11_get_279 rfl rfl ?_
                refine am_get X 11 (Nat.le_of_ble_eq_true rfl) fl_X11_80 rfl rfl dX11_get_280 ?_
                refine aw_iload_n X dX11_get_283 rfl rfl ?_
                refine aw_dup2_11 X dX11_get_284 rfl rfl ?_
                refine am_ald X 11 _ (M.2.2 11) hq (by decide) rfl rfl rfl (bt_vp ((pl_bt' c12)) (by decide) (by decide)) dX11_get_285 ?_
                refine aw_iconst X dX11_get_286 ci_1 ?_
                refine aw_iadd X dX11_get_287 ?_
                refine am_ast X 11 _ hq (by decide) rfl rfl (bt_vp ((pl_bt' c12)) (by decide) (by decide)) dX11_get_288 ?_
                refine aw_aload_n X dX11_get_289 rfl rfl ?_
                refine am_get X 14 (Nat.le_of_ble_eq_true rfl) fl_X11_89 rfl rfl dX11_get_290 ?_
                refine aw_iload_n X dX11_get_293 rfl rfl ?_
                refine aw_dup2_11 X dX11_get_294 rfl rfl ?_
                refine am_ald X 14 _ (M.2.2 14) hq (by decide) rfl rfl rfl (bt_vp ((pl_bt' c12)) (by decide) (by decide)) dX11_get_295 ?_
                refine aw_iconst X dX11_get_296 ci_1 ?_
                refine aw_iadd X dX11_get_297 ?_
                refine am_ast X 14 _ hq (by decide) rfl rfl (bt_vp ((pl_bt' c12)) (by decide) (by decide)) dX11_get_298 ?_
                refine aw_iload_n X dX11_get_299 rfl rfl ?_
                refine RTN (some (.int _)) _ _ _ _ _ dX11_get_300 (⟨_, rfl⟩) (Nat.le_of_ble_eq_true rfl) (Nat.le_of_ble_eq_true rfl) ?_
                constructor <;> simp only [mo_get, mo_gv, mo_pf, mo_g1, mo_g4, c12, (eq_true c25), c52, (eq_true c66), c82, c103, c145, if_true, if_false, not_true_eq_false, not_false_eq_true, and_self, true_and, and_true, false_and, and_false, or_true, true_or, or_false, false_or, reduceCtorEq, ne_eq, va_us, pk_us]
            · refine aw_aload_n X dX11_get_106 rfl rfl ?_
              refine aw_iload X dX11_get_107 rfl ?_
              refine aw_callV X (kX11_fails _ _ _ _ hq _) okm_X11_fails okX11 mw_0 ml_X11_35 im_X11_fails se_X11_X11_fails rfl rfl (Nat.le_of_ble_eq_true rfl) ⟨Nat.le_of_ble_eq_true rfl, Nat.le_of_ble_eq_true rfl, Nat.le_of_ble_eq_true rfl, Nat.le_of_ble_eq_true rfl⟩ dX11_get_109 (fun v w2 hp => ?_)
              obtain ⟨rfl, rfl⟩ := hp
              refine RTN (some (.int _)) _ _ _ _ _ dX11_get_112 (⟨_, rfl⟩) (Nat.le_of_ble_eq_true rfl) (Nat.le_of_ble_eq_true rfl) ?_
              constructor <;> simp only [mo_get, mo_gv, mo_pf, mo_g1, mo_g4, c12, (eq_true c25), c52, (eq_true c66), c82, c103, if_true, if_false, not_true_eq_false, not_false_eq_true, and_self, true_and, and_true, false_and, and_false, or_true, true_or, or_false, false_or, reduceCtorEq, ne_eq, va_us, pk_us]
      · refine aw_iconst X dX11_get_55 ci_m1 ?_
        refine RTN (some (.int _)) _ _ _ _ _ dX11_get_56 (⟨_, rfl⟩) (Nat.le_of_ble_eq_true rfl) (Nat.le_of_ble_eq_true rfl) ?_
        constructor <;> simp only [mo_get, mo_gv, mo_pf, mo_g1, mo_g4, c12, (eq_true c25), c52, if_true, if_false, not_true_eq_false, not_false_eq_true, and_self, true_and, and_true, false_and, and_false, or_true, true_or, or_false, false_or, reduceCtorEq, ne_eq, va_us, pk_us]
    · refine aw_aload_n X dX11_get_28 rfl rfl ?_
      refine am_get X 10 (Nat.le_of_ble_eq_true rfl) fl_X11_77 rfl rfl dX11_get_29 ?_
      refine aw_iload_n X dX11_get_32 rfl rfl ?_
      refine am_ald X 10 _ (M.2.2 10) hq (by decide) rfl rfl rfl (bt_vp ((pl_bt' c12)) (by decide) (by decide)) dX11_get_33 ?_
      refine aw_iconst X dX11_get_34 ci_3 ?_
      refine aw_icmp_eq (tgt := 41) X dX11_get_35 rfl (fun c35 => ?_) (fun c35 => ?_)
      · refine aw_aload_n X dX11_get_41 rfl rfl ?_
        refine am_get X 11 (Nat.le_of_ble_eq_true rfl) fl_X11_80 rfl rfl dX11_get_42 ?_
        refine aw_iload_n X dX11_get_45 rfl rfl ?_
        refine am_ald X 11 _ (M.2.2 11) hq (by decide) rfl rfl rfl (bt_vp ((pl_bt' c12)) (by decide) (by decide)) dX11_get_46 ?_
        refine aw_aload_n X dX11_get_47 rfl rfl ?_
        refine aw_iload_n X dX11_get_48 rfl rfl ?_
        refine aw_callV X (kX11_endOf _ _ _ _ hq (oI (mo_pl (sI M 0 0) t)) (pl_bt' c12) (fun h => hFl _ (cl_lt (pl_bt' c12) (by decide) (by decide)) h)) okm_X11_endOf okX11 mw_0 ml_X11_124 im_X11_endOf se_X11_X11_endOf rfl rfl (Nat.le_of_ble_eq_true rfl) ⟨Nat.le_of_ble_eq_true rfl, Nat.le_of_ble_eq_true rfl, Nat.le_of_ble_eq_true rfl, Nat.le_of_ble_eq_true rfl⟩ dX11_get_49 (fun v w2 hp => ?_)
        obtain ⟨rfl, rfl⟩ := hp
        refine aw_icmp_lt (tgt := 57) X dX11_get_52 rfl (fun c52 => ?_) (fun c52 => ?_)
        · refine aw_iconst X dX11_get_57 ci_0 ?_
          refine aw_istore_n (lv' := [(3, _), (2, _), (0, _), (1, _)]) X dX11_get_58 rfl (by decide) rfl ?_
          refine aw_aload_n X dX11_get_59 rfl rfl ?_
          refine am_get X 8 (Nat.le_of_ble_eq_true rfl) fl_X11_23 rfl rfl dX11_get_60 ?_
          refine aw_iload_n X dX11_get_63 rfl rfl ?_
          refine am_ald X 8 _ (M.2.2 8) hq (by decide) rfl rfl rfl (bt_vp ((pl_bt' c12)) (by decide) (by decide)) dX11_get_64 ?_
          refine aw_iconst X dX11_get_65 ci_1 ?_
          refine aw_icmp_ne (tgt := 166) X dX11_get_66 rfl (fun c66 => ?_) (fun c66 => ?_)
          · refine aw_aload_n X dX11_get_166 rfl rfl ?_
            refine am_get X 8 (Nat.le_of_ble_eq_true rfl) fl_X11_23 rfl rfl dX11_get_167 ?_
            refine aw_iload_n X dX11_get_170 rfl rfl ?_
            refine am_ald X 8 _ (M.2.2 8) hq (by decide) rfl rfl rfl (bt_vp ((pl_bt' c12)) (by decide) (by decide)) dX11_get_171 ?_
            refine aw_iconst X dX11_get_172 ci_2 ?_
            refine aw_icmp_ne (tgt := 262) X dX11_get_173 rfl (fun c173 => ?_) (fun c173 => ?_)
            · refine aw_aload_n X dX11_get_262 rfl rfl ?_
              refine am_get X 18 (Nat.le_of_ble_eq_true rfl) fl_X11_133 rfl rfl dX11_get_263 ?_
              refine aw_bipush X dX11_get_266 cb_40 ?_
              refine aw_iload_n X dX11_get_268 rfl rfl ?_
              refine aw_imul X dX11_get_269 ?_
              refine aw_aload_n X dX11_get_270 rfl rfl ?_
              refine am_get X 11 (Nat.le_of_ble_eq_true rfl) fl_X11_80 rfl rfl dX11_get_271 ?_
              refine aw_iload_n X dX11_get_274 rfl rfl ?_
              refine am_ald X 11 _ (M.2.2 11) hq (by decide) rfl rfl rfl (bt_vp ((pl_bt' c12)) (by decide) (by decide)) dX11_get_275 ?_
              refine aw_iadd X dX11_get_276 ?_
              refine am_ald X 18 _ (M.2.2 18) hq (by decide) rfl rfl rfl (ix8 (pl_bt' c12) (lt_bt (hPl _ (cl_lt (pl_bt' c12) (by decide) (by decide))) (hLa _ (cl_lt (pl_bt' c12) (by decide) (by decide))) (by have h := c52; simp only [mo_end, c173, if_false] at h; exact h))) dX11_get_277 ?_
              refine aw_istore_n (lv' := [(3, _), (2, _), (0, _), (1, _)]) X dX11_get_278 rfl (by decide) rfl ?_
              refine aw_aload_n X dX11_get_279 rfl rfl ?_
              refine am_get X 11 (Nat.le_of_ble_eq_true rfl) fl_X11_80 rfl rfl dX11_get_280 ?_
              refine aw_iload_n X dX11_get_283 rfl rfl ?_
              refine aw_dup2_11 X dX11_get_284 rfl rfl ?_
              refine am_ald X 11 _ (M.2.2 11) hq (by decide) rfl rfl rfl (bt_vp ((pl_bt' c12)) (by decide) (by decide)) dX11_get_285 ?_
              refine aw_iconst X dX11_get_286 ci_1 ?_
              refine aw_iadd X dX11_get_287 ?_
              refine am_ast X 11 _ hq (by decide) rfl rfl (bt_vp ((pl_bt' c12)) (by decide) (by decide)) dX11_get_288 ?_
              refine aw_aload_n X dX11_get_289 rfl rfl ?_
              refine am_get X 14 (Nat.le_of_ble_eq_true rfl) fl_X11_89 rfl rfl dX11_get_290 ?_
              refine aw_iload_n X dX11_get_293 rfl rfl ?_
              refine aw_dup2_11 X dX11_get_294 rfl rfl ?_
              refine am_ald X 14 _ (M.2.2 14) hq (by decide) rfl rfl rfl (bt_vp ((pl_bt' c12)) (by decide) (by decide)) dX11_get_295 ?_
              refine aw_iconst X dX11_get_296 ci_1 ?_
              refine aw_iadd X dX11_get_297 ?_
              refine am_ast X 14 _ hq (by decide) rfl rfl (bt_vp ((pl_bt' c12)) (by decide) (by decide)) dX11_get_298 ?_
              refine aw_iload_n X dX11_get_299 rfl rfl ?_
              refine RTN (some (.int _)) _ _ _ _ _ dX11_get_300 (⟨_, rfl⟩) (Nat.le_of_ble_eq_true rfl) (Nat.le_of_ble_eq_true rfl) ?_
              constructor <;> simp only [mo_get, mo_gv, mo_pf, mo_g1, mo_g4, c12, c25, (eq_true c35), c52, c66, c173, if_true, if_false, not_true_eq_false, not_false_eq_true, and_self, true_and, and_true, false_and, and_false, or_true, true_or, or_false, false_or, reduceCtorEq, ne_eq, va_us, pk_us]
            · refine aw_aload_n X dX11_get_176 rfl rfl ?_
              refine am_get X 9 (Nat.le_of_ble_eq_true rfl) fl_X11_74 rfl rfl dX11_get_177 ?_
              refine aw_iload_n X dX11_get_180 rfl rfl ?_
              refine am_zld X 9 _ (M.2.2 9) hq (by decide) rfl rfl rfl (bt_vp ((pl_bt' c12)) (by decide) (by decide)) dX11_get_181 ?_
              refine aw_if_eq (tgt := 189) X dX11_get_182 rfl (fun c182 => ?_) (fun c182 => ?_)
              · refine aw_iconst X dX11_get_189 ci_1 ?_
                refine aw_istore (lv' := [(4, _), (3, _), (2, _), (0, _), (1, _)]) X dX11_get_190 (by decide) rfl ?_
                refine aw_iconst X dX11_get_192 ci_0 ?_
                refine aw_istore (lv' := [(5, _), (4, _), (3, _), (2, _), (0, _), (1, _)]) X dX11_get_193 (by decide) rfl ?_
                refine aw_iload X dX11_get_195 rfl ?_
                refine aw_iload X dX11_get_197 rfl ?_
                refine aw_icmp_ge (tgt := 241) X dX11_get_199 rfl (fun c199 => ?_) (fun c199 => ?_)
                · exact absurd c199 (by decide)
                · refine aw_iload_n X dX11_get_202 rfl rfl ?_
                  refine aw_bipush X dX11_get_203 cb_8 ?_
                  refine aw_ishl X dX11_get_205 ?_
                  refine aw_aload_n X dX11_get_206 rfl rfl ?_
                  refine am_get X 37 (Nat.le_of_ble_eq_true rfl) fl_X11_154 rfl rfl dX11_get_207 ?_
                  refine aw_bipush X dX11_get_210 cb_60 ?_
                  refine aw_aload_n X dX11_get_212 rfl rfl ?_
                  refine am_get X 16 (Nat.le_of_ble_eq_true rfl) fl_X11_92 rfl rfl dX11_get_213 ?_
                  refine aw_iload_n X dX11_get_216 rfl rfl ?_
                  refine am_ald X 16 _ (M.2.2 16) hq (by decide) rfl rfl rfl (bt_vp ((pl_bt' c12)) (by decide) (by decide)) dX11_get_217 ?_
                  refine aw_imul X dX11_get_218 ?_
                  refine aw_aload_n X dX11_get_219 rfl rfl ?_
                  refine am_get X 11 (Nat.le_of_ble_eq_true rfl) fl_X11_80 rfl rfl dX11_get_220 ?_
                  refine aw_iload_n X dX11_get_223 rfl rfl ?_
                  refine am_ald X 11 _ (M.2.2 11) hq (by decide) rfl rfl rfl (bt_vp ((pl_bt' c12)) (by decide) (by decide)) dX11_get_224 ?_
                  refine aw_iload X dX11_get_225 rfl ?_
                  refine aw_imul X dX11_get_227 ?_
                  refine aw_iadd X dX11_get_228 ?_
                  refine aw_iload X dX11_get_229 rfl ?_
                  refine aw_iadd X dX11_get_231 ?_
                  refine am_ald X 37 _ (M.2.2 37) hq (by decide) rfl rfl rfl (ixget (w := 1) (j := 0) (hFl _ (cl_lt (pl_bt' c12) (by decide) (by decide)) c173) (hPl _ (cl_lt (pl_bt' c12) (by decide) (by decide))) (hBy _ (cl_lt (hFl _ (cl_lt (pl_bt' c12) (by decide) (by decide)) c173) (by decide) (by decide))) (by have h := c52; simp only [mo_end, c173, c182, if_true, if_false] at h; exact h) (by decide) (by decide)) dX11_get_232 ?_
                  refine aw_ior X dX11_get_233 ?_
                  refine aw_istore_n (lv' := [(3, _), (5, _), (4, _), (2, _), (0, _), (1, _)]) X dX11_get_234 rfl (by decide) rfl ?_
                  refine aw_iinc (v := 1) (lv' := [(5, _), (3, _), (4, _), (2, _), (0, _), (1, _)]) X dX11_get_235 rfl (by decide) (by decide) rfl ?_
                  refine aw_goto (tgt := 195) X dX11_get_238 rfl ?_
                  refine aw_iload X dX11_get_195 rfl ?_
                  refine aw_iload X dX11_get_197 rfl ?_
                  refine aw_icmp_ge (tgt := 241) X dX11_get_199 rfl (fun c199 => ?_) (fun c199 => ?_)
                  · refine aw_aload_n X dX11_get_241 rfl rfl ?_
                    refine am_get X 9 (Nat.le_of_ble_eq_true rfl) fl_X11_74 rfl rfl dX11_get_242 ?_
                    refine aw_iload_n X dX11_get_245 rfl rfl ?_
                    refine am_zld X 9 _ (M.2.2 9) hq (by decide) rfl rfl rfl (bt_vp ((pl_bt' c12)) (by decide) (by decide)) dX11_get_246 ?_
                    refine aw_if_eq (tgt := 257) X dX11_get_247 rfl (fun c247 => ?_) (fun c247 => ?_)
                    · refine aw_iload_n X dX11_get_257 rfl rfl ?_
                      refine aw_istore_n (lv' := [(3, _), (5, _), (4, _), (2, _), (0, _), (1, _)]) X dX11_get_258 rfl (by decide) rfl ?_
                      refine aw_goto (tgt := 279) X dX11_get_259 rfl ?_
                      refine aw_aload_n X dX11_get_279 rfl rfl ?_
                      refine am_get X 11 (Nat.le_of_ble_eq_true rfl) fl_X11_80 rfl rfl dX11_get_280 ?_
                      refine aw_iload_n X dX11_get_283 rfl rfl ?_
                      refine aw_dup2_11 X dX11_get_284 rfl rfl ?_
                      refine am_ald X 11 _ (M.2.2 11) hq (by decide) rfl rfl rfl (bt_vp ((pl_bt' c12)) (by decide) (by decide)) dX11_get_285 ?_
                      refine aw_iconst X dX11_get_286 ci_1 ?_
                      refine aw_iadd X dX11_get_287 ?_
                      refine am_ast X 11 _ hq (by decide) rfl rfl (bt_vp ((pl_bt' c12)) (by decide) (by decide)) dX11_get_288 ?_
                      refine aw_aload_n X dX11_get_289 rfl rfl ?_
                      refine am_get X 14 (Nat.le_of_ble_eq_true rfl) fl_X11_89 rfl rfl dX11_get_290 ?_
                      refine aw_iload_n X dX11_get_293 rfl rfl ?_
                      refine aw_dup2_11 X dX11_get_294 rfl rfl ?_
                      refine am_ald X 14 _ (M.2.2 14) hq (by decide) rfl rfl rfl (bt_vp ((pl_bt' c12)) (by decide) (by decide)) dX11_get_295 ?_
                      refine aw_iconst X dX11_get_296 ci_1 ?_
                      refine aw_iadd X dX11_get_297 ?_
                      refine am_ast X 14 _ hq (by decide) rfl rfl (bt_vp ((pl_bt' c12)) (by decide) (by decide)) dX11_get_298 ?_
                      refine aw_iload_n X dX11_get_299 rfl rfl ?_
                      refine RTN (some (.int _)) _ _ _ _ _ dX11_get_300 (⟨_, rfl⟩) (Nat.le_of_ble_eq_true rfl) (Nat.le_of_ble_eq_true rfl) ?_
                      constructor <;> simp only [mo_get, mo_gv, mo_pf, mo_g1, mo_g4, c12, c25, (eq_true c35), c52, c66, (eq_true c173), (eq_true c182), (eq_true c247), if_true, if_false, not_true_eq_false, not_false_eq_true, and_self, true_and, and_true, false_and, and_false, or_true, true_or, or_false, false_or, reduceCtorEq, ne_eq, va_us, pk_us]
                    · exact absurd c182 c247
                  · exact absurd c199 (by decide)
              · refine aw_iconst X dX11_get_185 ci_4 ?_
                refine aw_goto (tgt := 190) X dX11_get_186 rfl ?_
                refine aw_istore (lv' := [(4, _), (3, _), (2, _), (0, _), (1, _)]) X dX11_get_190 (by decide) rfl ?_
                refine aw_iconst X dX11_get_192 ci_0 ?_
                refine aw_istore (lv' := [(5, _), (4, _), (3, _), (2, _), (0, _), (1, _)]) X dX11_get_193 (by decide) rfl ?_
                refine aw_iload X dX11_get_195 rfl ?_
                refine aw_iload X dX11_get_197 rfl ?_
                refine aw_icmp_ge (tgt := 241) X dX11_get_199 rfl (fun c199 => ?_) (fun c199 => ?_)
                · exact absurd c199 (by decide)
                · refine aw_iload_n X dX11_get_202 rfl rfl ?_
                  refine aw_bipush X dX11_get_203 cb_8 ?_
                  refine aw_ishl X dX11_get_205 ?_
                  refine aw_aload_n X dX11_get_206 rfl rfl ?_
                  refine am_get X 37 (Nat.le_of_ble_eq_true rfl) fl_X11_154 rfl rfl dX11_get_207 ?_
                  refine aw_bipush X dX11_get_210 cb_60 ?_
                  refine aw_aload_n X dX11_get_212 rfl rfl ?_
                  refine am_get X 16 (Nat.le_of_ble_eq_true rfl) fl_X11_92 rfl rfl dX11_get_213 ?_
                  refine aw_iload_n X dX11_get_216 rfl rfl ?_
                  refine am_ald X 16 _ (M.2.2 16) hq (by decide) rfl rfl rfl (bt_vp ((pl_bt' c12)) (by decide) (by decide)) dX11_get_217 ?_
                  refine aw_imul X dX11_get_218 ?_
                  refine aw_aload_n X dX11_get_219 rfl rfl ?_
                  refine am_get X 11 (Nat.le_of_ble_eq_true rfl) fl_X11_80 rfl rfl dX11_get_220 ?_
                  refine aw_iload_n X dX11_get_223 rfl rfl ?_
                  refine am_ald X 11 _ (M.2.2 11) hq (by decide) rfl rfl rfl (bt_vp ((pl_bt' c12)) (by decide) (by decide)) dX11_get_224 ?_
                  refine aw_iload X dX11_get_225 rfl ?_
                  refine aw_imul X dX11_get_227 ?_
                  refine aw_iadd X dX11_get_228 ?_
                  refine aw_iload X dX11_get_229 rfl ?_
                  refine aw_iadd X dX11_get_231 ?_
                  refine am_ald X 37 _ (M.2.2 37) hq (by decide) rfl rfl rfl (ixget (w := 4) (j := 0) (hFl _ (cl_lt (pl_bt' c12) (by decide) (by decide)) c173) (hPl _ (cl_lt (pl_bt' c12) (by decide) (by decide))) (hBy _ (cl_lt (hFl _ (cl_lt (pl_bt' c12) (by decide) (by decide)) c173) (by decide) (by decide))) (by have h := c52; simp only [mo_end, c173, c182, if_true, if_false] at h; exact h) (by decide) (by decide)) dX11_get_232 ?_
                  refine aw_ior X dX11_get_233 ?_
                  refine aw_istore_n (lv' := [(3, _), (5, _), (4, _), (2, _), (0, _), (1, _)]) X dX11_get_234 rfl (by decide) rfl ?_
                  refine aw_iinc (v := 1) (lv' := [(5, _), (3, _), (4, _), (2, _), (0, _), (1, _)]) X dX11_get_235 rfl (by decide) (by decide) rfl ?_
                  refine aw_goto (tgt := 195) X dX11_get_238 rfl ?_
                  refine aw_iload X dX11_get_195 rfl ?_
                  refine aw_iload X dX11_get_197 rfl ?_
                  refine aw_icmp_ge (tgt := 241) X dX11_get_199 rfl (fun c199 => ?_) (fun c199 => ?_)
                  · exact absurd c199 (by decide)
                  · refine aw_iload_n X dX11_get_202 rfl rfl ?_
                    refine aw_bipush X dX11_get_203 cb_8 ?_
                    refine aw_ishl X dX11_get_205 ?_
                    refine aw_aload_n X dX11_get_206 rfl rfl ?_
                    refine am_get X 37 (Nat.le_of_ble_eq_true rfl) fl_X11_154 rfl rfl dX11_get_207 ?_
                    refine aw_bipush X dX11_get_210 cb_60 ?_
                    refine aw_aload_n X dX11_get_212 rfl rfl ?_
                    refine am_get X 16 (Nat.le_of_ble_eq_true rfl) fl_X11_92 rfl rfl dX11_get_213 ?_
                    refine aw_iload_n X dX11_get_216 rfl rfl ?_
                    refine am_ald X 16 _ (M.2.2 16) hq (by decide) rfl rfl rfl (bt_vp ((pl_bt' c12)) (by decide) (by decide)) dX11_get_217 ?_
                    refine aw_imul X dX11_get_218 ?_
                    refine aw_aload_n X dX11_get_219 rfl rfl ?_
                    refine am_get X 11 (Nat.le_of_ble_eq_true rfl) fl_X11_80 rfl rfl dX11_get_220 ?_
                    refine aw_iload_n X dX11_get_223 rfl rfl ?_
                    refine am_ald X 11 _ (M.2.2 11) hq (by decide) rfl rfl rfl (bt_vp ((pl_bt' c12)) (by decide) (by decide)) dX11_get_224 ?_
                    refine aw_iload X dX11_get_225 rfl ?_
                    refine aw_imul X dX11_get_227 ?_
                    refine aw_iadd X dX11_get_228 ?_
                    refine aw_iload X dX11_get_229 rfl ?_
                    refine aw_iadd X dX11_get_231 ?_
                    refine am_ald X 37 _ (M.2.2 37) hq (by decide) rfl rfl rfl (ixget (w := 4) (j := 1) (hFl _ (cl_lt (pl_bt' c12) (by decide) (by decide)) c173) (hPl _ (cl_lt (pl_bt' c12) (by decide) (by decide))) (hBy _ (cl_lt (hFl _ (cl_lt (pl_bt' c12) (by decide) (by decide)) c173) (by decide) (by decide))) (by have h := c52; simp only [mo_end, c173, c182, if_true, if_false] at h; exact h) (by decide) (by decide)) dX11_get_232 ?_
                    refine aw_ior X dX11_get_233 ?_
                    refine aw_istore_n (lv' := [(3, _), (5, _), (4, _), (2, _), (0, _), (1, _)]) X dX11_get_234 rfl (by decide) rfl ?_
                    refine aw_iinc (v := 2) (lv' := [(5, _), (3, _), (4, _), (2, _), (0, _), (1, _)]) X dX11_get_235 rfl (by decide) (by decide) rfl ?_
                    refine aw_goto (tgt := 195) X dX11_get_238 rfl ?_
                    refine aw_iload X dX11_get_195 rfl ?_
                    refine aw_iload X dX11_get_197 rfl ?_
                    refine aw_icmp_ge (tgt := 241) X dX11_get_199 rfl (fun c199 => ?_) (fun c199 => ?_)
                    · exact absurd c199 (by decide)
                    · refine aw_iload_n X dX11_get_202 rfl rfl ?_
                      refine aw_bipush X dX11_get_203 cb_8 ?_
                      refine aw_ishl X dX11_get_205 ?_
                      refine aw_aload_n X dX11_get_206 rfl rfl ?_
                      refine am_get X 37 (Nat.le_of_ble_eq_true rfl) fl_X11_154 rfl rfl dX11_get_207 ?_
                      refine aw_bipush X dX11_get_210 cb_60 ?_
                      refine aw_aload_n X dX11_get_212 rfl rfl ?_
                      refine am_get X 16 (Nat.le_of_ble_eq_true rfl) fl_X11_92 rfl rfl dX11_get_213 ?_
                      refine aw_iload_n X dX11_get_216 rfl rfl ?_
                      refine am_ald X 16 _ (M.2.2 16) hq (by decide) rfl rfl rfl (bt_vp ((pl_bt' c12)) (by decide) (by decide)) dX11_get_217 ?_
                      refine aw_imul X dX11_get_218 ?_
                      refine aw_aload_n X dX11_get_219 rfl rfl ?_
                      refine am_get X 11 (Nat.le_of_ble_eq_true rfl) fl_X11_80 rfl rfl dX11_get_220 ?_
                      refine aw_iload_n X dX11_get_223 rfl rfl ?_
                      refine am_ald X 11 _ (M.2.2 11) hq (by decide) rfl rfl rfl (bt_vp ((pl_bt' c12)) (by decide) (by decide)) dX11_get_224 ?_
                      refine aw_iload X dX11_get_225 rfl ?_
                      refine aw_imul X dX11_get_227 ?_
                      refine aw_iadd X dX11_get_228 ?_
                      refine aw_iload X dX11_get_229 rfl ?_
                      refine aw_iadd X dX11_get_231 ?_
                      refine am_ald X 37 _ (M.2.2 37) hq (by decide) rfl rfl rfl (ixget (w := 4) (j := 2) (hFl _ (cl_lt (pl_bt' c12) (by decide) (by decide)) c173) (hPl _ (cl_lt (pl_bt' c12) (by decide) (by decide))) (hBy _ (cl_lt (hFl _ (cl_lt (pl_bt' c12) (by decide) (by decide)) c173) (by decide) (by decide))) (by have h := c52; simp only [mo_end, c173, c182, if_true, if_false] at h; exact h) (by decide) (by decide)) dX11_get_232 ?_
                      refine aw_ior X dX11_get_233 ?_
                      refine aw_istore_n (lv' := [(3, _), (5, _), (4, _), (2, _), (0, _), (1, _)]) X dX11_get_234 rfl (by decide) rfl ?_
                      refine aw_iinc (v := 3) (lv' := [(5, _), (3, _), (4, _), (2, _), (0, _), (1, _)]) X dX11_get_235 rfl (by decide) (by decide) rfl ?_
                      refine aw_goto (tgt := 195) X dX11_get_238 rfl ?_
                      refine aw_iload X dX11_get_195 rfl ?_
                      refine aw_iload X dX11_get_197 rfl ?_
                      refine aw_icmp_ge (tgt := 241) X dX11_get_199 rfl (fun c199 => ?_) (fun c199 => ?_)
                      · exact absurd c199 (by decide)
                      · refine aw_iload_n X dX11_get_202 rfl rfl ?_
                        refine aw_bipush X dX11_get_203 cb_8 ?_
                        refine aw_ishl X dX11_get_205 ?_
                        refine aw_aload_n X dX11_get_206 rfl rfl ?_
                        refine am_get X 37 (Nat.le_of_ble_eq_true rfl) fl_X11_154 rfl rfl dX11_get_207 ?_
                        refine aw_bipush X dX11_get_210 cb_60 ?_
                        refine aw_aload_n X dX11_get_212 rfl rfl ?_
                        refine am_get X 16 (Nat.le_of_ble_eq_true rfl) fl_X11_92 rfl rfl dX11_get_213 ?_
                        refine aw_iload_n X dX11_get_216 rfl rfl ?_
                        refine am_ald X 16 _ (M.2.2 16) hq (by decide) rfl rfl rfl (bt_vp ((pl_bt' c12)) (by decide) (by decide)) dX11_get_217 ?_
                        refine aw_imul X dX11_get_218 ?_
                        refine aw_aload_n X dX11_get_219 rfl rfl ?_
                        refine am_get X 11 (Nat.le_of_ble_eq_true rfl) fl_X11_80 rfl rfl dX11_get_220 ?_
                        refine aw_iload_n X dX11_get_223 rfl rfl ?_
                        refine am_ald X 11 _ (M.2.2 11) hq (by decide) rfl rfl rfl (bt_vp ((pl_bt' c12)) (by decide) (by decide)) dX11_get_224 ?_
                        refine aw_iload X dX11_get_225 rfl ?_
                        refine aw_imul X dX11_get_227 ?_
                        refine aw_iadd X dX11_get_228 ?_
                        refine aw_iload X dX11_get_229 rfl ?_
                        refine aw_iadd X dX11_get_231 ?_
                        refine am_ald X 37 _ (M.2.2 37) hq (by decide) rfl rfl rfl (ixget (w := 4) (j := 3) (hFl _ (cl_lt (pl_bt' c12) (by decide) (by decide)) c173) (hPl _ (cl_lt (pl_bt' c12) (by decide) (by decide))) (hBy _ (cl_lt (hFl _ (cl_lt (pl_bt' c12) (by decide) (by decide)) c173) (by decide) (by decide))) (by have h := c52; simp only [mo_end, c173, c182, if_true, if_false] at h; exact h) (by decide) (by decide)) dX11_get_232 ?_
                        refine aw_ior X dX11_get_233 ?_
                        refine aw_istore_n (lv' := [(3, _), (5, _), (4, _), (2, _), (0, _), (1, _)]) X dX11_get_234 rfl (by decide) rfl ?_
                        refine aw_iinc (v := 4) (lv' := [(5, _), (3, _), (4, _), (2, _), (0, _), (1, _)]) X dX11_get_235 rfl (by decide) (by decide) rfl ?_
                        refine aw_goto (tgt := 195) X dX11_get_238 rfl ?_
                        refine aw_iload X dX11_get_195 rfl ?_
                        refine aw_iload X dX11_get_197 rfl ?_
                        refine aw_icmp_ge (tgt := 241) X dX11_get_199 rfl (fun c199 => ?_) (fun c199 => ?_)
                        · refine aw_aload_n X dX11_get_241 rfl rfl ?_
                          refine am_get X 9 (Nat.le_of_ble_eq_true rfl) fl_X11_74 rfl rfl dX11_get_242 ?_
                          refine aw_iload_n X dX11_get_245 rfl rfl ?_
                          refine am_zld X 9 _ (M.2.2 9) hq (by decide) rfl rfl rfl (bt_vp ((pl_bt' c12)) (by decide) (by decide)) dX11_get_246 ?_
                          refine aw_if_eq (tgt := 257) X dX11_get_247 rfl (fun c247 => ?_) (fun c247 => ?_)
                          · exact absurd c247 c182
                          · refine aw_iload_n X dX11_get_250 rfl rfl ?_
                            refine aw_callS X (kX11_signOf _ _ _ _) okm_X11_signOf ml_X11_165 st_X11_signOf rfl rfl (Nat.le_of_ble_eq_true rfl) ⟨Nat.le_of_ble_eq_true rfl, Nat.le_of_ble_eq_true rfl, Nat.le_of_ble_eq_true rfl, Nat.le_of_ble_eq_true rfl⟩ dX11_get_251 (fun v w2 hp => ?_)
                            obtain ⟨rfl, rfl⟩ := hp
                            refine aw_goto (tgt := 258) X dX11_get_254 rfl ?_
                            refine aw_istore_n (lv' := [(3, _), (5, _), (4, _), (2, _), (0, _), (1, _)]) X dX11_get_258 rfl (by decide) rfl ?_
                            refine aw_goto (tgt := 279) X dX11_get_259 rfl ?_
                            refine aw_aload_n X dX11_get_279 rfl rfl ?_
                            refine am_get X 11 (Nat.le_of_ble_eq_true rfl) fl_X11_80 rfl rfl dX11_get_280 ?_
                            refine aw_iload_n X dX11_get_283 rfl rfl ?_
                            refine aw_dup2_11 X dX11_get_284 rfl rfl ?_
                            refine am_ald X 11 _ (M.2.2 11) hq (by decide) rfl rfl rfl (bt_vp ((pl_bt' c12)) (by decide) (by decide)) dX11_get_285 ?_
                            refine aw_iconst X dX11_get_286 ci_1 ?_
                            refine aw_iadd X dX11_get_287 ?_
                            refine am_ast X 11 _ hq (by decide) rfl rfl (bt_vp ((pl_bt' c12)) (by decide) (by decide)) dX11_get_288 ?_
                            refine aw_aload_n X dX11_get_289 rfl rfl ?_
                            refine am_get X 14 (Nat.le_of_ble_eq_true rfl) fl_X11_89 rfl rfl dX11_get_290 ?_
                            refine aw_iload_n X dX11_get_293 rfl rfl ?_
                            refine aw_dup2_11 X dX11_get_294 rfl rfl ?_
                            refine am_ald X 14 _ (M.2.2 14) hq (by decide) rfl rfl rfl (bt_vp ((pl_bt' c12)) (by decide) (by decide)) dX11_get_295 ?_
                            refine aw_iconst X dX11_get_296 ci_1 ?_
                            refine aw_iadd X dX11_get_297 ?_
                            refine am_ast X 14 _ hq (by decide) rfl rfl (bt_vp ((pl_bt' c12)) (by decide) (by decide)) dX11_get_298 ?_
                            refine aw_iload_n X dX11_get_299 rfl rfl ?_
                            refine RTN (some (.int _)) _ _ _ _ _ dX11_get_300 (⟨_, rfl⟩) (Nat.le_of_ble_eq_true rfl) (Nat.le_of_ble_eq_true rfl) ?_
                            constructor <;> simp only [mo_get, mo_gv, mo_pf, mo_g1, mo_g4, c12, c25, (eq_true c35), c52, c66, (eq_true c173), c182, c247, if_true, if_false, not_true_eq_false, not_false_eq_true, and_self, true_and, and_true, false_and, and_false, or_true, true_or, or_false, false_or, reduceCtorEq, ne_eq, va_us, pk_us]
                        · exact absurd c199 (by decide)
          · refine aw_aload_n X dX11_get_69 rfl rfl ?_
            refine aw_aload_n X dX11_get_70 rfl rfl ?_
            refine am_get X 15 (Nat.le_of_ble_eq_true rfl) fl_X11_26 rfl rfl dX11_get_71 ?_
            refine aw_iload_n X dX11_get_74 rfl rfl ?_
            refine am_ald X 15 _ (M.2.2 15) hq (by decide) rfl rfl rfl (bt_vp ((pl_bt' c12)) (by decide) (by decide)) dX11_get_75 ?_
            refine aw_aload_n X dX11_get_76 rfl rfl ?_
            refine am_get X 9 (Nat.le_of_ble_eq_true rfl) fl_X11_74 rfl rfl dX11_get_77 ?_
            refine aw_iload_n X dX11_get_80 rfl rfl ?_
            refine am_zld X 9 _ (M.2.2 9) hq (by decide) rfl rfl rfl (bt_vp ((pl_bt' c12)) (by decide) (by decide)) dX11_get_81 ?_
            refine aw_if_eq (tgt := 89) X dX11_get_82 rfl (fun c82 => ?_) (fun c82 => ?_)
            · refine aw_iconst X dX11_get_89 ci_1 ?_
              refine aw_aload_n X dX11_get_90 rfl rfl ?_
              refine am_get X 11 (Nat.le_of_ble_eq_true rfl) fl_X11_80 rfl rfl dX11_get_91 ?_
              refine aw_iload_n X dX11_get_94 rfl rfl ?_
              refine am_ald X 11 _ (M.2.2 11) hq (by decide) rfl rfl rfl (bt_vp ((pl_bt' c12)) (by decide) (by decide)) dX11_get_95 ?_
              refine aw_callV X (kX11_against _ _ _ _ hq (M.2.2 15 (oI (mo_pl (sI M 0 0) t)).toNatClampNeg) _ _ (hA1 _ (cl_lt (pl_bt' c12) (by decide) (by decide)))) okm_X11_against okX11 mw_0 ml_X11_54 im_X11_against se_X11_X11_against rfl rfl (Nat.le_of_ble_eq_true rfl) ⟨Nat.le_of_ble_eq_true rfl, Nat.le_of_ble_eq_true rfl, Nat.le_of_ble_eq_true rfl, Nat.le_of_ble_eq_true rfl⟩ dX11_get_96 (fun v w2 hp => ?_)
              obtain ⟨rfl, rfl⟩ := hp
              refine aw_istore (lv' := [(4, _), (3, _), (2, _), (0, _), (1, _)]) X dX11_get_99 (by decide) rfl ?_
              refine aw_iload X dX11_get_101 rfl ?_
              refine aw_if_le (tgt := 113) X dX11_get_103 rfl (fun c103 => ?_) (fun c103 => ?_)
              · refine aw_aload_n X dX11_get_113 rfl rfl ?_
                refine am_get X 4 (Nat.le_of_ble_eq_true rfl) fl_X11_49 rfl rfl dX11_get_114 ?_
                refine aw_bipush X dX11_get_117 cb_40 ?_
                refine aw_aload_n X dX11_get_119 rfl rfl ?_
                refine am_get X 15 (Nat.le_of_ble_eq_true rfl) fl_X11_26 rfl rfl dX11_get_120 ?_
                refine aw_iload_n X dX11_get_123 rfl rfl ?_
                refine am_ald X 15 _ (M.2.2 15) hq (by decide) rfl rfl rfl (bt_vp ((pl_bt' c12)) (by decide) (by decide)) dX11_get_124 ?_
                refine aw_imul X dX11_get_125 ?_
                refine aw_aload_n X dX11_get_126 rfl rfl ?_
                refine am_get X 11 (Nat.le_of_ble_eq_true rfl) fl_X11_80 rfl rfl dX11_get_127 ?_
                refine aw_iload_n X dX11_get_130 rfl rfl ?_
                refine am_ald X 11 _ (M.2.2 11) hq (by decide) rfl rfl rfl (bt_vp ((pl_bt' c12)) (by decide) (by decide)) dX11_get_131 ?_
                refine aw_iadd X dX11_get_132 ?_
                refine aw_bipush X dX11_get_133 cb_40 ?_
                refine aw_isub X dX11_get_135 ?_
                refine am_ald X 4 _ (M.2.2 4) hq (by decide) rfl rfl rfl (ix_v (ag_ok hS (hA1 _ (cl_lt (pl_bt' c12) (by decide) (by decide))) c103).1 (ag_ok hS (hA1 _ (cl_lt (pl_bt' c12) (by decide) (by decide))) c103).2) dX11_get_136 ?_
                refine aw_istore (lv' := [(5, _), (4, _), (3, _), (2, _), (0, _), (1, _)]) X dX11_get_137 (by decide) rfl ?_
                refine aw_aload_n X dX11_get_139 rfl rfl ?_
                refine am_get X 9 (Nat.le_of_ble_eq_true rfl) fl_X11_74 rfl rfl dX11_get_140 ?_
                refine aw_iload_n X dX11_get_143 rfl rfl ?_
                refine am_zld X 9 _ (M.2.2 9) hq (by decide) rfl rfl rfl (bt_vp ((pl_bt' c12)) (by decide) (by decide)) dX11_get_144 ?_
                refine aw_if_eq (tgt := 156) X dX11_get_145 rfl (fun c145 => ?_) (fun c145 => ?_)
                · refine aw_iload X dX11_get_156 rfl ?_
                  refine aw_sipush X dX11_get_158 cs_255 ?_
                  refine aw_iand X dX11_get_161 ?_
                  refine aw_istore_n (lv' := [(3, _), (5, _), (4, _), (2, _), (0, _), (1, _)]) X dX11_get_162 rfl (by decide) rfl ?_
                  refine aw_goto (tgt := 279) X dX11_get_163 rfl ?_
                  refine aw_aload_n X dX11_get_279 rfl rfl ?_
                  refine am_get X 11 (Nat.le_of_ble_eq_true rfl) fl_X11_80 rfl rfl dX11_get_280 ?_
                  refine aw_iload_n X dX11_get_283 rfl rfl ?_
                  refine aw_dup2_11 X dX11_get_284 rfl rfl ?_
                  refine am_ald X 11 _ (M.2.2 11) hq (by decide) rfl rfl rfl (bt_vp ((pl_bt' c12)) (by decide) (by decide)) dX11_get_285 ?_
                  refine aw_iconst X dX11_get_286 ci_1 ?_
                  refine aw_iadd X dX11_get_287 ?_
                  refine am_ast X 11 _ hq (by decide) rfl rfl (bt_vp ((pl_bt' c12)) (by decide) (by decide)) dX11_get_288 ?_
                  refine aw_aload_n X dX11_get_289 rfl rfl ?_
                  refine am_get X 14 (Nat.le_of_ble_eq_true rfl) fl_X11_89 rfl rfl dX11_get_290 ?_
                  refine aw_iload_n X dX11_get_293 rfl rfl ?_
                  refine aw_dup2_11 X dX11_get_294 rfl rfl ?_
                  refine am_ald X 14 _ (M.2.2 14) hq (by decide) rfl rfl rfl (bt_vp ((pl_bt' c12)) (by decide) (by decide)) dX11_get_295 ?_
                  refine aw_iconst X dX11_get_296 ci_1 ?_
                  refine aw_iadd X dX11_get_297 ?_
                  refine am_ast X 14 _ hq (by decide) rfl rfl (bt_vp ((pl_bt' c12)) (by decide) (by decide)) dX11_get_298 ?_
                  refine aw_iload_n X dX11_get_299 rfl rfl ?_
                  refine RTN (some (.int _)) _ _ _ _ _ dX11_get_300 (⟨_, rfl⟩) (Nat.le_of_ble_eq_true rfl) (Nat.le_of_ble_eq_true rfl) ?_
                  constructor <;> simp only [mo_get, mo_gv, mo_pf, mo_g1, mo_g4, c12, c25, (eq_true c35), c52, (eq_true c66), (eq_true c82), c103, (eq_true c145), if_true, if_false, not_true_eq_false, not_false_eq_true, and_self, true_and, and_true, false_and, and_false, or_true, true_or, or_false, false_or, reduceCtorEq, ne_eq, va_us, pk_us]
                · exact absurd c82 c145
              · refine aw_aload_n X dX11_get_106 rfl rfl ?_
                refine aw_iload X dX11_get_107 rfl ?_
                refine aw_callV X (kX11_fails _ _ _ _ hq _) okm_X11_fails okX11 mw_0 ml_X11_35 im_X11_fails se_X11_X11_fails rfl rfl (Nat.le_of_ble_eq_true rfl) ⟨Nat.le_of_ble_eq_true rfl, Nat.le_of_ble_eq_true rfl, Nat.le_of_ble_eq_true rfl, Nat.le_of_ble_eq_true rfl⟩ dX11_get_109 (fun v w2 hp => ?_)
                obtain ⟨rfl, rfl⟩ := hp
                refine RTN (some (.int _)) _ _ _ _ _ dX11_get_112 (⟨_, rfl⟩) (Nat.le_of_ble_eq_true rfl) (Nat.le_of_ble_eq_true rfl) ?_
                constructor <;> simp only [mo_get, mo_gv, mo_pf, mo_g1, mo_g4, c12, c25, (eq_true c35), c52, (eq_true c66), (eq_true c82), c103, if_true, if_false, not_true_eq_false, not_false_eq_true, and_self, true_and, and_true, false_and, and_false, or_true, true_or, or_false, false_or, reduceCtorEq, ne_eq, va_us, pk_us]
            · refine aw_iconst X dX11_get_85 ci_2 ?_
              refine aw_goto (tgt := 90) X dX11_get_86 rfl ?_
              refine aw_aload_n X dX11_get_90 rfl rfl ?_
              refine am_get X 11 (Nat.le_of_ble_eq_true rfl) fl_X11_80 rfl rfl dX11_get_91 ?_
              refine aw_iload_n X dX11_get_94 rfl rfl ?_
              refine am_ald X 11 _ (M.2.2 11) hq (by decide) rfl rfl rfl (bt_vp ((pl_bt' c12)) (by decide) (by decide)) dX11_get_95 ?_
              refine aw_callV X (kX11_against _ _ _ _ hq (M.2.2 15 (oI (mo_pl (sI M 0 0) t)).toNatClampNeg) _ _ (hA1 _ (cl_lt (pl_bt' c12) (by decide) (by decide)))) okm_X11_against okX11 mw_0 ml_X11_54 im_X11_against se_X11_X11_against rfl rfl (Nat.le_of_ble_eq_true rfl) ⟨Nat.le_of_ble_eq_true rfl, Nat.le_of_ble_eq_true rfl, Nat.le_of_ble_eq_true rfl, Nat.le_of_ble_eq_true rfl⟩ dX11_get_96 (fun v w2 hp => ?_)
              obtain ⟨rfl, rfl⟩ := hp
              refine aw_istore (lv' := [(4, _), (3, _), (2, _), (0, _), (1, _)]) X dX11_get_99 (by decide) rfl ?_
              refine aw_iload X dX11_get_101 rfl ?_
              refine aw_if_le (tgt := 113) X dX11_get_103 rfl (fun c103 => ?_) (fun c103 => ?_)
              · refine aw_aload_n X dX11_get_113 rfl rfl ?_
                refine am_get X 4 (Nat.le_of_ble_eq_true rfl) fl_X11_49 rfl rfl dX11_get_114 ?_
                refine aw_bipush X dX11_get_117 cb_40 ?_
                refine aw_aload_n X dX11_get_119 rfl rfl ?_
                refine am_get X 15 (Nat.le_of_ble_eq_true rfl) fl_X11_26 rfl rfl dX11_get_120 ?_
                refine aw_iload_n X dX11_get_123 rfl rfl ?_
                refine am_ald X 15 _ (M.2.2 15) hq (by decide) rfl rfl rfl (bt_vp ((pl_bt' c12)) (by decide) (by decide)) dX11_get_124 ?_
                refine aw_imul X dX11_get_125 ?_
                refine aw_aload_n X dX11_get_126 rfl rfl ?_
                refine am_get X 11 (Nat.le_of_ble_eq_true rfl) fl_X11_80 rfl rfl dX11_get_127 ?_
                refine aw_iload_n X dX11_get_130 rfl rfl ?_
                refine am_ald X 11 _ (M.2.2 11) hq (by decide) rfl rfl rfl (bt_vp ((pl_bt' c12)) (by decide) (by decide)) dX11_get_131 ?_
                refine aw_iadd X dX11_get_132 ?_
                refine aw_bipush X dX11_get_133 cb_40 ?_
                refine aw_isub X dX11_get_135 ?_
                refine am_ald X 4 _ (M.2.2 4) hq (by decide) rfl rfl rfl (ix_v (ag_ok hS (hA1 _ (cl_lt (pl_bt' c12) (by decide) (by decide))) c103).1 (ag_ok hS (hA1 _ (cl_lt (pl_bt' c12) (by decide) (by decide))) c103).2) dX11_get_136 ?_
                refine aw_istore (lv' := [(5, _), (4, _), (3, _), (2, _), (0, _), (1, _)]) X dX11_get_137 (by decide) rfl ?_
                refine aw_aload_n X dX11_get_139 rfl rfl ?_
                refine am_get X 9 (Nat.le_of_ble_eq_true rfl) fl_X11_74 rfl rfl dX11_get_140 ?_
                refine aw_iload_n X dX11_get_143 rfl rfl ?_
                refine am_zld X 9 _ (M.2.2 9) hq (by decide) rfl rfl rfl (bt_vp ((pl_bt' c12)) (by decide) (by decide)) dX11_get_144 ?_
                refine aw_if_eq (tgt := 156) X dX11_get_145 rfl (fun c145 => ?_) (fun c145 => ?_)
                · exact absurd c145 c82
                · refine aw_iload X dX11_get_148 rfl ?_
                  refine aw_callS X (kX11_signOf _ _ _ _) okm_X11_signOf ml_X11_165 st_X11_signOf rfl rfl (Nat.le_of_ble_eq_true rfl) ⟨Nat.le_of_ble_eq_true rfl, Nat.le_of_ble_eq_true rfl, Nat.le_of_ble_eq_true rfl, Nat.le_of_ble_eq_true rfl⟩ dX11_get_150 (fun v w2 hp => ?_)
                  obtain ⟨rfl, rfl⟩ := hp
                  refine aw_goto (tgt := 162) X dX11_get_153 rfl ?_
                  refine aw_istore_n (lv' := [(3, _), (5, _), (4, _), (2, _), (0, _), (1, _)]) X dX11_get_162 rfl (by decide) rfl ?_
                  refine aw_goto (tgt := 279) X dX11_get_163 rfl ?_
                  refine aw_aload_n X dX11_get_279 rfl rfl ?_
                  refine am_get X 11 (Nat.le_of_ble_eq_true rfl) fl_X11_80 rfl rfl dX11_get_280 ?_
                  refine aw_iload_n X dX11_get_283 rfl rfl ?_
                  refine aw_dup2_11 X dX11_get_284 rfl rfl ?_
                  refine am_ald X 11 _ (M.2.2 11) hq (by decide) rfl rfl rfl (bt_vp ((pl_bt' c12)) (by decide) (by decide)) dX11_get_285 ?_
                  refine aw_iconst X dX11_get_286 ci_1 ?_
                  refine aw_iadd X dX11_get_287 ?_
                  refine am_ast X 11 _ hq (by decide) rfl rfl (bt_vp ((pl_bt' c12)) (by decide) (by decide)) dX11_get_288 ?_
                  refine aw_aload_n X dX11_get_289 rfl rfl ?_
                  refine am_get X 14 (Nat.le_of_ble_eq_true rfl) fl_X11_89 rfl rfl dX11_get_290 ?_
                  refine aw_iload_n X dX11_get_293 rfl rfl ?_
                  refine aw_dup2_11 X dX11_get_294 rfl rfl ?_
                  refine am_ald X 14 _ (M.2.2 14) hq (by decide) rfl rfl rfl (bt_vp ((pl_bt' c12)) (by decide) (by decide)) dX11_get_295 ?_
                  refine aw_iconst X dX11_get_296 ci_1 ?_
                  refine aw_iadd X dX11_get_297 ?_
                  refine am_ast X 14 _ hq (by decide) rfl rfl (bt_vp ((pl_bt' c12)) (by decide) (by decide)) dX11_get_298 ?_
                  refine aw_iload_n X dX11_get_299 rfl rfl ?_
                  refine RTN (some (.int _)) _ _ _ _ _ dX11_get_300 (⟨_, rfl⟩) (Nat.le_of_ble_eq_true rfl) (Nat.le_of_ble_eq_true rfl) ?_
                  constructor <;> simp only [mo_get, mo_gv, mo_pf, mo_g1, mo_g4, c12, c25, (eq_true c35), c52, (eq_true c66), c82, c103, c145, if_true, if_false, not_true_eq_false, not_false_eq_true, and_self, true_and, and_true, false_and, and_false, or_true, true_or, or_false, false_or, reduceCtorEq, ne_eq, va_us, pk_us]
              · refine aw_aload_n X dX11_get_106 rfl rfl ?_
                refine aw_iload X dX11_get_107 rfl ?_
                refine aw_callV X (kX11_fails _ _ _ _ hq _) okm_X11_fails okX11 mw_0 ml_X11_35 im_X11_fails se_X11_X11_fails rfl rfl (Nat.le_of_ble_eq_true rfl) ⟨Nat.le_of_ble_eq_true rfl, Nat.le_of_ble_eq_true rfl, Nat.le_of_ble_eq_true rfl, Nat.le_of_ble_eq_true rfl⟩ dX11_get_109 (fun v w2 hp => ?_)
                obtain ⟨rfl, rfl⟩ := hp
                refine RTN (some (.int _)) _ _ _ _ _ dX11_get_112 (⟨_, rfl⟩) (Nat.le_of_ble_eq_true rfl) (Nat.le_of_ble_eq_true rfl) ?_
                constructor <;> simp only [mo_get, mo_gv, mo_pf, mo_g1, mo_g4, c12, c25, (eq_true c35), c52, (eq_true c66), c82, c103, if_true, if_false, not_true_eq_false, not_false_eq_true, and_self, true_and, and_true, false_and, and_false, or_true, true_or, or_false, false_or, reduceCtorEq, ne_eq, va_us, pk_us]
        · refine aw_iconst X dX11_get_55 ci_m1 ?_
          refine RTN (some (.int _)) _ _ _ _ _ dX11_get_56 (⟨_, rfl⟩) (Nat.le_of_ble_eq_true rfl) (Nat.le_of_ble_eq_true rfl) ?_
          constructor <;> simp only [mo_get, mo_gv, mo_pf, mo_g1, mo_g4, c12, c25, (eq_true c35), c52, if_true, if_false, not_true_eq_false, not_false_eq_true, and_self, true_and, and_true, false_and, and_false, or_true, true_or, or_false, false_or, reduceCtorEq, ne_eq, va_us, pk_us]
      · refine aw_bipush X dX11_get_38 cb_m4 ?_
        refine RTN (some (.int _)) _ _ _ _ _ dX11_get_40 (⟨_, rfl⟩) (Nat.le_of_ble_eq_true rfl) (Nat.le_of_ble_eq_true rfl) ?_
        constructor <;> simp only [mo_get, mo_gv, mo_pf, mo_g1, mo_g4, c12, c25, c35, if_true, if_false, not_true_eq_false, not_false_eq_true, and_self, true_and, and_true, false_and, and_false, or_true, true_or, or_false, false_or, reduceCtorEq, ne_eq, va_us, pk_us]
  · refine aw_bipush X dX11_get_15 cb_m2 ?_
    refine RTN (some (.int _)) _ _ _ _ _ dX11_get_17 (⟨_, rfl⟩) (Nat.le_of_ble_eq_true rfl) (Nat.le_of_ble_eq_true rfl) ?_
    constructor <;> simp only [mo_get, mo_gv, mo_pf, mo_g1, mo_g4, c12, if_true, if_false, not_true_eq_false, not_false_eq_true, and_self, true_and, and_true, false_and, and_false, or_true, true_or, or_false, false_or, reduceCtorEq, ne_eq, va_us, pk_us]
