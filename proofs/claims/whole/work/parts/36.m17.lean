/-! open -/
def blk (M : MS) (f mode : Int32) (k : Nat) : Bool := decide (0 < M.2.2 6 k) && (decide (M.2.2 8 k = 2) && (decide (M.2.2 16 k = f) && (!decide (mode = 2) || !decide (M.2.2 10 k = 2))))
def mo_fr (M : MS) (f mode : Int32) (u0 : Bool) : Nat → Bool
  | 0 => u0
  | i + 1 => if blk M f mode i then false else mo_fr M f mode u0 i
def mo_o1 (N : MS) (f mode : Int32) : MS := sF N 36 f.toNatClampNeg (if mode = 1 then 0 else N.2.2 36 f.toNatClampNeg)
def mo_o3 (N : MS) (f mode wide : Int32) : MS :=
  sF (mo_o1 N f mode) 36 f.toNatClampNeg ((mo_o1 N f mode).2.2 36 f.toNatClampNeg - (if mode = 5 ∧ ¬ wide = 0 then (mo_o1 N f mode).2.2 36 f.toNatClampNeg - (mo_o1 N f mode).2.2 36 f.toNatClampNeg / 4 * 4 else 0))
def mo_o5 (N : MS) (f mode wide k : Int32) : MS := sF (mo_begin (mo_o3 N f mode wide) k.toNatClampNeg 2 wide mode) 16 k.toNatClampNeg f
def mo_o6 (N : MS) (f mode wide k : Int32) : MS := sF (mo_o5 N f mode wide k) 11 k.toNatClampNeg (if mode = 5 then mo_end (mo_o5 N f mode wide k) k.toNatClampNeg else 0)
def mo_free (M : MS) (rf mode : Int32) : Bool := mo_fr M (M.2.2 34 rf.toNatClampNeg) mode (!decide (mode = 2) || !decide ((M.2.2 35 (M.2.2 34 rf.toNatClampNeg).toNatClampNeg) = 0)) 8
def mo_open (M : MS) (rf mode wide : Int32) : Int32 × MS :=
  if bt rf 0 (M.1 29 - 1).toInt then
    if bt mode 1 3 ∨ mode = 5 then
      if mo_free M rf mode then
        if (oI (mo_fp (sI M 0 0))) < 0 then (-5, (sI M 0 0))
        else if (M.2.2 35 (M.2.2 34 rf.toNatClampNeg).toNatClampNeg) = 0 then (if M.1 38 = 6 then (-5, (sI M 0 0)) else (M.1 7 + 1, mo_o6 (sF (sI (sF (sI M 0 0) 35 (M.2.2 34 rf.toNatClampNeg).toNatClampNeg 1) 38 (M.1 38 + 1)) 36 (M.2.2 34 rf.toNatClampNeg).toNatClampNeg 0) (M.2.2 34 rf.toNatClampNeg) mode wide (oI (mo_fp (sI M 0 0)))))
        else (M.1 7 + 1, mo_o6 (sI M 0 0) (M.2.2 34 rf.toNatClampNeg) mode wide (oI (mo_fp (sI M 0 0))))
      else (-4, (sI M 0 0))
    else (-3, (sI M 0 0))
  else (-2, (sI M 0 0))
set_option maxRecDepth 100000 in
set_option maxHeartbeats 4000000 in
theorem kX11_open (G : GG) (l : Launch) (q : Nat → Nat) (M : MS) (hq : mInj q) (hF : mi_refs M) (hG : mi_first M) (rf mode wide : Int32) (hw : vp_nar .boolean wide = wide) : MC G l yX11_open cX11_open 9 ((Option.some .int)) ({ frames := 2, cells := 0, slots := 0, locals := 46 } : Room) [.ref (q 0), .int rf, .int mode, .int wide] (mw G q M) (fun v w' => v = some (.int (mo_open M rf mode wide).1) ∧ w' = mw G q (mo_open M rf mode wide).2) := by
  refine mc_int (by decide) (Nat.le_of_ble_eq_true rfl) rfl rfl ?_
  intro p e s m args below meth c A H0 Q X hnm RTN
  have X : Cx G p s m args meth c A H0 cX11_open 9 RX11 := X
  refine aw_aload_n X dX11_open_0 rfl rfl ?_
  refine aw_iconst X dX11_open_1 ci_0 ?_
  refine am_put X 0 (M' := sI _ 0 _) (Nat.le_of_ble_eq_true rfl) fl_X11_1 rfl rfl (rfl) (rfl) (mf_0 _ _ _) rfl dX11_open_2 ?_
  refine aw_aload_n X dX11_open_5 rfl rfl ?_
  refine aw_iload_n X dX11_open_6 rfl rfl ?_
  refine aw_callV X (kX11_isReference _ _ _ _ hq _ (M.1 29) rfl) okm_X11_isReference okX11 mw_0 ml_X11_64 im_X11_isReference se_X11_X11_isReference rfl rfl (Nat.le_of_ble_eq_true rfl) ⟨Nat.le_of_ble_eq_true rfl, Nat.le_of_ble_eq_true rfl, Nat.le_of_ble_eq_true rfl, Nat.le_of_ble_eq_true rfl⟩ dX11_open_7 (fun v w2 hp => ?_)
  obtain ⟨rfl, rfl⟩ := hp
  refine aw_if_ne (tgt := 16) X dX11_open_10 rfl (fun c10 => ?_) (fun c10 => ?_)
  · rw [bI_n0] at c10
    refine aw_iload_n X dX11_open_16 rfl rfl ?_
    refine aw_i2l X dX11_open_17 ?_
    refine aw_lconst X dX11_open_18 cl_1 ?_
    refine aw_ldc2 X kl_X11_108 dX11_open_19 ?_
    refine aw_callS X (kX11_inI _ _ _ _ _ _ 1 3 rfl rfl) okm_X11_in ml_X11_12 st_X11_in rfl rfl (Nat.le_of_ble_eq_true rfl) ⟨Nat.le_of_ble_eq_true rfl, Nat.le_of_ble_eq_true rfl, Nat.le_of_ble_eq_true rfl, Nat.le_of_ble_eq_true rfl⟩ dX11_open_22 (fun v w2 hp => ?_)
    obtain ⟨rfl, rfl⟩ := hp
    refine aw_if_ne (tgt := 36) X dX11_open_25 rfl (fun c25 => ?_) (fun c25 => ?_)
    · rw [bI_n0] at c25
      refine aw_aload_n X dX11_open_36 rfl rfl ?_
      refine am_get X 34 (Nat.le_of_ble_eq_true rfl) fl_X11_112 rfl rfl dX11_open_37 ?_
      refine aw_iload_n X dX11_open_40 rfl rfl ?_
      refine am_ald X 34 _ (M.2.2 34) hq (by decide) rfl rfl rfl (bt_vp ((refs_bt hF c10)) (by decide) (by decide)) dX11_open_41 ?_
      refine aw_istore (lv' := [(4, _), (0, _), (1, _), (2, _), (3, _)]) X dX11_open_42 (by decide) rfl ?_
      refine aw_aload_n X dX11_open_44 rfl rfl ?_
      refine am_get X 35 (Nat.le_of_ble_eq_true rfl) fl_X11_115 rfl rfl dX11_open_45 ?_
      refine aw_iload X dX11_open_48 rfl ?_
      refine am_zld X 35 _ (M.2.2 35) hq (by decide) rfl rfl rfl (bt_vp ((hG _ (cl_lt (refs_bt hF c10) (by decide) (by decide)))) (by decide) (by decide)) dX11_open_50 ?_
      refine aw_istore (lv' := [(5, _), (4, _), (0, _), (1, _), (2, _), (3, _)]) X dX11_open_51 (by decide) rfl ?_
      have hfb : bt (M.2.2 34 rf.toNatClampNeg) 0 19 := (hG _ (cl_lt (refs_bt hF c10) (by decide) (by decide)))
      have JN : ∀ (N : MS) (u : Int32), bt (oI (mo_fp (sI M 0 0))) 0 7 = true → mo_open M rf mode wide = (N.1 7 + 1, mo_o6 N (M.2.2 34 rf.toNatClampNeg) mode wide (oI (mo_fp (sI M 0 0)))) → AW G p l e ({ frames := 2, cells := 0, slots := 0, locals := 46 } : Room) s m args below meth c 9 A H0 Q (mw G q N) 0 0 205 [(7, .int (oI (mo_fp (sI M 0 0)))), (6, .int u), (5, .int (M.2.2 35 (M.2.2 34 rf.toNatClampNeg).toNatClampNeg)), (4, .int (M.2.2 34 rf.toNatClampNeg)), (0, .ref (q 0)), (1, .int rf), (2, .int mode), (3, .int wide)] [] := by
        intro N u hk hcc
        refine aw_aload_n X dX11_open_205 rfl rfl ?_
        refine am_get X 36 (Nat.le_of_ble_eq_true rfl) fl_X11_121 rfl rfl dX11_open_206 ?_
        refine aw_iload X dX11_open_209 rfl ?_
        refine aw_iload_n X dX11_open_211 rfl rfl ?_
        refine aw_iconst X dX11_open_212 ci_1 ?_
        refine aw_icmp_ne (tgt := 220) X dX11_open_213 rfl (fun c213 => ?_) (fun c213 => ?_)
        · refine aw_aload_n X dX11_open_220 rfl rfl ?_
          refine am_get X 36 (Nat.le_of_ble_eq_true rfl) fl_X11_121 rfl rfl dX11_open_221 ?_
          refine aw_iload X dX11_open_224 rfl ?_
          refine am_ald X 36 _ (N.2.2 36) hq (by decide) rfl rfl rfl (bt_vp hfb (by decide) (by decide)) dX11_open_226 ?_
          refine am_ast X 36 _ hq (by decide) rfl rfl (bt_vp hfb (by decide) (by decide)) dX11_open_227 ?_
          refine aw_aload_n X dX11_open_228 rfl rfl ?_
          refine am_get X 36 (Nat.le_of_ble_eq_true rfl) fl_X11_121 rfl rfl dX11_open_229 ?_
          refine aw_iload X dX11_open_232 rfl ?_
          refine aw_dup2_11 X dX11_open_234 rfl rfl ?_
          refine am_ald X 36 _ ((sF N 36 (M.2.2 34 rf.toNatClampNeg).toNatClampNeg (N.2.2 36 (M.2.2 34 rf.toNatClampNeg).toNatClampNeg)).2.2 36) hq (by decide) rfl rfl rfl (bt_vp hfb (by decide) (by decide)) dX11_open_235 ?_
          refine aw_iload_n X dX11_open_236 rfl rfl ?_
          refine aw_iconst X dX11_open_237 ci_5 ?_
          refine aw_icmp_ne (tgt := 257) X dX11_open_238 rfl (fun c238 => ?_) (fun c238 => ?_)
          · refine aw_iconst X dX11_open_257 ci_0 ?_
            refine aw_isub X dX11_open_258 ?_
            refine am_ast X 36 _ hq (by decide) rfl rfl (bt_vp hfb (by decide) (by decide)) dX11_open_259 ?_
            refine aw_aload_n X dX11_open_260 rfl rfl ?_
            refine aw_iload X dX11_open_261 rfl ?_
            refine aw_iconst X dX11_open_263 ci_2 ?_
            refine aw_iload_n X dX11_open_264 rfl rfl ?_
            refine aw_iload_n X dX11_open_265 rfl rfl ?_
            refine aw_callV X (kX11_begin _ _ _ _ hq (oI (mo_fp (sI M 0 0))) _ _ _ hk hw) okm_X11_begin okX11 mw_0 ml_X11_104 im_X11_begin se_X11_X11_begin rfl rfl (Nat.le_of_ble_eq_true rfl) ⟨Nat.le_of_ble_eq_true rfl, Nat.le_of_ble_eq_true rfl, Nat.le_of_ble_eq_true rfl, Nat.le_of_ble_eq_true rfl⟩ dX11_open_266 (fun v w2 hp => ?_)
            obtain ⟨rfl, rfl⟩ := hp
            refine aw_istore (lv' := [(8, _), (7, _), (6, _), (5, _), (4, _), (0, _), (1, _), (2, _), (3, _)]) X dX11_open_269 (by decide) rfl ?_
            refine aw_aload_n X dX11_open_271 rfl rfl ?_
            refine am_get X 16 (Nat.le_of_ble_eq_true rfl) fl_X11_92 rfl rfl dX11_open_272 ?_
            refine aw_iload X dX11_open_275 rfl ?_
            refine aw_iload X dX11_open_277 rfl ?_
            refine am_ast X 16 _ hq (by decide) rfl rfl (bt_vp hk (by decide) (by decide)) dX11_open_279 ?_
            refine aw_aload_n X dX11_open_280 rfl rfl ?_
            refine am_get X 11 (Nat.le_of_ble_eq_true rfl) fl_X11_80 rfl rfl dX11_open_281 ?_
            refine aw_iload X dX11_open_284 rfl ?_
            refine aw_iload_n X dX11_open_286 rfl rfl ?_
            refine aw_iconst X dX11_open_287 ci_5 ?_
            refine aw_icmp_ne (tgt := 300) X dX11_open_288 rfl (fun c288 => ?_) (fun c288 => ?_)
            · refine aw_iconst X dX11_open_300 ci_0 ?_
              refine am_ast X 11 _ hq (by decide) rfl rfl (bt_vp hk (by decide) (by decide)) dX11_open_301 ?_
              refine aw_iload X dX11_open_302 rfl ?_
              refine RTN (some (.int _)) _ _ _ _ _ dX11_open_304 (⟨_, rfl⟩) (Nat.le_of_ble_eq_true rfl) (Nat.le_of_ble_eq_true rfl) ?_
              rw [hcc]
              constructor <;> simp only [mo_o6, mo_o5, mo_o3, mo_o1, c213, c238, c288, if_true, if_false, not_true_eq_false, not_false_eq_true, and_self, true_and, and_true, false_and, and_false, or_true, true_or, or_false, false_or, reduceCtorEq, ne_eq, va_us, pk_us]
            · exact absurd c288 c238
          · refine aw_iload_n X dX11_open_241 rfl rfl ?_
            refine aw_if_eq (tgt := 257) X dX11_open_242 rfl (fun c242 => ?_) (fun c242 => ?_)
            · refine aw_iconst X dX11_open_257 ci_0 ?_
              refine aw_isub X dX11_open_258 ?_
              refine am_ast X 36 _ hq (by decide) rfl rfl (bt_vp hfb (by decide) (by decide)) dX11_open_259 ?_
              refine aw_aload_n X dX11_open_260 rfl rfl ?_
              refine aw_iload X dX11_open_261 rfl ?_
              refine aw_iconst X dX11_open_263 ci_2 ?_
              refine aw_iload_n X dX11_open_264 rfl rfl ?_
              refine aw_iload_n X dX11_open_265 rfl rfl ?_
              refine aw_callV X (kX11_begin _ _ _ _ hq (oI (mo_fp (sI M 0 0))) _ _ _ hk hw) okm_X11_begin okX11 mw_0 ml_X11_104 im_X11_begin se_X11_X11_begin rfl rfl (Nat.le_of_ble_eq_true rfl) ⟨Nat.le_of_ble_eq_true rfl, Nat.le_of_ble_eq_true rfl, Nat.le_of_ble_eq_true rfl, Nat.le_of_ble_eq_true rfl⟩ dX11_open_266 (fun v w2 hp => ?_)
              obtain ⟨rfl, rfl⟩ := hp
              refine aw_istore (lv' := [(8, _), (7, _), (6, _), (5, _), (4, _), (0, _), (1, _), (2, _), (3, _)]) X dX11_open_269 (by decide) rfl ?_
              refine aw_aload_n X dX11_open_271 rfl rfl ?_
              refine am_get X 16 (Nat.le_of_ble_eq_true rfl) fl_X11_92 rfl rfl dX11_open_272 ?_
              refine aw_iload X dX11_open_275 rfl ?_
              refine aw_iload X dX11_open_277 rfl ?_
              refine am_ast X 16 _ hq (by decide) rfl rfl (bt_vp hk (by decide) (by decide)) dX11_open_279 ?_
              refine aw_aload_n X dX11_open_280 rfl rfl ?_
              refine am_get X 11 (Nat.le_of_ble_eq_true rfl) fl_X11_80 rfl rfl dX11_open_281 ?_
              refine aw_iload X dX11_open_284 rfl ?_
              refine aw_iload_n X dX11_open_286 rfl rfl ?_
              refine aw_iconst X dX11_open_287 ci_5 ?_
              refine aw_icmp_ne (tgt := 300) X dX11_open_288 rfl (fun c288 => ?_) (fun c288 => ?_)
              · exact absurd c238 c288
              · refine aw_aload_n X dX11_open_291 rfl rfl ?_
                refine aw_iload X dX11_open_292 rfl ?_
                refine aw_callV X (kX11_endOf _ _ _ _ hq (oI (mo_fp (sI M 0 0))) hk (fun _ => by rw [sF_rd]; exact hfb)) okm_X11_endOf okX11 mw_0 ml_X11_124 im_X11_endOf se_X11_X11_endOf rfl rfl (Nat.le_of_ble_eq_true rfl) ⟨Nat.le_of_ble_eq_true rfl, Nat.le_of_ble_eq_true rfl, Nat.le_of_ble_eq_true rfl, Nat.le_of_ble_eq_true rfl⟩ dX11_open_294 (fun v w2 hp => ?_)
                obtain ⟨rfl, rfl⟩ := hp
                refine aw_goto (tgt := 301) X dX11_open_297 rfl ?_
                refine am_ast X 11 _ hq (by decide) rfl rfl (bt_vp hk (by decide) (by decide)) dX11_open_301 ?_
                refine aw_iload X dX11_open_302 rfl ?_
                refine RTN (some (.int _)) _ _ _ _ _ dX11_open_304 (⟨_, rfl⟩) (Nat.le_of_ble_eq_true rfl) (Nat.le_of_ble_eq_true rfl) ?_
                rw [hcc]
                constructor <;> simp only [mo_o6, mo_o5, mo_o3, mo_o1, c213, (eq_true c238), (eq_true c242), (eq_true c288), if_true, if_false, not_true_eq_false, not_false_eq_true, and_self, true_and, and_true, false_and, and_false, or_true, true_or, or_false, false_or, reduceCtorEq, ne_eq, va_us, pk_us]
            · refine aw_aload_n X dX11_open_245 rfl rfl ?_
              refine am_get X 36 (Nat.le_of_ble_eq_true rfl) fl_X11_121 rfl rfl dX11_open_246 ?_
              refine aw_iload X dX11_open_249 rfl ?_
              refine am_ald X 36 _ ((sF N 36 (M.2.2 34 rf.toNatClampNeg).toNatClampNeg (N.2.2 36 (M.2.2 34 rf.toNatClampNeg).toNatClampNeg)).2.2 36) hq (by decide) rfl rfl rfl (bt_vp hfb (by decide) (by decide)) dX11_open_251 ?_
              refine aw_iconst X dX11_open_252 ci_4 ?_
              refine aw_irem X dX11_open_253 (by decide) ?_
              refine aw_goto (tgt := 258) X dX11_open_254 rfl ?_
              refine aw_isub X dX11_open_258 ?_
              refine am_ast X 36 _ hq (by decide) rfl rfl (bt_vp hfb (by decide) (by decide)) dX11_open_259 ?_
              refine aw_aload_n X dX11_open_260 rfl rfl ?_
              refine aw_iload X dX11_open_261 rfl ?_
              refine aw_iconst X dX11_open_263 ci_2 ?_
              refine aw_iload_n X dX11_open_264 rfl rfl ?_
              refine aw_iload_n X dX11_open_265 rfl rfl ?_
              refine aw_callV X (kX11_begin _ _ _ _ hq (oI (mo_fp (sI M 0 0))) _ _ _ hk hw) okm_X11_begin okX11 mw_0 ml_X11_104 im_X11_begin se_X11_X11_begin rfl rfl (Nat.le_of_ble_eq_true rfl) ⟨Nat.le_of_ble_eq_true rfl, Nat.le_of_ble_eq_true rfl, Nat.le_of_ble_eq_true rfl, Nat.le_of_ble_eq_true rfl⟩ dX11_open_266 (fun v w2 hp => ?_)
              obtain ⟨rfl, rfl⟩ := hp
              refine aw_istore (lv' := [(8, _), (7, _), (6, _), (5, _), (4, _), (0, _), (1, _), (2, _), (3, _)]) X dX11_open_269 (by decide) rfl ?_
              refine aw_aload_n X dX11_open_271 rfl rfl ?_
              refine am_get X 16 (Nat.le_of_ble_eq_true rfl) fl_X11_92 rfl rfl dX11_open_272 ?_
              refine aw_iload X dX11_open_275 rfl ?_
              refine aw_iload X dX11_open_277 rfl ?_
              refine am_ast X 16 _ hq (by decide) rfl rfl (bt_vp hk (by decide) (by decide)) dX11_open_279 ?_
              refine aw_aload_n X dX11_open_280 rfl rfl ?_
              refine am_get X 11 (Nat.le_of_ble_eq_true rfl) fl_X11_80 rfl rfl dX11_open_281 ?_
              refine aw_iload X dX11_open_284 rfl ?_
              refine aw_iload_n X dX11_open_286 rfl rfl ?_
              refine aw_iconst X dX11_open_287 ci_5 ?_
              refine aw_icmp_ne (tgt := 300) X dX11_open_288 rfl (fun c288 => ?_) (fun c288 => ?_)
              · exact absurd c238 c288
              · refine aw_aload_n X dX11_open_291 rfl rfl ?_
                refine aw_iload X dX11_open_292 rfl ?_
                refine aw_callV X (kX11_endOf _ _ _ _ hq (oI (mo_fp (sI M 0 0))) hk (fun _ => by rw [sF_rd]; exact hfb)) okm_X11_endOf okX11 mw_0 ml_X11_124 im_X11_endOf se_X11_X11_endOf rfl rfl (Nat.le_of_ble_eq_true rfl) ⟨Nat.le_of_ble_eq_true rfl, Nat.le_of_ble_eq_true rfl, Nat.le_of_ble_eq_true rfl, Nat.le_of_ble_eq_true rfl⟩ dX11_open_294 (fun v w2 hp => ?_)
                obtain ⟨rfl, rfl⟩ := hp
                refine aw_goto (tgt := 301) X dX11_open_297 rfl ?_
                refine am_ast X 11 _ hq (by decide) rfl rfl (bt_vp hk (by decide) (by decide)) dX11_open_301 ?_
                refine aw_iload X dX11_open_302 rfl ?_
                refine RTN (some (.int _)) _ _ _ _ _ dX11_open_304 (⟨_, rfl⟩) (Nat.le_of_ble_eq_true rfl) (Nat.le_of_ble_eq_true rfl) ?_
                rw [hcc]
                constructor <;> simp only [mo_o6, mo_o5, mo_o3, mo_o1, c213, (eq_true c238), c242, (eq_true c288), if_true, if_false, not_true_eq_false, not_false_eq_true, and_self, true_and, and_true, false_and, and_false, or_true, true_or, or_false, false_or, reduceCtorEq, ne_eq, va_us, pk_us]
        · refine aw_iconst X dX11_open_216 ci_0 ?_
          refine aw_goto (tgt := 227) X dX11_open_217 rfl ?_
          refine am_ast X 36 _ hq (by decide) rfl rfl (bt_vp hfb (by decide) (by decide)) dX11_open_227 ?_
          refine aw_aload_n X dX11_open_228 rfl rfl ?_
          refine am_get X 36 (Nat.le_of_ble_eq_true rfl) fl_X11_121 rfl rfl dX11_open_229 ?_
          refine aw_iload X dX11_open_232 rfl ?_
          refine aw_dup2_11 X dX11_open_234 rfl rfl ?_
          refine am_ald X 36 _ ((sF N 36 (M.2.2 34 rf.toNatClampNeg).toNatClampNeg 0).2.2 36) hq (by decide) rfl rfl rfl (bt_vp hfb (by decide) (by decide)) dX11_open_235 ?_
          refine aw_iload_n X dX11_open_236 rfl rfl ?_
          refine aw_iconst X dX11_open_237 ci_5 ?_
          refine aw_icmp_ne (tgt := 257) X dX11_open_238 rfl (fun c238 => ?_) (fun c238 => ?_)
          · refine aw_iconst X dX11_open_257 ci_0 ?_
            refine aw_isub X dX11_open_258 ?_
            refine am_ast X 36 _ hq (by decide) rfl rfl (bt_vp hfb (by decide) (by decide)) dX11_open_259 ?_
            refine aw_aload_n X dX11_open_260 rfl rfl ?_
            refine aw_iload X dX11_open_261 rfl ?_
            refine aw_iconst X dX11_open_263 ci_2 ?_
            refine aw_iload_n X dX11_open_264 rfl rfl ?_
            refine aw_iload_n X dX11_open_265 rfl rfl ?_
            refine aw_callV X (kX11_begin _ _ _ _ hq (oI (mo_fp (sI M 0 0))) _ _ _ hk hw) okm_X11_begin okX11 mw_0 ml_X11_104 im_X11_begin se_X11_X11_begin rfl rfl (Nat.le_of_ble_eq_true rfl) ⟨Nat.le_of_ble_eq_true rfl, Nat.le_of_ble_eq_true rfl, Nat.le_of_ble_eq_true rfl, Nat.le_of_ble_eq_true rfl⟩ dX11_open_266 (fun v w2 hp => ?_)
            obtain ⟨rfl, rfl⟩ := hp
            refine aw_istore (lv' := [(8, _), (7, _), (6, _), (5, _), (4, _), (0, _), (1, _), (2, _), (3, _)]) X dX11_open_269 (by decide) rfl ?_
            refine aw_aload_n X dX11_open_271 rfl rfl ?_
            refine am_get X 16 (Nat.le_of_ble_eq_true rfl) fl_X11_92 rfl rfl dX11_open_272 ?_
            refine aw_iload X dX11_open_275 rfl ?_
            refine aw_iload X dX11_open_277 rfl ?_
            refine am_ast X 16 _ hq (by decide) rfl rfl (bt_vp hk (by decide) (by decide)) dX11_open_279 ?_
            refine aw_aload_n X dX11_open_280 rfl rfl ?_
            refine am_get X 11 (Nat.le_of_ble_eq_true rfl) fl_X11_80 rfl rfl dX11_open_281 ?_
            refine aw_iload X dX11_open_284 rfl ?_
            refine aw_iload_n X dX11_open_286 rfl rfl ?_
            refine aw_iconst X dX11_open_287 ci_5 ?_
            refine aw_icmp_ne (tgt := 300) X dX11_open_288 rfl (fun c288 => ?_) (fun c288 => ?_)
            · refine aw_iconst X dX11_open_300 ci_0 ?_
              refine am_ast X 11 _ hq (by decide) rfl rfl (bt_vp hk (by decide) (by decide)) dX11_open_301 ?_
              refine aw_iload X dX11_open_302 rfl ?_
              refine RTN (some (.int _)) _ _ _ _ _ dX11_open_304 (⟨_, rfl⟩) (Nat.le_of_ble_eq_true rfl) (Nat.le_of_ble_eq_true rfl) ?_
              rw [hcc]
              constructor <;> simp only [mo_o6, mo_o5, mo_o3, mo_o1, (eq_true c213), c238, c288, if_true, if_false, not_true_eq_false, not_false_eq_true, and_self, true_and, and_true, false_and, and_false, or_true, true_or, or_false, false_or, reduceCtorEq, ne_eq, va_us, pk_us]
            · exact absurd c288 c238
          · exact absurd (c213.symm.trans c238) (by decide)
      have L : ∀ (u0 : Bool), u0 = (!decide (mode = 2) || !decide ((M.2.2 35 (M.2.2 34 rf.toNatClampNeg).toNatClampNeg) = 0)) → ∀ (nn i : Nat) (x u : Int32), x = nI i → u = b2 (mo_fr M (M.2.2 34 rf.toNatClampNeg) mode u0 i) → i ≤ 8 → 9 ≤ i + nn → AW G p l e ({ frames := 2, cells := 0, slots := 0, locals := 46 } : Room) s m args below meth c 9 A H0 Q (mw G q (sI M 0 0)) 0 0 73 [(7, .int x), (6, .int u), (5, .int (M.2.2 35 (M.2.2 34 rf.toNatClampNeg).toNatClampNeg)), (4, .int (M.2.2 34 rf.toNatClampNeg)), (0, .ref (q 0)), (1, .int rf), (2, .int mode), (3, .int wide)] [] := by
        intro u0 hu0 nn
        induction nn with
        | zero => intro i x u hx hu h1 h2; exact absurd h2 (by omega)
        | succ nn ih =>
          intro i x u hx hu h1 h2
          subst hx
          subst hu
          refine aw_iload X dX11_open_73 rfl ?_
          refine aw_bipush X dX11_open_75 cb_8 ?_
          refine aw_icmp_ge (tgt := 138) X dX11_open_77 rfl (fun c77 => ?_) (fun c77 => ?_)
          · have h9 : i = 8 := by have := ge_i (N := 8) rfl (by omega) (by decide) c77; omega
            refine aw_iload X dX11_open_138 rfl ?_
            refine aw_if_ne (tgt := 146) X dX11_open_140 rfl (fun c140 => ?_) (fun c140 => ?_)
            · rw [b2_n0] at c140
              refine aw_aload_n X dX11_open_146 rfl rfl ?_
              refine aw_callV X (kX11_freePlace _ _ _ _ hq) okm_X11_freePlace okX11 mw_0 ml_X11_101 im_X11_freePlace se_X11_X11_freePlace rfl rfl (Nat.le_of_ble_eq_true rfl) ⟨Nat.le_of_ble_eq_true rfl, Nat.le_of_ble_eq_true rfl, Nat.le_of_ble_eq_true rfl, Nat.le_of_ble_eq_true rfl⟩ dX11_open_147 (fun v w2 hp => ?_)
              obtain ⟨rfl, rfl⟩ := hp
              refine aw_istore (lv' := [(7, _), (6, _), (5, _), (4, _), (0, _), (1, _), (2, _), (3, _)]) X dX11_open_150 (by decide) rfl ?_
              refine aw_iload X dX11_open_152 rfl ?_
              refine aw_if_lt (tgt := 171) X dX11_open_154 rfl (fun c154 => ?_) (fun c154 => ?_)
              · refine aw_bipush X dX11_open_171 cb_m5 ?_
                refine RTN (some (.int _)) _ _ _ _ _ dX11_open_173 (⟨_, rfl⟩) (Nat.le_of_ble_eq_true rfl) (Nat.le_of_ble_eq_true rfl) ?_
                have hfr : mo_free M rf mode = true := by unfold mo_free; rw [← hu0, ← h9]; exact c140
                constructor <;> simp only [mo_open, c10, c25, c154, hfr, if_true, if_false, not_true_eq_false, not_false_eq_true, and_self, true_and, and_true, false_and, and_false, or_true, true_or, or_false, false_or, reduceCtorEq, ne_eq, va_us, pk_us, Bool.false_eq_true]
              · refine aw_iload X dX11_open_157 rfl ?_
                refine aw_if_ne (tgt := 174) X dX11_open_159 rfl (fun c159 => ?_) (fun c159 => ?_)
                · refine aw_iload X dX11_open_174 rfl ?_
                  refine aw_if_ne (tgt := 205) X dX11_open_176 rfl (fun c176 => ?_) (fun c176 => ?_)
                  · have hfr : mo_free M rf mode = true := by unfold mo_free; rw [← hu0, ← h9]; exact c140
                    refine aw_lv [0, 1, 2, 3, 4, 5, 6, 7] rfl ?_
                    refine JN _ _ (fp_bt c154) ?_
                    simp only [mo_open, c10, c25, c154, c159, c176, hfr, if_true, if_false, not_true_eq_false, not_false_eq_true, and_self, true_and, and_true, false_and, and_false, or_true, true_or, or_false, false_or, reduceCtorEq, ne_eq, va_us, pk_us]
                    try rfl
                  · exact absurd c176 c159
                · refine aw_aload_n X dX11_open_162 rfl rfl ?_
                  refine am_get X 38 (v := .int (M.1 38)) (Nat.le_of_ble_eq_true rfl) fl_X11_118 rfl rfl dX11_open_163 ?_
                  refine aw_bipush X dX11_open_166 cb_6 ?_
                  refine aw_icmp_ne (tgt := 174) X dX11_open_168 rfl (fun c168 => ?_) (fun c168 => ?_)
                  · refine aw_iload X dX11_open_174 rfl ?_
                    refine aw_if_ne (tgt := 205) X dX11_open_176 rfl (fun c176 => ?_) (fun c176 => ?_)
                    · exact absurd c159 c176
                    · refine aw_aload_n X dX11_open_179 rfl rfl ?_
                      refine am_get X 35 (Nat.le_of_ble_eq_true rfl) fl_X11_115 rfl rfl dX11_open_180 ?_
                      refine aw_iload X dX11_open_183 rfl ?_
                      refine aw_iconst X dX11_open_185 ci_1 ?_
                      refine am_zst X 35 _ hq (by decide) rfl rfl (rfl) (bt_vp hfb (by decide) (by decide)) dX11_open_186 ?_
                      refine aw_aload_n X dX11_open_187 rfl rfl ?_
                      refine aw_dup X dX11_open_188 rfl ?_
                      refine am_get X 38 (v := .int (M.1 38)) (Nat.le_of_ble_eq_true rfl) fl_X11_118 rfl rfl dX11_open_189 ?_
                      refine aw_iconst X dX11_open_192 ci_1 ?_
                      refine aw_iadd X dX11_open_193 ?_
                      refine am_put X 38 (M' := sI _ 38 _) (Nat.le_of_ble_eq_true rfl) fl_X11_118 rfl rfl (rfl) (rfl) (mf_38 _ _ _) rfl dX11_open_194 ?_
                      refine aw_aload_n X dX11_open_197 rfl rfl ?_
                      refine am_get X 36 (Nat.le_of_ble_eq_true rfl) fl_X11_121 rfl rfl dX11_open_198 ?_
                      refine aw_iload X dX11_open_201 rfl ?_
                      refine aw_iconst X dX11_open_203 ci_0 ?_
                      refine am_ast X 36 _ hq (by decide) rfl rfl (bt_vp hfb (by decide) (by decide)) dX11_open_204 ?_
                      have hfr : mo_free M rf mode = true := by unfold mo_free; rw [← hu0, ← h9]; exact c140
                      refine aw_lv [0, 1, 2, 3, 4, 5, 6, 7] rfl ?_
                      refine JN _ _ (fp_bt c154) ?_
                      simp only [mo_open, c10, c25, c154, (eq_true c159), c168, (eq_true c176), hfr, if_true, if_false, not_true_eq_false, not_false_eq_true, and_self, true_and, and_true, false_and, and_false, or_true, true_or, or_false, false_or, reduceCtorEq, ne_eq, va_us, pk_us]
                      try rfl
                  · refine aw_bipush X dX11_open_171 cb_m5 ?_
                    refine RTN (some (.int _)) _ _ _ _ _ dX11_open_173 (⟨_, rfl⟩) (Nat.le_of_ble_eq_true rfl) (Nat.le_of_ble_eq_true rfl) ?_
                    have hfr : mo_free M rf mode = true := by unfold mo_free; rw [← hu0, ← h9]; exact c140
                    constructor <;> simp only [mo_open, c10, c25, c154, (eq_true c159), (eq_true c168), hfr, if_true, if_false, not_true_eq_false, not_false_eq_true, and_self, true_and, and_true, false_and, and_false, or_true, true_or, or_false, false_or, reduceCtorEq, ne_eq, va_us, pk_us, Bool.false_eq_true]
            · rw [b2_0] at c140
              refine aw_bipush X dX11_open_143 cb_m4 ?_
              refine RTN (some (.int _)) _ _ _ _ _ dX11_open_145 (⟨_, rfl⟩) (Nat.le_of_ble_eq_true rfl) (Nat.le_of_ble_eq_true rfl) ?_
              have hfr : mo_free M rf mode = false := by unfold mo_free; rw [← hu0, ← h9]; exact c140
              constructor <;> simp only [mo_open, c10, c25, hfr, if_true, if_false, not_true_eq_false, not_false_eq_true, and_self, true_and, and_true, false_and, and_false, or_true, true_or, or_false, false_or, reduceCtorEq, ne_eq, va_us, pk_us, Bool.false_eq_true]
          · have h9 : i < 8 := lt_i (N := 8) rfl (by omega) (by decide) c77
            refine aw_aload_n X dX11_open_80 rfl rfl ?_
            refine am_get X 6 (Nat.le_of_ble_eq_true rfl) fl_X11_20 rfl rfl dX11_open_81 ?_
            refine aw_iload X dX11_open_84 rfl ?_
            refine am_ald X 6 _ (M.2.2 6) hq (by decide) rfl rfl rfl (vp_in_nI h9 (by decide)) dX11_open_86 ?_
            refine aw_if_le (tgt := 132) X dX11_open_87 rfl (fun c87 => ?_) (fun c87 => ?_)
            · rw [nI_clamp (by omega)] at c87
              rw [← Int32.not_lt] at c87
              refine aw_iinc (lv' := [(7, _), (6, _), (5, _), (4, _), (0, _), (1, _), (2, _), (3, _)]) X dX11_open_132 rfl (iinc_1 _) (by decide) rfl ?_
              refine aw_goto (tgt := 73) X dX11_open_135 rfl ?_
              refine aw_lv [0, 1, 2, 3, 4, 5, 6, 7] rfl ?_
              have hbk : blk M (M.2.2 34 rf.toNatClampNeg) mode i = false := by simp [blk, c87]
              exact ih (i + 1) _ _ (nI_1 i) (by first | (simp only [mo_fr, hbk, if_true, if_false, Bool.false_eq_true]; done) | (simp only [mo_fr, hbk, if_true, if_false, Bool.false_eq_true]; rfl)) (by omega) (by omega)
            · rw [nI_clamp (by omega)] at c87
              rw [Int32.not_le] at c87
              refine aw_aload_n X dX11_open_90 rfl rfl ?_
              refine am_get X 8 (Nat.le_of_ble_eq_true rfl) fl_X11_23 rfl rfl dX11_open_91 ?_
              refine aw_iload X dX11_open_94 rfl ?_
              refine am_ald X 8 _ (M.2.2 8) hq (by decide) rfl rfl rfl (vp_in_nI h9 (by decide)) dX11_open_96 ?_
              refine aw_iconst X dX11_open_97 ci_2 ?_
              refine aw_icmp_ne (tgt := 132) X dX11_open_98 rfl (fun c98 => ?_) (fun c98 => ?_)
              · rw [nI_clamp (by omega)] at c98
                refine aw_iinc (lv' := [(7, _), (6, _), (5, _), (4, _), (0, _), (1, _), (2, _), (3, _)]) X dX11_open_132 rfl (iinc_1 _) (by decide) rfl ?_
                refine aw_goto (tgt := 73) X dX11_open_135 rfl ?_
                refine aw_lv [0, 1, 2, 3, 4, 5, 6, 7] rfl ?_
                have hbk : blk M (M.2.2 34 rf.toNatClampNeg) mode i = false := by simp [blk, c87, c98]
                exact ih (i + 1) _ _ (nI_1 i) (by first | (simp only [mo_fr, hbk, if_true, if_false, Bool.false_eq_true]; done) | (simp only [mo_fr, hbk, if_true, if_false, Bool.false_eq_true]; rfl)) (by omega) (by omega)
              · rw [nI_clamp (by omega)] at c98
                refine aw_aload_n X dX11_open_101 rfl rfl ?_
                refine am_get X 16 (Nat.le_of_ble_eq_true rfl) fl_X11_92 rfl rfl dX11_open_102 ?_
                refine aw_iload X dX11_open_105 rfl ?_
                refine am_ald X 16 _ (M.2.2 16) hq (by decide) rfl rfl rfl (vp_in_nI h9 (by decide)) dX11_open_107 ?_
                refine aw_iload X dX11_open_108 rfl ?_
                refine aw_icmp_ne (tgt := 132) X dX11_open_110 rfl (fun c110 => ?_) (fun c110 => ?_)
                · rw [nI_clamp (by omega)] at c110
                  refine aw_iinc (lv' := [(7, _), (6, _), (5, _), (4, _), (0, _), (1, _), (2, _), (3, _)]) X dX11_open_132 rfl (iinc_1 _) (by decide) rfl ?_
                  refine aw_goto (tgt := 73) X dX11_open_135 rfl ?_
                  refine aw_lv [0, 1, 2, 3, 4, 5, 6, 7] rfl ?_
                  have hbk : blk M (M.2.2 34 rf.toNatClampNeg) mode i = false := by simp [blk, c87, (eq_true c98), c110]
                  exact ih (i + 1) _ _ (nI_1 i) (by first | (simp only [mo_fr, hbk, if_true, if_false, Bool.false_eq_true]; done) | (simp only [mo_fr, hbk, if_true, if_false, Bool.false_eq_true]; rfl)) (by omega) (by omega)
                · rw [nI_clamp (by omega)] at c110
                  refine aw_iload_n X dX11_open_113 rfl rfl ?_
                  refine aw_iconst X dX11_open_114 ci_2 ?_
                  refine aw_icmp_ne (tgt := 129) X dX11_open_115 rfl (fun c115 => ?_) (fun c115 => ?_)
                  · refine aw_iconst X dX11_open_129 ci_0 ?_
                    refine aw_istore (lv' := [(6, _), (7, _), (5, _), (4, _), (0, _), (1, _), (2, _), (3, _)]) X dX11_open_130 (by decide) rfl ?_
                    refine aw_iinc (lv' := [(7, _), (6, _), (5, _), (4, _), (0, _), (1, _), (2, _), (3, _)]) X dX11_open_132 rfl (iinc_1 _) (by decide) rfl ?_
                    refine aw_goto (tgt := 73) X dX11_open_135 rfl ?_
                    refine aw_lv [0, 1, 2, 3, 4, 5, 6, 7] rfl ?_
                    have hbk : blk M (M.2.2 34 rf.toNatClampNeg) mode i = true := by simp [blk, c87, (eq_true c98), (eq_true c110), c115]
                    exact ih (i + 1) _ _ (nI_1 i) (by first | (simp only [mo_fr, hbk, if_true, if_false, Bool.false_eq_true]; done) | (simp only [mo_fr, hbk, if_true, if_false, Bool.false_eq_true]; rfl)) (by omega) (by omega)
                  · refine aw_aload_n X dX11_open_118 rfl rfl ?_
                    refine am_get X 10 (Nat.le_of_ble_eq_true rfl) fl_X11_77 rfl rfl dX11_open_119 ?_
                    refine aw_iload X dX11_open_122 rfl ?_
                    refine am_ald X 10 _ (M.2.2 10) hq (by decide) rfl rfl rfl (vp_in_nI h9 (by decide)) dX11_open_124 ?_
                    refine aw_iconst X dX11_open_125 ci_2 ?_
                    refine aw_icmp_eq (tgt := 132) X dX11_open_126 rfl (fun c126 => ?_) (fun c126 => ?_)
                    · rw [nI_clamp (by omega)] at c126
                      refine aw_iinc (lv' := [(7, _), (6, _), (5, _), (4, _), (0, _), (1, _), (2, _), (3, _)]) X dX11_open_132 rfl (iinc_1 _) (by decide) rfl ?_
                      refine aw_goto (tgt := 73) X dX11_open_135 rfl ?_
                      refine aw_lv [0, 1, 2, 3, 4, 5, 6, 7] rfl ?_
                      have hbk : blk M (M.2.2 34 rf.toNatClampNeg) mode i = false := by simp [blk, c87, (eq_true c98), (eq_true c110), (eq_true c115), (eq_true c126)]
                      exact ih (i + 1) _ _ (nI_1 i) (by first | (simp only [mo_fr, hbk, if_true, if_false, Bool.false_eq_true]; done) | (simp only [mo_fr, hbk, if_true, if_false, Bool.false_eq_true]; rfl)) (by omega) (by omega)
                    · rw [nI_clamp (by omega)] at c126
                      refine aw_iconst X dX11_open_129 ci_0 ?_
                      refine aw_istore (lv' := [(6, _), (7, _), (5, _), (4, _), (0, _), (1, _), (2, _), (3, _)]) X dX11_open_130 (by decide) rfl ?_
                      refine aw_iinc (lv' := [(7, _), (6, _), (5, _), (4, _), (0, _), (1, _), (2, _), (3, _)]) X dX11_open_132 rfl (iinc_1 _) (by decide) rfl ?_
                      refine aw_goto (tgt := 73) X dX11_open_135 rfl ?_
                      refine aw_lv [0, 1, 2, 3, 4, 5, 6, 7] rfl ?_
                      have hbk : blk M (M.2.2 34 rf.toNatClampNeg) mode i = true := by simp [blk, c87, (eq_true c98), (eq_true c110), (eq_true c115), c126]
                      exact ih (i + 1) _ _ (nI_1 i) (by first | (simp only [mo_fr, hbk, if_true, if_false, Bool.false_eq_true]; done) | (simp only [mo_fr, hbk, if_true, if_false, Bool.false_eq_true]; rfl)) (by omega) (by omega)
      refine aw_lv [0, 1, 2, 3, 4, 5] rfl ?_
      refine aw_iload_n X dX11_open_53 rfl rfl ?_
      refine aw_iconst X dX11_open_54 ci_2 ?_
      refine aw_icmp_ne (tgt := 63) X dX11_open_55 rfl (fun c55 => ?_) (fun c55 => ?_)
      · refine aw_iconst X dX11_open_63 ci_1 ?_
        refine aw_goto (tgt := 68) X dX11_open_64 rfl ?_
        refine aw_istore (lv' := [(6, _), (5, _), (4, _), (0, _), (1, _), (2, _), (3, _)]) X dX11_open_68 (by decide) rfl ?_
        refine aw_iconst X dX11_open_70 ci_0 ?_
        refine aw_istore (lv' := [(7, _), (6, _), (5, _), (4, _), (0, _), (1, _), (2, _), (3, _)]) X dX11_open_71 (by decide) rfl ?_
        refine aw_lv [0, 1, 2, 3, 4, 5, 6, 7] rfl ?_
        exact L _ rfl 9 0 _ _ rfl (by simp [mo_fr, b2, c55]) (by decide) (by decide)
      · refine aw_iload X dX11_open_58 rfl ?_
        refine aw_if_eq (tgt := 67) X dX11_open_60 rfl (fun c60 => ?_) (fun c60 => ?_)
        · refine aw_iconst X dX11_open_67 ci_0 ?_
          refine aw_istore (lv' := [(6, _), (5, _), (4, _), (0, _), (1, _), (2, _), (3, _)]) X dX11_open_68 (by decide) rfl ?_
          refine aw_iconst X dX11_open_70 ci_0 ?_
          refine aw_istore (lv' := [(7, _), (6, _), (5, _), (4, _), (0, _), (1, _), (2, _), (3, _)]) X dX11_open_71 (by decide) rfl ?_
          refine aw_lv [0, 1, 2, 3, 4, 5, 6, 7] rfl ?_
          exact L _ rfl 9 0 _ _ rfl (by simp [mo_fr, b2, (eq_true c55), (eq_true c60)]) (by decide) (by decide)
        · refine aw_iconst X dX11_open_63 ci_1 ?_
          refine aw_goto (tgt := 68) X dX11_open_64 rfl ?_
          refine aw_istore (lv' := [(6, _), (5, _), (4, _), (0, _), (1, _), (2, _), (3, _)]) X dX11_open_68 (by decide) rfl ?_
          refine aw_iconst X dX11_open_70 ci_0 ?_
          refine aw_istore (lv' := [(7, _), (6, _), (5, _), (4, _), (0, _), (1, _), (2, _), (3, _)]) X dX11_open_71 (by decide) rfl ?_
          refine aw_lv [0, 1, 2, 3, 4, 5, 6, 7] rfl ?_
          exact L _ rfl 9 0 _ _ rfl (by simp [mo_fr, b2, (eq_true c55), c60]) (by decide) (by decide)
    · rw [bI_0] at c25
      refine aw_iload_n X dX11_open_28 rfl rfl ?_
      refine aw_iconst X dX11_open_29 ci_5 ?_
      refine aw_icmp_eq (tgt := 36) X dX11_open_30 rfl (fun c30 => ?_) (fun c30 => ?_)
      · refine aw_aload_n X dX11_open_36 rfl rfl ?_
        refine am_get X 34 (Nat.le_of_ble_eq_true rfl) fl_X11_112 rfl rfl dX11_open_37 ?_
        refine aw_iload_n X dX11_open_40 rfl rfl ?_
        refine am_ald X 34 _ (M.2.2 34) hq (by decide) rfl rfl rfl (bt_vp ((refs_bt hF c10)) (by decide) (by decide)) dX11_open_41 ?_
        refine aw_istore (lv' := [(4, _), (0, _), (1, _), (2, _), (3, _)]) X dX11_open_42 (by decide) rfl ?_
        refine aw_aload_n X dX11_open_44 rfl rfl ?_
        refine am_get X 35 (Nat.le_of_ble_eq_true rfl) fl_X11_115 rfl rfl dX11_open_45 ?_
        refine aw_iload X dX11_open_48 rfl ?_
        refine am_zld X 35 _ (M.2.2 35) hq (by decide) rfl rfl rfl (bt_vp ((hG _ (cl_lt (refs_bt hF c10) (by decide) (by decide)))) (by decide) (by decide)) dX11_open_50 ?_
        refine aw_istore (lv' := [(5, _), (4, _), (0, _), (1, _), (2, _), (3, _)]) X dX11_open_51 (by decide) rfl ?_
        have hfb : bt (M.2.2 34 rf.toNatClampNeg) 0 19 := (hG _ (cl_lt (refs_bt hF c10) (by decide) (by decide)))
        have JN : ∀ (N : MS) (u : Int32), bt (oI (mo_fp (sI M 0 0))) 0 7 = true → mo_open M rf mode wide = (N.1 7 + 1, mo_o6 N (M.2.2 34 rf.toNatClampNeg) mode wide (oI (mo_fp (sI M 0 0)))) → AW G p l e ({ frames := 2, cells := 0, slots := 0, locals := 46 } : Room) s m args below meth c 9 A H0 Q (mw G q N) 0 0 205 [(7, .int (oI (mo_fp (sI M 0 0)))), (6, .int u), (5, .int (M.2.2 35 (M.2.2 34 rf.toNatClampNeg).toNatClampNeg)), (4, .int (M.2.2 34 rf.toNatClampNeg)), (0, .ref (q 0)), (1, .int rf), (2, .int mode), (3, .int wide)] [] := by
          intro N u hk hcc
          refine aw_aload_n X dX11_open_205 rfl rfl ?_
          refine am_get X 36 (Nat.le_of_ble_eq_true rfl) fl_X11_121 rfl rfl dX11_open_206 ?_
          refine aw_iload X dX11_open_209 rfl ?_
          refine aw_iload_n X dX11_open_211 rfl rfl ?_
          refine aw_iconst X dX11_open_212 ci_1 ?_
          refine aw_icmp_ne (tgt := 220) X dX11_open_213 rfl (fun c213 => ?_) (fun c213 => ?_)
          · refine aw_aload_n X dX11_open_220 rfl rfl ?_
            refine am_get X 36 (Nat.le_of_ble_eq_true rfl) fl_X11_121 rfl rfl dX11_open_221 ?_
            refine aw_iload X dX11_open_224 rfl ?_
            refine am_ald X 36 _ (N.2.2 36) hq (by decide) rfl rfl rfl (bt_vp hfb (by decide) (by decide)) dX11_open_226 ?_
            refine am_ast X 36 _ hq (by decide) rfl rfl (bt_vp hfb (by decide) (by decide)) dX11_open_227 ?_
            refine aw_aload_n X dX11_open_228 rfl rfl ?_
            refine am_get X 36 (Nat.le_of_ble_eq_true rfl) fl_X11_121 rfl rfl dX11_open_229 ?_
            refine aw_iload X dX11_open_232 rfl ?_
            refine aw_dup2_11 X dX11_open_234 rfl rfl ?_
            refine am_ald X 36 _ ((sF N 36 (M.2.2 34 rf.toNatClampNeg).toNatClampNeg (N.2.2 36 (M.2.2 34 rf.toNatClampNeg).toNatClampNeg)).2.2 36) hq (by decide) rfl rfl rfl (bt_vp hfb (by decide) (by decide)) dX11_open_235 ?_
            refine aw_iload_n X dX11_open_236 rfl rfl ?_
            refine aw_iconst X dX11_open_237 ci_5 ?_
            refine aw_icmp_ne (tgt := 257) X dX11_open_238 rfl (fun c238 => ?_) (fun c238 => ?_)
            · refine aw_iconst X dX11_open_257 ci_0 ?_
              refine aw_isub X dX11_open_258 ?_
              refine am_ast X 36 _ hq (by decide) rfl rfl (bt_vp hfb (by decide) (by decide)) dX11_open_259 ?_
              refine aw_aload_n X dX11_open_260 rfl rfl ?_
              refine aw_iload X dX11_open_261 rfl ?_
              refine aw_iconst X dX11_open_263 ci_2 ?_
              refine aw_iload_n X dX11_open_264 rfl rfl ?_
              refine aw_iload_n X dX11_open_265 rfl rfl ?_
              refine aw_callV X (kX11_begin _ _ _ _ hq (oI (mo_fp (sI M 0 0))) _ _ _ hk hw) okm_X11_begin okX11 mw_0 ml_X11_104 im_X11_begin se_X11_X11_begin rfl rfl (Nat.le_of_ble_eq_true rfl) ⟨Nat.le_of_ble_eq_true rfl, Nat.le_of_ble_eq_true rfl, Nat.le_of_ble_eq_true rfl, Nat.le_of_ble_eq_true rfl⟩ dX11_open_266 (fun v w2 hp => ?_)
              obtain ⟨rfl, rfl⟩ := hp
              refine aw_istore (lv' := [(8, _), (7, _), (6, _), (5, _), (4, _), (0, _), (1, _), (2, _), (3, _)]) X dX11_open_269 (by decide) rfl ?_
              refine aw_aload_n X dX11_open_271 rfl rfl ?_
              refine am_get X 16 (Nat.le_of_ble_eq_true rfl) fl_X11_92 rfl rfl dX11_open_272 ?_
              refine aw_iload X dX11_open_275 rfl ?_
              refine aw_iload X dX11_open_277 rfl ?_
              refine am_ast X 16 _ hq (by decide) rfl rfl (bt_vp hk (by decide) (by decide)) dX11_open_279 ?_
              refine aw_aload_n X dX11_open_280 rfl rfl ?_
              refine am_get X 11 (Nat.le_of_ble_eq_true rfl) fl_X11_80 rfl rfl dX11_open_281 ?_
              refine aw_iload X dX11_open_284 rfl ?_
              refine aw_iload_n X dX11_open_286 rfl rfl ?_
              refine aw_iconst X dX11_open_287 ci_5 ?_
              refine aw_icmp_ne (tgt := 300) X dX11_open_288 rfl (fun c288 => ?_) (fun c288 => ?_)
              · refine aw_iconst X dX11_open_300 ci_0 ?_
                refine am_ast X 11 _ hq (by decide) rfl rfl (bt_vp hk (by decide) (by decide)) dX11_open_301 ?_
                refine aw_iload X dX11_open_302 rfl ?_
                refine RTN (some (.int _)) _ _ _ _ _ dX11_open_304 (⟨_, rfl⟩) (Nat.le_of_ble_eq_true rfl) (Nat.le_of_ble_eq_true rfl) ?_
                rw [hcc]
                constructor <;> simp only [mo_o6, mo_o5, mo_o3, mo_o1, c213, c238, c288, if_true, if_false, not_true_eq_false, not_false_eq_true, and_self, true_and, and_true, false_and, and_false, or_true, true_or, or_false, false_or, reduceCtorEq, ne_eq, va_us, pk_us]
              · exact absurd c288 c238
            · refine aw_iload_n X dX11_open_241 rfl rfl ?_
              refine aw_if_eq (tgt := 257) X dX11_open_242 rfl (fun c242 => ?_) (fun c242 => ?_)
              · refine aw_iconst X dX11_open_257 ci_0 ?_
                refine aw_isub X dX11_open_258 ?_
                refine am_ast X 36 _ hq (by decide) rfl rfl (bt_vp hfb (by decide) (by decide)) dX11_open_259 ?_
                refine aw_aload_n X dX11_open_260 rfl rfl ?_
                refine aw_iload X dX11_open_261 rfl ?_
                refine aw_iconst X dX11_open_263 ci_2 ?_
                refine aw_iload_n X dX11_open_264 rfl rfl ?_
                refine aw_iload_n X dX11_open_265 rfl rfl ?_
                refine aw_callV X (kX11_begin _ _ _ _ hq (oI (mo_fp (sI M 0 0))) _ _ _ hk hw) okm_X11_begin okX11 mw_0 ml_X11_104 im_X11_begin se_X11_X11_begin rfl rfl (Nat.le_of_ble_eq_true rfl) ⟨Nat.le_of_ble_eq_true rfl, Nat.le_of_ble_eq_true rfl, Nat.le_of_ble_eq_true rfl, Nat.le_of_ble_eq_true rfl⟩ dX11_open_266 (fun v w2 hp => ?_)
                obtain ⟨rfl, rfl⟩ := hp
                refine aw_istore (lv' := [(8, _), (7, _), (6, _), (5, _), (4, _), (0, _), (1, _), (2, _), (3, _)]) X dX11_open_269 (by decide) rfl ?_
                refine aw_aload_n X dX11_open_271 rfl rfl ?_
                refine am_get X 16 (Nat.le_of_ble_eq_true rfl) fl_X11_92 rfl rfl dX11_open_272 ?_
                refine aw_iload X dX11_open_275 rfl ?_
                refine aw_iload X dX11_open_277 rfl ?_
                refine am_ast X 16 _ hq (by decide) rfl rfl (bt_vp hk (by decide) (by decide)) dX11_open_279 ?_
                refine aw_aload_n X dX11_open_280 rfl rfl ?_
                refine am_get X 11 (Nat.le_of_ble_eq_true rfl) fl_X11_80 rfl rfl dX11_open_281 ?_
                refine aw_iload X dX11_open_284 rfl ?_
                refine aw_iload_n X dX11_open_286 rfl rfl ?_
                refine aw_iconst X dX11_open_287 ci_5 ?_
                refine aw_icmp_ne (tgt := 300) X dX11_open_288 rfl (fun c288 => ?_) (fun c288 => ?_)
                · exact absurd c238 c288
                · refine aw_aload_n X dX11_open_291 rfl rfl ?_
                  refine aw_iload X dX11_open_292 rfl ?_
                  refine aw_callV X (kX11_endOf _ _ _ _ hq (oI (mo_fp (sI M 0 0))) hk (fun _ => by rw [sF_rd]; exact hfb)) okm_X11_endOf okX11 mw_0 ml_X11_124 im_X11_endOf se_X11_X11_endOf rfl rfl (Nat.le_of_ble_eq_true rfl) ⟨Nat.le_of_ble_eq_true rfl, Nat.le_of_ble_eq_true rfl, Nat.le_of_ble_eq_true rfl, Nat.le_of_ble_eq_true rfl⟩ dX11_open_294 (fun v w2 hp => ?_)
                  obtain ⟨rfl, rfl⟩ := hp
                  refine aw_goto (tgt := 301) X dX11_open_297 rfl ?_
                  refine am_ast X 11 _ hq (by decide) rfl rfl (bt_vp hk (by decide) (by decide)) dX11_open_301 ?_
                  refine aw_iload X dX11_open_302 rfl ?_
                  refine RTN (some (.int _)) _ _ _ _ _ dX11_open_304 (⟨_, rfl⟩) (Nat.le_of_ble_eq_true rfl) (Nat.le_of_ble_eq_true rfl) ?_
                  rw [hcc]
                  constructor <;> simp only [mo_o6, mo_o5, mo_o3, mo_o1, c213, (eq_true c238), (eq_true c242), (eq_true c288), if_true, if_false, not_true_eq_false, not_false_eq_true, and_self, true_and, and_true, false_and, and_false, or_true, true_or, or_false, false_or, reduceCtorEq, ne_eq, va_us, pk_us]
              · refine aw_aload_n X dX11_open_245 rfl rfl ?_
                refine am_get X 36 (Nat.le_of_ble_eq_true rfl) fl_X11_121 rfl rfl dX11_open_246 ?_
                refine aw_iload X dX11_open_249 rfl ?_
                refine am_ald X 36 _ ((sF N 36 (M.2.2 34 rf.toNatClampNeg).toNatClampNeg (N.2.2 36 (M.2.2 34 rf.toNatClampNeg).toNatClampNeg)).2.2 36) hq (by decide) rfl rfl rfl (bt_vp hfb (by decide) (by decide)) dX11_open_251 ?_
                refine aw_iconst X dX11_open_252 ci_4 ?_
                refine aw_irem X dX11_open_253 (by decide) ?_
                refine aw_goto (tgt := 258) X dX11_open_254 rfl ?_
                refine aw_isub X dX11_open_258 ?_
                refine am_ast X 36 _ hq (by decide) rfl rfl (bt_vp hfb (by decide) (by decide)) dX11_open_259 ?_
                refine aw_aload_n X dX11_open_260 rfl rfl ?_
                refine aw_iload X dX11_open_261 rfl ?_
                refine aw_iconst X dX11_open_263 ci_2 ?_
                refine aw_iload_n X dX11_open_264 rfl rfl ?_
                refine aw_iload_n X dX11_open_265 rfl rfl ?_
                refine aw_callV X (kX11_begin _ _ _ _ hq (oI (mo_fp (sI M 0 0))) _ _ _ hk hw) okm_X11_begin okX11 mw_0 ml_X11_104 im_X11_begin se_X11_X11_begin rfl rfl (Nat.le_of_ble_eq_true rfl) ⟨Nat.le_of_ble_eq_true rfl, Nat.le_of_ble_eq_true rfl, Nat.le_of_ble_eq_true rfl, Nat.le_of_ble_eq_true rfl⟩ dX11_open_266 (fun v w2 hp => ?_)
                obtain ⟨rfl, rfl⟩ := hp
                refine aw_istore (lv' := [(8, _), (7, _), (6, _), (5, _), (4, _), (0, _), (1, _), (2, _), (3, _)]) X dX11_open_269 (by decide) rfl ?_
                refine aw_aload_n X dX11_open_271 rfl rfl ?_
                refine am_get X 16 (Nat.le_of_ble_eq_true rfl) fl_X11_92 rfl rfl dX11_open_272 ?_
                refine aw_iload X dX11_open_275 rfl ?_
                refine aw_iload X dX11_open_277 rfl ?_
                refine am_ast X 16 _ hq (by decide) rfl rfl (bt_vp hk (by decide) (by decide)) dX11_open_279 ?_
                refine aw_aload_n X dX11_open_280 rfl rfl ?_
                refine am_get X 11 (Nat.le_of_ble_eq_true rfl) fl_X11_80 rfl rfl dX11_open_281 ?_
                refine aw_iload X dX11_open_284 rfl ?_
                refine aw_iload_n X dX11_open_286 rfl rfl ?_
                refine aw_iconst X dX11_open_287 ci_5 ?_
                refine aw_icmp_ne (tgt := 300) X dX11_open_288 rfl (fun c288 => ?_) (fun c288 => ?_)
                · exact absurd c238 c288
                · refine aw_aload_n X dX11_open_291 rfl rfl ?_
                  refine aw_iload X dX11_open_292 rfl ?_
                  refine aw_callV X (kX11_endOf _ _ _ _ hq (oI (mo_fp (sI M 0 0))) hk (fun _ => by rw [sF_rd]; exact hfb)) okm_X11_endOf okX11 mw_0 ml_X11_124 im_X11_endOf se_X11_X11_endOf rfl rfl (Nat.le_of_ble_eq_true rfl) ⟨Nat.le_of_ble_eq_true rfl, Nat.le_of_ble_eq_true rfl, Nat.le_of_ble_eq_true rfl, Nat.le_of_ble_eq_true rfl⟩ dX11_open_294 (fun v w2 hp => ?_)
                  obtain ⟨rfl, rfl⟩ := hp
                  refine aw_goto (tgt := 301) X dX11_open_297 rfl ?_
                  refine am_ast X 11 _ hq (by decide) rfl rfl (bt_vp hk (by decide) (by decide)) dX11_open_301 ?_
                  refine aw_iload X dX11_open_302 rfl ?_
                  refine RTN (some (.int _)) _ _ _ _ _ dX11_open_304 (⟨_, rfl⟩) (Nat.le_of_ble_eq_true rfl) (Nat.le_of_ble_eq_true rfl) ?_
                  rw [hcc]
                  constructor <;> simp only [mo_o6, mo_o5, mo_o3, mo_o1, c213, (eq_true c238), c242, (eq_true c288), if_true, if_false, not_true_eq_false, not_false_eq_true, and_self, true_and, and_true, false_and, and_false, or_true, true_or, or_false, false_or, reduceCtorEq, ne_eq, va_us, pk_us]
          · refine aw_iconst X dX11_open_216 ci_0 ?_
            refine aw_goto (tgt := 227) X dX11_open_217 rfl ?_
            refine am_ast X 36 _ hq (by decide) rfl rfl (bt_vp hfb (by decide) (by decide)) dX11_open_227 ?_
            refine aw_aload_n X dX11_open_228 rfl rfl ?_
            refine am_get X 36 (Nat.le_of_ble_eq_true rfl) fl_X11_121 rfl rfl dX11_open_229 ?_
            refine aw_iload X dX11_open_232 rfl ?_
            refine aw_dup2_11 X dX11_open_234 rfl rfl ?_
            refine am_ald X 36 _ ((sF N 36 (M.2.2 34 rf.toNatClampNeg).toNatClampNeg 0).2.2 36) hq (by decide) rfl rfl rfl (bt_vp hfb (by decide) (by decide)) dX11_open_235 ?_
            refine aw_iload_n X dX11_open_236 rfl rfl ?_
            refine aw_iconst X dX11_open_237 ci_5 ?_
            refine aw_icmp_ne (tgt := 257) X dX11_open_238 rfl (fun c238 => ?_) (fun c238 => ?_)
            · refine aw_iconst X dX11_open_257 ci_0 ?_
              refine aw_isub X dX11_open_258 ?_
              refine am_ast X 36 _ hq (by decide) rfl rfl (bt_vp hfb (by decide) (by decide)) dX11_open_259 ?_
              refine aw_aload_n X dX11_open_260 rfl rfl ?_
              refine aw_iload X dX11_open_261 rfl ?_
              refine aw_iconst X dX11_open_263 ci_2 ?_
              refine aw_iload_n X dX11_open_264 rfl rfl ?_
              refine aw_iload_n X dX11_open_265 rfl rfl ?_
              refine aw_callV X (kX11_begin _ _ _ _ hq (oI (mo_fp (sI M 0 0))) _ _ _ hk hw) okm_X11_begin okX11 mw_0 ml_X11_104 im_X11_begin se_X11_X11_begin rfl rfl (Nat.le_of_ble_eq_true rfl) ⟨Nat.le_of_ble_eq_true rfl, Nat.le_of_ble_eq_true rfl, Nat.le_of_ble_eq_true rfl, Nat.le_of_ble_eq_true rfl⟩ dX11_open_266 (fun v w2 hp => ?_)
              obtain ⟨rfl, rfl⟩ := hp
              refine aw_istore (lv' := [(8, _), (7, _), (6, _), (5, _), (4, _), (0, _), (1, _), (2, _), (3, _)]) X dX11_open_269 (by decide) rfl ?_
              refine aw_aload_n X dX11_open_271 rfl rfl ?_
              refine am_get X 16 (Nat.le_of_ble_eq_true rfl) fl_X11_92 rfl rfl dX11_open_272 ?_
              refine aw_iload X dX11_open_275 rfl ?_
              refine aw_iload X dX11_open_277 rfl ?_
              refine am_ast X 16 _ hq (by decide) rfl rfl (bt_vp hk (by decide) (by decide)) dX11_open_279 ?_
              refine aw_aload_n X dX11_open_280 rfl rfl ?_
              refine am_get X 11 (Nat.le_of_ble_eq_true rfl) fl_X11_80 rfl rfl dX11_open_281 ?_
              refine aw_iload X dX11_open_284 rfl ?_
              refine aw_iload_n X dX11_open_286 rfl rfl ?_
              refine aw_iconst X dX11_open_287 ci_5 ?_
              refine aw_icmp_ne (tgt := 300) X dX11_open_288 rfl (fun c288 => ?_) (fun c288 => ?_)
              · refine aw_iconst X dX11_open_300 ci_0 ?_
                refine am_ast X 11 _ hq (by decide) rfl rfl (bt_vp hk (by decide) (by decide)) dX11_open_301 ?_
                refine aw_iload X dX11_open_302 rfl ?_
                refine RTN (some (.int _)) _ _ _ _ _ dX11_open_304 (⟨_, rfl⟩) (Nat.le_of_ble_eq_true rfl) (Nat.le_of_ble_eq_true rfl) ?_
                rw [hcc]
                constructor <;> simp only [mo_o6, mo_o5, mo_o3, mo_o1, (eq_true c213), c238, c288, if_true, if_false, not_true_eq_false, not_false_eq_true, and_self, true_and, and_true, false_and, and_false, or_true, true_or, or_false, false_or, reduceCtorEq, ne_eq, va_us, pk_us]
              · exact absurd c288 c238
            · exact absurd (c213.symm.trans c238) (by decide)
        have L : ∀ (u0 : Bool), u0 = (!decide (mode = 2) || !decide ((M.2.2 35 (M.2.2 34 rf.toNatClampNeg).toNatClampNeg) = 0)) → ∀ (nn i : Nat) (x u : Int32), x = nI i → u = b2 (mo_fr M (M.2.2 34 rf.toNatClampNeg) mode u0 i) → i ≤ 8 → 9 ≤ i + nn → AW G p l e ({ frames := 2, cells := 0, slots := 0, locals := 46 } : Room) s m args below meth c 9 A H0 Q (mw G q (sI M 0 0)) 0 0 73 [(7, .int x), (6, .int u), (5, .int (M.2.2 35 (M.2.2 34 rf.toNatClampNeg).toNatClampNeg)), (4, .int (M.2.2 34 rf.toNatClampNeg)), (0, .ref (q 0)), (1, .int rf), (2, .int mode), (3, .int wide)] [] := by
          intro u0 hu0 nn
          induction nn with
          | zero => intro i x u hx hu h1 h2; exact absurd h2 (by omega)
          | succ nn ih =>
            intro i x u hx hu h1 h2
            subst hx
            subst hu
            refine aw_iload X dX11_open_73 rfl ?_
            refine aw_bipush X dX11_open_75 cb_8 ?_
            refine aw_icmp_ge (tgt := 138) X dX11_open_77 rfl (fun c77 => ?_) (fun c77 => ?_)
            · have h9 : i = 8 := by have := ge_i (N := 8) rfl (by omega) (by decide) c77; omega
              refine aw_iload X dX11_open_138 rfl ?_
              refine aw_if_ne (tgt := 146) X dX11_open_140 rfl (fun c140 => ?_) (fun c140 => ?_)
              · rw [b2_n0] at c140
                refine aw_aload_n X dX11_open_146 rfl rfl ?_
                refine aw_callV X (kX11_freePlace _ _ _ _ hq) okm_X11_freePlace okX11 mw_0 ml_X11_101 im_X11_freePlace se_X11_X11_freePlace rfl rfl (Nat.le_of_ble_eq_true rfl) ⟨Nat.le_of_ble_eq_true rfl, Nat.le_of_ble_eq_true rfl, Nat.le_of_ble_eq_true rfl, Nat.le_of_ble_eq_true rfl⟩ dX11_open_147 (fun v w2 hp => ?_)
                obtain ⟨rfl, rfl⟩ := hp
                refine aw_istore (lv' := [(7, _), (6, _), (5, _), (4, _), (0, _), (1, _), (2, _), (3, _)]) X dX11_open_150 (by decide) rfl ?_
                refine aw_iload X dX11_open_152 rfl ?_
                refine aw_if_lt (tgt := 171) X dX11_open_154 rfl (fun c154 => ?_) (fun c154 => ?_)
                · refine aw_bipush X dX11_open_171 cb_m5 ?_
                  refine RTN (some (.int _)) _ _ _ _ _ dX11_open_173 (⟨_, rfl⟩) (Nat.le_of_ble_eq_true rfl) (Nat.le_of_ble_eq_true rfl) ?_
                  have hfr : mo_free M rf mode = true := by unfold mo_free; rw [← hu0, ← h9]; exact c140
                  constructor <;> simp only [mo_open, c10, c25, (eq_true c30), c154, hfr, if_true, if_false, not_true_eq_false, not_false_eq_true, and_self, true_and, and_true, false_and, and_false, or_true, true_or, or_false, false_or, reduceCtorEq, ne_eq, va_us, pk_us, Bool.false_eq_true]
                · refine aw_iload X dX11_open_157 rfl ?_
                  refine aw_if_ne (tgt := 174) X dX11_open_159 rfl (fun c159 => ?_) (fun c159 => ?_)
                  · refine aw_iload X dX11_open_174 rfl ?_
                    refine aw_if_ne (tgt := 205) X dX11_open_176 rfl (fun c176 => ?_) (fun c176 => ?_)
                    · have hfr : mo_free M rf mode = true := by unfold mo_free; rw [← hu0, ← h9]; exact c140
                      refine aw_lv [0, 1, 2, 3, 4, 5, 6, 7] rfl ?_
                      refine JN _ _ (fp_bt c154) ?_
                      simp only [mo_open, c10, c25, (eq_true c30), c154, c159, c176, hfr, if_true, if_false, not_true_eq_false, not_false_eq_true, and_self, true_and, and_true, false_and, and_false, or_true, true_or, or_false, false_or, reduceCtorEq, ne_eq, va_us, pk_us]
                      try rfl
                    · exact absurd c176 c159
                  · refine aw_aload_n X dX11_open_162 rfl rfl ?_
                    refine am_get X 38 (v := .int (M.1 38)) (Nat.le_of_ble_eq_true rfl) fl_X11_118 rfl rfl dX11_open_163 ?_
                    refine aw_bipush X dX11_open_166 cb_6 ?_
                    refine aw_icmp_ne (tgt := 174) X dX11_open_168 rfl (fun c168 => ?_) (fun c168 => ?_)
                    · refine aw_iload X dX11_open_174 rfl ?_
                      refine aw_if_ne (tgt := 205) X dX11_open_176 rfl (fun c176 => ?_) (fun c176 => ?_)
                      · exact absurd c159 c176
                      · refine aw_aload_n X dX11_open_179 rfl rfl ?_
                        refine am_get X 35 (Nat.le_of_ble_eq_true rfl) fl_X11_115 rfl rfl dX11_open_180 ?_
                        refine aw_iload X dX11_open_183 rfl ?_
                        refine aw_iconst X dX11_open_185 ci_1 ?_
                        refine am_zst X 35 _ hq (by decide) rfl rfl (rfl) (bt_vp hfb (by decide) (by decide)) dX11_open_186 ?_
                        refine aw_aload_n X dX11_open_187 rfl rfl ?_
                        refine aw_dup X dX11_open_188 rfl ?_
                        refine am_get X 38 (v := .int (M.1 38)) (Nat.le_of_ble_eq_true rfl) fl_X11_118 rfl rfl dX11_open_189 ?_
                        refine aw_iconst X dX11_open_192 ci_1 ?_
                        refine aw_iadd X dX11_open_193 ?_
                        refine am_put X 38 (M' := sI _ 38 _) (Nat.le_of_ble_eq_true rfl) fl_X11_118 rfl rfl (rfl) (rfl) (mf_38 _ _ _) rfl dX11_open_194 ?_
                        refine aw_aload_n X dX11_open_197 rfl rfl ?_
                        refine am_get X 36 (Nat.le_of_ble_eq_true rfl) fl_X11_121 rfl rfl dX11_open_198 ?_
                        refine aw_iload X dX11_open_201 rfl ?_
                        refine aw_iconst X dX11_open_203 ci_0 ?_
                        refine am_ast X 36 _ hq (by decide) rfl rfl (bt_vp hfb (by decide) (by decide)) dX11_open_204 ?_
                        have hfr : mo_free M rf mode = true := by unfold mo_free; rw [← hu0, ← h9]; exact c140
                        refine aw_lv [0, 1, 2, 3, 4, 5, 6, 7] rfl ?_
                        refine JN _ _ (fp_bt c154) ?_
                        simp only [mo_open, c10, c25, (eq_true c30), c154, (eq_true c159), c168, (eq_true c176), hfr, if_true, if_false, not_true_eq_false, not_false_eq_true, and_self, true_and, and_true, false_and, and_false, or_true, true_or, or_false, false_or, reduceCtorEq, ne_eq, va_us, pk_us]
                        try rfl
                    · refine aw_bipush X dX11_open_171 cb_m5 ?_
                      refine RTN (some (.int _)) _ _ _ _ _ dX11_open_173 (⟨_, rfl⟩) (Nat.le_of_ble_eq_true rfl) (Nat.le_of_ble_eq_true rfl) ?_
                      have hfr : mo_free M rf mode = true := by unfold mo_free; rw [← hu0, ← h9]; exact c140
                      constructor <;> simp only [mo_open, c10, c25, (eq_true c30), c154, (eq_true c159), (eq_true c168), hfr, if_true, if_false, not_true_eq_false, not_false_eq_true, and_self, true_and, and_true, false_and, and_false, or_true, true_or, or_false, false_or, reduceCtorEq, ne_eq, va_us, pk_us, Bool.false_eq_true]
              · rw [b2_0] at c140
                refine aw_bipush X dX11_open_143 cb_m4 ?_
                refine RTN (some (.int _)) _ _ _ _ _ dX11_open_145 (⟨_, rfl⟩) (Nat.le_of_ble_eq_true rfl) (Nat.le_of_ble_eq_true rfl) ?_
                have hfr : mo_free M rf mode = false := by unfold mo_free; rw [← hu0, ← h9]; exact c140
                constructor <;> simp only [mo_open, c10, c25, (eq_true c30), hfr, if_true, if_false, not_true_eq_false, not_false_eq_true, and_self, true_and, and_true, false_and, and_false, or_true, true_or, or_false, false_or, reduceCtorEq, ne_eq, va_us, pk_us, Bool.false_eq_true]
            · have h9 : i < 8 := lt_i (N := 8) rfl (by omega) (by decide) c77
              refine aw_aload_n X dX11_open_80 rfl rfl ?_
              refine am_get X 6 (Nat.le_of_ble_eq_true rfl) fl_X11_20 rfl rfl dX11_open_81 ?_
              refine aw_iload X dX11_open_84 rfl ?_
              refine am_ald X 6 _ (M.2.2 6) hq (by decide) rfl rfl rfl (vp_in_nI h9 (by decide)) dX11_open_86 ?_
              refine aw_if_le (tgt := 132) X dX11_open_87 rfl (fun c87 => ?_) (fun c87 => ?_)
              · rw [nI_clamp (by omega)] at c87
                rw [← Int32.not_lt] at c87
                refine aw_iinc (lv' := [(7, _), (6, _), (5, _), (4, _), (0, _), (1, _), (2, _), (3, _)]) X dX11_open_132 rfl (iinc_1 _) (by decide) rfl ?_
                refine aw_goto (tgt := 73) X dX11_open_135 rfl ?_
                refine aw_lv [0, 1, 2, 3, 4, 5, 6, 7] rfl ?_
                have hbk : blk M (M.2.2 34 rf.toNatClampNeg) mode i = false := by simp [blk, c87]
                exact ih (i + 1) _ _ (nI_1 i) (by first | (simp only [mo_fr, hbk, if_true, if_false, Bool.false_eq_true]; done) | (simp only [mo_fr, hbk, if_true, if_false, Bool.false_eq_true]; rfl)) (by omega) (by omega)
              · rw [nI_clamp (by omega)] at c87
                rw [Int32.not_le] at c87
                refine aw_aload_n X dX11_open_90 rfl rfl ?_
                refine am_get X 8 (Nat.le_of_ble_eq_true rfl) fl_X11_23 rfl rfl dX11_open_91 ?_
                refine aw_iload X dX11_open_94 rfl ?_
                refine am_ald X 8 _ (M.2.2 8) hq (by decide) rfl rfl rfl (vp_in_nI h9 (by decide)) dX11_open_96 ?_
                refine aw_iconst X dX11_open_97 ci_2 ?_
                refine aw_icmp_ne (tgt := 132) X dX11_open_98 rfl (fun c98 => ?_) (fun c98 => ?_)
                · rw [nI_clamp (by omega)] at c98
                  refine aw_iinc (lv' := [(7, _), (6, _), (5, _), (4, _), (0, _), (1, _), (2, _), (3, _)]) X dX11_open_132 rfl (iinc_1 _) (by decide) rfl ?_
                  refine aw_goto (tgt := 73) X dX11_open_135 rfl ?_
                  refine aw_lv [0, 1, 2, 3, 4, 5, 6, 7] rfl ?_
                  have hbk : blk M (M.2.2 34 rf.toNatClampNeg) mode i = false := by simp [blk, c87, c98]
                  exact ih (i + 1) _ _ (nI_1 i) (by first | (simp only [mo_fr, hbk, if_true, if_false, Bool.false_eq_true]; done) | (simp only [mo_fr, hbk, if_true, if_false, Bool.false_eq_true]; rfl)) (by omega) (by omega)
                · rw [nI_clamp (by omega)] at c98
                  refine aw_aload_n X dX11_open_101 rfl rfl ?_
                  refine am_get X 16 (Nat.le_of_ble_eq_true rfl) fl_X11_92 rfl rfl dX11_open_102 ?_
                  refine aw_iload X dX11_open_105 rfl ?_
                  refine am_ald X 16 _ (M.2.2 16) hq (by decide) rfl rfl rfl (vp_in_nI h9 (by decide)) dX11_open_107 ?_
                  refine aw_iload X dX11_open_108 rfl ?_
                  refine aw_icmp_ne (tgt := 132) X dX11_open_110 rfl (fun c110 => ?_) (fun c110 => ?_)
                  · rw [nI_clamp (by omega)] at c110
                    refine aw_iinc (lv' := [(7, _), (6, _), (5, _), (4, _), (0, _), (1, _), (2, _), (3, _)]) X dX11_open_132 rfl (iinc_1 _) (by decide) rfl ?_
                    refine aw_goto (tgt := 73) X dX11_open_135 rfl ?_
                    refine aw_lv [0, 1, 2, 3, 4, 5, 6, 7] rfl ?_
                    have hbk : blk M (M.2.2 34 rf.toNatClampNeg) mode i = false := by simp [blk, c87, (eq_true c98), c110]
                    exact ih (i + 1) _ _ (nI_1 i) (by first | (simp only [mo_fr, hbk, if_true, if_false, Bool.false_eq_true]; done) | (simp only [mo_fr, hbk, if_true, if_false, Bool.false_eq_true]; rfl)) (by omega) (by omega)
                  · rw [nI_clamp (by omega)] at c110
                    refine aw_iload_n X dX11_open_113 rfl rfl ?_
                    refine aw_iconst X dX11_open_114 ci_2 ?_
                    refine aw_icmp_ne (tgt := 129) X dX11_open_115 rfl (fun c115 => ?_) (fun c115 => ?_)
                    · refine aw_iconst X dX11_open_129 ci_0 ?_
                      refine aw_istore (lv' := [(6, _), (7, _), (5, _), (4, _), (0, _), (1, _), (2, _), (3, _)]) X dX11_open_130 (by decide) rfl ?_
                      refine aw_iinc (lv' := [(7, _), (6, _), (5, _), (4, _), (0, _), (1, _), (2, _), (3, _)]) X dX11_open_132 rfl (iinc_1 _) (by decide) rfl ?_
                      refine aw_goto (tgt := 73) X dX11_open_135 rfl ?_
                      refine aw_lv [0, 1, 2, 3, 4, 5, 6, 7] rfl ?_
                      have hbk : blk M (M.2.2 34 rf.toNatClampNeg) mode i = true := by simp [blk, c87, (eq_true c98), (eq_true c110), c115]
                      exact ih (i + 1) _ _ (nI_1 i) (by first | (simp only [mo_fr, hbk, if_true, if_false, Bool.false_eq_true]; done) | (simp only [mo_fr, hbk, if_true, if_false, Bool.false_eq_true]; rfl)) (by omega) (by omega)
                    · refine aw_aload_n X dX11_open_118 rfl rfl ?_
                      refine am_get X 10 (Nat.le_of_ble_eq_true rfl) fl_X11_77 rfl rfl dX11_open_119 ?_
                      refine aw_iload X dX11_open_122 rfl ?_
                      refine am_ald X 10 _ (M.2.2 10) hq (by decide) rfl rfl rfl (vp_in_nI h9 (by decide)) dX11_open_124 ?_
                      refine aw_iconst X dX11_open_125 ci_2 ?_
                      refine aw_icmp_eq (tgt := 132) X dX11_open_126 rfl (fun c126 => ?_) (fun c126 => ?_)
                      · rw [nI_clamp (by omega)] at c126
                        refine aw_iinc (lv' := [(7, _), (6, _), (5, _), (4, _), (0, _), (1, _), (2, _), (3, _)]) X dX11_open_132 rfl (iinc_1 _) (by decide) rfl ?_
                        refine aw_goto (tgt := 73) X dX11_open_135 rfl ?_
                        refine aw_lv [0, 1, 2, 3, 4, 5, 6, 7] rfl ?_
                        have hbk : blk M (M.2.2 34 rf.toNatClampNeg) mode i = false := by simp [blk, c87, (eq_true c98), (eq_true c110), (eq_true c115), (eq_true c126)]
                        exact ih (i + 1) _ _ (nI_1 i) (by first | (simp only [mo_fr, hbk, if_true, if_false, Bool.false_eq_true]; done) | (simp only [mo_fr, hbk, if_true, if_false, Bool.false_eq_true]; rfl)) (by omega) (by omega)
                      · rw [nI_clamp (by omega)] at c126
                        refine aw_iconst X dX11_open_129 ci_0 ?_
                        refine aw_istore (lv' := [(6, _), (7, _), (5, _), (4, _), (0, _), (1, _), (2, _), (3, _)]) X dX11_open_130 (by decide) rfl ?_
                        refine aw_iinc (lv' := [(7, _), (6, _), (5, _), (4, _), (0, _), (1, _), (2, _), (3, _)]) X dX11_open_132 rfl (iinc_1 _) (by decide) rfl ?_
                        refine aw_goto (tgt := 73) X dX11_open_135 rfl ?_
                        refine aw_lv [0, 1, 2, 3, 4, 5, 6, 7] rfl ?_
                        have hbk : blk M (M.2.2 34 rf.toNatClampNeg) mode i = true := by simp [blk, c87, (eq_true c98), (eq_true c110), (eq_true c115), c126]
                        exact ih (i + 1) _ _ (nI_1 i) (by first | (simp only [mo_fr, hbk, if_true, if_false, Bool.false_eq_true]; done) | (simp only [mo_fr, hbk, if_true, if_false, Bool.false_eq_true]; rfl)) (by omega) (by omega)
        refine aw_lv [0, 1, 2, 3, 4, 5] rfl ?_
        refine aw_iload_n X dX11_open_53 rfl rfl ?_
        refine aw_iconst X dX11_open_54 ci_2 ?_
        refine aw_icmp_ne (tgt := 63) X dX11_open_55 rfl (fun c55 => ?_) (fun c55 => ?_)
        · refine aw_iconst X dX11_open_63 ci_1 ?_
          refine aw_goto (tgt := 68) X dX11_open_64 rfl ?_
          refine aw_istore (lv' := [(6, _), (5, _), (4, _), (0, _), (1, _), (2, _), (3, _)]) X dX11_open_68 (by decide) rfl ?_
          refine aw_iconst X dX11_open_70 ci_0 ?_
          refine aw_istore (lv' := [(7, _), (6, _), (5, _), (4, _), (0, _), (1, _), (2, _), (3, _)]) X dX11_open_71 (by decide) rfl ?_
          refine aw_lv [0, 1, 2, 3, 4, 5, 6, 7] rfl ?_
          exact L _ rfl 9 0 _ _ rfl (by simp [mo_fr, b2, c55]) (by decide) (by decide)
        · refine aw_iload X dX11_open_58 rfl ?_
          refine aw_if_eq (tgt := 67) X dX11_open_60 rfl (fun c60 => ?_) (fun c60 => ?_)
          · refine aw_iconst X dX11_open_67 ci_0 ?_
            refine aw_istore (lv' := [(6, _), (5, _), (4, _), (0, _), (1, _), (2, _), (3, _)]) X dX11_open_68 (by decide) rfl ?_
            refine aw_iconst X dX11_open_70 ci_0 ?_
            refine aw_istore (lv' := [(7, _), (6, _), (5, _), (4, _), (0, _), (1, _), (2, _), (3, _)]) X dX11_open_71 (by decide) rfl ?_
            refine aw_lv [0, 1, 2, 3, 4, 5, 6, 7] rfl ?_
            exact L _ rfl 9 0 _ _ rfl (by simp [mo_fr, b2, (eq_true c55), (eq_true c60)]) (by decide) (by decide)
          · refine aw_iconst X dX11_open_63 ci_1 ?_
            refine aw_goto (tgt := 68) X dX11_open_64 rfl ?_
            refine aw_istore (lv' := [(6, _), (5, _), (4, _), (0, _), (1, _), (2, _), (3, _)]) X dX11_open_68 (by decide) rfl ?_
            refine aw_iconst X dX11_open_70 ci_0 ?_
            refine aw_istore (lv' := [(7, _), (6, _), (5, _), (4, _), (0, _), (1, _), (2, _), (3, _)]) X dX11_open_71 (by decide) rfl ?_
            refine aw_lv [0, 1, 2, 3, 4, 5, 6, 7] rfl ?_
            exact L _ rfl 9 0 _ _ rfl (by simp [mo_fr, b2, (eq_true c55), c60]) (by decide) (by decide)
      · refine aw_bipush X dX11_open_33 cb_m3 ?_
        refine RTN (some (.int _)) _ _ _ _ _ dX11_open_35 (⟨_, rfl⟩) (Nat.le_of_ble_eq_true rfl) (Nat.le_of_ble_eq_true rfl) ?_
        first | (constructor <;> ((try simp only [mo_open, c10, c25, c30, if_true, if_false, not_true_eq_false, not_false_eq_true, and_self, true_and, and_true, false_and, and_false, or_true, true_or, or_false, false_or, reduceCtorEq, ne_eq, va_us, pk_us]); (try with_reducible rfl); done)) | (clear RTN X; constructor <;> ((try simp_all only [mo_open, if_true, if_false, not_true_eq_false, not_false_eq_true, and_self, true_and, and_true, false_and, and_false, or_true, true_or, or_false, false_or, reduceCtorEq, ne_eq, va_us, pk_us]); (try with_reducible rfl); done)) | (constructor <;> ((try simp only [mo_open, c10, c25, c30, if_true, if_false, not_true_eq_false, not_false_eq_true, and_self, true_and, and_true, false_and, and_false, or_true, true_or, or_false, false_or, reduceCtorEq, ne_eq, va_us, pk_us]); (try rfl); done))
  · rw [bI_0] at c10
    refine aw_bipush X dX11_open_13 cb_m2 ?_
    refine RTN (some (.int _)) _ _ _ _ _ dX11_open_15 (⟨_, rfl⟩) (Nat.le_of_ble_eq_true rfl) (Nat.le_of_ble_eq_true rfl) ?_
    first | (constructor <;> ((try simp only [mo_open, c10, if_true, if_false, not_true_eq_false, not_false_eq_true, and_self, true_and, and_true, false_and, and_false, or_true, true_or, or_false, false_or, reduceCtorEq, ne_eq, va_us, pk_us]); (try with_reducible rfl); done)) | (clear RTN X; constructor <;> ((try simp_all only [mo_open, if_true, if_false, not_true_eq_false, not_false_eq_true, and_self, true_and, and_true, false_and, and_false, or_true, true_or, or_false, false_or, reduceCtorEq, ne_eq, va_us, pk_us]); (try with_reducible rfl); done)) | (constructor <;> ((try simp only [mo_open, c10, if_true, if_false, not_true_eq_false, not_false_eq_true, and_self, true_and, and_true, false_and, and_false, or_true, true_or, or_false, false_or, reduceCtorEq, ne_eq, va_us, pk_us]); (try rfl); done))
