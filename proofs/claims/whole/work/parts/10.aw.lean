/-! worlds as maps: an address has at most one cell -/
abbrev WM : Type := Nat → Option va_E
abbrev GG : Type := (Nat → ClassId) × (Nat → Nat → Nat) × (Nat → ClassId) × WM × (Nat → Nat) × (Nat → Nat)
abbrev gD (G : GG) : va_G := (G.1, G.2.1)
abbrev gA (G : GG) : Nat → ClassId := G.2.2.1
abbrev gR (G : GG) : WM := G.2.2.2.1
/-- the addresses of the String constants and of their bytes -/
abbrev gK (G : GG) : Nat → Nat := G.2.2.2.2.1
abbrev gV (G : GG) : Nat → Nat := G.2.2.2.2.2
abbrev gT (G : GG) : List (ClassId × FieldType) := [(gA G 0, .int), (gA G 1, .byte), (gA G 2, .boolean), (gA G 3, .long), (gA G 4, .object "GlkStreams$Items"), (gA G 5, .object "GlkStreams$Stream"), (gA G 6, .object "GlkStreams$Reference")]
def wm_P (G : GG) (w : WM) (H : Heap) : Prop := ∀ (a : Nat) (e : va_E), w a = some e → va_at (gD G) vwCl (a, e) H
def wm_up (w : WM) (a : Nat) (e : va_E) : WM := fun b => if b = a then some e else w b
def wm_L (w : WM) (n : Nat) : va_W := (List.range n).filterMap (fun a => (w a).map (fun e => (a, e)))
theorem wm_lt {G : GG} {w : WM} {H : Heap} (hP : wm_P G w H) {a : Nat} {e : va_E} (h : w a = some e) : a < H.size := (hP a e h).lt
theorem wm_mem {w : WM} {n a : Nat} {e : va_E} : (a, e) ∈ wm_L w n ↔ a < n ∧ w a = some e := by
  unfold wm_L
  rw [List.mem_filterMap]
  constructor
  · rintro ⟨b, hb, h⟩
    rw [Option.map_eq_some_iff] at h
    obtain ⟨e', h1, h2⟩ := h
    cases h2
    exact ⟨List.mem_range.mp hb, h1⟩
  · rintro ⟨h1, h2⟩
    exact ⟨a, List.mem_range.mpr h1, by rw [h2]; rfl⟩
theorem wm_pw (w : WM) (n : Nat) : (wm_L w n).Pairwise (fun x y => x.1 < y.1) := by
  unfold wm_L
  refine List.Pairwise.filterMap _ (R := fun a b : Nat => a < b) ?_ List.pairwise_lt_range
  intro a a' h b hb b' hb'
  rw [Option.map_eq_some_iff] at hb hb'
  obtain ⟨e1, -, h1⟩ := hb
  obtain ⟨e2, -, h2⟩ := hb'
  rw [← h1, ← h2]
  exact h
theorem wm_toP {G : GG} {w : WM} {H : Heap} (hP : wm_P G w H) (n : Nat) : va_P (gD G) vwCl (wm_L w n) H := by
  intro k q hk
  have h := List.mem_of_getElem? hk
  obtain ⟨a, e⟩ := q
  exact hP a e (wm_mem.mp h).2
theorem wm_toD {w : WM} {A : Nat → Prop} (hA : ∀ a, w a ≠ none → A a) (n : Nat) : va_D A (wm_L w n) := by
  refine ⟨fun i j x y hi hj hxy => ?_, fun k q hk => ?_⟩
  · obtain ⟨li, ei⟩ := List.getElem?_eq_some_iff.mp hi
    obtain ⟨lj, ej⟩ := List.getElem?_eq_some_iff.mp hj
    have hp := List.pairwise_iff_getElem.mp (wm_pw w n)
    rcases Nat.lt_trichotomy i j with h | h | h
    · have := hp i j li lj h
      rw [ei, ej] at this
      omega
    · exact h
    · have := hp j i lj li h
      rw [ei, ej] at this
      omega
  · obtain ⟨a, e⟩ := q
    have h := (wm_mem.mp (List.mem_of_getElem? hk)).2
    exact hA a (by rw [h]; exact fun z => by cases z)
theorem wm_pos {G : GG} {w : WM} {H : Heap} (hP : wm_P G w H) {a : Nat} {e : va_E} (h : w a = some e) : ∃ k : Nat, (wm_L w H.size)[k]? = some (a, e) :=
  List.getElem?_of_mem (wm_mem.mpr ⟨wm_lt hP h, h⟩)
theorem wm_set {G : GG} {w : WM} {H H1 : Heap} (hP : wm_P G w H) {a k : Nat} {e e' : va_E} (hk : (wm_L w H.size)[k]? = some (a, e)) (h1 : va_P (gD G) vwCl ((wm_L w H.size).set k (a, e')) H1) : wm_P G (wm_up w a e') H1 := by
  intro b x hb
  have hl := (List.getElem?_eq_some_iff.mp hk).1
  unfold wm_up at hb
  split at hb
  · rename_i hba
    subst hba
    cases hb
    exact h1 k (b, e') (List.getElem?_set_self hl)
  · rename_i hba
    obtain ⟨j, hj⟩ := List.getElem?_of_mem (wm_mem.mpr ⟨wm_lt hP hb, hb⟩)
    refine h1 j (b, x) ?_
    rw [List.getElem?_set_ne (fun z => ?_)]
    · exact hj
    · subst z
      rw [hk] at hj
      cases hj
      exact hba rfl
theorem wm_push {G : GG} {w : WM} {A : Nat → Prop} {H H1 : Heap} (hP : wm_P G w H) {q : Nat} {e : va_E} (h1 : va_P (gD G) vwCl (wm_L w H.size ++ [(q, e)]) H1) (hD : va_D A (wm_L w H.size ++ [(q, e)])) : wm_P G (wm_up w q e) H1 ∧ w q = none ∧ A q := by
  have hq : (wm_L w H.size ++ [(q, e)])[(wm_L w H.size).length]? = some (q, e) := by simp
  refine ⟨fun b x hb => ?_, ?_, hD.2 _ _ hq⟩
  · unfold wm_up at hb
    split at hb
    · rename_i hba
      subst hba
      cases hb
      exact h1 _ _ hq
    · obtain ⟨j, hj⟩ := List.getElem?_of_mem (wm_mem.mpr ⟨wm_lt hP hb, hb⟩)
      refine h1 j (b, x) ?_
      rw [List.getElem?_append_left (List.getElem?_eq_some_iff.mp hj).1]
      exact hj
  · cases hw : w q with
    | none => rfl
    | some x =>
      exfalso
      obtain ⟨j, hj⟩ := List.getElem?_of_mem (wm_mem.mpr ⟨wm_lt hP hw, hw⟩)
      have hl := (List.getElem?_eq_some_iff.mp hj).1
      have := hD.1 j _ (q, x) (q, e) (by rw [List.getElem?_append_left hl]; exact hj) hq rfl
      omega
theorem wm_upA {w : WM} {A : Nat → Prop} {a : Nat} {e : va_E} (hA : ∀ b, w b ≠ none → A b) (ha : A a) : ∀ b, wm_up w a e b ≠ none → A b := by
  intro b hb
  unfold wm_up at hb
  split at hb
  · rename_i h; rw [h]; exact ha
  · exact hA b hb
theorem wm_ups {w : WM} {a : Nat} {e : va_E} : wm_up w a e a = some e := by unfold wm_up; rw [if_pos rfl]
theorem wm_upn {w : WM} {a b : Nat} {e : va_E} (h : b ≠ a) : wm_up w a e b = w b := by unfold wm_up; rw [if_neg h]
theorem wm_up_up {w : WM} {a : Nat} {e e' : va_E} : wm_up (wm_up w a e) a e' = wm_up w a e' := by
  funext b; unfold wm_up; split <;> rfl
/-! words that go with every call, and those that are carried -/
def lw_g : List Cond := lw_tbl.filter goodWord
def lw_isX : Cond → Bool
  | .methodLinkNest _ _ _ _ => true
  | .castable _ _ => true
  | .declares _ => true
  | .privateMethod _ => true
  | .arrayOver (.object _) => true
  | _ => false
def lw_x : List Cond := lw_tbl.filter lw_isX
theorem mem_g {w : Cond} (h : w ∈ lw_tbl) (hg : goodWord w = true) : w ∈ lw_g := List.mem_filter.mpr ⟨h, hg⟩
theorem mem_t {w : Cond} (h : w ∈ tables_1) : w ∈ lw_tbl := List.mem_append_right _ h
theorem mem_i {w : Cond} {i : Nat} (h : tables_1[i]? = some w) (hg : goodWord w = true) : w ∈ lw_g := mem_g (mem_t (List.mem_of_getElem? h)) hg
theorem mem_s {q : MethodName × Nat} {i : Nat} (h : lw_privs[i]? = some q) (hg : goodWord (Cond.selects q.1.cls q.1 q.1) = true) : Cond.selects q.1.cls q.1 q.1 ∈ lw_g :=
  mem_g (List.mem_append_left _ (List.mem_map.mpr ⟨q, List.mem_of_getElem? h, rfl⟩)) hg
theorem g_warm {s U : State} {args a' : Array Value} (hts : ∀ w ∈ lw_g, w.before args s = true) (hW : s.WarmedH U.vm) : ∀ w ∈ lw_g, w.before a' U = true :=
  fun w hw => word_at hW (good_of_word (List.mem_filter.mp hw).2) (hts w hw)
theorem nw_pv {y : MethodName} {s U : State} (hW : s.WarmedH U.vm) (h : va_Nw (.privateMethod y) s) : va_Nw (.privateMethod y) U :=
  va_tabs (A := #[]) rfl (rfl : (s.setVm U.vm).vm = U.vm) (by
    have h : (Cond.privateMethod y).before #[] s = true := h
    simp only [Cond.before, Cond.holds, Cond.value] at h ⊢
    rw [State.methodNamed?_setVm hW.alike]
    have e : (s.setVm U.vm).vm.method? = s.vm.method? := funext fun m => hW.alike.method? m
    rw [e]
    exact h)
theorem nw_ao {C : String} {s U : State} (hW : s.vm.Alike U.vm) (h : va_Nw (.arrayOver (.object C)) s) : va_Nw (.arrayOver (.object C)) U := va_AO.moved (C := C) hW h
theorem x_warm {w : Cond} (hx : lw_isX w = true) {s U : State} (hW : s.WarmedH U.vm) (h : va_Nw w s) : va_Nw w U := by
  cases w <;> first | (exact va_Nw.warmM hW h) | (exact va_Nw.warmC hW h) | (exact va_Nw.warmD hW h) | (exact nw_pv hW h) | (rename_i ty; cases ty <;> first | (exact nw_ao hW.alike h) | (cases hx)) | (cases hx)
theorem x_same {w : Cond} (hx : lw_isX w = true) {s U : State} (hv : s.vm = U.vm) (h : va_Nw w s) : va_Nw w U := by
  cases w <;> first | (exact va_Nw.same rfl hv h) | (rename_i ty; cases ty <;> first | (exact nw_ao (by rw [hv]; exact Vm.Alike.refl _) h) | (cases hx)) | (cases hx)
/-- widened: what is older than H -/
theorem zZ_wide {C n d : String} {v : Value} {A A' : Nat → Prop} {U : State} {H : Heap} (h : va_Z C n d v A U H) (hA : ∀ q, A' q → A q ∨ H.size ≤ q) : va_Z C n d v A' U H := by
  obtain ⟨cf, kf, fi, f, a, cell, h1, h2, h3, h4, h5, h6, h7, h8⟩ := h
  refine ⟨cf, kf, fi, f, a, cell, h1, h2, h3, h4, h5, h6, h7, fun z => ?_⟩
  have := (Array.getElem?_eq_some_iff.mp h5).1
  rcases hA a z with q | q
  · exact h8 q
  · omega
theorem zT_wide {ty : FieldType} {t N : Nat} {f : Nat → Value} {A A' : Nat → Prop} {U : State} {H : Heap} (h : va_T ty t N f A U H) (hA : ∀ q, A' q → A q ∨ H.size ≤ q) : va_T ty t N f A' U H := by
  obtain ⟨cell, h1, h2, h3, h4, h5, h6, h7⟩ := h
  refine ⟨cell, h1, h2, h3, h4, h5, h6, fun z => ?_⟩
  have := (Array.getElem?_eq_some_iff.mp h1).1
  rcases hA t z with q | q
  · exact h7 q
  · omega
theorem zO_wide {E : String} {t : Nat} {A A' : Nat → Prop} {U : State} {H : Heap} (h : va_O E t A U H) (hA : ∀ q, A' q → A q ∨ H.size ≤ q) : va_O E t A' U H := by
  obtain ⟨cell, h1, h2, h3, h4⟩ := h
  refine ⟨cell, h1, h2, h3, fun z => ?_⟩
  have := (Array.getElem?_eq_some_iff.mp h1).1
  rcases hA t z with q | q
  · exact h4 q
  · omega
theorem zF_wide {o n d : String} {v : Value} {t : Nat} {A A' : Nat → Prop} {U : State} {H : Heap} (h : va_OF o n d v t A U H) (hA : ∀ q, A' q → A q ∨ H.size ≤ q) : va_OF o n d v t A' U H := by
  obtain ⟨cf, k, i, f, cell, h1, h2, h3, h4, h5, h6⟩ := h
  refine ⟨cf, k, i, f, cell, h1, h2, h3, h4, h5, fun z => ?_⟩
  have := (Array.getElem?_eq_some_iff.mp h3).1
  rcases hA t z with q | q
  · exact h6 q
  · omega
theorem zS_wide {N : Nat} {len : List Nat} {byt : List (List Int32)} {adK adV : Nat → Nat} {A A' : Nat → Prop} {U : State} {H : Heap} (h : vk_S N len byt adK adV A U H) (hA : ∀ q, A' q → A q ∨ H.size ≤ q) : vk_S N len byt adK adV A' U H :=
  ⟨fun i hi => ⟨zO_wide (h.1 i hi).1 hA, zF_wide (h.1 i hi).2.1 hA, zF_wide (h.1 i hi).2.2.1 hA, zT_wide (h.1 i hi).2.2.2 hA⟩, h.2⟩
/-- pairs of classes of which the first is none of the second -/
def lw_n : List (String × String) := [("GlkStreams$Pane", "GlkStreams$FileStream"), ("GlkStreams$Memory", "GlkStreams$FileStream"), ("GlkStreams$ResourceStream", "GlkStreams$FileStream"), ("GlkStreams$Memory", "GlkStreams$Pane"), ("GlkStreams$FileStream", "GlkStreams$Pane"), ("GlkStreams$ResourceStream", "GlkStreams$Pane")]
def lw_ln : List Nat := [9, 0, 19]
def lw_by : List (List Int32) := [[47, 92, 60, 62, 58, 34, 124, 63, 42], [], [110, 111, 32, 115, 105, 103, 110, 32, 119, 97, 115, 32, 100, 114, 111, 112, 112, 101, 100]]
def gX (G : GG) (A : Nat → Prop) (U : State) (H : Heap) : Prop :=
  (∀ q ∈ lw_n, va_Nc q.1 q.2 U) ∧ va_Z "java/lang/String" "COMPACT_STRINGS" "Z" (.int 1) A U H ∧ va_Zq "jdk/internal/util/Preconditions" "SIOOBE_FORMATTER" "Ljava/util/function/BiFunction;" A U H ∧ vx_Zq "java/lang/Throwable" "UNASSIGNED_STACK" "[Ljava/lang/StackTraceElement;" A U H ∧ vx_Zq "java/lang/Throwable" "SUPPRESSED_SENTINEL" "Ljava/util/List;" A U H ∧
  vk_S 3 lw_ln lw_by (gK G) (gV G) A U H ∧ vk_R "GlkStreams$NameAtHand" 46 "/\\<>:\"|?*" (gK G 0) U ∧ vk_R "GlkStreams" 300 "" (gK G 1) U ∧ vk_R "GlkStreams" 373 "no sign was dropped" (gK G 2) U
theorem zQ_wide {C n d : String} {A A' : Nat → Prop} {U : State} {H : Heap} (h : va_Zq C n d A U H) (hA : ∀ q, A' q → A q ∨ H.size ≤ q) : va_Zq C n d A' U H := by
  rcases h with h | ⟨t, h⟩
  · exact Or.inl (zZ_wide h hA)
  · exact Or.inr ⟨t, zZ_wide h hA⟩
theorem zX_wide {C n d : String} {A A' : Nat → Prop} {U : State} {H : Heap} (h : vx_Zq C n d A U H) (hA : ∀ q, A' q → A q ∨ H.size ≤ q) : vx_Zq C n d A' U H := by
  refine ⟨zQ_wide h.1 hA, ?_⟩
  obtain ⟨c, k, i, f, a, cell, h1, h2, h3, h4, h5, h6, h7, h8, h9, h10⟩ := h.2
  refine ⟨c, k, i, f, a, cell, h1, h2, h3, h4, h5, h6, h7, h8, h9, fun z => ?_⟩
  have := (Array.getElem?_eq_some_iff.mp h5).1
  rcases hA a z with q | q
  · exact h10 q
  · omega
theorem gX.call {G : GG} {A A' : Nat → Prop} {s U : State} {H0 H : Heap} {locs : List Loc} (h : gX G A s H0) (hS : va_S A H0 H locs) (hW : s.WarmedH U.vm) (hA : ∀ q, A' q → A q ∨ H.size ≤ q) : gX G A' U H := by
  obtain ⟨h1, h2, h3, h4, h5, h6, h7, h8, h9⟩ := h
  exact ⟨fun q hq => (h1 q hq).moved hW.alike, zZ_wide ((va_Z.moved hW.alike h2).kept hS.2.1) hA, zQ_wide ((va_Zq.moved hW.alike h3).kept hS.2.1) hA, zX_wide ((vx_Zq.moved hW.alike h4).kept hS.2.1) hA, zX_wide ((vx_Zq.moved hW.alike h5).kept hS.2.1) hA, zS_wide ((vk_S.moved hW.alike h6).kept hS.2.1) hA, h7.warm hW, h8.warm hW, h9.warm hW⟩
theorem gX.vm {G : GG} {A : Nat → Prop} {s U : State} {H : Heap} (h : gX G A s H) (hv : s.vm = U.vm) : gX G A U H := by
  obtain ⟨h1, h2, h3, h4, h5, h6, h7, h8, h9⟩ := h
  have ha : s.vm.Alike U.vm := by rw [hv]; exact Vm.Alike.refl _
  exact ⟨fun q hq => (h1 q hq).moved ha, va_Z.moved ha h2, va_Zq.moved ha h3, vx_Zq.moved ha h4, vx_Zq.moved ha h5, vk_S.moved ha h6, h7.same hv.symm, h8.same hv.symm, h9.same hv.symm⟩
/-- what is known of the rest of the machine: the carried words, the cells that nobody writes -/
def gE (G : GG) (A : Nat → Prop) (U : State) (H : Heap) : Prop := (∀ w ∈ lw_x, va_Nw w U) ∧ wm_P G (gR G) H ∧ (∀ a, gR G a ≠ none → ¬ A a) ∧ gX G A U H
theorem gE.call {G : GG} {A A' : Nat → Prop} {s U : State} {H0 H : Heap} {locs : List Loc} (h : gE G A s H0) (hS : va_S A H0 H locs) (hW : s.WarmedH U.vm) (hA : ∀ q, A' q → A q ∨ H.size ≤ q) : gE G A' U H := by
  obtain ⟨h1, h2, h3, h4⟩ := h
  refine ⟨fun w hw => x_warm (List.mem_filter.mp hw).2 hW (h1 w hw), fun a x ha => ?_, fun a ha z => ?_, h4.call hS hW hA⟩
  · exact (h2 a x ha).kept (hS.2.1 a (wm_lt h2 ha) (h3 a (by rw [ha]; exact fun z => by cases z)))
  · rcases hA a z with q | q
    · exact h3 a ha q
    · cases hx : gR G a with
      | none => exact ha hx
      | some x =>
        have := wm_lt h2 hx
        have := hS.1
        omega
theorem gE.vm {G : GG} {A : Nat → Prop} {s U : State} {H : Heap} (h : gE G A s H) (hv : s.vm = U.vm) : gE G A U H := ⟨fun w hw => x_same (List.mem_filter.mp hw).2 hv (h.1 w hw), h.2.1, h.2.2.1, h.2.2.2.vm hv⟩
/-! the fixed part of a method's walk -/
def Cx (G : GG) (p : Program) (s : State) (m : MethodId) (args : Array Value) (meth : Method) (c : Code) (A : Nat → Prop) (H0 : Heap) (cc : ByteArray) (nL : Nat) (own : String) : Prop :=
  p.tables.exec = Jvm.exec ∧ c.code = cc ∧ c.maxLocals = nL ∧ s.vm.findClass own = some m.cls ∧ (∀ w ∈ lw_g, w.before args s = true) ∧ va_K (gD G) vwCl (gT G) s ∧ meth.locks = false ∧ (∀ q, H0.size ≤ q → A q) ∧ gE G A s H0
/-- the machine at pc over the world w, the locals lv, the stack st comes to Q -/
def AW (G : GG) (p : Program) (l : Launch) (e : Env) (R : Room) (s : State) (m : MethodId) (args : Array Value) (below : List Frame) (meth : Method) (c : Code) (nL : Nat) (A : Nat → Prop) (H0 : Heap) (Q : State → Prop) (w : WM) (cells slots : Nat) (pc : Nat) (lv : List (Nat × Value)) (st : List Value) : Prop :=
  ∀ (H : Heap) (locs : List Loc) (ls : Array Slot), wm_P G w H → (∀ a, w a ≠ none → A a) → va_S A H0 H locs → lv_has ls nL lv → W p l e R s m args below meth c H locs cells slots Q (F0 m pc ls st)
/-- a class of vwCl whose words are in the tables -/
def okC (ci : Nat) (C : String) (T : u_T) (N : Nat) (ty : Nat → FieldType) : Prop :=
  vwCl[ci]? = some (C, T, N) ∧ (∀ v ∈ u_ws C T N, v ∈ lw_g) ∧ (∀ k, k < N → parseFieldDescriptor (T k).2.2.1 = some (ty k)) ∧ (∀ a, a < N → ∀ b, b < N → a ≠ b → (T a).2.1 ≠ (T b).2.1)
theorem lk_has {ls : Array Slot} {nL : Nat} {lv : List (Nat × Value)} {i : Nat} {v : Value} (h : lv_has ls nL lv) (hl : lv.lookup i = some v) : ls[i]? = some (.val v) := by
  refine h.2.2 (i, v) ?_
  clear h
  induction lv with
  | nil => cases hl
  | cons x r ih =>
    obtain ⟨a, b⟩ := x
    rw [List.lookup_cons] at hl
    by_cases hia : (i == a) = true
    · rw [hia] at hl
      cases hl
      rw [beq_iff_eq] at hia
      rw [hia]
      exact List.mem_cons_self
    · rw [Bool.not_eq_true] at hia
      rw [hia] at hl
      exact List.mem_cons_of_mem _ (ih hl)
theorem lk_pos {lv : List (Nat × Value)} {i : Nat} {v : Value} (hl : lv.lookup i = some v) : ∃ k : Nat, lv[k]? = some (i, v) := by
  induction lv with
  | nil => cases hl
  | cons x r ih =>
    obtain ⟨a, b⟩ := x
    rw [List.lookup_cons] at hl
    by_cases hia : (i == a) = true
    · rw [hia] at hl
      cases hl
      rw [beq_iff_eq] at hia
      exact ⟨0, by rw [hia]; rfl⟩
    · rw [Bool.not_eq_true] at hia
      rw [hia] at hl
      obtain ⟨k, hk⟩ := ih hl
      exact ⟨k + 1, hk⟩
section AWR
variable {G : GG} {p : Program} {l : Launch} {e : Env} {R : Room} {s : State} {m : MethodId} {args : Array Value} {below : List Frame} {meth : Method} {c : Code} {nL : Nat} {A : Nat → Prop} {H0 : Heap} {Q : State → Prop} {w : WM} {cells slots pc : Nat} {lv lv' : List (Nat × Value)} {rest : List Value} {cc : ByteArray} {own : String}
theorem aw_iconst (X : Cx G p s m args meth c A H0 cc nL own) {n : Int} {v : Int32} (hdg : decode cc pc = .ok (.iconst n, 1)) (hv : Int32.ofInt n = v) (kk : AW G p l e R s m args below meth c nL A H0 Q w cells slots (pc + 1) lv (.int v :: rest)) : AW G p l e R s m args below meth c nL A H0 Q w cells slots pc lv rest := by
  intro H locs ls hP hA hS hl
  exact lv_iconst X.1 X.2.1 hdg hv (kk H locs ls hP hA hS hl)
theorem aw_bipush (X : Cx G p s m args meth c A H0 cc nL own) {n : Int} {v : Int32} (hdg : decode cc pc = .ok (.bipush n, 2)) (hv : (Int8.ofInt n).toInt32 = v) (kk : AW G p l e R s m args below meth c nL A H0 Q w cells slots (pc + 2) lv (.int v :: rest)) : AW G p l e R s m args below meth c nL A H0 Q w cells slots pc lv rest := by
  intro H locs ls hP hA hS hl
  exact lv_bipush X.1 X.2.1 hdg hv (kk H locs ls hP hA hS hl)
theorem aw_sipush (X : Cx G p s m args meth c A H0 cc nL own) {n : Int} {v : Int32} (hdg : decode cc pc = .ok (.sipush n, 3)) (hv : (Int16.ofInt n).toInt32 = v) (kk : AW G p l e R s m args below meth c nL A H0 Q w cells slots (pc + 3) lv (.int v :: rest)) : AW G p l e R s m args below meth c nL A H0 Q w cells slots pc lv rest := by
  intro H locs ls hP hA hS hl
  exact lv_sipush X.1 X.2.1 hdg hv (kk H locs ls hP hA hS hl)
theorem aw_lconst (X : Cx G p s m args meth c A H0 cc nL own) {n : Fin 2} {v : Int64} (hdg : decode cc pc = .ok (.lconst n, 1)) (hv : Int64.ofNat (n : Nat) = v) (kk : AW G p l e R s m args below meth c nL A H0 Q w cells slots (pc + 1) lv (.long v :: rest)) : AW G p l e R s m args below meth c nL A H0 Q w cells slots pc lv rest := by
  intro H locs ls hP hA hS hl
  exact lv_lconst X.1 X.2.1 hdg hv (kk H locs ls hP hA hS hl)
theorem aw_iload_n (X : Cx G p s m args meth c A H0 cc nL own) {k : Fin 4} {i : Nat} {x : Int32} (hdg : decode cc pc = .ok (.iload_n k, 1)) (hi : (k : Nat) = i) (hx : lv.lookup i = some (.int x)) (kk : AW G p l e R s m args below meth c nL A H0 Q w cells slots (pc + 1) lv (.int x :: rest)) : AW G p l e R s m args below meth c nL A H0 Q w cells slots pc lv rest := by
  intro H locs ls hP hA hS hl
  exact lv_iload_n X.1 X.2.1 hdg hi (lk_has hl hx) (kk H locs ls hP hA hS hl)
theorem aw_iload (X : Cx G p s m args meth c A H0 cc nL own) {i : Nat} {x : Int32} (hdg : decode cc pc = .ok (.iload i, 2)) (hx : lv.lookup i = some (.int x)) (kk : AW G p l e R s m args below meth c nL A H0 Q w cells slots (pc + 2) lv (.int x :: rest)) : AW G p l e R s m args below meth c nL A H0 Q w cells slots pc lv rest := by
  intro H locs ls hP hA hS hl
  exact lv_iload X.1 X.2.1 hdg (lk_has hl hx) (kk H locs ls hP hA hS hl)
theorem aw_lload_n (X : Cx G p s m args meth c A H0 cc nL own) {k : Fin 4} {i : Nat} {x : Int64} (hdg : decode cc pc = .ok (.lload_n k, 1)) (hi : (k : Nat) = i) (hx : lv.lookup i = some (.long x)) (kk : AW G p l e R s m args below meth c nL A H0 Q w cells slots (pc + 1) lv (.long x :: rest)) : AW G p l e R s m args below meth c nL A H0 Q w cells slots pc lv rest := by
  intro H locs ls hP hA hS hl
  exact lv_lload_n X.1 X.2.1 hdg hi (lk_has hl hx) (kk H locs ls hP hA hS hl)
theorem aw_lload (X : Cx G p s m args meth c A H0 cc nL own) {i : Nat} {x : Int64} (hdg : decode cc pc = .ok (.lload i, 2)) (hx : lv.lookup i = some (.long x)) (kk : AW G p l e R s m args below meth c nL A H0 Q w cells slots (pc + 2) lv (.long x :: rest)) : AW G p l e R s m args below meth c nL A H0 Q w cells slots pc lv rest := by
  intro H locs ls hP hA hS hl
  exact lv_lload X.1 X.2.1 hdg (lk_has hl hx) (kk H locs ls hP hA hS hl)
theorem aw_aload_n (X : Cx G p s m args meth c A H0 cc nL own) {k : Fin 4} {i : Nat} {x : Nat} (hdg : decode cc pc = .ok (.aload_n k, 1)) (hi : (k : Nat) = i) (hx : lv.lookup i = some (.ref x)) (kk : AW G p l e R s m args below meth c nL A H0 Q w cells slots (pc + 1) lv (.ref x :: rest)) : AW G p l e R s m args below meth c nL A H0 Q w cells slots pc lv rest := by
  intro H locs ls hP hA hS hl
  exact lv_aload_n X.1 X.2.1 hdg hi (lk_has hl hx) (kk H locs ls hP hA hS hl)
theorem aw_aload (X : Cx G p s m args meth c A H0 cc nL own) {i : Nat} {x : Nat} (hdg : decode cc pc = .ok (.aload i, 2)) (hx : lv.lookup i = some (.ref x)) (kk : AW G p l e R s m args below meth c nL A H0 Q w cells slots (pc + 2) lv (.ref x :: rest)) : AW G p l e R s m args below meth c nL A H0 Q w cells slots pc lv rest := by
  intro H locs ls hP hA hS hl
  exact lv_aload X.1 X.2.1 hdg (lk_has hl hx) (kk H locs ls hP hA hS hl)
theorem aw_aload_nN (X : Cx G p s m args meth c A H0 cc nL own) {k : Fin 4} {i : Nat} (hdg : decode cc pc = .ok (.aload_n k, 1)) (hi : (k : Nat) = i) (hx : lv.lookup i = some .null) (kk : AW G p l e R s m args below meth c nL A H0 Q w cells slots (pc + 1) lv (.null :: rest)) : AW G p l e R s m args below meth c nL A H0 Q w cells slots pc lv rest := by
  intro H locs ls hP hA hS hl
  exact lv_aload_nN X.1 X.2.1 hdg hi (lk_has hl hx) (kk H locs ls hP hA hS hl)
theorem aw_aloadN (X : Cx G p s m args meth c A H0 cc nL own) {i : Nat} (hdg : decode cc pc = .ok (.aload i, 2)) (hx : lv.lookup i = some .null) (kk : AW G p l e R s m args below meth c nL A H0 Q w cells slots (pc + 2) lv (.null :: rest)) : AW G p l e R s m args below meth c nL A H0 Q w cells slots pc lv rest := by
  intro H locs ls hP hA hS hl
  exact lv_aloadN X.1 X.2.1 hdg (lk_has hl hx) (kk H locs ls hP hA hS hl)
theorem aw_istore_n (X : Cx G p s m args meth c A H0 cc nL own) {k : Fin 4} {i : Nat} {x : Int32} (hdg : decode cc pc = .ok (.istore_n k, 1)) (hi : (k : Nat) = i) (hn : i < nL) (hl' : (i, Value.int x) :: lv.filter (fun q => !(q.1 == i) && !(q.1 + 1 == i && q.2.category == 2)) = lv') (kk : AW G p l e R s m args below meth c nL A H0 Q w cells slots (pc + 1) lv' rest) : AW G p l e R s m args below meth c nL A H0 Q w cells slots pc lv (.int x :: rest) := by
  intro H locs ls hP hA hS hl
  exact lv_istore_n X.1 X.2.1 hdg hi hl hn hl' (fun ls' h' => kk H locs ls' hP hA hS h')
theorem aw_istore (X : Cx G p s m args meth c A H0 cc nL own) {i : Nat} {x : Int32} (hdg : decode cc pc = .ok (.istore i, 2)) (hn : i < nL) (hl' : (i, Value.int x) :: lv.filter (fun q => !(q.1 == i) && !(q.1 + 1 == i && q.2.category == 2)) = lv') (kk : AW G p l e R s m args below meth c nL A H0 Q w cells slots (pc + 2) lv' rest) : AW G p l e R s m args below meth c nL A H0 Q w cells slots pc lv (.int x :: rest) := by
  intro H locs ls hP hA hS hl
  exact lv_istore X.1 X.2.1 hdg hl hn hl' (fun ls' h' => kk H locs ls' hP hA hS h')
theorem aw_lstore_n (X : Cx G p s m args meth c A H0 cc nL own) {k : Fin 4} {i : Nat} {x : Int64} (hdg : decode cc pc = .ok (.lstore_n k, 1)) (hi : (k : Nat) = i) (hn : i + 1 < nL) (hl' : (i, Value.long x) :: lv.filter (fun q => !(q.1 == i) && (!(q.1 == i + 1) && !(q.1 + 1 == i && q.2.category == 2))) = lv') (kk : AW G p l e R s m args below meth c nL A H0 Q w cells slots (pc + 1) lv' rest) : AW G p l e R s m args below meth c nL A H0 Q w cells slots pc lv (.long x :: rest) := by
  intro H locs ls hP hA hS hl
  exact lv_lstore_n X.1 X.2.1 hdg hi hl hn hl' (fun ls' h' => kk H locs ls' hP hA hS h')
theorem aw_lstore (X : Cx G p s m args meth c A H0 cc nL own) {i : Nat} {x : Int64} (hdg : decode cc pc = .ok (.lstore i, 2)) (hn : i + 1 < nL) (hl' : (i, Value.long x) :: lv.filter (fun q => !(q.1 == i) && (!(q.1 == i + 1) && !(q.1 + 1 == i && q.2.category == 2))) = lv') (kk : AW G p l e R s m args below meth c nL A H0 Q w cells slots (pc + 2) lv' rest) : AW G p l e R s m args below meth c nL A H0 Q w cells slots pc lv (.long x :: rest) := by
  intro H locs ls hP hA hS hl
  exact lv_lstore X.1 X.2.1 hdg hl hn hl' (fun ls' h' => kk H locs ls' hP hA hS h')
theorem aw_astore_n (X : Cx G p s m args meth c A H0 cc nL own) {k : Fin 4} {i : Nat} {x : Nat} (hdg : decode cc pc = .ok (.astore_n k, 1)) (hi : (k : Nat) = i) (hn : i < nL) (hl' : (i, Value.ref x) :: lv.filter (fun q => !(q.1 == i) && !(q.1 + 1 == i && q.2.category == 2)) = lv') (kk : AW G p l e R s m args below meth c nL A H0 Q w cells slots (pc + 1) lv' rest) : AW G p l e R s m args below meth c nL A H0 Q w cells slots pc lv (.ref x :: rest) := by
  intro H locs ls hP hA hS hl
  exact lv_astore_n X.1 X.2.1 hdg hi hl hn hl' (fun ls' h' => kk H locs ls' hP hA hS h')
theorem aw_astore (X : Cx G p s m args meth c A H0 cc nL own) {i : Nat} {x : Nat} (hdg : decode cc pc = .ok (.astore i, 2)) (hn : i < nL) (hl' : (i, Value.ref x) :: lv.filter (fun q => !(q.1 == i) && !(q.1 + 1 == i && q.2.category == 2)) = lv') (kk : AW G p l e R s m args below meth c nL A H0 Q w cells slots (pc + 2) lv' rest) : AW G p l e R s m args below meth c nL A H0 Q w cells slots pc lv (.ref x :: rest) := by
  intro H locs ls hP hA hS hl
  exact lv_astore X.1 X.2.1 hdg hl hn hl' (fun ls' h' => kk H locs ls' hP hA hS h')
theorem aw_astore_nN (X : Cx G p s m args meth c A H0 cc nL own) {k : Fin 4} {i : Nat} (hdg : decode cc pc = .ok (.astore_n k, 1)) (hi : (k : Nat) = i) (hn : i < nL) (hl' : (i, Value.null) :: lv.filter (fun q => !(q.1 == i) && !(q.1 + 1 == i && q.2.category == 2)) = lv') (kk : AW G p l e R s m args below meth c nL A H0 Q w cells slots (pc + 1) lv' rest) : AW G p l e R s m args below meth c nL A H0 Q w cells slots pc lv (.null :: rest) := by
  intro H locs ls hP hA hS hl
  exact lv_astore_nN X.1 X.2.1 hdg hi hl hn hl' (fun ls' h' => kk H locs ls' hP hA hS h')
theorem aw_astoreN (X : Cx G p s m args meth c A H0 cc nL own) {i : Nat} (hdg : decode cc pc = .ok (.astore i, 2)) (hn : i < nL) (hl' : (i, Value.null) :: lv.filter (fun q => !(q.1 == i) && !(q.1 + 1 == i && q.2.category == 2)) = lv') (kk : AW G p l e R s m args below meth c nL A H0 Q w cells slots (pc + 2) lv' rest) : AW G p l e R s m args below meth c nL A H0 Q w cells slots pc lv (.null :: rest) := by
  intro H locs ls hP hA hS hl
  exact lv_astoreN X.1 X.2.1 hdg hl hn hl' (fun ls' h' => kk H locs ls' hP hA hS h')
theorem aw_iinc (X : Cx G p s m args meth c A H0 cc nL own) {i : Nat} {n : Int} {x v : Int32} (hdg : decode cc pc = .ok (.iinc i n, 3)) (hx : lv.lookup i = some (.int x)) (hv : x + Int32.ofInt n = v) (hn : i < nL) (hl' : (i, Value.int v) :: lv.filter (fun q => !(q.1 == i) && !(q.1 + 1 == i && q.2.category == 2)) = lv') (kk : AW G p l e R s m args below meth c nL A H0 Q w cells slots (pc + 3) lv' rest) : AW G p l e R s m args below meth c nL A H0 Q w cells slots pc lv rest := by
  intro H locs ls hP hA hS hl
  obtain ⟨k, hk⟩ := lk_pos hx
  exact lv_iinc X.1 X.2.1 hdg hl hk hv hn hl' (fun ls' h' => kk H locs ls' hP hA hS h')
theorem aw_iadd (X : Cx G p s m args meth c A H0 cc nL own) {x y : Int32} (hdg : decode cc pc = .ok (.iadd, 1)) (kk : AW G p l e R s m args below meth c nL A H0 Q w cells slots (pc + 1) lv (.int (x + y) :: rest)) : AW G p l e R s m args below meth c nL A H0 Q w cells slots pc lv (.int y :: .int x :: rest) := by
  intro H locs ls hP hA hS hl
  exact lv_iadd X.1 X.2.1 hdg (kk H locs ls hP hA hS hl)
theorem aw_isub (X : Cx G p s m args meth c A H0 cc nL own) {x y : Int32} (hdg : decode cc pc = .ok (.isub, 1)) (kk : AW G p l e R s m args below meth c nL A H0 Q w cells slots (pc + 1) lv (.int (x - y) :: rest)) : AW G p l e R s m args below meth c nL A H0 Q w cells slots pc lv (.int y :: .int x :: rest) := by
  intro H locs ls hP hA hS hl
  exact lv_isub X.1 X.2.1 hdg (kk H locs ls hP hA hS hl)
theorem aw_imul (X : Cx G p s m args meth c A H0 cc nL own) {x y : Int32} (hdg : decode cc pc = .ok (.imul, 1)) (kk : AW G p l e R s m args below meth c nL A H0 Q w cells slots (pc + 1) lv (.int (x * y) :: rest)) : AW G p l e R s m args below meth c nL A H0 Q w cells slots pc lv (.int y :: .int x :: rest) := by
  intro H locs ls hP hA hS hl
  exact lv_imul X.1 X.2.1 hdg (kk H locs ls hP hA hS hl)
theorem aw_iand (X : Cx G p s m args meth c A H0 cc nL own) {x y : Int32} (hdg : decode cc pc = .ok (.iand, 1)) (kk : AW G p l e R s m args below meth c nL A H0 Q w cells slots (pc + 1) lv (.int (x &&& y) :: rest)) : AW G p l e R s m args below meth c nL A H0 Q w cells slots pc lv (.int y :: .int x :: rest) := by
  intro H locs ls hP hA hS hl
  exact lv_iand X.1 X.2.1 hdg (kk H locs ls hP hA hS hl)
theorem aw_ior (X : Cx G p s m args meth c A H0 cc nL own) {x y : Int32} (hdg : decode cc pc = .ok (.ior, 1)) (kk : AW G p l e R s m args below meth c nL A H0 Q w cells slots (pc + 1) lv (.int (x ||| y) :: rest)) : AW G p l e R s m args below meth c nL A H0 Q w cells slots pc lv (.int y :: .int x :: rest) := by
  intro H locs ls hP hA hS hl
  exact lv_ior X.1 X.2.1 hdg (kk H locs ls hP hA hS hl)
theorem aw_ixor (X : Cx G p s m args meth c A H0 cc nL own) {x y : Int32} (hdg : decode cc pc = .ok (.ixor, 1)) (kk : AW G p l e R s m args below meth c nL A H0 Q w cells slots (pc + 1) lv (.int (x ^^^ y) :: rest)) : AW G p l e R s m args below meth c nL A H0 Q w cells slots pc lv (.int y :: .int x :: rest) := by
  intro H locs ls hP hA hS hl
  exact lv_ixor X.1 X.2.1 hdg (kk H locs ls hP hA hS hl)
theorem aw_ishl (X : Cx G p s m args meth c A H0 cc nL own) {x y : Int32} (hdg : decode cc pc = .ok (.ishl, 1)) (kk : AW G p l e R s m args below meth c nL A H0 Q w cells slots (pc + 1) lv (.int (x <<< (y &&& 31)) :: rest)) : AW G p l e R s m args below meth c nL A H0 Q w cells slots pc lv (.int y :: .int x :: rest) := by
  intro H locs ls hP hA hS hl
  exact lv_ishl X.1 X.2.1 hdg (kk H locs ls hP hA hS hl)
theorem aw_ishr (X : Cx G p s m args meth c A H0 cc nL own) {x y : Int32} (hdg : decode cc pc = .ok (.ishr, 1)) (kk : AW G p l e R s m args below meth c nL A H0 Q w cells slots (pc + 1) lv (.int (x >>> (y &&& 31)) :: rest)) : AW G p l e R s m args below meth c nL A H0 Q w cells slots pc lv (.int y :: .int x :: rest) := by
  intro H locs ls hP hA hS hl
  exact lv_ishr X.1 X.2.1 hdg (kk H locs ls hP hA hS hl)
theorem aw_ladd (X : Cx G p s m args meth c A H0 cc nL own) {x y : Int64} (hdg : decode cc pc = .ok (.ladd, 1)) (kk : AW G p l e R s m args below meth c nL A H0 Q w cells slots (pc + 1) lv (.long (x + y) :: rest)) : AW G p l e R s m args below meth c nL A H0 Q w cells slots pc lv (.long y :: .long x :: rest) := by
  intro H locs ls hP hA hS hl
  exact lv_ladd X.1 X.2.1 hdg (kk H locs ls hP hA hS hl)
theorem aw_lsub (X : Cx G p s m args meth c A H0 cc nL own) {x y : Int64} (hdg : decode cc pc = .ok (.lsub, 1)) (kk : AW G p l e R s m args below meth c nL A H0 Q w cells slots (pc + 1) lv (.long (x - y) :: rest)) : AW G p l e R s m args below meth c nL A H0 Q w cells slots pc lv (.long y :: .long x :: rest) := by
  intro H locs ls hP hA hS hl
  exact lv_lsub X.1 X.2.1 hdg (kk H locs ls hP hA hS hl)
theorem aw_lmul (X : Cx G p s m args meth c A H0 cc nL own) {x y : Int64} (hdg : decode cc pc = .ok (.lmul, 1)) (kk : AW G p l e R s m args below meth c nL A H0 Q w cells slots (pc + 1) lv (.long (x * y) :: rest)) : AW G p l e R s m args below meth c nL A H0 Q w cells slots pc lv (.long y :: .long x :: rest) := by
  intro H locs ls hP hA hS hl
  exact lv_lmul X.1 X.2.1 hdg (kk H locs ls hP hA hS hl)
theorem aw_land (X : Cx G p s m args meth c A H0 cc nL own) {x y : Int64} (hdg : decode cc pc = .ok (.land, 1)) (kk : AW G p l e R s m args below meth c nL A H0 Q w cells slots (pc + 1) lv (.long (x &&& y) :: rest)) : AW G p l e R s m args below meth c nL A H0 Q w cells slots pc lv (.long y :: .long x :: rest) := by
  intro H locs ls hP hA hS hl
  exact lv_land X.1 X.2.1 hdg (kk H locs ls hP hA hS hl)
theorem aw_lor (X : Cx G p s m args meth c A H0 cc nL own) {x y : Int64} (hdg : decode cc pc = .ok (.lor, 1)) (kk : AW G p l e R s m args below meth c nL A H0 Q w cells slots (pc + 1) lv (.long (x ||| y) :: rest)) : AW G p l e R s m args below meth c nL A H0 Q w cells slots pc lv (.long y :: .long x :: rest) := by
  intro H locs ls hP hA hS hl
  exact lv_lor X.1 X.2.1 hdg (kk H locs ls hP hA hS hl)
theorem aw_idiv (X : Cx G p s m args meth c A H0 cc nL own) {x y : Int32} (hdg : decode cc pc = .ok (.idiv, 1)) (hne : ¬ y = 0) (kk : AW G p l e R s m args below meth c nL A H0 Q w cells slots (pc + 1) lv (.int (x / y) :: rest)) : AW G p l e R s m args below meth c nL A H0 Q w cells slots pc lv (.int y :: .int x :: rest) := by
  intro H locs ls hP hA hS hl
  exact lv_idiv X.1 X.2.1 hdg hne (kk H locs ls hP hA hS hl)
theorem aw_irem (X : Cx G p s m args meth c A H0 cc nL own) {x y : Int32} (hdg : decode cc pc = .ok (.irem, 1)) (hne : ¬ y = 0) (kk : AW G p l e R s m args below meth c nL A H0 Q w cells slots (pc + 1) lv (.int (x - x / y * y) :: rest)) : AW G p l e R s m args below meth c nL A H0 Q w cells slots pc lv (.int y :: .int x :: rest) := by
  intro H locs ls hP hA hS hl
  exact lv_irem X.1 X.2.1 hdg hne (kk H locs ls hP hA hS hl)
theorem aw_ldiv (X : Cx G p s m args meth c A H0 cc nL own) {x y : Int64} (hdg : decode cc pc = .ok (.ldiv, 1)) (hne : ¬ y = 0) (kk : AW G p l e R s m args below meth c nL A H0 Q w cells slots (pc + 1) lv (.long (x / y) :: rest)) : AW G p l e R s m args below meth c nL A H0 Q w cells slots pc lv (.long y :: .long x :: rest) := by
  intro H locs ls hP hA hS hl
  exact lv_ldiv X.1 X.2.1 hdg hne (kk H locs ls hP hA hS hl)
theorem aw_lrem (X : Cx G p s m args meth c A H0 cc nL own) {x y : Int64} (hdg : decode cc pc = .ok (.lrem, 1)) (hne : ¬ y = 0) (kk : AW G p l e R s m args below meth c nL A H0 Q w cells slots (pc + 1) lv (.long (x - x / y * y) :: rest)) : AW G p l e R s m args below meth c nL A H0 Q w cells slots pc lv (.long y :: .long x :: rest) := by
  intro H locs ls hP hA hS hl
  exact lv_lrem X.1 X.2.1 hdg hne (kk H locs ls hP hA hS hl)
theorem aw_i2l (X : Cx G p s m args meth c A H0 cc nL own) {x : Int32} (hdg : decode cc pc = .ok (.i2l, 1)) (kk : AW G p l e R s m args below meth c nL A H0 Q w cells slots (pc + 1) lv (.long (x.toInt64) :: rest)) : AW G p l e R s m args below meth c nL A H0 Q w cells slots pc lv (.int x :: rest) := by
  intro H locs ls hP hA hS hl
  exact lv_i2l X.1 X.2.1 hdg rfl (kk H locs ls hP hA hS hl)
theorem aw_l2i (X : Cx G p s m args meth c A H0 cc nL own) {x : Int64} (hdg : decode cc pc = .ok (.l2i, 1)) (kk : AW G p l e R s m args below meth c nL A H0 Q w cells slots (pc + 1) lv (.int (x.toInt32) :: rest)) : AW G p l e R s m args below meth c nL A H0 Q w cells slots pc lv (.long x :: rest) := by
  intro H locs ls hP hA hS hl
  exact lv_l2i X.1 X.2.1 hdg rfl (kk H locs ls hP hA hS hl)
theorem aw_i2b (X : Cx G p s m args meth c A H0 cc nL own) {x : Int32} (hdg : decode cc pc = .ok (.i2b, 1)) (kk : AW G p l e R s m args below meth c nL A H0 Q w cells slots (pc + 1) lv (.int (x.toInt8.toInt32) :: rest)) : AW G p l e R s m args below meth c nL A H0 Q w cells slots pc lv (.int x :: rest) := by
  intro H locs ls hP hA hS hl
  exact lv_i2b X.1 X.2.1 hdg rfl (kk H locs ls hP hA hS hl)
theorem aw_i2c (X : Cx G p s m args meth c A H0 cc nL own) {x : Int32} (hdg : decode cc pc = .ok (.i2c, 1)) (kk : AW G p l e R s m args below meth c nL A H0 Q w cells slots (pc + 1) lv (.int ((x.toUInt32 % 65536).toInt32) :: rest)) : AW G p l e R s m args below meth c nL A H0 Q w cells slots pc lv (.int x :: rest) := by
  intro H locs ls hP hA hS hl
  exact lv_i2c X.1 X.2.1 hdg rfl (kk H locs ls hP hA hS hl)
theorem aw_iushr (X : Cx G p s m args meth c A H0 cc nL own) {x y : Int32} (hdg : decode cc pc = .ok (.iushr, 1)) (kk : AW G p l e R s m args below meth c nL A H0 Q w cells slots (pc + 1) lv (.int ((x.toUInt32 >>> (y.toUInt32 &&& Int32.toUInt32 31)).toInt32) :: rest)) : AW G p l e R s m args below meth c nL A H0 Q w cells slots pc lv (.int y :: .int x :: rest) := by
  intro H locs ls hP hA hS hl
  exact lv_iushr X.1 X.2.1 hdg rfl (kk H locs ls hP hA hS hl)
theorem aw_lshl (X : Cx G p s m args meth c A H0 cc nL own) {x : Int64} {y : Int32} (hdg : decode cc pc = .ok (.lshl, 1)) (kk : AW G p l e R s m args below meth c nL A H0 Q w cells slots (pc + 1) lv (.long (x <<< (y.toInt64 &&& 63)) :: rest)) : AW G p l e R s m args below meth c nL A H0 Q w cells slots pc lv (.int y :: .long x :: rest) := by
  intro H locs ls hP hA hS hl
  exact lv_lshl X.1 X.2.1 hdg rfl (kk H locs ls hP hA hS hl)
theorem aw_lcmp (X : Cx G p s m args meth c A H0 cc nL own) {x y : Int64} (hdg : decode cc pc = .ok (.lcmp, 1)) (kk : AW G p l e R s m args below meth c nL A H0 Q w cells slots (pc + 1) lv (.int (lg_cmp x y) :: rest)) : AW G p l e R s m args below meth c nL A H0 Q w cells slots pc lv (.long y :: .long x :: rest) := by
  intro H locs ls hP hA hS hl
  exact W.lcmp X.1 X.2.1 hdg (kk H locs ls hP hA hS hl)
theorem aw_dup (X : Cx G p s m args meth c A H0 cc nL own) {va : Value} (hdg : decode cc pc = .ok (.dup, 1)) (hva : va.category = 1) (kk : AW G p l e R s m args below meth c nL A H0 Q w cells slots (pc + 1) lv (va :: va :: rest)) : AW G p l e R s m args below meth c nL A H0 Q w cells slots pc lv (va :: rest) := by
  intro H locs ls hP hA hS hl
  exact lv_dup X.1 X.2.1 hdg hva (kk H locs ls hP hA hS hl)
theorem aw_pop (X : Cx G p s m args meth c A H0 cc nL own) {va : Value} (hdg : decode cc pc = .ok (.pop, 1)) (hva : va.category = 1) (kk : AW G p l e R s m args below meth c nL A H0 Q w cells slots (pc + 1) lv (rest)) : AW G p l e R s m args below meth c nL A H0 Q w cells slots pc lv (va :: rest) := by
  intro H locs ls hP hA hS hl
  exact lv_pop X.1 X.2.1 hdg hva (kk H locs ls hP hA hS hl)
theorem aw_dup_x1 (X : Cx G p s m args meth c A H0 cc nL own) {va vb : Value} (hdg : decode cc pc = .ok (.dup_x1, 1)) (hva : va.category = 1) (hvb : vb.category = 1) (kk : AW G p l e R s m args below meth c nL A H0 Q w cells slots (pc + 1) lv (va :: vb :: va :: rest)) : AW G p l e R s m args below meth c nL A H0 Q w cells slots pc lv (va :: vb :: rest) := by
  intro H locs ls hP hA hS hl
  exact lv_dup_x1 X.1 X.2.1 hdg hva hvb (kk H locs ls hP hA hS hl)
theorem aw_dup2_11 (X : Cx G p s m args meth c A H0 cc nL own) {va vb : Value} (hdg : decode cc pc = .ok (.dup2, 1)) (hva : va.category = 1) (hvb : vb.category = 1) (kk : AW G p l e R s m args below meth c nL A H0 Q w cells slots (pc + 1) lv (va :: vb :: va :: vb :: rest)) : AW G p l e R s m args below meth c nL A H0 Q w cells slots pc lv (va :: vb :: rest) := by
  intro H locs ls hP hA hS hl
  exact lv_dup2_11 X.1 X.2.1 hdg hva hvb (kk H locs ls hP hA hS hl)
theorem aw_if_eq (X : Cx G p s m args meth c A H0 cc nL own) {x : Int32} {off : Int} {tgt : Nat} (hdg : decode cc pc = .ok (.ifCond .eq off, 3)) (ht : (pc : Int) + off = (tgt : Int)) (kt : x = 0 → AW G p l e R s m args below meth c nL A H0 Q w cells slots tgt lv rest) (kf : ¬ x = 0 → AW G p l e R s m args below meth c nL A H0 Q w cells slots (pc + 3) lv rest) : AW G p l e R s m args below meth c nL A H0 Q w cells slots pc lv (.int x :: rest) := by
  intro H locs ls hP hA hS hl
  exact lv_if_eq X.1 X.2.1 hdg ht (fun h => kt h H locs ls hP hA hS hl) (fun h => kf h H locs ls hP hA hS hl)
theorem aw_if_ne (X : Cx G p s m args meth c A H0 cc nL own) {x : Int32} {off : Int} {tgt : Nat} (hdg : decode cc pc = .ok (.ifCond .ne off, 3)) (ht : (pc : Int) + off = (tgt : Int)) (kt : ¬ x = 0 → AW G p l e R s m args below meth c nL A H0 Q w cells slots tgt lv rest) (kf : x = 0 → AW G p l e R s m args below meth c nL A H0 Q w cells slots (pc + 3) lv rest) : AW G p l e R s m args below meth c nL A H0 Q w cells slots pc lv (.int x :: rest) := by
  intro H locs ls hP hA hS hl
  exact lv_if_ne X.1 X.2.1 hdg ht (fun h => kt h H locs ls hP hA hS hl) (fun h => kf h H locs ls hP hA hS hl)
theorem aw_if_lt (X : Cx G p s m args meth c A H0 cc nL own) {x : Int32} {off : Int} {tgt : Nat} (hdg : decode cc pc = .ok (.ifCond .lt off, 3)) (ht : (pc : Int) + off = (tgt : Int)) (kt : x < 0 → AW G p l e R s m args below meth c nL A H0 Q w cells slots tgt lv rest) (kf : ¬ x < 0 → AW G p l e R s m args below meth c nL A H0 Q w cells slots (pc + 3) lv rest) : AW G p l e R s m args below meth c nL A H0 Q w cells slots pc lv (.int x :: rest) := by
  intro H locs ls hP hA hS hl
  exact lv_if_lt X.1 X.2.1 hdg ht (fun h => kt h H locs ls hP hA hS hl) (fun h => kf h H locs ls hP hA hS hl)
theorem aw_if_ge (X : Cx G p s m args meth c A H0 cc nL own) {x : Int32} {off : Int} {tgt : Nat} (hdg : decode cc pc = .ok (.ifCond .ge off, 3)) (ht : (pc : Int) + off = (tgt : Int)) (kt : 0 ≤ x → AW G p l e R s m args below meth c nL A H0 Q w cells slots tgt lv rest) (kf : ¬ 0 ≤ x → AW G p l e R s m args below meth c nL A H0 Q w cells slots (pc + 3) lv rest) : AW G p l e R s m args below meth c nL A H0 Q w cells slots pc lv (.int x :: rest) := by
  intro H locs ls hP hA hS hl
  exact lv_if_ge X.1 X.2.1 hdg ht (fun h => kt h H locs ls hP hA hS hl) (fun h => kf h H locs ls hP hA hS hl)
theorem aw_if_gt (X : Cx G p s m args meth c A H0 cc nL own) {x : Int32} {off : Int} {tgt : Nat} (hdg : decode cc pc = .ok (.ifCond .gt off, 3)) (ht : (pc : Int) + off = (tgt : Int)) (kt : 0 < x → AW G p l e R s m args below meth c nL A H0 Q w cells slots tgt lv rest) (kf : ¬ 0 < x → AW G p l e R s m args below meth c nL A H0 Q w cells slots (pc + 3) lv rest) : AW G p l e R s m args below meth c nL A H0 Q w cells slots pc lv (.int x :: rest) := by
  intro H locs ls hP hA hS hl
  exact lv_if_gt X.1 X.2.1 hdg ht (fun h => kt h H locs ls hP hA hS hl) (fun h => kf h H locs ls hP hA hS hl)
theorem aw_if_le (X : Cx G p s m args meth c A H0 cc nL own) {x : Int32} {off : Int} {tgt : Nat} (hdg : decode cc pc = .ok (.ifCond .le off, 3)) (ht : (pc : Int) + off = (tgt : Int)) (kt : x ≤ 0 → AW G p l e R s m args below meth c nL A H0 Q w cells slots tgt lv rest) (kf : ¬ x ≤ 0 → AW G p l e R s m args below meth c nL A H0 Q w cells slots (pc + 3) lv rest) : AW G p l e R s m args below meth c nL A H0 Q w cells slots pc lv (.int x :: rest) := by
  intro H locs ls hP hA hS hl
  exact lv_if_le X.1 X.2.1 hdg ht (fun h => kt h H locs ls hP hA hS hl) (fun h => kf h H locs ls hP hA hS hl)
theorem aw_icmp_eq (X : Cx G p s m args meth c A H0 cc nL own) {x y : Int32} {off : Int} {tgt : Nat} (hdg : decode cc pc = .ok (.if_icmp .eq off, 3)) (ht : (pc : Int) + off = (tgt : Int)) (kt : x = y → AW G p l e R s m args below meth c nL A H0 Q w cells slots tgt lv rest) (kf : ¬ x = y → AW G p l e R s m args below meth c nL A H0 Q w cells slots (pc + 3) lv rest) : AW G p l e R s m args below meth c nL A H0 Q w cells slots pc lv (.int y :: .int x :: rest) := by
  intro H locs ls hP hA hS hl
  exact lv_icmp_eq X.1 X.2.1 hdg ht (fun h => kt h H locs ls hP hA hS hl) (fun h => kf h H locs ls hP hA hS hl)
theorem aw_icmp_ne (X : Cx G p s m args meth c A H0 cc nL own) {x y : Int32} {off : Int} {tgt : Nat} (hdg : decode cc pc = .ok (.if_icmp .ne off, 3)) (ht : (pc : Int) + off = (tgt : Int)) (kt : ¬ x = y → AW G p l e R s m args below meth c nL A H0 Q w cells slots tgt lv rest) (kf : x = y → AW G p l e R s m args below meth c nL A H0 Q w cells slots (pc + 3) lv rest) : AW G p l e R s m args below meth c nL A H0 Q w cells slots pc lv (.int y :: .int x :: rest) := by
  intro H locs ls hP hA hS hl
  exact lv_icmp_ne X.1 X.2.1 hdg ht (fun h => kt h H locs ls hP hA hS hl) (fun h => kf h H locs ls hP hA hS hl)
theorem aw_icmp_lt (X : Cx G p s m args meth c A H0 cc nL own) {x y : Int32} {off : Int} {tgt : Nat} (hdg : decode cc pc = .ok (.if_icmp .lt off, 3)) (ht : (pc : Int) + off = (tgt : Int)) (kt : x < y → AW G p l e R s m args below meth c nL A H0 Q w cells slots tgt lv rest) (kf : ¬ x < y → AW G p l e R s m args below meth c nL A H0 Q w cells slots (pc + 3) lv rest) : AW G p l e R s m args below meth c nL A H0 Q w cells slots pc lv (.int y :: .int x :: rest) := by
  intro H locs ls hP hA hS hl
  exact lv_icmp_lt X.1 X.2.1 hdg ht (fun h => kt h H locs ls hP hA hS hl) (fun h => kf h H locs ls hP hA hS hl)
theorem aw_icmp_ge (X : Cx G p s m args meth c A H0 cc nL own) {x y : Int32} {off : Int} {tgt : Nat} (hdg : decode cc pc = .ok (.if_icmp .ge off, 3)) (ht : (pc : Int) + off = (tgt : Int)) (kt : y ≤ x → AW G p l e R s m args below meth c nL A H0 Q w cells slots tgt lv rest) (kf : ¬ y ≤ x → AW G p l e R s m args below meth c nL A H0 Q w cells slots (pc + 3) lv rest) : AW G p l e R s m args below meth c nL A H0 Q w cells slots pc lv (.int y :: .int x :: rest) := by
  intro H locs ls hP hA hS hl
  exact lv_icmp_ge X.1 X.2.1 hdg ht (fun h => kt h H locs ls hP hA hS hl) (fun h => kf h H locs ls hP hA hS hl)
theorem aw_icmp_gt (X : Cx G p s m args meth c A H0 cc nL own) {x y : Int32} {off : Int} {tgt : Nat} (hdg : decode cc pc = .ok (.if_icmp .gt off, 3)) (ht : (pc : Int) + off = (tgt : Int)) (kt : y < x → AW G p l e R s m args below meth c nL A H0 Q w cells slots tgt lv rest) (kf : ¬ y < x → AW G p l e R s m args below meth c nL A H0 Q w cells slots (pc + 3) lv rest) : AW G p l e R s m args below meth c nL A H0 Q w cells slots pc lv (.int y :: .int x :: rest) := by
  intro H locs ls hP hA hS hl
  exact lv_icmp_gt X.1 X.2.1 hdg ht (fun h => kt h H locs ls hP hA hS hl) (fun h => kf h H locs ls hP hA hS hl)
theorem aw_icmp_le (X : Cx G p s m args meth c A H0 cc nL own) {x y : Int32} {off : Int} {tgt : Nat} (hdg : decode cc pc = .ok (.if_icmp .le off, 3)) (ht : (pc : Int) + off = (tgt : Int)) (kt : x ≤ y → AW G p l e R s m args below meth c nL A H0 Q w cells slots tgt lv rest) (kf : ¬ x ≤ y → AW G p l e R s m args below meth c nL A H0 Q w cells slots (pc + 3) lv rest) : AW G p l e R s m args below meth c nL A H0 Q w cells slots pc lv (.int y :: .int x :: rest) := by
  intro H locs ls hP hA hS hl
  exact lv_icmp_le X.1 X.2.1 hdg ht (fun h => kt h H locs ls hP hA hS hl) (fun h => kf h H locs ls hP hA hS hl)
theorem aw_acmp_eq (X : Cx G p s m args meth c A H0 cc nL own) {rx ry : Option Nat} {off : Int} {tgt : Nat} (hdg : decode cc pc = .ok (.if_acmp .eq off, 3)) (ht : (pc : Int) + off = (tgt : Int)) (kt : rx = ry → AW G p l e R s m args below meth c nL A H0 Q w cells slots tgt lv rest) (kf : ¬ rx = ry → AW G p l e R s m args below meth c nL A H0 Q w cells slots (pc + 3) lv rest) : AW G p l e R s m args below meth c nL A H0 Q w cells slots pc lv (va_rf ry :: va_rf rx :: rest) := by
  intro H locs ls hP hA hS hl
  exact lv_acmp_eq X.1 X.2.1 hdg ht (fun h => kt h H locs ls hP hA hS hl) (fun h => kf h H locs ls hP hA hS hl)
theorem aw_acmp_ne (X : Cx G p s m args meth c A H0 cc nL own) {rx ry : Option Nat} {off : Int} {tgt : Nat} (hdg : decode cc pc = .ok (.if_acmp .ne off, 3)) (ht : (pc : Int) + off = (tgt : Int)) (kt : ¬ rx = ry → AW G p l e R s m args below meth c nL A H0 Q w cells slots tgt lv rest) (kf : rx = ry → AW G p l e R s m args below meth c nL A H0 Q w cells slots (pc + 3) lv rest) : AW G p l e R s m args below meth c nL A H0 Q w cells slots pc lv (va_rf ry :: va_rf rx :: rest) := by
  intro H locs ls hP hA hS hl
  exact lv_acmp_ne X.1 X.2.1 hdg ht (fun h => kt h H locs ls hP hA hS hl) (fun h => kf h H locs ls hP hA hS hl)
theorem aw_goto (X : Cx G p s m args meth c A H0 cc nL own) {off : Int} {tgt : Nat} (hdg : decode cc pc = .ok (.goto off, 3)) (ht : (pc : Int) + off = (tgt : Int)) (kk : AW G p l e R s m args below meth c nL A H0 Q w cells slots tgt lv rest) : AW G p l e R s m args below meth c nL A H0 Q w cells slots pc lv rest := by
  intro H locs ls hP hA hS hl
  exact lv_goto X.1 X.2.1 hdg ht (kk H locs ls hP hA hS hl)
theorem aw_ldc (X : Cx G p s m args meth c A H0 cc nL own) {index : Nat} {v : Int32} (hc : Jvm.Cond.constant own index v ∈ lw_g) (hdg : decode cc pc = .ok (.ldc index, 2)) (kk : AW G p l e R s m args below meth c nL A H0 Q w cells slots (pc + 2) lv (.int v :: rest)) : AW G p l e R s m args below meth c nL A H0 Q w cells slots pc lv rest := by
  intro H locs ls hP hA hS hl
  exact lv_ldc X.1 X.2.1 X.2.2.2.1 (X.2.2.2.2.1 _ hc) hdg (kk H locs ls hP hA hS hl)
theorem aw_ldcw (X : Cx G p s m args meth c A H0 cc nL own) {index : Nat} {v : Int32} (hc : Jvm.Cond.constant own index v ∈ lw_g) (hdg : decode cc pc = .ok (.ldc_w index, 3)) (kk : AW G p l e R s m args below meth c nL A H0 Q w cells slots (pc + 3) lv (.int v :: rest)) : AW G p l e R s m args below meth c nL A H0 Q w cells slots pc lv rest := by
  intro H locs ls hP hA hS hl
  exact lv_ldcw X.1 X.2.1 X.2.2.2.1 (X.2.2.2.2.1 _ hc) hdg (kk H locs ls hP hA hS hl)
theorem aw_ldc2 (X : Cx G p s m args meth c A H0 cc nL own) {index : Nat} {v : Int64} (hc : Jvm.Cond.constantLong own index v ∈ lw_g) (hdg : decode cc pc = .ok (.ldc2_w index, 3)) (kk : AW G p l e R s m args below meth c nL A H0 Q w cells slots (pc + 3) lv (.long v :: rest)) : AW G p l e R s m args below meth c nL A H0 Q w cells slots pc lv rest := by
  intro H locs ls hP hA hS hl
  exact lv_ldc2 X.1 X.2.1 X.2.2.2.1 (X.2.2.2.2.1 _ hc) hdg (kk H locs ls hP hA hS hl)
theorem aw_tableIn (X : Cx G p s m args meth c A H0 cc nL own) {dflt lo hi : Int} {offs : Array Int} {len : Nat} {x : Int32} {off : Int} {tgt : Nat} (hdg : decode cc pc = .ok (.tableswitch dflt lo hi offs, len)) (h1 : ¬ x.toInt < lo) (h2 : ¬ hi < x.toInt) (ho : offs[(x.toInt - lo).toNat]? = some off) (ht : (pc : Int) + off = (tgt : Int)) (kk : AW G p l e R s m args below meth c nL A H0 Q w cells slots tgt lv rest) : AW G p l e R s m args below meth c nL A H0 Q w cells slots pc lv (.int x :: rest) := by
  intro H locs ls hP hA hS hl
  exact lv_tableIn X.1 X.2.1 hdg h1 h2 ho ht (kk H locs ls hP hA hS hl)
theorem aw_tableOut (X : Cx G p s m args meth c A H0 cc nL own) {dflt lo hi : Int} {offs : Array Int} {len : Nat} {x : Int32} {tgt : Nat} (hdg : decode cc pc = .ok (.tableswitch dflt lo hi offs, len)) (h : x.toInt < lo ∨ hi < x.toInt) (ht : (pc : Int) + dflt = (tgt : Int)) (kk : AW G p l e R s m args below meth c nL A H0 Q w cells slots tgt lv rest) : AW G p l e R s m args below meth c nL A H0 Q w cells slots pc lv (.int x :: rest) := by
  intro H locs ls hP hA hS hl
  exact lv_tableOut X.1 X.2.1 hdg h ht (kk H locs ls hP hA hS hl)
theorem aw_ifnonnull (X : Cx G p s m args meth c A H0 cc nL own) {x : Nat} {off : Int} {tgt : Nat} (hdg : decode cc pc = .ok (.ifnonnull off, 3)) (ht : (pc : Int) + off = (tgt : Int)) (kk : AW G p l e R s m args below meth c nL A H0 Q w cells slots tgt lv rest) : AW G p l e R s m args below meth c nL A H0 Q w cells slots pc lv (.ref x :: rest) := by
  intro H locs ls hP hA hS hl
  exact lv_ifnonnull X.1 X.2.1 hdg ht (kk H locs ls hP hA hS hl)
theorem aw_ifnonnullN (X : Cx G p s m args meth c A H0 cc nL own) {off : Int} (hdg : decode cc pc = .ok (.ifnonnull off, 3)) (kk : AW G p l e R s m args below meth c nL A H0 Q w cells slots (pc + 3) lv rest) : AW G p l e R s m args below meth c nL A H0 Q w cells slots pc lv (.null :: rest) := by
  intro H locs ls hP hA hS hl
  exact lv_ifnonnullN X.1 X.2.1 hdg (kk H locs ls hP hA hS hl)
theorem aw_ifnull (X : Cx G p s m args meth c A H0 cc nL own) {x : Nat} {off : Int} (hdg : decode cc pc = .ok (.ifnull off, 3)) (kk : AW G p l e R s m args below meth c nL A H0 Q w cells slots (pc + 3) lv rest) : AW G p l e R s m args below meth c nL A H0 Q w cells slots pc lv (.ref x :: rest) := by
  intro H locs ls hP hA hS hl
  exact lv_ifnull X.1 X.2.1 hdg (kk H locs ls hP hA hS hl)
theorem aw_ifnullN (X : Cx G p s m args meth c A H0 cc nL own) {off : Int} {tgt : Nat} (hdg : decode cc pc = .ok (.ifnull off, 3)) (ht : (pc : Int) + off = (tgt : Int)) (kk : AW G p l e R s m args below meth c nL A H0 Q w cells slots tgt lv rest) : AW G p l e R s m args below meth c nL A H0 Q w cells slots pc lv (.null :: rest) := by
  intro H locs ls hP hA hS hl
  exact lv_ifnullN X.1 X.2.1 hdg ht (kk H locs ls hP hA hS hl)
theorem aw_null (X : Cx G p s m args meth c A H0 cc nL own) (hdg : decode cc pc = .ok (.aconst_null, 1)) (kk : AW G p l e R s m args below meth c nL A H0 Q w cells slots (pc + 1) lv (.null :: rest)) : AW G p l e R s m args below meth c nL A H0 Q w cells slots pc lv rest := by
  intro H locs ls hP hA hS hl
  exact lv_null X.1 X.2.1 hdg (kk H locs ls hP hA hS hl)
end AWR
