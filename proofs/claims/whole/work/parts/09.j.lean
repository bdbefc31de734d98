/-! THE WALKING LAYER: one judgement 'jj' over an opaque context X; every row of the kit that a walk needs, said of it. Written by wip/whole/gen/gen_j.py. -/
abbrev jj_T : Type := va_G × (ClassId × ClassId × ClassId × ClassId × ClassId)
def jj_tys (T : jj_T) : List (ClassId × FieldType) := [(T.2.1, .int), (T.2.2.1, .long), (T.2.2.2.1, .boolean), (T.2.2.2.2.1, .object RX6), (T.2.2.2.2.2, .double)]
def jj_N28 : Cond := .methodLinkNest RX7 28 yX1_init "SlewPlanner"
def jj_N273 : Cond := .methodLinkNest RX7 273 yX2_tryAll "SlewPlanner"
def jE1 : String := "java/lang/IndexOutOfBoundsException"
def jE2 : String := "java/lang/IllegalArgumentException"
def jE3 : String := "java/lang/IllegalStateException"
def jj_str : List (Nat × String) := [(148, "an axis has a direction"), (171, "a step goes to a neighbour or stays"), (178, "the clock is at its end"), (181, "the cell would be bright"), (193, "there is no plan to this cell"), (195, "the clock would pass its end"), (200, "the position is bright"), (202, "there is no room for another request"), (217, "no state is remembered"), (257, "the slot is empty"), (265, "the position would be bright"), (281, "the shutter is closed"), (283, "the shutter is open"), (287, "there is no such request"), (290, "there is no such cell"), (292, "there is no such coordinate"), (294, "there is no such object"), (296, "there is no such slot"), (298, "an argument is out of its range")]
/-- what stands in the tables all through the run, beside the words: classes, arrays, two links between nest mates, casts among the exceptions, the texts -/
def jj_K (T : jj_T) (U : State) : Prop := va_K T.1 vwCl (jj_tys T) U ∧ va_AO RX6 U ∧ va_Nw jj_N28 U ∧ va_Nw jj_N273 U ∧ (∀ E ∈ [jE1, jE2, jE3], va_Nw (.castable E E) U) ∧ (∀ E ∈ [jE1, jE2, jE3], ∀ F ∈ [jE1, jE2, jE3], E ≠ F → va_Nc E F U) ∧ (∀ Y ∈ ["java/lang/RuntimeException", "java/lang/Exception", Bundle.tN], va_Nw (.declares (Bundle.initS Y)) U) ∧ ∀ q ∈ jj_str, ∃ a : Nat, vk_R RX7 q.1 q.2 a U
theorem jj_K.warm {T : jj_T} {s U : State} (hW : s.WarmedH U.vm) (h : jj_K T s) : jj_K T U := by
  obtain ⟨h1, h2, h3, h4, h5, h6, h8, h7⟩ := h
  refine ⟨va_K.moved hW.alike h1, va_AO.moved hW.alike h2, va_Nw.warmM hW h3, va_Nw.warmM hW h4, fun E hE => va_Nw.warmC hW (h5 E hE), fun E hE F hF hne => va_Nc.moved hW.alike (h6 E hE F hF hne), fun Y hY => va_Nw.warmD hW (h8 Y hY), fun q hq => ?_⟩
  obtain ⟨a, ha⟩ := h7 q hq
  exact ⟨a, ha.warm hW⟩
theorem jj_K.same {T : jj_T} {s U : State} (hv : U.vm = s.vm) (h : jj_K T s) : jj_K T U := by
  obtain ⟨h1, h2, h3, h4, h5, h6, h8, h7⟩ := h
  have hA : s.vm.Alike U.vm := by rw [hv]; exact Vm.Alike.refl _
  refine ⟨va_K.moved hA h1, va_AO.moved hA h2, va_Nw.same rfl hv.symm h3, va_Nw.same rfl hv.symm h4, fun E hE => va_Nw.same rfl hv.symm (h5 E hE), fun E hE F hF hne => va_Nc.moved hA (h6 E hE F hF hne), fun Y hY => va_Nw.same rfl hv.symm (h8 Y hY), fun q hq => ?_⟩
  obtain ⟨a, ha⟩ := h7 q hq
  exact ⟨a, ha.same hv⟩
def cO (ci : Nat) (fs : List Value) : va_E := .inr (ci, fs)
def cI (T : jj_T) (n : Nat) (f : Nat → Int32) : va_E := .inl (T.2.1, n, .inl f)
def cJ (T : jj_T) (n : Nat) (f : Nat → Int64) : va_E := .inl (T.2.2.1, n, .inr (.inl f))
def cZ (T : jj_T) (n : Nat) (f : Nat → Int32) : va_E := .inl (T.2.2.2.1, n, .inl f)
def cS (T : jj_T) (n : Nat) (f : Nat → Option Nat) : va_E := .inl (T.2.2.2.2.1, n, .inr (.inr (.inr (.inr f))))
def cD (T : jj_T) (n : Nat) (f : Nat → UInt64) : va_E := .inl (T.2.2.2.2.2, n, .inr (.inr (.inr (.inl f))))
abbrev jj_X : Type := Program × Launch × Env × Room × State × MethodId × Array Value × List Frame × Method × Code × (State → Prop) × Nat × jj_T × (va_W → Heap → List Loc → Prop) × (Nat → Prop)
def xp (X : jj_X) : Program := X.1
def xl (X : jj_X) : Launch := X.2.1
def xe (X : jj_X) : Env := X.2.2.1
def xR (X : jj_X) : Room := X.2.2.2.1
def xs (X : jj_X) : State := X.2.2.2.2.1
def xm (X : jj_X) : MethodId := X.2.2.2.2.2.1
def xa (X : jj_X) : Array Value := X.2.2.2.2.2.2.1
def xb (X : jj_X) : List Frame := X.2.2.2.2.2.2.2.1
def xh (X : jj_X) : Method := X.2.2.2.2.2.2.2.2.1
def xc (X : jj_X) : Code := X.2.2.2.2.2.2.2.2.2.1
def xQ (X : jj_X) : State → Prop := X.2.2.2.2.2.2.2.2.2.2.1
def xn (X : jj_X) : Nat := X.2.2.2.2.2.2.2.2.2.2.2.1
def xT (X : jj_X) : jj_T := X.2.2.2.2.2.2.2.2.2.2.2.2.1
def xI (X : jj_X) : va_W → Heap → List Loc → Prop := X.2.2.2.2.2.2.2.2.2.2.2.2.2.1
def xA (X : jj_X) : Nat → Prop := X.2.2.2.2.2.2.2.2.2.2.2.2.2.2
/-- the walk: from pc, with the locals lv, the operand stack st, the cells w, k cells of n slots made -/
def jj (X : jj_X) (k n pc : Nat) (lv : List (Nat × Value)) (st : List Value) (w : va_W) : Prop :=
  ∀ (H : Heap) (locs : List Loc) (ls : Array Slot), xI X w H locs → lv_has ls (xn X) lv → W (xp X) (xl X) (xe X) (xR X) (xs X) (xm X) (xa X) (xb X) (xh X) (xc X) H locs k n (xQ X) (F0 (xm X) pc ls st)
/-- what every row asks of its context -/
def jj_C (X : jj_X) (cc : ByteArray) (own : String) (Ts : List Cond) (R : Room) (mL : Nat) (ret : Option FieldType) : Prop :=
  (xp X).tables.exec = Jvm.exec ∧ (xc X).code = cc ∧ (xc X).maxLocals = mL ∧ xn X = mL ∧ (xs X).vm.findClass own = some (xm X).cls ∧ (∀ w ∈ Ts, w.before (xa X) (xs X) = true) ∧ jj_K (xT X) (xs X) ∧ (xh X).sig.returnType = ret ∧ (xh X).locks = false ∧ xR X = R ∧
  (∀ w H locs, xI X w H locs → va_P (xT X).1 vwCl w H) ∧ (∀ (w w' : va_W) (H : Heap) (locs : List Loc) (is : List Nat), va_nd is = true → is.map (fun i => w[i]?) = w'.map some → xI X w H locs → xI X w' H locs) ∧ (∀ w H locs, xI X w H locs → va_D (fun _ => True) w) ∧ (∀ (w w' : va_W) (H : Heap) (locs : List Loc), xI X w H locs → va_P (xT X).1 vwCl w' H → w'.map Prod.fst = w.map Prod.fst → xI X w' H locs) ∧ (∀ (w w' : va_W) (H : Heap) (locs : List Loc), w.Perm w' → xI X w H locs → xI X w' H locs)
def jj_RW (X : jj_X) : Prop := (xI X = fun w H locs => va_P (xT X).1 vwCl w H ∧ va_D (xA X) w ∧ va_S (xA X) (xs X).heap H locs) ∧ ∀ q, (xs X).heap.size ≤ q → xA X q
def jj_RO (X : jj_X) : Prop := xI X = fun w H locs => va_P (xT X).1 vwCl w H ∧ va_D (fun _ => True) w ∧ H = (xs X).heap ∧ locs = []
section JJ
variable {X : jj_X} {cc : ByteArray} {own : String} {Ts : List Cond} {R : Room} {mL : Nat} {ret : Option FieldType} {k n pc : Nat} {lv : List (Nat × Value)} {st : List Value} {w : va_W}
theorem jj_C.exec (C : jj_C X cc own Ts R mL ret) : (xp X).tables.exec = Jvm.exec := C.1
theorem jj_C.cod (C : jj_C X cc own Ts R mL ret) : (xc X).code = cc := C.2.1
theorem jj_C.nl (C : jj_C X cc own Ts R mL ret) : (xc X).maxLocals = mL := C.2.2.1
theorem jj_C.nx (C : jj_C X cc own Ts R mL ret) : xn X = mL := C.2.2.2.1
theorem jj_C.ow (C : jj_C X cc own Ts R mL ret) : (xs X).vm.findClass own = some (xm X).cls := C.2.2.2.2.1
theorem jj_C.ts (C : jj_C X cc own Ts R mL ret) : ∀ w ∈ Ts, w.before (xa X) (xs X) = true := C.2.2.2.2.2.1
theorem jj_C.KK (C : jj_C X cc own Ts R mL ret) : jj_K (xT X) (xs X) := C.2.2.2.2.2.2.1
theorem jj_C.K (C : jj_C X cc own Ts R mL ret) : va_K (xT X).1 vwCl (jj_tys (xT X)) (xs X) := C.2.2.2.2.2.2.1.1
theorem jj_C.rt (C : jj_C X cc own Ts R mL ret) : (xh X).sig.returnType = ret := C.2.2.2.2.2.2.2.1
theorem jj_C.locks (C : jj_C X cc own Ts R mL ret) : (xh X).locks = false := C.2.2.2.2.2.2.2.2.1
theorem jj_C.room (C : jj_C X cc own Ts R mL ret) : xR X = R := C.2.2.2.2.2.2.2.2.2.1
theorem jj_C.P (C : jj_C X cc own Ts R mL ret) {H : Heap} {locs : List Loc} (h : xI X w H locs) : va_P (xT X).1 vwCl w H := C.2.2.2.2.2.2.2.2.2.2.1 w H locs h
theorem jj_C.sub (C : jj_C X cc own Ts R mL ret) {H : Heap} {locs : List Loc} {w' : va_W} (is : List Nat) (hn : va_nd is = true) (hs : is.map (fun i => w[i]?) = w'.map some) (h : xI X w H locs) : xI X w' H locs := C.2.2.2.2.2.2.2.2.2.2.2.1 w w' H locs is hn hs h
theorem jj_C.D (C : jj_C X cc own Ts R mL ret) {H : Heap} {locs : List Loc} (h : xI X w H locs) : va_D (fun _ => True) w := C.2.2.2.2.2.2.2.2.2.2.2.2.1 w H locs h
theorem jj_C.ext (C : jj_C X cc own Ts R mL ret) {w' : va_W} {H : Heap} {locs : List Loc} (h : xI X w H locs) (h2 : va_P (xT X).1 vwCl w' H) (h3 : w'.map Prod.fst = w.map Prod.fst) : xI X w' H locs := C.2.2.2.2.2.2.2.2.2.2.2.2.2.1 w w' H locs h h2 h3
theorem jj_C.pm (C : jj_C X cc own Ts R mL ret) {w' : va_W} {H : Heap} {locs : List Loc} (h : w.Perm w') (h2 : xI X w H locs) : xI X w' H locs := C.2.2.2.2.2.2.2.2.2.2.2.2.2.2 w w' H locs h h2
theorem va_D_fst {A : Nat → Prop} {w w' : va_W} (h : va_D A w) (e : w'.map Prod.fst = w.map Prod.fst) : va_D A w' := by
  have key : ∀ (k : Nat) (q : Nat × va_E), w'[k]? = some q → ∃ q0, w[k]? = some q0 ∧ q0.1 = q.1 := by
    intro k q hk
    have h1 : (w.map Prod.fst)[k]? = some q.1 := by rw [← e, List.getElem?_map, hk]; rfl
    rw [List.getElem?_map] at h1
    cases hq : w[k]? with
    | none => rw [hq] at h1; cases h1
    | some q0 => rw [hq] at h1; exact ⟨q0, rfl, Option.some.inj h1⟩
  refine ⟨fun i j p q hi hj hpq => ?_, fun k q hk => ?_⟩
  · obtain ⟨p0, h1, h2⟩ := key i p hi
    obtain ⟨q0, h3, h4⟩ := key j q hj
    exact h.1 i j p0 q0 h1 h3 (h2.trans (hpq.trans h4.symm))
  · obtain ⟨q0, h1, h2⟩ := key k q hk
    rw [← h2]; exact h.2 k q0 h1
theorem va_P_pm {D : va_G} {cl : List vw_C} {w w' : va_W} {H : Heap} (h : va_P D cl w H) (hp : w.Perm w') : va_P D cl w' H := fun k q hk => by
  obtain ⟨i, hi⟩ := List.getElem?_of_mem (hp.mem_iff.mpr (List.mem_of_getElem? hk))
  exact h i q hi
theorem va_D_nd {A : Nat → Prop} {w : va_W} : va_D A w ↔ (w.map Prod.fst).Nodup ∧ ∀ q ∈ w, A q.1 := by
  constructor
  · intro h
    refine ⟨List.pairwise_iff_getElem.mpr fun i j hi hj hij e => ?_, fun q hq => ?_⟩
    · rw [List.length_map] at hi hj
      rw [List.getElem_map, List.getElem_map] at e
      have := h.1 i j _ _ (List.getElem?_eq_getElem hi) (List.getElem?_eq_getElem hj) e
      omega
    · obtain ⟨i, hi⟩ := List.getElem?_of_mem hq
      exact h.2 i q hi
  · rintro ⟨h1, h2⟩
    refine ⟨fun i j p q hi hj e => ?_, fun k q hk => h2 q (List.mem_of_getElem? hk)⟩
    obtain ⟨hi', ei⟩ := List.getElem?_eq_some_iff.mp hi
    obtain ⟨hj', ej⟩ := List.getElem?_eq_some_iff.mp hj
    have h3 := List.pairwise_iff_getElem.mp h1
    rcases Nat.lt_trichotomy i j with h | h | h
    · exact absurd (by rw [List.getElem_map, List.getElem_map, ei, ej]; exact e) (h3 i j (by rw [List.length_map]; exact hi') (by rw [List.length_map]; exact hj') h)
    · exact h
    · exact absurd (by rw [List.getElem_map, List.getElem_map, ei, ej]; exact e.symm) (h3 j i (by rw [List.length_map]; exact hj') (by rw [List.length_map]; exact hi') h)
theorem va_D_pm {A : Nat → Prop} {w w' : va_W} (h : va_D A w) (hp : w.Perm w') : va_D A w' := by
  rw [va_D_nd] at h ⊢
  exact ⟨((hp.map Prod.fst).nodup_iff).mp h.1, fun q hq => h.2 q (hp.mem_iff.mpr hq)⟩
theorem j_permP (C : jj_C X cc own Ts R mL ret) {w' : va_W} (h : w.Perm w') (kk : jj X k n pc lv st w') : jj X k n pc lv st w := fun H locs ls hI hl => kk H locs ls (C.pm h hI) hl
theorem arrV_ext {cA : ClassId} {n : Nat} {f g : Nat → Value} (h : ∀ j, j < n → f j = g j) : arrV cA n f = arrV cA n g := by
  have e : (fun j : Fin n => f j.val) = (fun j : Fin n => g j.val) := funext (fun j => h j.val j.isLt)
  unfold arrV
  rw [e]
/-- a cell said in other words -/
theorem j_re (C : jj_C X cc own Ts R mL ret) {a : Nat} {e e' : va_E} (q : Nat) (hw : w[q]? = some (a, e)) (h : ∀ H, va_at (xT X).1 vwCl (a, e) H → va_at (xT X).1 vwCl (a, e') H) {w' : va_W} (hw' : w.set q (a, e') = w') (kk : jj X k n pc lv st w') : jj X k n pc lv st w := by
  subst hw'
  intro H locs ls hI hl
  have hlt := (List.getElem?_eq_some_iff.mp hw).1
  refine kk H locs ls (C.ext hI (fun j p hp => ?_) ?_) hl
  · by_cases hj : j = q
    · subst hj
      rw [List.getElem?_set_self hlt] at hp
      cases hp
      exact h H (C.P hI j _ hw)
    · rw [List.getElem?_set_ne (Ne.symm hj)] at hp
      exact C.P hI j p hp
  · apply List.ext_getElem?
    intro j
    rw [List.getElem?_map, List.getElem?_map]
    by_cases hj : j = q
    · subst hj
      rw [List.getElem?_set_self hlt, hw]; rfl
    · rw [List.getElem?_set_ne (Ne.symm hj)]
theorem j_extI (C : jj_C X cc own Ts R mL ret) {a N : Nat} {f : Nat → Int32} (g : Nat → Int32) (q : Nat) (hw : w[q]? = some (a, cI (xT X) N f)) (h : ∀ j, j < N → f j = g j) {w' : va_W} (hw' : w.set q (a, cI (xT X) N g) = w') (kk : jj X k n pc lv st w') : jj X k n pc lv st w := j_re C q hw (fun H hH => by
  show H[a]? = some (vp_cell (xT X).2.1 (N, .inl g))
  have hH2 : H[a]? = some (vp_cell (xT X).2.1 (N, .inl f)) := hH
  rw [hH2, vp_cell_i, vp_cell_i]
  exact congrArg some (arrV_ext (fun j hj => by rw [h j hj]))) hw' kk
theorem j_extZ (C : jj_C X cc own Ts R mL ret) {a N : Nat} {f : Nat → Int32} (g : Nat → Int32) (q : Nat) (hw : w[q]? = some (a, cZ (xT X) N f)) (h : ∀ j, j < N → f j = g j) {w' : va_W} (hw' : w.set q (a, cZ (xT X) N g) = w') (kk : jj X k n pc lv st w') : jj X k n pc lv st w := j_re C q hw (fun H hH => by
  show H[a]? = some (vp_cell (xT X).2.2.2.1 (N, .inl g))
  have hH2 : H[a]? = some (vp_cell (xT X).2.2.2.1 (N, .inl f)) := hH
  rw [hH2, vp_cell_i, vp_cell_i]
  exact congrArg some (arrV_ext (fun j hj => by rw [h j hj]))) hw' kk
theorem j_extJ (C : jj_C X cc own Ts R mL ret) {a N : Nat} {f : Nat → Int64} (g : Nat → Int64) (q : Nat) (hw : w[q]? = some (a, cJ (xT X) N f)) (h : ∀ j, j < N → f j = g j) {w' : va_W} (hw' : w.set q (a, cJ (xT X) N g) = w') (kk : jj X k n pc lv st w') : jj X k n pc lv st w := j_re C q hw (fun H hH => by
  show H[a]? = some (vp_cell (xT X).2.2.1 (N, .inr (.inl g)))
  have hH2 : H[a]? = some (vp_cell (xT X).2.2.1 (N, .inr (.inl f))) := hH
  rw [hH2, vp_cell_l, vp_cell_l]
  exact congrArg some (arrV_ext (fun j hj => by rw [h j hj]))) hw' kk
/-- the same cells in another order, or fewer -/
theorem j_perm (C : jj_C X cc own Ts R mL ret) {w' : va_W} (is : List Nat) (hn : va_nd is = true) (hs : is.map (fun i => w[i]?) = w'.map some) (kk : jj X k n pc lv st w') : jj X k n pc lv st w := fun H locs ls hI hl => kk H locs ls (C.sub is hn hs hI) hl
/-- fewer locals, in another order -/
theorem j_lv {lv' : List (Nat × Value)} (ks : List Nat) (h : lv_pick lv ks = lv') (kk : jj X k n pc lv' st w) : jj X k n pc lv st w := fun H locs ls hI hl => kk H locs ls hI (lv_sub hl ks h)
theorem j_widen {k' n' : Nat} (h1 : k ≤ k') (h2 : n ≤ n') (kk : jj X k' n' pc lv st w) : jj X k n pc lv st w := fun H locs ls hI hl => W.widen h1 h2 (kk H locs ls hI hl)
/-- cells of a world at different places are different -/
theorem j_ne (C : jj_C X cc own Ts R mL ret) (i j : Nat) {p q : Nat × va_E} (hi : w[i]? = some p) (hj : w[j]? = some q) (hij : i ≠ j) (kk : p.1 ≠ q.1 → jj X k n pc lv st w) : jj X k n pc lv st w := fun H locs ls hI hl => kk (fun e => hij ((C.D hI).1 i j p q hi hj e)) H locs ls hI hl

theorem j_iconst (C : jj_C X cc own Ts R mL ret) {c : Int} {v : Int32} {rest : List Value} (d : decode cc pc = .ok (.iconst c, 1)) (hv : Int32.ofInt c = v) (kk : jj X k n (pc + 1) lv (.int v :: rest) w) : jj X k n pc lv (rest) w := fun H locs ls hI hl => lv_iconst C.exec C.cod d hv (kk H locs ls hI hl)
theorem j_bipush (C : jj_C X cc own Ts R mL ret) {c : Int} {v : Int32} {rest : List Value} (d : decode cc pc = .ok (.bipush c, 2)) (hv : (Int8.ofInt c).toInt32 = v) (kk : jj X k n (pc + 2) lv (.int v :: rest) w) : jj X k n pc lv (rest) w := fun H locs ls hI hl => lv_bipush C.exec C.cod d hv (kk H locs ls hI hl)
theorem j_sipush (C : jj_C X cc own Ts R mL ret) {c : Int} {v : Int32} {rest : List Value} (d : decode cc pc = .ok (.sipush c, 3)) (hv : (Int16.ofInt c).toInt32 = v) (kk : jj X k n (pc + 3) lv (.int v :: rest) w) : jj X k n pc lv (rest) w := fun H locs ls hI hl => lv_sipush C.exec C.cod d hv (kk H locs ls hI hl)
theorem j_lconst (C : jj_C X cc own Ts R mL ret) {c : Fin 2} {v : Int64} {rest : List Value} (d : decode cc pc = .ok (.lconst c, 1)) (hv : Int64.ofNat (c : Nat) = v) (kk : jj X k n (pc + 1) lv (.long v :: rest) w) : jj X k n pc lv (rest) w := fun H locs ls hI hl => lv_lconst C.exec C.cod d hv (kk H locs ls hI hl)
theorem j_dconst0 (C : jj_C X cc own Ts R mL ret)  {rest : List Value} (d : decode cc pc = .ok (.dconst 0, 1)) (kk : jj X k n (pc + 1) lv (.double 0 :: rest) w) : jj X k n pc lv (rest) w := fun H locs ls hI hl => lv_dconst0 C.exec C.cod d (kk H locs ls hI hl)
theorem j_dconst1 (C : jj_C X cc own Ts R mL ret)  {rest : List Value} (d : decode cc pc = .ok (.dconst 1, 1)) (kk : jj X k n (pc + 1) lv (.double 0x3ff0000000000000 :: rest) w) : jj X k n pc lv (rest) w := fun H locs ls hI hl => lv_dconst1 C.exec C.cod d (kk H locs ls hI hl)
theorem j_aconst_null (C : jj_C X cc own Ts R mL ret)  {rest : List Value} (d : decode cc pc = .ok (.aconst_null, 1)) (kk : jj X k n (pc + 1) lv (.null :: rest) w) : jj X k n pc lv (rest) w := fun H locs ls hI hl => lv_null C.exec C.cod d (kk H locs ls hI hl)
theorem j_ldc2l (C : jj_C X cc own Ts R mL ret) {i : Nat} {v : Int64} {rest : List Value} (d : decode cc pc = .ok (.ldc2_w i, 3)) (hc : Cond.constantLong own i v ∈ Ts) (kk : jj X k n (pc + 3) lv (.long v :: rest) w) : jj X k n pc lv (rest) w := fun H locs ls hI hl => lv_ldc2 C.exec C.cod C.ow (C.ts _ hc) d (kk H locs ls hI hl)
theorem j_ldc2d (C : jj_C X cc own Ts R mL ret) {i : Nat} {v : UInt64} {rest : List Value} (d : decode cc pc = .ok (.ldc2_w i, 3)) (hc : Cond.constantDouble own i v ∈ Ts) (kk : jj X k n (pc + 3) lv (.double v :: rest) w) : jj X k n pc lv (rest) w := fun H locs ls hI hl => lv_ldc2d C.exec C.cod C.ow (C.ts _ hc) d (kk H locs ls hI hl)
theorem j_iload_n (C : jj_C X cc own Ts R mL ret) {c : Fin 4} {i : Nat} {x : Int32} {rest : List Value} (d : decode cc pc = .ok (.iload_n c, 1)) (q : Nat) (hi : (c : Nat) = i) (hq : lv[q]? = some (i, .int x)) (kk : jj X k n (pc + 1) lv (.int x :: rest) w) : jj X k n pc lv (rest) w := fun H locs ls hI hl => lv_iload_n C.exec C.cod d hi (lv_at hl q hq) (kk H locs ls hI hl)
theorem j_iload (C : jj_C X cc own Ts R mL ret) {i : Nat} {x : Int32} {rest : List Value} (d : decode cc pc = .ok (.iload i, 2)) (q : Nat) (hq : lv[q]? = some (i, .int x)) (kk : jj X k n (pc + 2) lv (.int x :: rest) w) : jj X k n pc lv (rest) w := fun H locs ls hI hl => lv_iload C.exec C.cod d (lv_at hl q hq) (kk H locs ls hI hl)
theorem j_lload_n (C : jj_C X cc own Ts R mL ret) {c : Fin 4} {i : Nat} {x : Int64} {rest : List Value} (d : decode cc pc = .ok (.lload_n c, 1)) (q : Nat) (hi : (c : Nat) = i) (hq : lv[q]? = some (i, .long x)) (kk : jj X k n (pc + 1) lv (.long x :: rest) w) : jj X k n pc lv (rest) w := fun H locs ls hI hl => lv_lload_n C.exec C.cod d hi (lv_at hl q hq) (kk H locs ls hI hl)
theorem j_lload (C : jj_C X cc own Ts R mL ret) {i : Nat} {x : Int64} {rest : List Value} (d : decode cc pc = .ok (.lload i, 2)) (q : Nat) (hq : lv[q]? = some (i, .long x)) (kk : jj X k n (pc + 2) lv (.long x :: rest) w) : jj X k n pc lv (rest) w := fun H locs ls hI hl => lv_lload C.exec C.cod d (lv_at hl q hq) (kk H locs ls hI hl)
theorem j_aload_n (C : jj_C X cc own Ts R mL ret) {c : Fin 4} {i : Nat} {x : Nat} {rest : List Value} (d : decode cc pc = .ok (.aload_n c, 1)) (q : Nat) (hi : (c : Nat) = i) (hq : lv[q]? = some (i, .ref x)) (kk : jj X k n (pc + 1) lv (.ref x :: rest) w) : jj X k n pc lv (rest) w := fun H locs ls hI hl => lv_aload_n C.exec C.cod d hi (lv_at hl q hq) (kk H locs ls hI hl)
theorem j_aload (C : jj_C X cc own Ts R mL ret) {i : Nat} {x : Nat} {rest : List Value} (d : decode cc pc = .ok (.aload i, 2)) (q : Nat) (hq : lv[q]? = some (i, .ref x)) (kk : jj X k n (pc + 2) lv (.ref x :: rest) w) : jj X k n pc lv (rest) w := fun H locs ls hI hl => lv_aload C.exec C.cod d (lv_at hl q hq) (kk H locs ls hI hl)
theorem j_dload_n (C : jj_C X cc own Ts R mL ret) {c : Fin 4} {i : Nat} {x : UInt64} {rest : List Value} (d : decode cc pc = .ok (.dload_n c, 1)) (q : Nat) (hi : (c : Nat) = i) (hq : lv[q]? = some (i, .double x)) (kk : jj X k n (pc + 1) lv (.double x :: rest) w) : jj X k n pc lv (rest) w := fun H locs ls hI hl => lv_dload_n C.exec C.cod d hi (lv_at hl q hq) (kk H locs ls hI hl)
theorem j_dload (C : jj_C X cc own Ts R mL ret) {i : Nat} {x : UInt64} {rest : List Value} (d : decode cc pc = .ok (.dload i, 2)) (q : Nat) (hq : lv[q]? = some (i, .double x)) (kk : jj X k n (pc + 2) lv (.double x :: rest) w) : jj X k n pc lv (rest) w := fun H locs ls hI hl => lv_dload C.exec C.cod d (lv_at hl q hq) (kk H locs ls hI hl)
theorem j_aload_nN (C : jj_C X cc own Ts R mL ret) {c : Fin 4} {i : Nat} {rest : List Value} (d : decode cc pc = .ok (.aload_n c, 1)) (q : Nat) (hi : (c : Nat) = i) (hq : lv[q]? = some (i, .null)) (kk : jj X k n (pc + 1) lv (.null :: rest) w) : jj X k n pc lv (rest) w := fun H locs ls hI hl => lv_aload_nN C.exec C.cod d hi (lv_at hl q hq) (kk H locs ls hI hl)
theorem j_aloadN (C : jj_C X cc own Ts R mL ret) {i : Nat} {rest : List Value} (d : decode cc pc = .ok (.aload i, 2)) (q : Nat) (hq : lv[q]? = some (i, .null)) (kk : jj X k n (pc + 2) lv (.null :: rest) w) : jj X k n pc lv (rest) w := fun H locs ls hI hl => lv_aloadN C.exec C.cod d (lv_at hl q hq) (kk H locs ls hI hl)
theorem j_istore_n (C : jj_C X cc own Ts R mL ret) {x : Int32} {c : Fin 4} {i : Nat} {lv' : List (Nat × Value)} {rest : List Value} (d : decode cc pc = .ok (.istore_n c, 1)) (hi : (c : Nat) = i) (hn : i < mL) (hl' : (i, Value.int x) :: lv.filter (fun q => !(q.1 == i) && !(q.1 + 1 == i && q.2.category == 2)) = lv') (kk : jj X k n (pc + 1) lv' rest w) : jj X k n pc lv (Value.int x :: rest) w := fun H locs ls hI hl => lv_istore_n C.exec C.cod d hi hl (by rw [C.nx]; exact hn) hl' (fun ls' hl2 => kk H locs ls' hI hl2)
theorem j_istore (C : jj_C X cc own Ts R mL ret) {x : Int32} {i : Nat} {lv' : List (Nat × Value)} {rest : List Value} (d : decode cc pc = .ok (.istore i, 2)) (hn : i < mL) (hl' : (i, Value.int x) :: lv.filter (fun q => !(q.1 == i) && !(q.1 + 1 == i && q.2.category == 2)) = lv') (kk : jj X k n (pc + 2) lv' rest w) : jj X k n pc lv (Value.int x :: rest) w := fun H locs ls hI hl => lv_istore C.exec C.cod d hl (by rw [C.nx]; exact hn) hl' (fun ls' hl2 => kk H locs ls' hI hl2)
theorem j_lstore_n (C : jj_C X cc own Ts R mL ret) {x : Int64} {c : Fin 4} {i : Nat} {lv' : List (Nat × Value)} {rest : List Value} (d : decode cc pc = .ok (.lstore_n c, 1)) (hi : (c : Nat) = i) (hn : i + 1 < mL) (hl' : (i, Value.long x) :: lv.filter (fun q => !(q.1 == i) && (!(q.1 == i + 1) && !(q.1 + 1 == i && q.2.category == 2))) = lv') (kk : jj X k n (pc + 1) lv' rest w) : jj X k n pc lv (Value.long x :: rest) w := fun H locs ls hI hl => lv_lstore_n C.exec C.cod d hi hl (by rw [C.nx]; exact hn) hl' (fun ls' hl2 => kk H locs ls' hI hl2)
theorem j_lstore (C : jj_C X cc own Ts R mL ret) {x : Int64} {i : Nat} {lv' : List (Nat × Value)} {rest : List Value} (d : decode cc pc = .ok (.lstore i, 2)) (hn : i + 1 < mL) (hl' : (i, Value.long x) :: lv.filter (fun q => !(q.1 == i) && (!(q.1 == i + 1) && !(q.1 + 1 == i && q.2.category == 2))) = lv') (kk : jj X k n (pc + 2) lv' rest w) : jj X k n pc lv (Value.long x :: rest) w := fun H locs ls hI hl => lv_lstore C.exec C.cod d hl (by rw [C.nx]; exact hn) hl' (fun ls' hl2 => kk H locs ls' hI hl2)
theorem j_astore_n (C : jj_C X cc own Ts R mL ret) {x : Nat} {c : Fin 4} {i : Nat} {lv' : List (Nat × Value)} {rest : List Value} (d : decode cc pc = .ok (.astore_n c, 1)) (hi : (c : Nat) = i) (hn : i < mL) (hl' : (i, Value.ref x) :: lv.filter (fun q => !(q.1 == i) && !(q.1 + 1 == i && q.2.category == 2)) = lv') (kk : jj X k n (pc + 1) lv' rest w) : jj X k n pc lv (Value.ref x :: rest) w := fun H locs ls hI hl => lv_astore_n C.exec C.cod d hi hl (by rw [C.nx]; exact hn) hl' (fun ls' hl2 => kk H locs ls' hI hl2)
theorem j_astore (C : jj_C X cc own Ts R mL ret) {x : Nat} {i : Nat} {lv' : List (Nat × Value)} {rest : List Value} (d : decode cc pc = .ok (.astore i, 2)) (hn : i < mL) (hl' : (i, Value.ref x) :: lv.filter (fun q => !(q.1 == i) && !(q.1 + 1 == i && q.2.category == 2)) = lv') (kk : jj X k n (pc + 2) lv' rest w) : jj X k n pc lv (Value.ref x :: rest) w := fun H locs ls hI hl => lv_astore C.exec C.cod d hl (by rw [C.nx]; exact hn) hl' (fun ls' hl2 => kk H locs ls' hI hl2)
theorem j_dstore_n (C : jj_C X cc own Ts R mL ret) {x : UInt64} {c : Fin 4} {i : Nat} {lv' : List (Nat × Value)} {rest : List Value} (d : decode cc pc = .ok (.dstore_n c, 1)) (hi : (c : Nat) = i) (hn : i + 1 < mL) (hl' : (i, Value.double x) :: lv.filter (fun q => !(q.1 == i) && (!(q.1 == i + 1) && !(q.1 + 1 == i && q.2.category == 2))) = lv') (kk : jj X k n (pc + 1) lv' rest w) : jj X k n pc lv (Value.double x :: rest) w := fun H locs ls hI hl => lv_dstore_n C.exec C.cod d hi hl (by rw [C.nx]; exact hn) hl' (fun ls' hl2 => kk H locs ls' hI hl2)
theorem j_dstore (C : jj_C X cc own Ts R mL ret) {x : UInt64} {i : Nat} {lv' : List (Nat × Value)} {rest : List Value} (d : decode cc pc = .ok (.dstore i, 2)) (hn : i + 1 < mL) (hl' : (i, Value.double x) :: lv.filter (fun q => !(q.1 == i) && (!(q.1 == i + 1) && !(q.1 + 1 == i && q.2.category == 2))) = lv') (kk : jj X k n (pc + 2) lv' rest w) : jj X k n pc lv (Value.double x :: rest) w := fun H locs ls hI hl => lv_dstore C.exec C.cod d hl (by rw [C.nx]; exact hn) hl' (fun ls' hl2 => kk H locs ls' hI hl2)
theorem j_astore_nN (C : jj_C X cc own Ts R mL ret) {c : Fin 4} {i : Nat} {lv' : List (Nat × Value)} {rest : List Value} (d : decode cc pc = .ok (.astore_n c, 1)) (hi : (c : Nat) = i) (hn : i < mL) (hl' : (i, Value.null) :: lv.filter (fun q => !(q.1 == i) && !(q.1 + 1 == i && q.2.category == 2)) = lv') (kk : jj X k n (pc + 1) lv' rest w) : jj X k n pc lv (Value.null :: rest) w := fun H locs ls hI hl => lv_astore_nN C.exec C.cod d hi hl (by rw [C.nx]; exact hn) hl' (fun ls' hl2 => kk H locs ls' hI hl2)
theorem j_astoreN (C : jj_C X cc own Ts R mL ret)  {i : Nat} {lv' : List (Nat × Value)} {rest : List Value} (d : decode cc pc = .ok (.astore i, 2)) (hn : i < mL) (hl' : (i, Value.null) :: lv.filter (fun q => !(q.1 == i) && !(q.1 + 1 == i && q.2.category == 2)) = lv') (kk : jj X k n (pc + 2) lv' rest w) : jj X k n pc lv (Value.null :: rest) w := fun H locs ls hI hl => lv_astoreN C.exec C.cod d hl (by rw [C.nx]; exact hn) hl' (fun ls' hl2 => kk H locs ls' hI hl2)
theorem j_iinc (C : jj_C X cc own Ts R mL ret) {i q : Nat} {c : Int} {x v : Int32} {lv' : List (Nat × Value)} (d : decode cc pc = .ok (.iinc i c, 3)) (hq : lv[q]? = some (i, .int x)) (hv : x + Int32.ofInt c = v) (hn : i < mL) (hl' : (i, Value.int v) :: lv.filter (fun q => !(q.1 == i) && !(q.1 + 1 == i && q.2.category == 2)) = lv') (kk : jj X k n (pc + 3) lv' st w) : jj X k n pc lv st w := fun H locs ls hI hl => lv_iinc C.exec C.cod d hl hq hv (by rw [C.nx]; exact hn) hl' (fun ls' hl2 => kk H locs ls' hI hl2)
theorem j_iadd (C : jj_C X cc own Ts R mL ret) {x y v : Int32} {rest : List Value} (d : decode cc pc = .ok (.iadd, 1)) (hv : x + y = v) (kk : jj X k n (pc + 1) lv (.int v :: rest) w) : jj X k n pc lv (.int y :: .int x :: rest) w := fun H locs ls hI hl => lv_iadd C.exec C.cod d (by rw [hv]; exact kk H locs ls hI hl)
theorem j_isub (C : jj_C X cc own Ts R mL ret) {x y v : Int32} {rest : List Value} (d : decode cc pc = .ok (.isub, 1)) (hv : x - y = v) (kk : jj X k n (pc + 1) lv (.int v :: rest) w) : jj X k n pc lv (.int y :: .int x :: rest) w := fun H locs ls hI hl => lv_isub C.exec C.cod d (by rw [hv]; exact kk H locs ls hI hl)
theorem j_imul (C : jj_C X cc own Ts R mL ret) {x y v : Int32} {rest : List Value} (d : decode cc pc = .ok (.imul, 1)) (hv : x * y = v) (kk : jj X k n (pc + 1) lv (.int v :: rest) w) : jj X k n pc lv (.int y :: .int x :: rest) w := fun H locs ls hI hl => lv_imul C.exec C.cod d (by rw [hv]; exact kk H locs ls hI hl)
theorem j_iand (C : jj_C X cc own Ts R mL ret) {x y v : Int32} {rest : List Value} (d : decode cc pc = .ok (.iand, 1)) (hv : x &&& y = v) (kk : jj X k n (pc + 1) lv (.int v :: rest) w) : jj X k n pc lv (.int y :: .int x :: rest) w := fun H locs ls hI hl => lv_iand C.exec C.cod d (by rw [hv]; exact kk H locs ls hI hl)
theorem j_ior (C : jj_C X cc own Ts R mL ret) {x y v : Int32} {rest : List Value} (d : decode cc pc = .ok (.ior, 1)) (hv : x ||| y = v) (kk : jj X k n (pc + 1) lv (.int v :: rest) w) : jj X k n pc lv (.int y :: .int x :: rest) w := fun H locs ls hI hl => lv_ior C.exec C.cod d (by rw [hv]; exact kk H locs ls hI hl)
theorem j_ixor (C : jj_C X cc own Ts R mL ret) {x y v : Int32} {rest : List Value} (d : decode cc pc = .ok (.ixor, 1)) (hv : x ^^^ y = v) (kk : jj X k n (pc + 1) lv (.int v :: rest) w) : jj X k n pc lv (.int y :: .int x :: rest) w := fun H locs ls hI hl => lv_ixor C.exec C.cod d (by rw [hv]; exact kk H locs ls hI hl)
theorem j_idiv (C : jj_C X cc own Ts R mL ret) {x y v : Int32} {rest : List Value} (d : decode cc pc = .ok (.idiv, 1)) (hne : ¬ y = 0) (hv : x / y = v) (kk : jj X k n (pc + 1) lv (.int v :: rest) w) : jj X k n pc lv (.int y :: .int x :: rest) w := fun H locs ls hI hl => lv_idiv C.exec C.cod d hne (by rw [hv]; exact kk H locs ls hI hl)
theorem j_irem (C : jj_C X cc own Ts R mL ret) {x y v : Int32} {rest : List Value} (d : decode cc pc = .ok (.irem, 1)) (hne : ¬ y = 0) (hv : x - x / y * y = v) (kk : jj X k n (pc + 1) lv (.int v :: rest) w) : jj X k n pc lv (.int y :: .int x :: rest) w := fun H locs ls hI hl => lv_irem C.exec C.cod d hne (by rw [hv]; exact kk H locs ls hI hl)
theorem j_ineg (C : jj_C X cc own Ts R mL ret) {x v : Int32} {rest : List Value} (d : decode cc pc = .ok (.ineg, 1)) (hv : -x = v) (kk : jj X k n (pc + 1) lv (.int v :: rest) w) : jj X k n pc lv (.int x :: rest) w := fun H locs ls hI hl => lv_ineg C.exec C.cod d (by rw [hv]; exact kk H locs ls hI hl)
theorem j_ladd (C : jj_C X cc own Ts R mL ret) {x y v : Int64} {rest : List Value} (d : decode cc pc = .ok (.ladd, 1)) (hv : x + y = v) (kk : jj X k n (pc + 1) lv (.long v :: rest) w) : jj X k n pc lv (.long y :: .long x :: rest) w := fun H locs ls hI hl => lv_ladd C.exec C.cod d (by rw [hv]; exact kk H locs ls hI hl)
theorem j_lsub (C : jj_C X cc own Ts R mL ret) {x y v : Int64} {rest : List Value} (d : decode cc pc = .ok (.lsub, 1)) (hv : x - y = v) (kk : jj X k n (pc + 1) lv (.long v :: rest) w) : jj X k n pc lv (.long y :: .long x :: rest) w := fun H locs ls hI hl => lv_lsub C.exec C.cod d (by rw [hv]; exact kk H locs ls hI hl)
theorem j_lmul (C : jj_C X cc own Ts R mL ret) {x y v : Int64} {rest : List Value} (d : decode cc pc = .ok (.lmul, 1)) (hv : x * y = v) (kk : jj X k n (pc + 1) lv (.long v :: rest) w) : jj X k n pc lv (.long y :: .long x :: rest) w := fun H locs ls hI hl => lv_lmul C.exec C.cod d (by rw [hv]; exact kk H locs ls hI hl)
theorem j_land (C : jj_C X cc own Ts R mL ret) {x y v : Int64} {rest : List Value} (d : decode cc pc = .ok (.land, 1)) (hv : x &&& y = v) (kk : jj X k n (pc + 1) lv (.long v :: rest) w) : jj X k n pc lv (.long y :: .long x :: rest) w := fun H locs ls hI hl => lv_land C.exec C.cod d (by rw [hv]; exact kk H locs ls hI hl)
theorem j_lor (C : jj_C X cc own Ts R mL ret) {x y v : Int64} {rest : List Value} (d : decode cc pc = .ok (.lor, 1)) (hv : x ||| y = v) (kk : jj X k n (pc + 1) lv (.long v :: rest) w) : jj X k n pc lv (.long y :: .long x :: rest) w := fun H locs ls hI hl => lv_lor C.exec C.cod d (by rw [hv]; exact kk H locs ls hI hl)
theorem j_lxor (C : jj_C X cc own Ts R mL ret) {x y v : Int64} {rest : List Value} (d : decode cc pc = .ok (.lxor, 1)) (hv : x ^^^ y = v) (kk : jj X k n (pc + 1) lv (.long v :: rest) w) : jj X k n pc lv (.long y :: .long x :: rest) w := fun H locs ls hI hl => lv_lxor C.exec C.cod d (by rw [hv]; exact kk H locs ls hI hl)
theorem j_ishl (C : jj_C X cc own Ts R mL ret) {x y v : Int32} {rest : List Value} (d : decode cc pc = .ok (.ishl, 1)) (hv : x <<< (y &&& 31) = v) (kk : jj X k n (pc + 1) lv (.int v :: rest) w) : jj X k n pc lv (.int y :: .int x :: rest) w := fun H locs ls hI hl => lv_ishl C.exec C.cod d (by rw [hv]; exact kk H locs ls hI hl)
theorem j_ishr (C : jj_C X cc own Ts R mL ret) {x y v : Int32} {rest : List Value} (d : decode cc pc = .ok (.ishr, 1)) (hv : x >>> (y &&& 31) = v) (kk : jj X k n (pc + 1) lv (.int v :: rest) w) : jj X k n pc lv (.int y :: .int x :: rest) w := fun H locs ls hI hl => lv_ishr C.exec C.cod d (by rw [hv]; exact kk H locs ls hI hl)
theorem j_iushr (C : jj_C X cc own Ts R mL ret) {x y v : Int32} {rest : List Value} (d : decode cc pc = .ok (.iushr, 1)) (hv : (x.toUInt32 >>> (y.toUInt32 &&& Int32.toUInt32 31)).toInt32 = v) (kk : jj X k n (pc + 1) lv (.int v :: rest) w) : jj X k n pc lv (.int y :: .int x :: rest) w := fun H locs ls hI hl => lv_iushr C.exec C.cod d hv (kk H locs ls hI hl)
theorem j_lushr (C : jj_C X cc own Ts R mL ret) {x v : Int64} {y : Int32} {rest : List Value} (d : decode cc pc = .ok (.lushr, 1)) (hv : (x.toUInt64 >>> (y.toInt64.toUInt64 &&& Int64.toUInt64 63)).toInt64 = v) (kk : jj X k n (pc + 1) lv (.long v :: rest) w) : jj X k n pc lv (.int y :: .long x :: rest) w := fun H locs ls hI hl => lv_lushr C.exec C.cod d hv (kk H locs ls hI hl)
theorem j_lshl (C : jj_C X cc own Ts R mL ret) {x v : Int64} {y : Int32} {rest : List Value} (d : decode cc pc = .ok (.lshl, 1)) (hv : x <<< (y.toInt64 &&& 63) = v) (kk : jj X k n (pc + 1) lv (.long v :: rest) w) : jj X k n pc lv (.int y :: .long x :: rest) w := fun H locs ls hI hl => lv_lshl C.exec C.cod d hv (kk H locs ls hI hl)
theorem j_lshr (C : jj_C X cc own Ts R mL ret) {x v : Int64} {y : Int32} {rest : List Value} (d : decode cc pc = .ok (.lshr, 1)) (hv : x >>> (y.toInt64 &&& 63) = v) (kk : jj X k n (pc + 1) lv (.long v :: rest) w) : jj X k n pc lv (.int y :: .long x :: rest) w := fun H locs ls hI hl => lv_lshr C.exec C.cod d hv (kk H locs ls hI hl)
theorem j_i2l (C : jj_C X cc own Ts R mL ret) {x : Int32} {v : Int64} {rest : List Value} (d : decode cc pc = .ok (.i2l, 1)) (hv : x.toInt64 = v) (kk : jj X k n (pc + 1) lv (.long v :: rest) w) : jj X k n pc lv (.int x :: rest) w := fun H locs ls hI hl => lv_i2l C.exec C.cod d hv (kk H locs ls hI hl)
theorem j_l2i (C : jj_C X cc own Ts R mL ret) {x : Int64} {v : Int32} {rest : List Value} (d : decode cc pc = .ok (.l2i, 1)) (hv : x.toInt32 = v) (kk : jj X k n (pc + 1) lv (.int v :: rest) w) : jj X k n pc lv (.long x :: rest) w := fun H locs ls hI hl => lv_l2i C.exec C.cod d hv (kk H locs ls hI hl)
theorem j_lcmp (C : jj_C X cc own Ts R mL ret) {x y : Int64} {rest : List Value} (d : decode cc pc = .ok (.lcmp, 1)) (kk : jj X k n (pc + 1) lv (.int (lg_cmp x y) :: rest) w) : jj X k n pc lv (.long y :: .long x :: rest) w := fun H locs ls hI hl => W.lcmp C.exec C.cod d (kk H locs ls hI hl)
theorem j_i2d (C : jj_C X cc own Ts R mL ret) {x : Int32} {v : UInt64} {rest : List Value} (d : decode cc pc = .ok (.i2d, 1)) (hv : FP.i2d x = v) (kk : jj X k n (pc + 1) lv (.double v :: rest) w) : jj X k n pc lv (.int x :: rest) w := fun H locs ls hI hl => lv_i2d C.exec C.cod d (by rw [hv]; exact kk H locs ls hI hl)
theorem j_l2d (C : jj_C X cc own Ts R mL ret) {x : Int64} {v : UInt64} {rest : List Value} (d : decode cc pc = .ok (.l2d, 1)) (hv : FP.l2d x = v) (kk : jj X k n (pc + 1) lv (.double v :: rest) w) : jj X k n pc lv (.long x :: rest) w := fun H locs ls hI hl => lv_l2d C.exec C.cod d (by rw [hv]; exact kk H locs ls hI hl)
theorem j_dadd (C : jj_C X cc own Ts R mL ret) {x y v : UInt64} {rest : List Value} (d : decode cc pc = .ok (.dadd, 1)) (hne : vf_n64 (FP.dadd x y)) (hv : FP.dadd x y = v) (kk : jj X k n (pc + 1) lv (.double v :: rest) w) : jj X k n pc lv (.double y :: .double x :: rest) w := fun H locs ls hI hl => lv_dadd C.exec C.cod d hne (by rw [hv]; exact kk H locs ls hI hl)
theorem j_dsub (C : jj_C X cc own Ts R mL ret) {x y v : UInt64} {rest : List Value} (d : decode cc pc = .ok (.dsub, 1)) (hne : vf_n64 (FP.dsub x y)) (hv : FP.dsub x y = v) (kk : jj X k n (pc + 1) lv (.double v :: rest) w) : jj X k n pc lv (.double y :: .double x :: rest) w := fun H locs ls hI hl => lv_dsub C.exec C.cod d hne (by rw [hv]; exact kk H locs ls hI hl)
theorem j_dmul (C : jj_C X cc own Ts R mL ret) {x y v : UInt64} {rest : List Value} (d : decode cc pc = .ok (.dmul, 1)) (hne : vf_n64 (FP.dmul x y)) (hv : FP.dmul x y = v) (kk : jj X k n (pc + 1) lv (.double v :: rest) w) : jj X k n pc lv (.double y :: .double x :: rest) w := fun H locs ls hI hl => lv_dmul C.exec C.cod d hne (by rw [hv]; exact kk H locs ls hI hl)
theorem j_ddiv (C : jj_C X cc own Ts R mL ret) {x y v : UInt64} {rest : List Value} (d : decode cc pc = .ok (.ddiv, 1)) (hne : vf_n64 (FP.ddiv x y)) (hv : FP.ddiv x y = v) (kk : jj X k n (pc + 1) lv (.double v :: rest) w) : jj X k n pc lv (.double y :: .double x :: rest) w := fun H locs ls hI hl => lv_ddiv C.exec C.cod d hne (by rw [hv]; exact kk H locs ls hI hl)
theorem j_dcmp (C : jj_C X cc own Ts R mL ret) {x y : UInt64} {op : CmpOp} {v : Int32} {rest : List Value} (d : decode cc pc = .ok (.dcmp op, 1)) (hv : Op.cmpValue (FP.dcmp x y) op = v) (kk : jj X k n (pc + 1) lv (.int v :: rest) w) : jj X k n pc lv (.double y :: .double x :: rest) w := fun H locs ls hI hl => lv_dcmp C.exec C.cod d (by rw [hv]; exact kk H locs ls hI hl)
theorem j_dup (C : jj_C X cc own Ts R mL ret) {v : Value} {rest : List Value} (d : decode cc pc = .ok (.dup, 1)) (hc : v.category = 1) (kk : jj X k n (pc + 1) lv (v :: v :: rest) w) : jj X k n pc lv (v :: rest) w := fun H locs ls hI hl => lv_dup C.exec C.cod d hc (kk H locs ls hI hl)
theorem j_dup2 (C : jj_C X cc own Ts R mL ret) {v u : Value} {rest : List Value} (d : decode cc pc = .ok (.dup2, 1)) (hc : v.category = 1) (hc2 : u.category = 1) (kk : jj X k n (pc + 1) lv (v :: u :: v :: u :: rest) w) : jj X k n pc lv (v :: u :: rest) w := fun H locs ls hI hl => lv_dup2_11 C.exec C.cod d hc hc2 (kk H locs ls hI hl)
theorem j_dup_x1 (C : jj_C X cc own Ts R mL ret) {v u : Value} {rest : List Value} (d : decode cc pc = .ok (.dup_x1, 1)) (hc : v.category = 1) (hc2 : u.category = 1) (kk : jj X k n (pc + 1) lv (v :: u :: v :: rest) w) : jj X k n pc lv (v :: u :: rest) w := fun H locs ls hI hl => lv_dup_x1 C.exec C.cod d hc hc2 (kk H locs ls hI hl)
theorem j_pop (C : jj_C X cc own Ts R mL ret) {v : Value} {rest : List Value} (d : decode cc pc = .ok (.pop, 1)) (hc : v.category = 1) (kk : jj X k n (pc + 1) lv (rest) w) : jj X k n pc lv (v :: rest) w := fun H locs ls hI hl => lv_pop C.exec C.cod d hc (kk H locs ls hI hl)
theorem j_icmp_eq (C : jj_C X cc own Ts R mL ret) {x y : Int32} {off : Int} {tgt : Nat} {rest : List Value} (d : decode cc pc = .ok (.if_icmp .eq off, 3)) (ht : (pc : Int) + off = (tgt : Int)) (kt : x = y → jj X k n tgt lv rest w) (kf : ¬ x = y → jj X k n (pc + 3) lv rest w) : jj X k n pc lv (.int y :: .int x :: rest) w := fun H locs ls hI hl => lv_icmp_eq C.exec C.cod d ht (fun h => kt h H locs ls hI hl) (fun h => kf h H locs ls hI hl)
theorem j_if_eq (C : jj_C X cc own Ts R mL ret) {x : Int32} {off : Int} {tgt : Nat} {rest : List Value} (d : decode cc pc = .ok (.ifCond .eq off, 3)) (ht : (pc : Int) + off = (tgt : Int)) (kt : x = 0 → jj X k n tgt lv rest w) (kf : ¬ x = 0 → jj X k n (pc + 3) lv rest w) : jj X k n pc lv (.int x :: rest) w := fun H locs ls hI hl => lv_if_eq C.exec C.cod d ht (fun h => kt h H locs ls hI hl) (fun h => kf h H locs ls hI hl)
theorem j_icmp_ne (C : jj_C X cc own Ts R mL ret) {x y : Int32} {off : Int} {tgt : Nat} {rest : List Value} (d : decode cc pc = .ok (.if_icmp .ne off, 3)) (ht : (pc : Int) + off = (tgt : Int)) (kt : ¬ x = y → jj X k n tgt lv rest w) (kf : x = y → jj X k n (pc + 3) lv rest w) : jj X k n pc lv (.int y :: .int x :: rest) w := fun H locs ls hI hl => lv_icmp_ne C.exec C.cod d ht (fun h => kt h H locs ls hI hl) (fun h => kf h H locs ls hI hl)
theorem j_if_ne (C : jj_C X cc own Ts R mL ret) {x : Int32} {off : Int} {tgt : Nat} {rest : List Value} (d : decode cc pc = .ok (.ifCond .ne off, 3)) (ht : (pc : Int) + off = (tgt : Int)) (kt : ¬ x = 0 → jj X k n tgt lv rest w) (kf : x = 0 → jj X k n (pc + 3) lv rest w) : jj X k n pc lv (.int x :: rest) w := fun H locs ls hI hl => lv_if_ne C.exec C.cod d ht (fun h => kt h H locs ls hI hl) (fun h => kf h H locs ls hI hl)
theorem j_icmp_lt (C : jj_C X cc own Ts R mL ret) {x y : Int32} {off : Int} {tgt : Nat} {rest : List Value} (d : decode cc pc = .ok (.if_icmp .lt off, 3)) (ht : (pc : Int) + off = (tgt : Int)) (kt : x < y → jj X k n tgt lv rest w) (kf : ¬ x < y → jj X k n (pc + 3) lv rest w) : jj X k n pc lv (.int y :: .int x :: rest) w := fun H locs ls hI hl => lv_icmp_lt C.exec C.cod d ht (fun h => kt h H locs ls hI hl) (fun h => kf h H locs ls hI hl)
theorem j_if_lt (C : jj_C X cc own Ts R mL ret) {x : Int32} {off : Int} {tgt : Nat} {rest : List Value} (d : decode cc pc = .ok (.ifCond .lt off, 3)) (ht : (pc : Int) + off = (tgt : Int)) (kt : x < 0 → jj X k n tgt lv rest w) (kf : ¬ x < 0 → jj X k n (pc + 3) lv rest w) : jj X k n pc lv (.int x :: rest) w := fun H locs ls hI hl => lv_if_lt C.exec C.cod d ht (fun h => kt h H locs ls hI hl) (fun h => kf h H locs ls hI hl)
theorem j_icmp_ge (C : jj_C X cc own Ts R mL ret) {x y : Int32} {off : Int} {tgt : Nat} {rest : List Value} (d : decode cc pc = .ok (.if_icmp .ge off, 3)) (ht : (pc : Int) + off = (tgt : Int)) (kt : y ≤ x → jj X k n tgt lv rest w) (kf : ¬ y ≤ x → jj X k n (pc + 3) lv rest w) : jj X k n pc lv (.int y :: .int x :: rest) w := fun H locs ls hI hl => lv_icmp_ge C.exec C.cod d ht (fun h => kt h H locs ls hI hl) (fun h => kf h H locs ls hI hl)
theorem j_if_ge (C : jj_C X cc own Ts R mL ret) {x : Int32} {off : Int} {tgt : Nat} {rest : List Value} (d : decode cc pc = .ok (.ifCond .ge off, 3)) (ht : (pc : Int) + off = (tgt : Int)) (kt : 0 ≤ x → jj X k n tgt lv rest w) (kf : ¬ 0 ≤ x → jj X k n (pc + 3) lv rest w) : jj X k n pc lv (.int x :: rest) w := fun H locs ls hI hl => lv_if_ge C.exec C.cod d ht (fun h => kt h H locs ls hI hl) (fun h => kf h H locs ls hI hl)
theorem j_icmp_gt (C : jj_C X cc own Ts R mL ret) {x y : Int32} {off : Int} {tgt : Nat} {rest : List Value} (d : decode cc pc = .ok (.if_icmp .gt off, 3)) (ht : (pc : Int) + off = (tgt : Int)) (kt : y < x → jj X k n tgt lv rest w) (kf : ¬ y < x → jj X k n (pc + 3) lv rest w) : jj X k n pc lv (.int y :: .int x :: rest) w := fun H locs ls hI hl => lv_icmp_gt C.exec C.cod d ht (fun h => kt h H locs ls hI hl) (fun h => kf h H locs ls hI hl)
theorem j_if_gt (C : jj_C X cc own Ts R mL ret) {x : Int32} {off : Int} {tgt : Nat} {rest : List Value} (d : decode cc pc = .ok (.ifCond .gt off, 3)) (ht : (pc : Int) + off = (tgt : Int)) (kt : 0 < x → jj X k n tgt lv rest w) (kf : ¬ 0 < x → jj X k n (pc + 3) lv rest w) : jj X k n pc lv (.int x :: rest) w := fun H locs ls hI hl => lv_if_gt C.exec C.cod d ht (fun h => kt h H locs ls hI hl) (fun h => kf h H locs ls hI hl)
theorem j_icmp_le (C : jj_C X cc own Ts R mL ret) {x y : Int32} {off : Int} {tgt : Nat} {rest : List Value} (d : decode cc pc = .ok (.if_icmp .le off, 3)) (ht : (pc : Int) + off = (tgt : Int)) (kt : x ≤ y → jj X k n tgt lv rest w) (kf : ¬ x ≤ y → jj X k n (pc + 3) lv rest w) : jj X k n pc lv (.int y :: .int x :: rest) w := fun H locs ls hI hl => lv_icmp_le C.exec C.cod d ht (fun h => kt h H locs ls hI hl) (fun h => kf h H locs ls hI hl)
theorem j_if_le (C : jj_C X cc own Ts R mL ret) {x : Int32} {off : Int} {tgt : Nat} {rest : List Value} (d : decode cc pc = .ok (.ifCond .le off, 3)) (ht : (pc : Int) + off = (tgt : Int)) (kt : x ≤ 0 → jj X k n tgt lv rest w) (kf : ¬ x ≤ 0 → jj X k n (pc + 3) lv rest w) : jj X k n pc lv (.int x :: rest) w := fun H locs ls hI hl => lv_if_le C.exec C.cod d ht (fun h => kt h H locs ls hI hl) (fun h => kf h H locs ls hI hl)
theorem j_goto (C : jj_C X cc own Ts R mL ret) {off : Int} {tgt : Nat} {rest : List Value} (d : decode cc pc = .ok (.goto off, 3)) (ht : (pc : Int) + off = (tgt : Int)) (kk : jj X k n tgt lv (rest) w) : jj X k n pc lv (rest) w := fun H locs ls hI hl => lv_goto C.exec C.cod d ht (kk H locs ls hI hl)
theorem j_ifnonnull (C : jj_C X cc own Ts R mL ret) {x : Nat} {off : Int} {tgt : Nat} {rest : List Value} (d : decode cc pc = .ok (.ifnonnull off, 3)) (ht : (pc : Int) + off = (tgt : Int)) (kk : jj X k n tgt lv (rest) w) : jj X k n pc lv (.ref x :: rest) w := fun H locs ls hI hl => lv_ifnonnull C.exec C.cod d ht (kk H locs ls hI hl)
theorem j_ifnonnullN (C : jj_C X cc own Ts R mL ret) {off : Int} {rest : List Value} (d : decode cc pc = .ok (.ifnonnull off, 3)) (kk : jj X k n (pc + 3) lv (rest) w) : jj X k n pc lv (.null :: rest) w := fun H locs ls hI hl => lv_ifnonnullN C.exec C.cod d (kk H locs ls hI hl)
theorem j_get (C : jj_C X cc own Ts R mL ret) {rest : List Value} {Cn : String} {T0 : u_T} {N ci idx a : Nat} {fs : List Value} {v : Value} (hin : ∀ w ∈ u_ws Cn T0 N, w ∈ Ts) (hc : vwCl[ci]? = some (Cn, T0, N)) (fk : Nat) (hk : fk < N) (hl0 : Cond.fieldLink own idx (T0 fk).1 (T0 fk).2.1 (T0 fk).2.2.1 ∈ Ts) (q : Nat) (hw : w[q]? = some (a, cO ci fs)) (hv : fs[fk]? = some v) (d : decode cc pc = .ok (.getfield idx, 3)) (kk : jj X k n (pc + 3) lv (v :: rest) w) : jj X k n pc lv (.ref a :: rest) w :=
  fun H locs ls hI hl => va_get (D := (xT X).1) C.exec C.cod C.ts hin C.ow C.K (C.P hI) q hw hc fk hk (C.ts _ hl0) (fun _ h => h) hv d (kk H locs ls hI hl)
theorem j_put (C : jj_C X cc own Ts R mL ret) (rw_ : jj_RW X) {rest : List Value} {Cn : String} {T0 : u_T} {N ci idx a : Nat} {fs : List Value} {v : Value} (hin : ∀ w ∈ u_ws Cn T0 N, w ∈ Ts) (ty0 : Nat → FieldType) (hty : ∀ k, k < N → parseFieldDescriptor (T0 k).2.2.1 = some (ty0 k)) (hnm : ∀ a, a < N → ∀ b, b < N → a ≠ b → (T0 a).2.1 ≠ (T0 b).2.1) (hc : vwCl[ci]? = some (Cn, T0, N)) (fk : Nat) (hk : fk < N) (hl0 : Cond.fieldLink own idx (T0 fk).1 (T0 fk).2.1 (T0 fk).2.2.1 ∈ Ts) (hfin : (T0 fk).2.2.2 = false) {ty : FieldType} (hd : parseFieldDescriptor (T0 fk).2.2.1 = some ty) (hnr : narrow ty v = v) (hfit : fits ty v = true) (q : Nat) (hw : w[q]? = some (a, cO ci fs)) (hlen : fk < fs.length) {w' : va_W} (hw' : w.set q (a, cO ci (fs.set fk v)) = w') (d : decode cc pc = .ok (.putfield idx, 3)) (kk : jj X k n (pc + 3) lv rest w') : jj X k n pc lv (v :: .ref a :: rest) w := by
  subst hw'
  intro H locs ls hI hl
  have hI2 := hI
  rw [rw_.1] at hI2
  refine va_put (D := (xT X).1) C.exec C.cod C.ts hin ty0 hty hnm C.ow C.K (C.P hI) hI2.2.1 hI2.2.2 q hw hc fk hk (C.ts _ hl0) (fun _ h => h) hfin hd hnr hfit hlen d (fun H1 locs1 hP hD hS => kk H1 locs1 ls ?_ hl)
  rw [rw_.1]
  exact ⟨hP, hD, hS⟩
theorem j_putF (C : jj_C X cc own Ts R mL ret) (rw_ : jj_RW X) (hnm0 : (xh X).name = "<init>") {rest : List Value} {T0 : u_T} {N ci idx a : Nat} {fs : List Value} {v : Value} {Cn : String} (hin : ∀ w ∈ u_ws Cn T0 N, w ∈ Ts) (ty0 : Nat → FieldType) (hty : ∀ k, k < N → parseFieldDescriptor (T0 k).2.2.1 = some (ty0 k)) (hnm : ∀ a, a < N → ∀ b, b < N → a ≠ b → (T0 a).2.1 ≠ (T0 b).2.1) (hc : vwCl[ci]? = some (Cn, T0, N)) (fk : Nat) (hk : fk < N) (hl0 : Cond.fieldLink own idx (T0 fk).1 (T0 fk).2.1 (T0 fk).2.2.1 ∈ Ts) (hfin : (T0 fk).2.2.2 = true) (hdecl : (T0 fk).1 = own) {ty : FieldType} (hd : parseFieldDescriptor (T0 fk).2.2.1 = some ty) (hnr : narrow ty v = v) (hfit : fits ty v = true) (q : Nat) (hw : w[q]? = some (a, cO ci fs)) (hlen : fk < fs.length) {w' : va_W} (hw' : w.set q (a, cO ci (fs.set fk v)) = w') (d : decode cc pc = .ok (.putfield idx, 3)) (kk : jj X k n (pc + 3) lv rest w') : jj X k n pc lv (v :: .ref a :: rest) w := by
  subst hw'
  intro H locs ls hI hl
  have hI2 := hI
  rw [rw_.1] at hI2
  refine va_putF (D := (xT X).1) C.exec C.cod C.ts hin ty0 hty hnm C.ow C.K (C.P hI) hI2.2.1 hI2.2.2 q hw hc fk hk (C.ts _ hl0) (fun _ h => h) hfin hnm0 hdecl hd hnr hfit hlen d (fun H1 locs1 hP hD hS => kk H1 locs1 ls ?_ hl)
  rw [rw_.1]
  exact ⟨hP, hD, hS⟩
theorem j_iaload (C : jj_C X cc own Ts R mL ret) {rest : List Value} {a N : Nat} {f : Nat → Int32} {i : Int32} (q : Nat) (hw : w[q]? = some (a, cI (xT X) N f)) (hin : vp_in i N) (d : decode cc pc = .ok (.iaload, 1)) (kk : jj X k n (pc + 1) lv (.int (f i.toNatClampNeg) :: rest) w) : jj X k n pc lv (.int i :: .ref a :: rest) w := fun H locs ls hI hl => va_iald (D := (xT X).1) C.exec C.cod C.K (C.P hI) q 0 hw rfl hin d (kk H locs ls hI hl)
theorem j_ialoadN (C : jj_C X cc own Ts R mL ret) {rest : List Value} {a N : Nat} {f : Nat → Int32} {i : Int32} (j : Nat) (hj : i = nI j) (q : Nat) (hw : w[q]? = some (a, cI (xT X) N f)) (hin : j < N) (hN : N < 2 ^ 31) (d : decode cc pc = .ok (.iaload, 1)) (kk : jj X k n (pc + 1) lv (.int (f j) :: rest) w) : jj X k n pc lv (.int i :: .ref a :: rest) w := by
  subst hj
  refine j_iaload C q hw (vp_in_nI hin hN) d ?_
  rw [nI_clamp (by omega)]
  exact kk
theorem j_zaload (C : jj_C X cc own Ts R mL ret) {rest : List Value} {a N : Nat} {f : Nat → Int32} {i : Int32} (q : Nat) (hw : w[q]? = some (a, cZ (xT X) N f)) (hin : vp_in i N) (d : decode cc pc = .ok (.baload, 1)) (kk : jj X k n (pc + 1) lv (.int (f i.toNatClampNeg) :: rest) w) : jj X k n pc lv (.int i :: .ref a :: rest) w := fun H locs ls hI hl => va_zald (D := (xT X).1) C.exec C.cod C.K (C.P hI) q 2 hw rfl hin d (kk H locs ls hI hl)
theorem j_zaloadN (C : jj_C X cc own Ts R mL ret) {rest : List Value} {a N : Nat} {f : Nat → Int32} {i : Int32} (j : Nat) (hj : i = nI j) (q : Nat) (hw : w[q]? = some (a, cZ (xT X) N f)) (hin : j < N) (hN : N < 2 ^ 31) (d : decode cc pc = .ok (.baload, 1)) (kk : jj X k n (pc + 1) lv (.int (f j) :: rest) w) : jj X k n pc lv (.int i :: .ref a :: rest) w := by
  subst hj
  refine j_zaload C q hw (vp_in_nI hin hN) d ?_
  rw [nI_clamp (by omega)]
  exact kk
theorem j_laload (C : jj_C X cc own Ts R mL ret) {rest : List Value} {a N : Nat} {f : Nat → Int64} {i : Int32} (q : Nat) (hw : w[q]? = some (a, cJ (xT X) N f)) (hin : vp_in i N) (d : decode cc pc = .ok (.laload, 1)) (kk : jj X k n (pc + 1) lv (.long (f i.toNatClampNeg) :: rest) w) : jj X k n pc lv (.int i :: .ref a :: rest) w := fun H locs ls hI hl => va_lald (D := (xT X).1) C.exec C.cod C.K (C.P hI) q 1 hw rfl hin d (kk H locs ls hI hl)
theorem j_laloadN (C : jj_C X cc own Ts R mL ret) {rest : List Value} {a N : Nat} {f : Nat → Int64} {i : Int32} (j : Nat) (hj : i = nI j) (q : Nat) (hw : w[q]? = some (a, cJ (xT X) N f)) (hin : j < N) (hN : N < 2 ^ 31) (d : decode cc pc = .ok (.laload, 1)) (kk : jj X k n (pc + 1) lv (.long (f j) :: rest) w) : jj X k n pc lv (.int i :: .ref a :: rest) w := by
  subst hj
  refine j_laload C q hw (vp_in_nI hin hN) d ?_
  rw [nI_clamp (by omega)]
  exact kk
theorem j_daload (C : jj_C X cc own Ts R mL ret) {rest : List Value} {a N : Nat} {f : Nat → UInt64} {i : Int32} (q : Nat) (hw : w[q]? = some (a, cD (xT X) N f)) (hin : vp_in i N) (d : decode cc pc = .ok (.daload, 1)) (kk : jj X k n (pc + 1) lv (.double (f i.toNatClampNeg) :: rest) w) : jj X k n pc lv (.int i :: .ref a :: rest) w := fun H locs ls hI hl => va_dald (D := (xT X).1) C.exec C.cod C.K (C.P hI) q 4 hw rfl hin d (kk H locs ls hI hl)
theorem j_daloadN (C : jj_C X cc own Ts R mL ret) {rest : List Value} {a N : Nat} {f : Nat → UInt64} {i : Int32} (j : Nat) (hj : i = nI j) (q : Nat) (hw : w[q]? = some (a, cD (xT X) N f)) (hin : j < N) (hN : N < 2 ^ 31) (d : decode cc pc = .ok (.daload, 1)) (kk : jj X k n (pc + 1) lv (.double (f j) :: rest) w) : jj X k n pc lv (.int i :: .ref a :: rest) w := by
  subst hj
  refine j_daload C q hw (vp_in_nI hin hN) d ?_
  rw [nI_clamp (by omega)]
  exact kk
theorem j_aaload (C : jj_C X cc own Ts R mL ret) {rest : List Value} {a N : Nat} {f : Nat → Option Nat} {i : Int32} (q : Nat) (hw : w[q]? = some (a, cS (xT X) N f)) (hin : vp_in i N) (d : decode cc pc = .ok (.aaload, 1)) (kk : jj X k n (pc + 1) lv (va_rf (f i.toNatClampNeg) :: rest) w) : jj X k n pc lv (.int i :: .ref a :: rest) w := fun H locs ls hI hl => va_aldq (D := (xT X).1) C.exec C.cod C.K (C.P hI) q 3 hw rfl hin d (kk H locs ls hI hl)
theorem j_aaloadN (C : jj_C X cc own Ts R mL ret) {rest : List Value} {a N : Nat} {f : Nat → Option Nat} {i : Int32} (j : Nat) (hj : i = nI j) (q : Nat) (hw : w[q]? = some (a, cS (xT X) N f)) (hin : j < N) (hN : N < 2 ^ 31) (d : decode cc pc = .ok (.aaload, 1)) (kk : jj X k n (pc + 1) lv (va_rf (f j) :: rest) w) : jj X k n pc lv (.int i :: .ref a :: rest) w := by
  subst hj
  refine j_aaload C q hw (vp_in_nI hin hN) d ?_
  rw [nI_clamp (by omega)]
  exact kk
theorem j_iastore (C : jj_C X cc own Ts R mL ret) (rw_ : jj_RW X) {rest : List Value} {a N : Nat} {f : Nat → Int32} {i : Int32} {x : Int32} (q : Nat) (hw : w[q]? = some (a, cI (xT X) N f)) (hin : vp_in i N)  {w' : va_W} (hw' : w.set q (a, cI (xT X) N (upd f i.toNatClampNeg x)) = w') (d : decode cc pc = .ok (.iastore, 1)) (kk : jj X k n (pc + 1) lv rest w') : jj X k n pc lv (.int x :: .int i :: .ref a :: rest) w := by
  subst hw'
  intro H locs ls hI hl
  have hI2 := hI
  rw [rw_.1] at hI2
  refine va_iast (D := (xT X).1) C.exec C.cod C.K (C.P hI) hI2.2.1 hI2.2.2 q 0 hw rfl hin d (fun H1 locs1 hP hD hS => kk H1 locs1 ls ?_ hl)
  rw [rw_.1]
  exact ⟨hP, hD, hS⟩
theorem j_iastoreN (C : jj_C X cc own Ts R mL ret) (rw_ : jj_RW X) {rest : List Value} {a N : Nat} {f : Nat → Int32} {i : Int32} {x : Int32} (j : Nat) (hj : i = nI j) (q : Nat) (hw : w[q]? = some (a, cI (xT X) N f)) (hin : j < N) (hN : N < 2 ^ 31)  {w' : va_W} (hw' : w.set q (a, cI (xT X) N (upd f j x)) = w') (d : decode cc pc = .ok (.iastore, 1)) (kk : jj X k n (pc + 1) lv rest w') : jj X k n pc lv (.int x :: .int i :: .ref a :: rest) w := by
  subst hj
  refine j_iastore C rw_ q hw (vp_in_nI hin hN)  (by rw [nI_clamp (show j < 2 ^ 31 by omega)]; exact hw') d kk
theorem j_zastore (C : jj_C X cc own Ts R mL ret) (rw_ : jj_RW X) {rest : List Value} {a N : Nat} {f : Nat → Int32} {i : Int32} {x : Int32} (q : Nat) (hw : w[q]? = some (a, cZ (xT X) N f)) (hin : vp_in i N)  {w' : va_W} (hw' : w.set q (a, cZ (xT X) N (upd f i.toNatClampNeg (vp_nar .boolean x))) = w') (d : decode cc pc = .ok (.bastore, 1)) (kk : jj X k n (pc + 1) lv rest w') : jj X k n pc lv (.int x :: .int i :: .ref a :: rest) w := by
  subst hw'
  intro H locs ls hI hl
  have hI2 := hI
  rw [rw_.1] at hI2
  refine va_zast (D := (xT X).1) C.exec C.cod C.K (C.P hI) hI2.2.1 hI2.2.2 q 2 hw rfl hin d (fun H1 locs1 hP hD hS => kk H1 locs1 ls ?_ hl)
  rw [rw_.1]
  exact ⟨hP, hD, hS⟩
theorem j_zastoreN (C : jj_C X cc own Ts R mL ret) (rw_ : jj_RW X) {rest : List Value} {a N : Nat} {f : Nat → Int32} {i : Int32} {x : Int32} (j : Nat) (hj : i = nI j) (q : Nat) (hw : w[q]? = some (a, cZ (xT X) N f)) (hin : j < N) (hN : N < 2 ^ 31)  {w' : va_W} (hw' : w.set q (a, cZ (xT X) N (upd f j (vp_nar .boolean x))) = w') (d : decode cc pc = .ok (.bastore, 1)) (kk : jj X k n (pc + 1) lv rest w') : jj X k n pc lv (.int x :: .int i :: .ref a :: rest) w := by
  subst hj
  refine j_zastore C rw_ q hw (vp_in_nI hin hN)  (by rw [nI_clamp (show j < 2 ^ 31 by omega)]; exact hw') d kk
theorem j_lastore (C : jj_C X cc own Ts R mL ret) (rw_ : jj_RW X) {rest : List Value} {a N : Nat} {f : Nat → Int64} {i : Int32} {x : Int64} (q : Nat) (hw : w[q]? = some (a, cJ (xT X) N f)) (hin : vp_in i N)  {w' : va_W} (hw' : w.set q (a, cJ (xT X) N (vp_updL f i.toNatClampNeg x)) = w') (d : decode cc pc = .ok (.lastore, 1)) (kk : jj X k n (pc + 1) lv rest w') : jj X k n pc lv (.long x :: .int i :: .ref a :: rest) w := by
  subst hw'
  intro H locs ls hI hl
  have hI2 := hI
  rw [rw_.1] at hI2
  refine va_last (D := (xT X).1) C.exec C.cod C.K (C.P hI) hI2.2.1 hI2.2.2 q 1 hw rfl hin d (fun H1 locs1 hP hD hS => kk H1 locs1 ls ?_ hl)
  rw [rw_.1]
  exact ⟨hP, hD, hS⟩
theorem j_lastoreN (C : jj_C X cc own Ts R mL ret) (rw_ : jj_RW X) {rest : List Value} {a N : Nat} {f : Nat → Int64} {i : Int32} {x : Int64} (j : Nat) (hj : i = nI j) (q : Nat) (hw : w[q]? = some (a, cJ (xT X) N f)) (hin : j < N) (hN : N < 2 ^ 31)  {w' : va_W} (hw' : w.set q (a, cJ (xT X) N (vp_updL f j x)) = w') (d : decode cc pc = .ok (.lastore, 1)) (kk : jj X k n (pc + 1) lv rest w') : jj X k n pc lv (.long x :: .int i :: .ref a :: rest) w := by
  subst hj
  refine j_lastore C rw_ q hw (vp_in_nI hin hN)  (by rw [nI_clamp (show j < 2 ^ 31 by omega)]; exact hw') d kk
theorem j_dastore (C : jj_C X cc own Ts R mL ret) (rw_ : jj_RW X) {rest : List Value} {a N : Nat} {f : Nat → UInt64} {i : Int32} {x : UInt64} (q : Nat) (hw : w[q]? = some (a, cD (xT X) N f)) (hin : vp_in i N)  {w' : va_W} (hw' : w.set q (a, cD (xT X) N (vf_upd f i.toNatClampNeg x)) = w') (d : decode cc pc = .ok (.dastore, 1)) (kk : jj X k n (pc + 1) lv rest w') : jj X k n pc lv (.double x :: .int i :: .ref a :: rest) w := by
  subst hw'
  intro H locs ls hI hl
  have hI2 := hI
  rw [rw_.1] at hI2
  refine va_dast (D := (xT X).1) C.exec C.cod C.K (C.P hI) hI2.2.1 hI2.2.2 q 4 hw rfl hin d (fun H1 locs1 hP hD hS => kk H1 locs1 ls ?_ hl)
  rw [rw_.1]
  exact ⟨hP, hD, hS⟩
theorem j_dastoreN (C : jj_C X cc own Ts R mL ret) (rw_ : jj_RW X) {rest : List Value} {a N : Nat} {f : Nat → UInt64} {i : Int32} {x : UInt64} (j : Nat) (hj : i = nI j) (q : Nat) (hw : w[q]? = some (a, cD (xT X) N f)) (hin : j < N) (hN : N < 2 ^ 31)  {w' : va_W} (hw' : w.set q (a, cD (xT X) N (vf_upd f j x)) = w') (d : decode cc pc = .ok (.dastore, 1)) (kk : jj X k n (pc + 1) lv rest w') : jj X k n pc lv (.double x :: .int i :: .ref a :: rest) w := by
  subst hj
  refine j_dastore C rw_ q hw (vp_in_nI hin hN)  (by rw [nI_clamp (show j < 2 ^ 31 by omega)]; exact hw') d kk
theorem j_aastore (C : jj_C X cc own Ts R mL ret) (rw_ : jj_RW X) {rest : List Value} {a N : Nat} {f : Nat → Option Nat} {i : Int32} {x : Nat} (q : Nat) (hw : w[q]? = some (a, cS (xT X) N f)) (hin : vp_in i N) (qk : Nat) {vs : List Value} (hv : w[qk]? = some (x, cO 6 vs)) {w' : va_W} (hw' : w.set q (a, cS (xT X) N (va_up f i.toNatClampNeg (some x))) = w') (d : decode cc pc = .ok (.aastore, 1)) (kk : jj X k n (pc + 1) lv rest w') : jj X k n pc lv (.ref x :: .int i :: .ref a :: rest) w := by
  subst hw'
  intro H locs ls hI hl
  have hI2 := hI
  rw [rw_.1] at hI2
  refine va_astq (D := (xT X).1) C.exec C.cod C.K (C.P hI) hI2.2.1 hI2.2.2 q 3 qk 6 hw rfl hv rfl hin d (fun H1 locs1 hP hD hS => kk H1 locs1 ls ?_ hl)
  rw [rw_.1]
  exact ⟨hP, hD, hS⟩
theorem j_aastoreN (C : jj_C X cc own Ts R mL ret) (rw_ : jj_RW X) {rest : List Value} {a N : Nat} {f : Nat → Option Nat} {i : Int32} {x : Nat} (j : Nat) (hj : i = nI j) (q : Nat) (hw : w[q]? = some (a, cS (xT X) N f)) (hin : j < N) (hN : N < 2 ^ 31) (qk : Nat) {vs : List Value} (hv : w[qk]? = some (x, cO 6 vs)) {w' : va_W} (hw' : w.set q (a, cS (xT X) N (va_up f j (some x))) = w') (d : decode cc pc = .ok (.aastore, 1)) (kk : jj X k n (pc + 1) lv rest w') : jj X k n pc lv (.ref x :: .int i :: .ref a :: rest) w := by
  subst hj
  refine j_aastore C rw_ q hw (vp_in_nI hin hN) qk hv (by rw [nI_clamp (show j < 2 ^ 31 by omega)]; exact hw') d kk
theorem j_new (C : jj_C X cc own Ts R mL ret) (rw_ : jj_RW X) {rest : List Value} {Cn : String} {T0 : u_T} {N ci idx : Nat} (hin : ∀ w ∈ u_ws Cn T0 N, w ∈ Ts) (ty0 : Nat → FieldType) (hty : ∀ k, k < N → parseFieldDescriptor (T0 k).2.2.1 = some (ty0 k)) (hc : vwCl[ci]? = some (Cn, T0, N)) (h1 : Cond.classLink own idx Cn ∈ Ts) (h2 : Cond.instantiable Cn N ∈ Ts) (h3 : Cond.initialized Cn ∈ Ts) {fs : List Value} (hfs : ∀ j, j < N → defaultValue (ty0 j) = vp_V fs j) (hk : k + 1 ≤ R.cells) (hn : n + N ≤ R.slots) (d : decode cc pc = .ok (.new idx, 3)) (kk : ∀ q : Nat, jj X (k + 1) (n + N) (pc + 3) lv (.ref q :: rest) (w ++ [(q, cO ci fs)])) : jj X k n pc lv rest w := by
  intro H locs ls hI hl
  have hI2 := hI
  rw [rw_.1] at hI2
  refine va_new (D := (xT X).1) C.exec C.cod C.ts hin ty0 hty C.ow (C.ts _ h1) (C.ts _ h2) (C.ts _ h3) C.K (C.P hI) hI2.2.1 hI2.2.2 rw_.2 hc hfs (by rw [C.room]; exact hk) (by rw [C.room]; exact hn) d (fun q H1 hP hD hS => kk q H1 locs ls ?_ hl)
  rw [rw_.1]
  exact ⟨hP, hD, hS⟩
theorem jj_by {N : Nat} (hN : N < 60000) {ty : FieldType} (h : componentBytes ty ≤ 8) : N * componentBytes ty ≤ 536870912 := Nat.le_trans (Nat.mul_le_mul_left N h) (by omega)
theorem jj_tyI {T : jj_T} {c0 : ClassId} {s : State} {cA : ClassId} {ty : FieldType} (t0 : Nat) (ht : (jj_tys T)[t0]? = some (c0, ty)) (hn : ∀ C, ty ≠ .object C) (hK : va_K T.1 vwCl (jj_tys T) s) (hK2 : va_K T.1 vwCl (jj_tys T ++ [(cA, ty)]) s) : cA = c0 := by
  have h1 := (hK.2 t0 _ ht).2
  have h2 := (hK2.2 5 (cA, ty) rfl).2
  cases ty with
  | object C => exact absurd rfl (hn C)
  | _ => exact Option.some.inj (h2.symm.trans h1)

theorem j_newarrI (C : jj_C X cc own Ts R mL ret) (rw_ : jj_RW X) {rest : List Value} {N : Nat} {x : Int32} (hx : x = nI N) (hN : N < 60000) (h1 : Cond.arrayClass .int ∈ Ts) (hk : k + 1 ≤ R.cells) (hn : n + N ≤ R.slots) (d : decode cc pc = .ok (.newarray .int, 2)) (kk : ∀ q : Nat, jj X (k + 1) (n + N) (pc + 2) lv (.ref q :: rest) (w ++ [(q, cI (xT X) N (fun _ => 0))])) : jj X k n pc lv (.int x :: rest) w := by
  subst hx
  intro H locs ls hI hl
  have hI2 := hI
  rw [rw_.1] at hI2
  refine va_newa (D := (xT X).1) (atype := .int) (ty := .int) (a0 := (N, .inl (fun _ => 0))) C.exec C.cod (C.ts _ h1) rfl C.K (C.P hI) hI2.2.1 hI2.2.2 rw_.2 (fun cA => rfl) (nI_pos (by omega)) (nI_clamp (by omega)) (jj_by hN (by decide : componentBytes .int ≤ 8)) (by rw [C.room]; exact hk) (by rw [C.room]; exact hn) d (fun q cA H1 hK2 hP hD hS => ?_)
  have e := jj_tyI 0 rfl (by intro C h; cases h) C.K hK2
  subst e
  refine kk q H1 locs ls ?_ hl
  rw [rw_.1]
  exact ⟨hP, hD, hS⟩
theorem j_newarrJ (C : jj_C X cc own Ts R mL ret) (rw_ : jj_RW X) {rest : List Value} {N : Nat} {x : Int32} (hx : x = nI N) (hN : N < 60000) (h1 : Cond.arrayClass .long ∈ Ts) (hk : k + 1 ≤ R.cells) (hn : n + N ≤ R.slots) (d : decode cc pc = .ok (.newarray .long, 2)) (kk : ∀ q : Nat, jj X (k + 1) (n + N) (pc + 2) lv (.ref q :: rest) (w ++ [(q, cJ (xT X) N (fun _ => 0))])) : jj X k n pc lv (.int x :: rest) w := by
  subst hx
  intro H locs ls hI hl
  have hI2 := hI
  rw [rw_.1] at hI2
  refine va_newa (D := (xT X).1) (atype := .long) (ty := .long) (a0 := (N, .inr (.inl (fun _ => 0)))) C.exec C.cod (C.ts _ h1) rfl C.K (C.P hI) hI2.2.1 hI2.2.2 rw_.2 (fun cA => rfl) (nI_pos (by omega)) (nI_clamp (by omega)) (jj_by hN (by decide : componentBytes .long ≤ 8)) (by rw [C.room]; exact hk) (by rw [C.room]; exact hn) d (fun q cA H1 hK2 hP hD hS => ?_)
  have e := jj_tyI 1 rfl (by intro C h; cases h) C.K hK2
  subst e
  refine kk q H1 locs ls ?_ hl
  rw [rw_.1]
  exact ⟨hP, hD, hS⟩
theorem j_newarrZ (C : jj_C X cc own Ts R mL ret) (rw_ : jj_RW X) {rest : List Value} {N : Nat} {x : Int32} (hx : x = nI N) (hN : N < 60000) (h1 : Cond.arrayClass .boolean ∈ Ts) (hk : k + 1 ≤ R.cells) (hn : n + N ≤ R.slots) (d : decode cc pc = .ok (.newarray .boolean, 2)) (kk : ∀ q : Nat, jj X (k + 1) (n + N) (pc + 2) lv (.ref q :: rest) (w ++ [(q, cZ (xT X) N (fun _ => 0))])) : jj X k n pc lv (.int x :: rest) w := by
  subst hx
  intro H locs ls hI hl
  have hI2 := hI
  rw [rw_.1] at hI2
  refine va_newa (D := (xT X).1) (atype := .boolean) (ty := .boolean) (a0 := (N, .inl (fun _ => 0))) C.exec C.cod (C.ts _ h1) rfl C.K (C.P hI) hI2.2.1 hI2.2.2 rw_.2 (fun cA => rfl) (nI_pos (by omega)) (nI_clamp (by omega)) (jj_by hN (by decide : componentBytes .boolean ≤ 8)) (by rw [C.room]; exact hk) (by rw [C.room]; exact hn) d (fun q cA H1 hK2 hP hD hS => ?_)
  have e := jj_tyI 2 rfl (by intro C h; cases h) C.K hK2
  subst e
  refine kk q H1 locs ls ?_ hl
  rw [rw_.1]
  exact ⟨hP, hD, hS⟩
theorem j_newarrD (C : jj_C X cc own Ts R mL ret) (rw_ : jj_RW X) {rest : List Value} {N : Nat} {x : Int32} (hx : x = nI N) (hN : N < 60000) (h1 : Cond.arrayClass .double ∈ Ts) (hk : k + 1 ≤ R.cells) (hn : n + N ≤ R.slots) (d : decode cc pc = .ok (.newarray .double, 2)) (kk : ∀ q : Nat, jj X (k + 1) (n + N) (pc + 2) lv (.ref q :: rest) (w ++ [(q, cD (xT X) N (fun _ => 0))])) : jj X k n pc lv (.int x :: rest) w := by
  subst hx
  intro H locs ls hI hl
  have hI2 := hI
  rw [rw_.1] at hI2
  refine va_newa (D := (xT X).1) (atype := .double) (ty := .double) (a0 := (N, .inr (.inr (.inr (.inl (fun _ => 0)))))) C.exec C.cod (C.ts _ h1) rfl C.K (C.P hI) hI2.2.1 hI2.2.2 rw_.2 (fun cA => rfl) (nI_pos (by omega)) (nI_clamp (by omega)) (jj_by hN (by decide : componentBytes .double ≤ 8)) (by rw [C.room]; exact hk) (by rw [C.room]; exact hn) d (fun q cA H1 hK2 hP hD hS => ?_)
  have e := jj_tyI 4 rfl (by intro C h; cases h) C.K hK2
  subst e
  refine kk q H1 locs ls ?_ hl
  rw [rw_.1]
  exact ⟨hP, hD, hS⟩
theorem j_newarrS (C : jj_C X cc own Ts R mL ret) (rw_ : jj_RW X) {rest : List Value} {N idx : Nat} {x : Int32} (hx : x = nI N) (hN : N < 60000) (h1 : Cond.classLink own idx RX6 ∈ Ts) (hk : k + 1 ≤ R.cells) (hn : n + N ≤ R.slots) (d : decode cc pc = .ok (.anewarray idx, 3)) (kk : ∀ q : Nat, jj X (k + 1) (n + N) (pc + 3) lv (.ref q :: rest) (w ++ [(q, cS (xT X) N (fun _ => none))])) : jj X k n pc lv (.int x :: rest) w := by
  subst hx
  intro H locs ls hI hl
  have hI2 := hI
  rw [rw_.1] at hI2
  refine va_newq (D := (xT X).1) C.exec C.cod C.ow (C.ts _ h1) C.KK.2.1 C.K (C.P hI) hI2.2.1 hI2.2.2 rw_.2 (nI_pos (by omega)) (nI_clamp (by omega)) (by omega) (by rw [C.room]; exact hk) (by rw [C.room]; exact hn) d (fun q cA H1 hK2 hP hD hS => ?_)
  have e : cA = (xT X).2.2.2.2.1 := by
    obtain ⟨kA, comp, -, -, -, h4⟩ := (C.K.2 3 ((xT X).2.2.2.2.1, .object RX6) rfl).2
    obtain ⟨kA', comp', -, -, -, h4'⟩ := (hK2.2 5 (cA, .object RX6) rfl).2
    exact Option.some.inj (h4'.symm.trans h4)
  subst e
  refine kk q H1 locs ls ?_ hl
  rw [rw_.1]
  exact ⟨hP, hD, hS⟩
theorem j_alen (C : jj_C X cc own Ts R mL ret) {rest : List Value} {a : Nat} {e : vp_A} {cA : ClassId} {ty : FieldType} (q t0 : Nat) (hw : w[q]? = some (a, .inl (cA, e))) (ht : (jj_tys (xT X))[t0]? = some (cA, ty)) {v : Int32} (hv : Int32.ofNat e.1 = v) (d : decode cc pc = .ok (.arraylength, 1)) (kk : jj X k n (pc + 1) lv (.int v :: rest) w) : jj X k n pc lv (.ref a :: rest) w :=
  fun H locs ls hI hl => va_alen (D := (xT X).1) C.exec C.cod C.K (C.P hI) q t0 hw ht hv d (kk H locs ls hI hl)
theorem j_alenI (C : jj_C X cc own Ts R mL ret) {rest : List Value} {a N : Nat} {f : Nat → Int32} (q : Nat) (hw : w[q]? = some (a, cI (xT X) N f)) (d : decode cc pc = .ok (.arraylength, 1)) (kk : jj X k n (pc + 1) lv (.int (nI N) :: rest) w) : jj X k n pc lv (.ref a :: rest) w := j_alen C q 0 hw rfl rfl d kk
theorem j_alenZ (C : jj_C X cc own Ts R mL ret) {rest : List Value} {a N : Nat} {f : Nat → Int32} (q : Nat) (hw : w[q]? = some (a, cZ (xT X) N f)) (d : decode cc pc = .ok (.arraylength, 1)) (kk : jj X k n (pc + 1) lv (.int (nI N) :: rest) w) : jj X k n pc lv (.ref a :: rest) w := j_alen C q 2 hw rfl rfl d kk
theorem j_alenJ (C : jj_C X cc own Ts R mL ret) {rest : List Value} {a N : Nat} {f : Nat → Int64} (q : Nat) (hw : w[q]? = some (a, cJ (xT X) N f)) (d : decode cc pc = .ok (.arraylength, 1)) (kk : jj X k n (pc + 1) lv (.int (nI N) :: rest) w) : jj X k n pc lv (.ref a :: rest) w := j_alen C q 1 hw rfl rfl d kk
theorem j_alenS (C : jj_C X cc own Ts R mL ret) {rest : List Value} {a N : Nat} {f : Nat → Option Nat} (q : Nat) (hw : w[q]? = some (a, cS (xT X) N f)) (d : decode cc pc = .ok (.arraylength, 1)) (kk : jj X k n (pc + 1) lv (.int (nI N) :: rest) w) : jj X k n pc lv (.ref a :: rest) w := j_alen C q 3 hw rfl rfl d kk
theorem j_obj (C : jj_C X cc own Ts R mL ret) {rest : List Value} {idx a : Nat} (h1 : Cond.methodLink own idx objectInit ∈ Ts) (h2 : Cond.instanceMethod objectInit ∈ Ts) (h3 : Cond.code objectInit ⟨#[0xb1]⟩ 1 none ∈ Ts) (hf : 1 ≤ R.frames) (hlo : (rest.map fun v => v.category).sum + 12 ≤ R.locals) (d : decode cc pc = .ok (.invokespecial idx, 3)) (kk : jj X k n (pc + 3) lv rest w) : jj X k n pc lv (.ref a :: rest) w := by
  intro H locs ls hI hl
  refine W.objInit C.exec C.cod C.ow (C.ts _ h1) (C.ts _ h2) (C.ts _ h3) (g := F0 (xm X) pc ls (.ref a :: rest)) rfl ?_ rfl d ?_ ?_ ?_
  · show ls.size = _
    rw [C.nl, ← C.nx]; exact hl.1
  · rw [C.room]; exact hf
  · rw [C.room]
    show 2 * (F0 (xm X) pc ls (.ref a :: rest)).monitorRoom + (rest.map fun v => v.category).sum + 12 ≤ R.locals
    have : (F0 (xm X) pc ls (.ref a :: rest)).monitorRoom = 0 := rfl
    omega
  · exact kk H locs ls hI hl
theorem j_copyI (C : jj_C X cc own Ts R mL ret) (rw_ : jj_RW X) {rest : List Value} {idx a b N : Nat} {f g : Nat → Int32} (h1 : Cond.methodLink own idx arraycopyName ∈ Ts) (h2 : Cond.native arraycopyName ∈ Ts) (h3 : Cond.static arraycopyName ∈ Ts) (h4 : Cond.initialized "java/lang/System" ∈ Ts) (hN : N < 2 ^ 31) (q0 q1 : Nat) (hw0 : w[q0]? = some (a, cI (xT X) N f)) (hw1 : w[q1]? = some (b, cI (xT X) N g)) (hf : 1 ≤ R.frames) (hlo : (rest.map fun v => v.category).sum + (nativeFrameWords "java/lang/System" "arraycopy" 5 + 11) ≤ R.locals) {w' : va_W} (hw' : w.set q1 (b, cI (xT X) N f) = w') (d : decode cc pc = .ok (.invokestatic idx, 3)) (kk : jj X k n (pc + 3) lv rest w') : jj X k n pc lv (.int (nI N) :: .int (nI 0) :: .ref b :: .int (nI 0) :: .ref a :: rest) w := by
  subst hw'
  intro H locs ls hI hl
  have hI2 := hI
  rw [rw_.1] at hI2
  have z0 : (nI 0).toNatClampNeg = 0 := nI_clamp (by decide)
  have zN : (nI N).toNatClampNeg = N := nI_clamp hN
  refine va_copyi (D := (xT X).1) C.exec C.cod (by rw [C.nl, ← C.nx]; exact hl.1.symm) C.ow (C.ts _ h1) (C.ts _ h2) (C.ts _ h3) (C.ts _ h4) C.K (C.P hI) hI2.2.1 hI2.2.2 q0 q1 0 0 hw0 hw1 rfl rfl rfl (nI_pos (by decide)) (nI_pos (by decide)) (nI_pos hN) (by rw [z0, zN]; omega) (by rw [z0, zN]; omega) (fun i _ => rfl) (by rw [C.room]; exact hf) (by rw [C.room]; exact hlo) d (fun H1 locs1 hP hD hS => ?_)
  have hI1 : xI X (w.set q1 (b, .inl ((xT X).2.1, N, .inl (va_cpy f g (nI 0).toNatClampNeg (nI 0).toNatClampNeg (nI N).toNatClampNeg)))) H1 locs1 := by
    rw [rw_.1]; exact ⟨hP, hD, hS⟩
  have hlt := (List.getElem?_eq_some_iff.mp hw1).1
  refine j_extI C (f := va_cpy f g (nI 0).toNatClampNeg (nI 0).toNatClampNeg (nI N).toNatClampNeg) f q1 (a := b) (N := N) (List.getElem?_set_self hlt) (fun j hj => ?_) (by rw [List.set_set]) kk H1 locs1 ls hI1 hl
  rw [z0, zN, pk_cpy_in (Nat.zero_le j) (by omega)]
  congr 1
  omega
end JJ
