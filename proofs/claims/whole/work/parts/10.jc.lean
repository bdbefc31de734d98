/-! CONTRACTS over the walking layer: jR (writes nothing), jM (writes its cells, may make new ones); entries, returns, calls. -/
def jR (l : Launch) (T : jj_T) (y : MethodName) (ws : List Cond) (rm : Room) (av : List Value) (wc : va_W) (post : Option Value → Prop) : Prop :=
  Met l y ws rm (va_Pc av (fun U => va_P T.1 vwCl wc U.heap ∧ jj_K T U ∧ va_D (fun _ => True) wc)) (fun _ st o t => ∃ v, o = .returned v ∧ post v ∧ t.heap = st.heap) 0 0 (fun _ => False)
def jM_Q (T : jj_T) (A : Nat → Prop) (post : Option Value → va_W → Prop) : Array Value → State → Outcome → State → Prop := fun _ st o t => (∃ v w1, o = .returned v ∧ post v w1 ∧ va_P T.1 vwCl w1 t.heap ∧ va_D A w1) ∧ va_F A st t
def jM (l : Launch) (T : jj_T) (y : MethodName) (ws : List Cond) (rm : Room) (av : List Value) (wc : va_W) (post : Option Value → va_W → Prop) : Prop :=
  ∀ sz : Nat, Met l y ws rm (va_Pc av (fun U => U.heap.size = sz ∧ va_P T.1 vwCl wc U.heap ∧ jj_K T U ∧ va_D (fun _ => True) wc)) (jM_Q T (va_A wc sz) post) rm.cells rm.slots (va_A wc sz)
def jj_QR (X : jj_X) (post : Option Value → Prop) : Prop := xQ X = MQ (xb X) (fun _ st o t => ∃ v, o = .returned v ∧ post v ∧ t.heap = st.heap) (xa X) (xs X) 0 0 (fun _ => False)
def jj_QM (X : jj_X) (post : Option Value → va_W → Prop) (mc ms : Nat) : Prop := xQ X = MQ (xb X) (jM_Q (xT X) (xA X) post) (xa X) (xs X) mc ms (xA X)
theorem jj_K.calling {T : jj_T} {U : State} {g : JFrame} {mk : MethodId} {a : Array Value} (h : jj_K T U) : jj_K T (U.calling g mk a) := jj_K.same rfl h
section JE
variable {l : Launch} {T : jj_T} {y : MethodName} {ws ws' : List Cond} {rm : Room} {av : List Value} {wc : va_W} {cc : ByteArray} {maxL : Nat} {ret : Option FieldType}
theorem jR.of {post : Option Value → Prop} (hy : plainName y.cls = true) (hw : ws = Cond.code y cc maxL ret :: ws') (hfit : (lg_sl av).length ≤ maxL)
    (body : ∀ X : jj_X, jj_C X cc y.cls ws rm maxL ret → jj_RO X → xl X = l → xT X = T → jj_QR X post → jj X 0 0 0 (lv_args 0 av) [] wc) : jR l T y ws rm av wc post := by
  refine Met.ofW (cc := cc) (maxL := maxL) (ret := ret) hy hw ?_
  intro p e s m args below meth c s₁ B hml hv
  obtain ⟨rfl, hP, hK, hD⟩ := hv
  have h := body (p, l, e, rm, s, m, av.toArray, below, meth, c, MQ below (fun _ st o t => ∃ v, o = .returned v ∧ post v ∧ t.heap = st.heap) av.toArray s 0 0 (fun _ => False), maxL, T, (fun w H locs => va_P T.1 vwCl w H ∧ va_D (fun _ => True) w ∧ H = s.heap ∧ locs = []), (fun _ => False))
    ⟨B.exec, B.bytes, hml, rfl, findClass_of_methodNamed B.named, atoms_spec (ws := ws) B.pre, hK, B.returns, B.notSynchronized, rfl, fun w H locs h => h.1, fun w w' H locs is hn hs h => ⟨fun k q hq => ?_, h.2.1.sub is hn hs, h.2.2⟩, fun w H locs h => h.2.1, fun w w' H locs h h2 h3 => ⟨h2, va_D_fst h.2.1 h3, h.2.2⟩, fun w w' H locs hp h => ⟨va_P_pm h.1 hp, va_D_pm h.2.1 hp, h.2.2⟩⟩ rfl rfl rfl rfl
  · rw [lg_entry_eq]
    exact h s.heap [] _ ⟨hP, hD, rfl, rfl⟩ (lv_entry av hfit)
  · have h1 : (is.map (fun i => w[i]?))[k]? = some (some q) := by rw [hs, List.getElem?_map, hq]; rfl
    rw [List.getElem?_map] at h1
    cases hi : is[k]? with
    | none => rw [hi] at h1; cases h1
    | some i => rw [hi] at h1; exact h.1 i q (Option.some.inj h1)
theorem jM.of {post : Option Value → va_W → Prop} (hy : plainName y.cls = true) (hw : ws = Cond.code y cc maxL ret :: ws') (hfit : (lg_sl av).length ≤ maxL)
    (body : ∀ X : jj_X, jj_C X cc y.cls ws rm maxL ret → jj_RW X → xl X = l → xT X = T → jj_QM X post rm.cells rm.slots → (xh X).name = y.name → jj X 0 0 0 (lv_args 0 av) [] wc) : jM l T y ws rm av wc post := by
  intro sz
  refine Met.ofW (cc := cc) (maxL := maxL) (ret := ret) hy hw ?_
  intro p e s m args below meth c s₁ B hml hv
  obtain ⟨rfl, hsz, hP, hK, hD⟩ := hv
  subst hsz
  have h := body (p, l, e, rm, s, m, av.toArray, below, meth, c, MQ below (jM_Q T (va_A wc s.heap.size) post) av.toArray s rm.cells rm.slots (va_A wc s.heap.size), maxL, T, (fun w H locs => va_P T.1 vwCl w H ∧ va_D (va_A wc s.heap.size) w ∧ va_S (va_A wc s.heap.size) s.heap H locs), va_A wc s.heap.size)
    ⟨B.exec, B.bytes, hml, rfl, findClass_of_methodNamed B.named, atoms_spec (ws := ws) B.pre, hK, B.returns, B.notSynchronized, rfl, fun w H locs h => h.1, fun w w' H locs is hn hs h => ⟨fun k q hq => ?_, h.2.1.sub is hn hs, h.2.2⟩, fun w H locs h => h.2.1.weaken (fun _ _ _ _ => trivial), fun w w' H locs h h2 h3 => ⟨h2, va_D_fst h.2.1 h3, h.2.2⟩, fun w w' H locs hp h => ⟨va_P_pm h.1 hp, va_D_pm h.2.1 hp, h.2.2⟩⟩ ⟨rfl, fun q h => Or.inr h⟩ rfl rfl rfl (name_of_methodNamed B.named B.method).1
  · rw [lg_entry_eq]
    exact h s.heap [] _ ⟨hP, hD.self, va_S.rf⟩ (lv_entry av hfit)
  · have h1 : (is.map (fun i => w[i]?))[k]? = some (some q) := by rw [hs, List.getElem?_map, hq]; rfl
    rw [List.getElem?_map] at h1
    cases hi : is[k]? with
    | none => rw [hi] at h1; cases h1
    | some i => rw [hi] at h1; exact h.1 i q (Option.some.inj h1)
end JE
section JR
variable {X : jj_X} {cc : ByteArray} {own : String} {Ts : List Cond} {R : Room} {mL : Nat} {ret : Option FieldType} {k n pc : Nat} {lv : List (Nat × Value)} {w : va_W}
theorem j_iretR {post : Option Value → Prop} {rt : FieldType} (C : jj_C X cc own Ts R mL (some rt)) (ro : jj_RO X) (hQ : jj_QR X post) {v : Int32} (hn : narrow rt (.int v) = .int v) (hp : post (some (.int v))) (d : decode cc pc = .ok (.ireturn, 1)) : jj X 0 0 pc lv [.int v] w := by
  intro H locs ls hI hl
  rw [ro] at hI
  rw [show xQ X = _ from hQ]
  exact W.zret C.exec C.cod C.rt hn (fun t ht _ => ⟨_, rfl, hp, ht.trans hI.2.2.1⟩) (by rw [hI.2.2.2]; exact fun _ h => by cases h) d C.locks
theorem j_lretR {post : Option Value → Prop} (C : jj_C X cc own Ts R mL (some .long)) (ro : jj_RO X) (hQ : jj_QR X post) {v : Int64} (hp : post (some (.long v))) (d : decode cc pc = .ok (.lreturn, 1)) : jj X 0 0 pc lv [.long v] w := by
  intro H locs ls hI hl
  rw [ro] at hI
  rw [show xQ X = _ from hQ]
  exact W.lret C.exec C.cod C.rt (fun t ht _ => ⟨_, rfl, hp, ht.trans hI.2.2.1⟩) (by rw [hI.2.2.2]; exact fun _ h => by cases h) d C.locks
theorem j_dretR {post : Option Value → Prop} (C : jj_C X cc own Ts R mL (some .double)) (ro : jj_RO X) (hQ : jj_QR X post) {v : UInt64} (hp : post (some (.double v))) (d : decode cc pc = .ok (.dreturn, 1)) : jj X 0 0 pc lv [.double v] w := by
  intro H locs ls hI hl
  have hlk := C.locks
  rw [ro] at hI
  rw [show xQ X = _ from hQ]
  exact W.dret C.exec C.cod C.rt (fun t ht _ => ⟨_, rfl, hp, ht.trans hI.2.2.1⟩) (by rw [hI.2.2.2]; exact fun _ h => by cases h) d hlk
theorem j_vretR {post : Option Value → Prop} (C : jj_C X cc own Ts R mL none) (ro : jj_RO X) (hQ : jj_QR X post) (hp : post none) (d : decode cc pc = .ok (.return_, 1)) : jj X 0 0 pc lv [] w := by
  intro H locs ls hI hl
  rw [ro] at hI
  rw [show xQ X = _ from hQ]
  exact W.vret C.exec C.cod C.rt (fun t ht _ => ⟨_, rfl, hp, ht.trans hI.2.2.1⟩) (by rw [hI.2.2.2]; exact fun _ h => by cases h) d C.locks
theorem j_iretM {post : Option Value → va_W → Prop} {mc ms : Nat} {rt : FieldType} (C : jj_C X cc own Ts R mL (some rt)) (rw_ : jj_RW X) (hQ : jj_QM X post mc ms) (hk : k ≤ mc) (hm : n ≤ ms) {v : Int32} (hn : narrow rt (.int v) = .int v) (hp : post (some (.int v)) w) (d : decode cc pc = .ok (.ireturn, 1)) : jj X k n pc lv [.int v] w := by
  refine j_widen hk hm ?_
  intro H locs ls hI hl
  rw [rw_.1] at hI
  rw [show xQ X = _ from hQ]
  exact W.zret C.exec C.cod C.rt hn (fun t ht _ => ⟨⟨_, _, rfl, hp, by rw [ht]; exact hI.1, hI.2.1⟩, hI.2.2.F ht⟩) hI.2.2.2.2 d C.locks
theorem j_vretM {post : Option Value → va_W → Prop} {mc ms : Nat} (C : jj_C X cc own Ts R mL none) (rw_ : jj_RW X) (hQ : jj_QM X post mc ms) (hk : k ≤ mc) (hm : n ≤ ms) (hp : post none w) (d : decode cc pc = .ok (.return_, 1)) : jj X k n pc lv [] w := by
  refine j_widen hk hm ?_
  intro H locs ls hI hl
  rw [rw_.1] at hI
  rw [show xQ X = _ from hQ]
  exact W.vret C.exec C.cod C.rt (fun t ht _ => ⟨⟨_, _, rfl, hp, by rw [ht]; exact hI.1, hI.2.1⟩, hI.2.2.F ht⟩) hI.2.2.2.2 d C.locks
theorem j_aretM {post : Option Value → va_W → Prop} {mc ms : Nat} {rt : FieldType} (C : jj_C X cc own Ts R mL (some rt)) (hrt : (∃ n, rt = .object n) ∨ ∃ t, rt = .array t) (rw_ : jj_RW X) (hQ : jj_QM X post mc ms) (hk : k ≤ mc) (hm : n ≤ ms) {v : Value} (hv : v = .null ∨ ∃ a, v = .ref a) (hp : post (some v) w) (d : decode cc pc = .ok (.areturn, 1)) : jj X k n pc lv [v] w := by
  refine j_widen hk hm ?_
  intro H locs ls hI hl
  rw [rw_.1] at hI
  rw [show xQ X = _ from hQ]
  exact W.aret C.exec C.cod C.rt hrt hv (fun t ht _ => ⟨⟨_, _, rfl, hp, by rw [ht]; exact hI.1, hI.2.1⟩, hI.2.2.F ht⟩) hI.2.2.2.2 d C.locks
/-- behind a call that writes -/
theorem j_afterM (C : jj_C X cc own Ts R mL ret) (rw_ : jj_RW X) {post : Option Value → va_W → Prop} {st rest : List Value} {wc wr : va_W} {mc ms : Nat} (isC isR : List Nat) (hC : isC.map (fun i => w[i]?) = wc.map some) (hR : isR.map (fun i => w[i]?) = wr.map some) (hnR : va_nd isR = true) (hdis : ∀ i ∈ isR, i ∉ isC)
    (run : ∀ (H : Heap) (locs : List Loc) (ls : Array Slot), xI X w H locs → lv_has ls (xn X) lv → va_Run (xp X) (xl X) (xe X) (xR X) (xs X) (xm X) (xa X) (xb X) (xh X) (xc X) H locs k n mc ms (F0 (xm X) pc ls st) rest (jM_Q (xT X) (va_A wc H.size) post #[]) (va_A wc H.size))
    (kk : ∀ v w1, post v w1 → jj X (k + mc) (n + ms) (pc + 3) lv (v.toList ++ rest) (wr ++ w1)) : jj X k n pc lv st w := by
  intro H locs ls hI hl T hT Xs
  obtain ⟨v, st0, t, T', L, h0, X', hL, e1, e2, ⟨⟨v', w1, hv, hp, hP1, hD1⟩, hF⟩, go⟩ := run H locs ls hI hl T hT Xs
  cases hv
  rw [rw_.1] at hI
  obtain ⟨hP, hD, hS⟩ := hI
  have hFc := va_free hD hS rw_.2 isC hC
  have hF1 : H.size ≤ t.heap.size := by rw [← h0]; exact hF.1
  have hF2 : ∀ q : Nat, q < H.size → ¬ va_A wc H.size q → t.heap[q]? = H[q]? := fun q h1 h2 => (hF.2 q (by rw [h0]; exact h1) h2).trans (by rw [h0])
  obtain ⟨hP', hD'⟩ := va_join hP hD isC isR hC hR hnR hdis hF2 hFc hP1 hD1
  have hI' : xI X (wr ++ w1) t.heap (locs ++ L) := by
    rw [rw_.1]
    refine ⟨hP', hD', Nat.le_trans hS.1 hF1, fun q h1 h2 => (hF2 q (Nat.lt_of_lt_of_le h1 hS.1) (fun h => h2 (hFc q h))).trans (hS.2.1 q h1 h2), fun z hz => ?_⟩
    rcases List.mem_append.mp hz with h | h
    · exact hS.2.2 z h
    · exact hFc z.base (hL z h)
  obtain ⟨tt, a1, b1⟩ := kk v w1 hp t.heap (locs ++ L) ls hI' hl T' e1 X'
  exact ⟨tt, go tt a1, b1⟩
/-- behind a call that writes nothing -/
theorem j_afterR {post : Option Value → Prop} {st rest : List Value}
    (run : ∀ (H : Heap) (locs : List Loc) (ls : Array Slot), xI X w H locs → lv_has ls (xn X) lv → va_Run (xp X) (xl X) (xe X) (xR X) (xs X) (xm X) (xa X) (xb X) (xh X) (xc X) H locs k n 0 0 (F0 (xm X) pc ls st) rest (fun st o t => ∃ v, o = .returned v ∧ post v ∧ t.heap = st.heap) (fun _ => False))
    (kk : ∀ v, post v → jj X k n (pc + 3) lv (v.toList ++ rest) w) : jj X k n pc lv st w := by
  intro H locs ls hI hl T hT Xs
  obtain ⟨v, st0, t, T', L, h0, X', hL, e1, e2, ⟨v', hv, hp, hF⟩, go⟩ := run H locs ls hI hl T hT Xs
  cases hv
  have hLn : L = [] := by
    cases L with
    | nil => rfl
    | cons a b => exact absurd (hL a List.mem_cons_self) (fun h => h)
  subst hLn
  rw [List.append_nil] at X'
  obtain ⟨tt, a1, b1⟩ := kk v hp H locs ls hI hl T' (e1.trans (hF.trans h0)) X'
  exact ⟨tt, go tt a1, b1⟩
end JR
theorem jj_blindR {T : jj_T} {av : List Value} {wc : va_W} : FrameBlind (va_Pc av (fun U => va_P T.1 vwCl wc U.heap ∧ jj_K T U ∧ va_D (fun _ => True) wc)) := fun a U g mk h => ⟨h.1, h.2.1, jj_K.calling h.2.2.1, h.2.2.2⟩
theorem jj_blindM {T : jj_T} {av : List Value} {wc : va_W} {sz : Nat} : FrameBlind (va_Pc av (fun U => U.heap.size = sz ∧ va_P T.1 vwCl wc U.heap ∧ jj_K T U ∧ va_D (fun _ => True) wc)) := fun a U g mk h => ⟨h.1, h.2.1, h.2.2.1, jj_K.calling h.2.2.2.1, h.2.2.2.2⟩
section JCALL
variable {X : jj_X} {cc : ByteArray} {own : String} {Ts : List Cond} {R : Room} {mL : Nat} {ret : Option FieldType} {k n pc : Nat} {lv : List (Nat × Value)} {w : va_W}
variable {y : MethodName} {ws ws' : List Cond} {rm : Room} {As : List Value} {b : Addr} {wc wr : va_W} {Cn : String} {idx maxL ci N0 nA : Nat} {bytes : ByteArray} {rt : Option FieldType} {T0 : u_T} {fs st rest : List Value}
theorem j_callVR (C : jj_C X cc own Ts R mL ret) {post : Option Value → Prop} (M : jR (xl X) (xT X) y ws rm (.ref b :: As) wc post) (hG : GoodIn Ts (wsV own idx Cn y ws)) (hw : ws = Cond.code y bytes maxL rt :: ws') (hd : y.cls = Cn ∧ y.cls ≠ "java/lang/invoke/MethodHandle" ∧ y.cls ≠ "java/lang/invoke/VarHandle" ∧ (parseMethodDescriptor y.desc).map (fun d => d.parameters.length) = some nA) (hnA : As.length = nA) (hz : rm.cells = 0 ∧ rm.slots = 0) (hR : rm.frames + 1 ≤ R.frames ∧ 8 + (maxL + 11) + rm.locals ≤ R.locals) (hcs : k ≤ R.cells ∧ n ≤ R.slots)
    (isC : List Nat) (hC : isC.map (fun i => w[i]?) = wc.map some) (hnC : va_nd isC = true) (q0 : Nat) (hq0 : w[q0]? = some (b, cO ci fs)) (hci : vwCl[ci]? = some (Cn, T0, N0)) (hst : st = As.reverse ++ .ref b :: rest) (hcat : (rest.map fun v => v.category).sum ≤ 8) (d : decode cc pc = .ok (.invokevirtual idx, 3))
    (kk : ∀ v, post v → jj X k n (pc + 3) lv (v.toList ++ rest) w) : jj X k n pc lv st w := by
  refine j_afterR (post := post) (rest := rest) (fun H locs ls hI hl => ?_) kk
  have hIc := C.sub isC hnC hC hI
  exact va_runV (As := As) ⟨C.exec, C.cod, C.nl, C.ow, C.ts⟩ M (cwV nA C.ts hG hw hz.1 hz.2 hd (by rw [C.room]; exact hR)) ⟨jj_blindR, va_recv (D := (xT X).1) C.K (C.P hI) hci hq0, fun U hU hW => ⟨rfl, by rw [hU]; exact C.P hIc, C.KK.warm hW, C.D hIc⟩⟩ rfl hnA (by rw [← C.nx]; exact hl.1) hst (lv_room hcat) d (by rw [C.room]; exact hcs)
theorem j_callVM (C : jj_C X cc own Ts R mL ret) (rw_ : jj_RW X) {post : Option Value → va_W → Prop} (M : jM (xl X) (xT X) y ws rm (.ref b :: As) wc post) (hG : GoodIn Ts (wsV own idx Cn y ws)) (hw : ws = Cond.code y bytes maxL rt :: ws') (hd : y.cls = Cn ∧ y.cls ≠ "java/lang/invoke/MethodHandle" ∧ y.cls ≠ "java/lang/invoke/VarHandle" ∧ (parseMethodDescriptor y.desc).map (fun d => d.parameters.length) = some nA) (hnA : As.length = nA) (hR : rm.frames + 1 ≤ R.frames ∧ 8 + (maxL + 11) + rm.locals ≤ R.locals) (hcs : k + rm.cells ≤ R.cells ∧ n + rm.slots ≤ R.slots)
    (isC isR : List Nat) (hC : isC.map (fun i => w[i]?) = wc.map some) (hnC : va_nd isC = true) (hRr : isR.map (fun i => w[i]?) = wr.map some) (hnR : va_nd isR = true) (hdis : ∀ i ∈ isR, i ∉ isC) (q0 : Nat) (hq0 : w[q0]? = some (b, cO ci fs)) (hci : vwCl[ci]? = some (Cn, T0, N0)) (hst : st = As.reverse ++ .ref b :: rest) (hcat : (rest.map fun v => v.category).sum ≤ 8) (d : decode cc pc = .ok (.invokevirtual idx, 3))
    (kk : ∀ v w1, post v w1 → jj X (k + rm.cells) (n + rm.slots) (pc + 3) lv (v.toList ++ rest) (wr ++ w1)) : jj X k n pc lv st w := by
  refine j_afterM C rw_ (post := post) (rest := rest) isC isR hC hRr hnR hdis (fun H locs ls hI hl => ?_) kk
  have hIc := C.sub isC hnC hC hI
  exact va_runV (As := As) ⟨C.exec, C.cod, C.nl, C.ow, C.ts⟩ (M H.size) (cwV nA C.ts hG hw rfl rfl hd (by rw [C.room]; exact hR)) ⟨jj_blindM, va_recv (D := (xT X).1) C.K (C.P hI) hci hq0, fun U hU hW => ⟨rfl, by rw [hU], by rw [hU]; exact C.P hIc, C.KK.warm hW, C.D hIc⟩⟩ rfl hnA (by rw [← C.nx]; exact hl.1) hst (lv_room hcat) d (by rw [C.room]; exact hcs)
theorem j_callSR (C : jj_C X cc own Ts R mL ret) {post : Option Value → Prop} (M : jR (xl X) (xT X) y ws rm As wc post) (hG : GoodIn Ts (va_wsS own idx y ws)) (hw : ws = Cond.code y bytes maxL rt :: ws') (hd : y.cls ≠ "java/lang/invoke/MethodHandle" ∧ y.cls ≠ "java/lang/invoke/VarHandle" ∧ (parseMethodDescriptor y.desc).map (fun d => d.parameters.length) = some nA) (hnA : As.length = nA) (hz : rm.cells = 0 ∧ rm.slots = 0) (hR : rm.frames + 1 ≤ R.frames ∧ 8 + (maxL + 11) + rm.locals ≤ R.locals) (hcs : k ≤ R.cells ∧ n ≤ R.slots)
    (isC : List Nat) (hC : isC.map (fun i => w[i]?) = wc.map some) (hnC : va_nd isC = true) (hst : st = As.reverse ++ rest) (hcat : (rest.map fun v => v.category).sum ≤ 8) (d : decode cc pc = .ok (.invokestatic idx, 3))
    (kk : ∀ v, post v → jj X k n (pc + 3) lv (v.toList ++ rest) w) : jj X k n pc lv st w := by
  refine j_afterR (post := post) (rest := rest) (fun H locs ls hI hl => ?_) kk
  have hIc := C.sub isC hnC hC hI
  exact va_runS (As := As) ⟨C.exec, C.cod, C.nl, C.ow, C.ts⟩ M (va_cwS nA C.ts hG hw hz.1 hz.2 hd (by rw [C.room]; exact hR)) ⟨jj_blindR, fun U hU hW => ⟨rfl, by rw [hU]; exact C.P hIc, C.KK.warm hW, C.D hIc⟩⟩ rfl hnA (by rw [← C.nx]; exact hl.1) hst (lv_room hcat) d (by rw [C.room]; exact hcs)
theorem j_callSM (C : jj_C X cc own Ts R mL ret) (rw_ : jj_RW X) {post : Option Value → va_W → Prop} (M : jM (xl X) (xT X) y ws rm As wc post) (hG : GoodIn Ts (va_wsS own idx y ws)) (hw : ws = Cond.code y bytes maxL rt :: ws') (hd : y.cls ≠ "java/lang/invoke/MethodHandle" ∧ y.cls ≠ "java/lang/invoke/VarHandle" ∧ (parseMethodDescriptor y.desc).map (fun d => d.parameters.length) = some nA) (hnA : As.length = nA) (hR : rm.frames + 1 ≤ R.frames ∧ 8 + (maxL + 11) + rm.locals ≤ R.locals) (hcs : k + rm.cells ≤ R.cells ∧ n + rm.slots ≤ R.slots)
    (isC isR : List Nat) (hC : isC.map (fun i => w[i]?) = wc.map some) (hnC : va_nd isC = true) (hRr : isR.map (fun i => w[i]?) = wr.map some) (hnR : va_nd isR = true) (hdis : ∀ i ∈ isR, i ∉ isC) (hst : st = As.reverse ++ rest) (hcat : (rest.map fun v => v.category).sum ≤ 8) (d : decode cc pc = .ok (.invokestatic idx, 3))
    (kk : ∀ v w1, post v w1 → jj X (k + rm.cells) (n + rm.slots) (pc + 3) lv (v.toList ++ rest) (wr ++ w1)) : jj X k n pc lv st w := by
  refine j_afterM C rw_ (post := post) (rest := rest) isC isR hC hRr hnR hdis (fun H locs ls hI hl => ?_) kk
  have hIc := C.sub isC hnC hC hI
  exact va_runS (As := As) ⟨C.exec, C.cod, C.nl, C.ow, C.ts⟩ (M H.size) (va_cwS nA C.ts hG hw rfl rfl hd (by rw [C.room]; exact hR)) ⟨jj_blindM, fun U hU hW => ⟨rfl, by rw [hU], by rw [hU]; exact C.P hIc, C.KK.warm hW, C.D hIc⟩⟩ rfl hnA (by rw [← C.nx]; exact hl.1) hst (lv_room hcat) d (by rw [C.room]; exact hcs)
theorem j_callIM (C : jj_C X cc own Ts R mL ret) (rw_ : jj_RW X) {post : Option Value → va_W → Prop} (M : jM (xl X) (xT X) y ws rm (.ref b :: As) wc post) (hG : GoodIn Ts ws) (hw : ws = Cond.code y bytes maxL none :: ws') (h1 : Cond.initialized y.cls ∈ Ts) (h2 : Cond.methodLink own idx y ∈ Ts) (h3 : Cond.instanceMethod y ∈ Ts) (hy1 : y.name = "<init>") (hd : y.cls ≠ "java/lang/invoke/MethodHandle" ∧ y.cls ≠ "java/lang/invoke/VarHandle" ∧ (parseMethodDescriptor y.desc).map (fun d => d.parameters.length) = some nA) (hnA : As.length = nA) (hR : rm.frames + 1 ≤ R.frames ∧ 8 + (maxL + 11) + rm.locals ≤ R.locals) (hcs : k + rm.cells ≤ R.cells ∧ n + rm.slots ≤ R.slots)
    (isC isR : List Nat) (hC : isC.map (fun i => w[i]?) = wc.map some) (hnC : va_nd isC = true) (hRr : isR.map (fun i => w[i]?) = wr.map some) (hnR : va_nd isR = true) (hdis : ∀ i ∈ isR, i ∉ isC) (hst : st = As.reverse ++ .ref b :: rest) (hcat : (rest.map fun v => v.category).sum ≤ 8) (d : decode cc pc = .ok (.invokespecial idx, 3))
    (kk : ∀ v w1, post v w1 → jj X (k + rm.cells) (n + rm.slots) (pc + 3) lv (v.toList ++ rest) (wr ++ w1)) : jj X k n pc lv st w := by
  refine j_afterM C rw_ (post := post) (rest := rest) isC isR hC hRr hnR hdis (fun H locs ls hI hl => ?_) kk
  have hIc := C.sub isC hnC hC hI
  exact va_runI (As := As) ⟨C.exec, C.cod, C.nl, C.ow, C.ts⟩ (M H.size) (cwI nA C.ts hG hw rfl rfl (C.ts _ h1) (C.ts _ h2) (C.ts _ h3) hy1 hd (by rw [C.room]; exact hR)) ⟨jj_blindM, fun U hU hW => ⟨rfl, by rw [hU], by rw [hU]; exact C.P hIc, C.KK.warm hW, C.D hIc⟩⟩ rfl hnA (by rw [← C.nx]; exact hl.1) hst (lv_room hcat) d (by rw [C.room]; exact hcs)
end JCALL
/-! which words of a throw are no good ones -/
theorem jj_ng1 : (vx_atS RX7 289 jE1 ["java/lang/RuntimeException", "java/lang/Exception"]).filter (fun w => !goodWord w) = [.declares (Bundle.initS "java/lang/RuntimeException"), .declares (Bundle.initS "java/lang/Exception"), .declares (Bundle.initS Bundle.tN), .castable jE1 jE1] := by decide +kernel
theorem jj_ng2 : (vx_atS RX7 150 jE2 ["java/lang/RuntimeException", "java/lang/Exception"]).filter (fun w => !goodWord w) = [.declares (Bundle.initS "java/lang/RuntimeException"), .declares (Bundle.initS "java/lang/Exception"), .declares (Bundle.initS Bundle.tN), .castable jE2 jE2] := by decide +kernel
theorem jj_ng3 : (vx_atS RX7 180 jE3 ["java/lang/RuntimeException", "java/lang/Exception"]).filter (fun w => !goodWord w) = [.declares (Bundle.initS "java/lang/RuntimeException"), .declares (Bundle.initS "java/lang/Exception"), .declares (Bundle.initS Bundle.tN), .castable jE3 jE3] := by decide +kernel
/-! a name for the value on top -/
theorem j_topi {X : jj_X} {k n pc : Nat} {lv : List (Nat × Value)} {w : va_W} {rest : List Value} {x : Int32} (kk : ∀ y : Int32, y = x → jj X k n pc lv (.int y :: rest) w) : jj X k n pc lv (.int x :: rest) w := kk x rfl
theorem j_topl {X : jj_X} {k n pc : Nat} {lv : List (Nat × Value)} {w : va_W} {rest : List Value} {x : Int64} (kk : ∀ y : Int64, y = x → jj X k n pc lv (.long y :: rest) w) : jj X k n pc lv (.long x :: rest) w := kk x rfl
theorem j_topd {X : jj_X} {k n pc : Nat} {lv : List (Nat × Value)} {w : va_W} {rest : List Value} {x : UInt64} (kk : ∀ y : UInt64, y = x → jj X k n pc lv (.double y :: rest) w) : jj X k n pc lv (.double x :: rest) w := kk x rfl
theorem j_ieq {X : jj_X} {k n pc : Nat} {lv : List (Nat × Value)} {w : va_W} {rest : List Value} {x : Int32} (y : Int32) (h : x = y) (kk : jj X k n pc lv (.int y :: rest) w) : jj X k n pc lv (.int x :: rest) w := h ▸ kk
theorem j_leq {X : jj_X} {k n pc : Nat} {lv : List (Nat × Value)} {w : va_W} {rest : List Value} {x : Int64} (y : Int64) (h : x = y) (kk : jj X k n pc lv (.long y :: rest) w) : jj X k n pc lv (.long x :: rest) w := h ▸ kk
