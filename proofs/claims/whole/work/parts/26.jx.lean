/-! worlds with a tail: calls by a permutation; methods that throw (jX), their calls -/
theorem pr_C (a b : va_W) : (List.range a.length).map (fun i => (a ++ b)[i]?) = a.map some := by
  apply List.ext_getElem?
  intro i
  rw [List.getElem?_map, List.getElem?_map]
  by_cases h : i < a.length
  · rw [List.getElem?_range h]
    show some ((a ++ b)[i]?) = _
    rw [List.getElem?_append_left h, List.getElem?_eq_getElem h]; rfl
  · rw [List.getElem?_eq_none (by simpa using h), List.getElem?_eq_none (by simpa using h)]; rfl
theorem pr_R (a b : va_W) : ((List.range b.length).map (· + a.length)).map (fun i => (a ++ b)[i]?) = b.map some := by
  apply List.ext_getElem?
  intro i
  rw [List.map_map, List.getElem?_map, List.getElem?_map]
  by_cases h : i < b.length
  · rw [List.getElem?_range h]
    show some ((a ++ b)[i + a.length]?) = _
    rw [List.getElem?_append_right (by omega), Nat.add_sub_cancel, List.getElem?_eq_getElem h]; rfl
  · rw [List.getElem?_eq_none (by simpa using h), List.getElem?_eq_none (by simpa using h)]; rfl
theorem pr_nd {l : List Nat} (h : l.Nodup) : va_nd l = true := by
  induction l with
  | nil => rfl
  | cons a l ih =>
    rw [List.nodup_cons] at h
    show (decide (a ∉ l) && va_nd l) = true
    rw [decide_eq_true h.1, ih h.2]; rfl
theorem pr_ndC (n : Nat) : va_nd (List.range n) = true := pr_nd List.nodup_range
theorem pr_ndR (n m : Nat) : va_nd ((List.range n).map (· + m)) = true := pr_nd (by
  refine List.pairwise_map.mpr ((List.nodup_range (n := n)).imp ?_)
  intro a b h e
  exact h (by omega))
theorem pr_dis (n m : Nat) : ∀ i ∈ (List.range n).map (· + m), i ∉ List.range m := by
  intro i hi h
  obtain ⟨j, -, rfl⟩ := List.mem_map.mp hi
  rw [List.mem_range] at h
  omega
/-- a literal list in another order, by places -/
theorem pm_lit {l l' : va_W} (is : List Nat) (hs : is.map (fun i => l[i]?) = l'.map some) (hn : is.Perm (List.range l.length)) : l.Perm l' := by
  have h1 : (is.map (fun i => l[i]?)).Perm ((List.range l.length).map (fun i => l[i]?)) := hn.map _
  have h2 := pr_C l []
  rw [List.append_nil] at h2
  rw [h2, hs] at h1
  have h3 := h1.filterMap id
  have e : ∀ x : va_W, (x.map some).filterMap id = x := fun x => by rw [List.filterMap_map]; exact List.filterMap_some
  rw [e, e] at h3
  exact h3.symm
theorem pm_tail {l a b t1 t2 : va_W} (h : l.Perm (a ++ b)) : (l ++ (t1 ++ t2)).Perm ((a ++ t1) ++ (b ++ t2)) := by
  refine (h.append_right _).trans ?_
  rw [List.append_assoc, List.append_assoc]
  refine List.Perm.append_left a ?_
  rw [← List.append_assoc, ← List.append_assoc]
  exact List.Perm.append_right t2 List.perm_append_comm
section JT
variable {X : jj_X} {cc : ByteArray} {own : String} {Ts : List Cond} {R : Room} {mL : Nat} {ret : Option FieldType} {k n pc : Nat} {lv : List (Nat × Value)} {w : va_W}
variable {y : MethodName} {ws ws' : List Cond} {rm : Room} {As : List Value} {b : Addr} {wc wr : va_W} {Cn : String} {idx maxL ci N0 nA : Nat} {bytes : ByteArray} {rt : Option FieldType} {T0 : u_T} {fs st rest : List Value}
theorem mem_place {x : Nat × va_E} {l : va_W} (h : x ∈ l) : ∃ i : Nat, l[i]? = some x := List.getElem?_of_mem h
theorem j_callVMp (C : jj_C X cc own Ts R mL ret) (rw_ : jj_RW X) {post : Option Value → va_W → Prop} (M : jM (xl X) (xT X) y ws rm (.ref b :: As) wc post) (hG : GoodIn Ts (wsV own idx Cn y ws)) (hw : ws = Cond.code y bytes maxL rt :: ws') (hd : y.cls = Cn ∧ y.cls ≠ "java/lang/invoke/MethodHandle" ∧ y.cls ≠ "java/lang/invoke/VarHandle" ∧ (parseMethodDescriptor y.desc).map (fun d => d.parameters.length) = some nA) (hnA : As.length = nA) (hR : rm.frames + 1 ≤ R.frames ∧ 8 + (maxL + 11) + rm.locals ≤ R.locals) (hcs : k + rm.cells ≤ R.cells ∧ n + rm.slots ≤ R.slots)
    (hp : w.Perm (wc ++ wr)) (hm : (b, cO ci fs) ∈ wc) (hci : vwCl[ci]? = some (Cn, T0, N0)) (hst : st = As.reverse ++ .ref b :: rest) (hcat : (rest.map fun v => v.category).sum ≤ 8) (d : decode cc pc = .ok (.invokevirtual idx, 3))
    (kk : ∀ v w1, post v w1 → jj X (k + rm.cells) (n + rm.slots) (pc + 3) lv (v.toList ++ rest) (w1 ++ wr)) : jj X k n pc lv st w := by
  refine j_permP C hp ?_
  obtain ⟨i, hi⟩ := List.getElem?_of_mem (List.mem_append_left wr hm)
  exact j_callVM C rw_ M hG hw hd hnA hR hcs (List.range wc.length) ((List.range wr.length).map (· + wc.length)) (pr_C wc wr) (pr_ndC _) (pr_R wc wr) (pr_ndR _ _) (pr_dis _ _) i hi hci hst hcat d (fun v w1 h => j_permP C List.perm_append_comm (kk v w1 h))
theorem j_callVRp (C : jj_C X cc own Ts R mL ret) {post : Option Value → Prop} (M : jR (xl X) (xT X) y ws rm (.ref b :: As) wc post) (hG : GoodIn Ts (wsV own idx Cn y ws)) (hw : ws = Cond.code y bytes maxL rt :: ws') (hd : y.cls = Cn ∧ y.cls ≠ "java/lang/invoke/MethodHandle" ∧ y.cls ≠ "java/lang/invoke/VarHandle" ∧ (parseMethodDescriptor y.desc).map (fun d => d.parameters.length) = some nA) (hnA : As.length = nA) (hz : rm.cells = 0 ∧ rm.slots = 0) (hR : rm.frames + 1 ≤ R.frames ∧ 8 + (maxL + 11) + rm.locals ≤ R.locals) (hcs : k ≤ R.cells ∧ n ≤ R.slots)
    (hp : w.Perm (wc ++ wr)) (hm : (b, cO ci fs) ∈ wc) (hci : vwCl[ci]? = some (Cn, T0, N0)) (hst : st = As.reverse ++ .ref b :: rest) (hcat : (rest.map fun v => v.category).sum ≤ 8) (d : decode cc pc = .ok (.invokevirtual idx, 3))
    (kk : ∀ v, post v → jj X k n (pc + 3) lv (v.toList ++ rest) (wc ++ wr)) : jj X k n pc lv st w := by
  refine j_permP C hp ?_
  obtain ⟨i, hi⟩ := List.getElem?_of_mem (List.mem_append_left wr hm)
  exact j_callVR C M hG hw hd hnA hz hR hcs (List.range wc.length) (pr_C wc wr) (pr_ndC _) i hi hci hst hcat d kk
theorem j_callSMp (C : jj_C X cc own Ts R mL ret) (rw_ : jj_RW X) {post : Option Value → va_W → Prop} (M : jM (xl X) (xT X) y ws rm As wc post) (hG : GoodIn Ts (va_wsS own idx y ws)) (hw : ws = Cond.code y bytes maxL rt :: ws') (hd : y.cls ≠ "java/lang/invoke/MethodHandle" ∧ y.cls ≠ "java/lang/invoke/VarHandle" ∧ (parseMethodDescriptor y.desc).map (fun d => d.parameters.length) = some nA) (hnA : As.length = nA) (hR : rm.frames + 1 ≤ R.frames ∧ 8 + (maxL + 11) + rm.locals ≤ R.locals) (hcs : k + rm.cells ≤ R.cells ∧ n + rm.slots ≤ R.slots)
    (hp : w.Perm (wc ++ wr)) (hst : st = As.reverse ++ rest) (hcat : (rest.map fun v => v.category).sum ≤ 8) (d : decode cc pc = .ok (.invokestatic idx, 3))
    (kk : ∀ v w1, post v w1 → jj X (k + rm.cells) (n + rm.slots) (pc + 3) lv (v.toList ++ rest) (w1 ++ wr)) : jj X k n pc lv st w := by
  refine j_permP C hp ?_
  exact j_callSM C rw_ M hG hw hd hnA hR hcs (List.range wc.length) ((List.range wr.length).map (· + wc.length)) (pr_C wc wr) (pr_ndC _) (pr_R wc wr) (pr_ndR _ _) (pr_dis _ _) hst hcat d (fun v w1 h => j_permP C List.perm_append_comm (kk v w1 h))
theorem j_callIMp (C : jj_C X cc own Ts R mL ret) (rw_ : jj_RW X) {post : Option Value → va_W → Prop} (M : jM (xl X) (xT X) y ws rm (.ref b :: As) wc post) (hG : GoodIn Ts ws) (hw : ws = Cond.code y bytes maxL none :: ws') (h1 : Cond.initialized y.cls ∈ Ts) (h2 : Cond.methodLink own idx y ∈ Ts) (h3 : Cond.instanceMethod y ∈ Ts) (hy1 : y.name = "<init>") (hd : y.cls ≠ "java/lang/invoke/MethodHandle" ∧ y.cls ≠ "java/lang/invoke/VarHandle" ∧ (parseMethodDescriptor y.desc).map (fun d => d.parameters.length) = some nA) (hnA : As.length = nA) (hR : rm.frames + 1 ≤ R.frames ∧ 8 + (maxL + 11) + rm.locals ≤ R.locals) (hcs : k + rm.cells ≤ R.cells ∧ n + rm.slots ≤ R.slots)
    (hp : w.Perm (wc ++ wr)) (hst : st = As.reverse ++ .ref b :: rest) (hcat : (rest.map fun v => v.category).sum ≤ 8) (d : decode cc pc = .ok (.invokespecial idx, 3))
    (kk : ∀ v w1, post v w1 → jj X (k + rm.cells) (n + rm.slots) (pc + 3) lv (v.toList ++ rest) (w1 ++ wr)) : jj X k n pc lv st w := by
  refine j_permP C hp ?_
  exact j_callIM C rw_ M hG hw h1 h2 h3 hy1 hd hnA hR hcs (List.range wc.length) ((List.range wr.length).map (· + wc.length)) (pr_C wc wr) (pr_ndC _) (pr_R wc wr) (pr_ndR _ _) (pr_dis _ _) hst hcat d (fun v w1 h => j_permP C List.perm_append_comm (kk v w1 h))
end JT
/-! methods that may throw -/
def jZ (A : Nat → Prop) (U : State) (H : Heap) : Prop := vx_Zq Bundle.tN "UNASSIGNED_STACK" Bundle.steD A U H ∧ vx_Zq Bundle.tN "SUPPRESSED_SENTINEL" Bundle.listD A U H
theorem jZ.moved {A : Nat → Prop} {u U : State} {H : Heap} (hvm : u.vm.Alike U.vm) (h : jZ A u H) : jZ A U H := ⟨h.1.moved hvm, h.2.moved hvm⟩
theorem jZ.kept {A : Nat → Prop} {U : State} {H H1 : Heap} (h : jZ A U H) (hq : ∀ a : Nat, a < H.size → ¬ A a → H1[a]? = H[a]?) : jZ A U H1 := ⟨h.1.kept hq, h.2.kept hq⟩
theorem jZ.narrow {A B : Nat → Prop} {U : State} {H : Heap} (h : jZ A U H) (hAB : ∀ q, B q → A q) : jZ B U H := ⟨h.1.narrow hAB, h.2.narrow hAB⟩
def jX_XC (T : jj_T) (A : Nat → Prop) (xpost : String → va_W → Prop) : String → State → State → Prop := fun E st t => (∃ w1, xpost E w1 ∧ va_P T.1 vwCl w1 t.heap ∧ va_D A w1) ∧ va_F A st t
def jX (l : Launch) (T : jj_T) (y : MethodName) (ws : List Cond) (rm : Room) (av : List Value) (wc : va_W) (post : Option Value → va_W → Prop) (xpost : String → va_W → Prop) : Prop :=
  ∀ sz : Nat, vx_Met l y ws rm (va_Pc av (fun U => U.heap.size = sz ∧ va_P T.1 vwCl wc U.heap ∧ jj_K T U ∧ va_D (fun _ => True) wc ∧ jZ (va_A wc sz) U U.heap)) (jM_Q T (va_A wc sz) post) (jX_XC T (va_A wc sz) xpost) rm.cells rm.slots (va_A wc sz)
def jj_QX (X : jj_X) (post : Option Value → va_W → Prop) (xpost : String → va_W → Prop) (mc ms : Nat) : Prop := xQ X = vx_MQ (xb X) (jM_Q (xT X) (xA X) post) (jX_XC (xT X) (xA X) xpost) (xa X) (xs X) mc ms (xA X)
theorem jX.of {l : Launch} {T : jj_T} {y : MethodName} {ws ws' : List Cond} {rm : Room} {av : List Value} {wc : va_W} {cc : ByteArray} {maxL : Nat} {ret : Option FieldType} {post : Option Value → va_W → Prop} {xpost : String → va_W → Prop} (hy : plainName y.cls = true) (hw : ws = Cond.code y cc maxL ret :: ws') (hfit : (lg_sl av).length ≤ maxL)
    (body : ∀ X : jj_X, jj_C X cc y.cls ws rm maxL ret → jj_RW X → xl X = l → xT X = T → jj_QX X post xpost rm.cells rm.slots → (∀ x ∈ (xc X).exceptionTable.toList, False) → jZ (xA X) (xs X) (xs X).heap → jj X 0 0 0 (lv_args 0 av) [] wc) : jX l T y ws rm av wc post xpost := by
  intro sz
  refine vx_ofW (cc := cc) (maxL := maxL) (ret := ret) hy hw ?_
  intro p e s m args below meth c s₁ B hml hnt hv
  obtain ⟨rfl, hsz, hP, hK, hD, hZ⟩ := hv
  subst hsz
  have h := body (p, l, e, rm, s, m, av.toArray, below, meth, c, vx_MQ below (jM_Q T (va_A wc s.heap.size) post) (jX_XC T (va_A wc s.heap.size) xpost) av.toArray s rm.cells rm.slots (va_A wc s.heap.size), maxL, T, (fun w H locs => va_P T.1 vwCl w H ∧ va_D (va_A wc s.heap.size) w ∧ va_S (va_A wc s.heap.size) s.heap H locs), va_A wc s.heap.size)
    ⟨B.exec, B.bytes, hml, rfl, findClass_of_methodNamed B.named, atoms_spec (ws := ws) B.pre, hK, B.returns, B.notSynchronized, rfl, fun w H locs h => h.1, fun w w' H locs is hn hs h => ⟨fun k q hq => ?_, h.2.1.sub is hn hs, h.2.2⟩, fun w H locs h => h.2.1.weaken (fun _ _ _ _ => trivial), fun w w' H locs h h2 h3 => ⟨h2, va_D_fst h.2.1 h3, h.2.2⟩, fun w w' H locs hp h => ⟨va_P_pm h.1 hp, va_D_pm h.2.1 hp, h.2.2⟩⟩ ⟨rfl, fun q h => Or.inr h⟩ rfl rfl rfl hnt hZ
  · rw [lg_entry_eq]
    exact h s.heap [] _ ⟨hP, hD.self, va_S.rf⟩ (lv_entry av hfit)
  · have h1 : (is.map (fun i => w[i]?))[k]? = some (some q) := by rw [hs, List.getElem?_map, hq]; rfl
    rw [List.getElem?_map] at h1
    cases hi : is[k]? with
    | none => rw [hi] at h1; cases h1
    | some i => rw [hi] at h1; exact h.1 i q (Option.some.inj h1)
section JXR
variable {X : jj_X} {cc : ByteArray} {own : String} {Ts : List Cond} {R : Room} {mL : Nat} {ret : Option FieldType} {k n pc : Nat} {lv : List (Nat × Value)} {w : va_W}
variable {post : Option Value → va_W → Prop} {xpost : String → va_W → Prop} {mc ms : Nat}
theorem j_iretX {rt : FieldType} (C : jj_C X cc own Ts R mL (some rt)) (rw_ : jj_RW X) (hQ : jj_QX X post xpost mc ms) (hk : k ≤ mc) (hm : n ≤ ms) {v : Int32} (hn : narrow rt (.int v) = .int v) (hp : post (some (.int v)) w) (d : decode cc pc = .ok (.ireturn, 1)) : jj X k n pc lv [.int v] w := by
  refine j_widen hk hm ?_
  intro H locs ls hI hl
  rw [rw_.1] at hI
  rw [show xQ X = _ from hQ]
  exact vx_ret (W.zret C.exec C.cod C.rt hn (fun t ht _ => ⟨⟨_, _, rfl, hp, by rw [ht]; exact hI.1, hI.2.1⟩, hI.2.2.F ht⟩) hI.2.2.2.2 d C.locks)
theorem j_vretX (C : jj_C X cc own Ts R mL none) (rw_ : jj_RW X) (hQ : jj_QX X post xpost mc ms) (hk : k ≤ mc) (hm : n ≤ ms) (hp : post none w) (d : decode cc pc = .ok (.return_, 1)) : jj X k n pc lv [] w := by
  refine j_widen hk hm ?_
  intro H locs ls hI hl
  rw [rw_.1] at hI
  rw [show xQ X = _ from hQ]
  exact vx_ret (W.vret C.exec C.cod C.rt (fun t ht _ => ⟨⟨_, _, rfl, hp, by rw [ht]; exact hI.1, hI.2.1⟩, hI.2.2.F ht⟩) hI.2.2.2.2 d C.locks)
theorem j_dretX (C : jj_C X cc own Ts R mL (some .double)) (rw_ : jj_RW X) (hQ : jj_QX X post xpost mc ms) (hk : k ≤ mc) (hm : n ≤ ms) {v : UInt64} (hp : post (some (.double v)) w) (d : decode cc pc = .ok (.dreturn, 1)) : jj X k n pc lv [.double v] w := by
  refine j_widen hk hm ?_
  intro H locs ls hI hl
  have hlk := C.locks
  rw [rw_.1] at hI
  rw [show xQ X = _ from hQ]
  exact vx_ret (W.dret C.exec C.cod C.rt (fun t ht _ => ⟨⟨_, _, rfl, hp, by rw [ht]; exact hI.1, hI.2.1⟩, hI.2.2.F ht⟩) hI.2.2.2.2 d hlk)
def jx_names : List String := ["java/lang/RuntimeException", "java/lang/Exception"]
/-- throw new E("text") -/
theorem j_throwS (C : jj_C X cc RX7 Ts R mL ret) (rw_ : jj_RW X) (hQ : jj_QX X post xpost mc ms) (hNT : ∀ x ∈ (xc X).exceptionTable.toList, False) (hZ : jZ (xA X) (xs X) (xs X).heap) (hl : (xl X).stackTraces = false) {ik is ic : Nat} {E text : String} (hE : E ∈ [jE1, jE2, jE3])
    (hng : (vx_atS RX7 ic E jx_names).filter (fun w => !goodWord w) = [.declares (Bundle.initS "java/lang/RuntimeException"), .declares (Bundle.initS "java/lang/Exception"), .declares (Bundle.initS Bundle.tN), .castable E E]) (hgd : ∀ w ∈ (vx_atS RX7 ic E jx_names).filter goodWord, w ∈ Ts) (hot : ∀ w ∈ Cond.classLink RX7 ik E :: Cond.initialized E :: vx_atS RX7 ic E jx_names, vx_ot w = true)
    (h1 : Cond.classLink RX7 ik E ∈ Ts) (h2 : Cond.initialized E ∈ Ts) (hs : (is, text) ∈ jj_str) (hfr : 5 < R.frames) (hlo : 82 ≤ R.locals) (hcs : k + 1 ≤ R.cells ∧ n + 6 ≤ R.slots) (hk : k + 1 ≤ mc) (hm : n + 6 ≤ ms)
    (d0 : decode cc pc = .ok (.new ik, 3)) (d3 : decode cc (pc + 3) = .ok (.dup, 1)) (d4 : decode cc (pc + 4) = .ok (.ldc is, 2)) (d6 : decode cc (pc + 6) = .ok (.invokespecial ic, 3)) (d9 : decode cc (pc + 9) = .ok (.athrow, 1)) (hp : xpost E w) : jj X k n pc lv [] w := by
  intro H locs ls hI hl'
  have hI2 := hI
  rw [rw_.1] at hI2
  rw [show xQ X = _ from hQ]
  obtain ⟨K1, -, -, -, K5, -, K8, K7⟩ := C.KK
  obtain ⟨sa, hsa⟩ := K7 _ hs
  have hfit : Bundle.fit E = true := by
    simp only [List.mem_cons, List.not_mem_nil, or_false] at hE
    rcases hE with rfl | rfl | rfl <;> decide +kernel
  refine vx_throwS (names := jx_names) (sa := sa) C.exec C.cod hl C.ow hfit (by decide +kernel) (C.ts _ h1) (C.ts _ h2) hsa ?_ hot hZ.1 hZ.2 hI2.2.2 ?_ d0 d3 d4 d6 d9 (fun x hx => (hNT x hx).elim) ?_ ?_ ?_ ?_ C.locks ?_ hI2.2.2.2.2 hk hm
  · refine vx_hat (fun w hw => C.ts _ (hgd w hw)) (B := [.declares (Bundle.initS "java/lang/RuntimeException"), .declares (Bundle.initS "java/lang/Exception"), .declares (Bundle.initS Bundle.tN), .castable E E]) (fun w hw => by rw [hng] at hw; exact hw) ?_
    exact vx_c (va_Nw.use rfl (K8 _ (by simp))) (vx_c (va_Nw.use rfl (K8 _ (by simp))) (vx_c (va_Nw.use rfl (K8 _ (by simp))) (vx_c (va_Nw.use rfl (K5 E hE)) vx_n)))
  · rw [C.nl, ← C.nx]; exact hl'.1
  · rw [C.room]; exact hfr
  · rw [C.room]; exact hlo
  · rw [C.room]; exact hcs.1
  · rw [C.room]; exact hcs.2
  · intro t hvm hz hq
    have hP := C.P hI
    exact ⟨⟨w, hp, hP.kept (fun j q hj => hq q.1 (hP j q hj).lt), hI2.2.1⟩, Nat.le_trans hI2.2.2.1 hz, fun q h1 h2 => (hq q (Nat.lt_of_lt_of_le h1 hI2.2.2.1)).trans (hI2.2.2.2.1 q h1 h2)⟩
theorem j_throwSW (C : jj_C X cc RX7 Ts R mL ret) (rw_ : jj_RW X) (hQ : jj_QX X post xpost mc ms) (hNT : ∀ x ∈ (xc X).exceptionTable.toList, False) (hZ : jZ (xA X) (xs X) (xs X).heap) (hl : (xl X).stackTraces = false) {ik is ic : Nat} {E text : String} (hE : E ∈ [jE1, jE2, jE3])
    (hng : (vx_atS RX7 ic E jx_names).filter (fun w => !goodWord w) = [.declares (Bundle.initS "java/lang/RuntimeException"), .declares (Bundle.initS "java/lang/Exception"), .declares (Bundle.initS Bundle.tN), .castable E E]) (hgd : ∀ w ∈ (vx_atS RX7 ic E jx_names).filter goodWord, w ∈ Ts) (hot : ∀ w ∈ Cond.classLink RX7 ik E :: Cond.initialized E :: vx_atS RX7 ic E jx_names, vx_ot w = true)
    (h1 : Cond.classLink RX7 ik E ∈ Ts) (h2 : Cond.initialized E ∈ Ts) (hs : (is, text) ∈ jj_str) (hfr : 5 < R.frames) (hlo : 82 ≤ R.locals) (hcs : k + 1 ≤ R.cells ∧ n + 6 ≤ R.slots) (hk : k + 1 ≤ mc) (hm : n + 6 ≤ ms)
    (d0 : decode cc pc = .ok (.new ik, 3)) (d3 : decode cc (pc + 3) = .ok (.dup, 1)) (d4 : decode cc (pc + 4) = .ok (.ldc_w is, 3)) (d7 : decode cc (pc + 7) = .ok (.invokespecial ic, 3)) (d10 : decode cc (pc + 10) = .ok (.athrow, 1)) (hp : xpost E w) : jj X k n pc lv [] w := by
  intro H locs ls hI hl'
  have hI2 := hI
  rw [rw_.1] at hI2
  rw [show xQ X = _ from hQ]
  obtain ⟨K1, -, -, -, K5, -, K8, K7⟩ := C.KK
  obtain ⟨sa, hsa⟩ := K7 _ hs
  have hfit : Bundle.fit E = true := by
    simp only [List.mem_cons, List.not_mem_nil, or_false] at hE
    rcases hE with rfl | rfl | rfl <;> decide +kernel
  refine vx_throwSW (names := jx_names) (sa := sa) C.exec C.cod hl C.ow hfit (by decide +kernel) (C.ts _ h1) (C.ts _ h2) hsa ?_ hot hZ.1 hZ.2 hI2.2.2 ?_ d0 d3 d4 d7 d10 (fun x hx => (hNT x hx).elim) ?_ ?_ ?_ ?_ C.locks ?_ hI2.2.2.2.2 hk hm
  · refine vx_hat (fun w hw => C.ts _ (hgd w hw)) (B := [.declares (Bundle.initS "java/lang/RuntimeException"), .declares (Bundle.initS "java/lang/Exception"), .declares (Bundle.initS Bundle.tN), .castable E E]) (fun w hw => by rw [hng] at hw; exact hw) ?_
    exact vx_c (va_Nw.use rfl (K8 _ (by simp))) (vx_c (va_Nw.use rfl (K8 _ (by simp))) (vx_c (va_Nw.use rfl (K8 _ (by simp))) (vx_c (va_Nw.use rfl (K5 E hE)) vx_n)))
  · rw [C.nl, ← C.nx]; exact hl'.1
  · rw [C.room]; exact hfr
  · rw [C.room]; exact hlo
  · rw [C.room]; exact hcs.1
  · rw [C.room]; exact hcs.2
  · intro t hvm hz hq
    have hP := C.P hI
    exact ⟨⟨w, hp, hP.kept (fun j q hj => hq q.1 (hP j q hj).lt), hI2.2.1⟩, Nat.le_trans hI2.2.2.1 hz, fun q h1 h2 => (hq q (Nat.lt_of_lt_of_le h1 hI2.2.2.1)).trans (hI2.2.2.2.1 q h1 h2)⟩
end JXR
