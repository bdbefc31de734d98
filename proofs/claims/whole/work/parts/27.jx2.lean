/-! calls of methods that throw, from methods that walk; a world made wider -/
theorem jZ.calling {A : Nat → Prop} {U : State} {H : Heap} {g : JFrame} {mk : MethodId} {a : Array Value} (h : jZ A U H) : jZ A (U.calling g mk a) H := jZ.moved (Vm.Alike.refl _) h
theorem jj_blindX {T : jj_T} {av : List Value} {wc : va_W} {sz : Nat} {A : Nat → Prop} : FrameBlind (va_Pc av (fun U => U.heap.size = sz ∧ va_P T.1 vwCl wc U.heap ∧ jj_K T U ∧ va_D (fun _ => True) wc ∧ jZ A U U.heap)) := fun a U g mk h => ⟨h.1, h.2.1, h.2.2.1, jj_K.calling h.2.2.2.1, h.2.2.2.2.1, jZ.calling h.2.2.2.2.2⟩
/-- thrown over the frame at pc: what is owed then -/
def jjT (X : jj_X) (k n pc : Nat) (lv : List (Nat × Value)) (w : va_W) (E : String) : Prop :=
  ∀ (H : Heap) (locs : List Loc) (ls : Array Slot) (rest : List Value) (q : Addr) (ce : Cell), xI X w H locs → lv_has ls (xn X) lv → H[q]? = some ce → ce.vm = .none → (xs X).vm.findClass E = some ce.cls → vx_W (xp X) (xl X) (xe X) (xR X) (xs X) (xm X) (xa X) (xb X) (xh X) (xc X) H locs k n (xQ X) (F0 (xm X) pc ls rest) q
section JXC
variable {X : jj_X} {cc : ByteArray} {own : String} {Ts : List Cond} {R : Room} {mL : Nat} {ret : Option FieldType} {k n pc : Nat} {lv : List (Nat × Value)} {w : va_W}
variable {post : Option Value → va_W → Prop} {xpost : String → va_W → Prop}
theorem jjT_permP (C : jj_C X cc own Ts R mL ret) {w' : va_W} {E : String} (h : w.Perm w') (kk : jjT X k n pc lv w' E) : jjT X k n pc lv w E := fun H locs ls rest q ce hI hl => kk H locs ls rest q ce (C.pm h hI) hl
/-- not caught here -/
theorem jT_out {mpost : Option Value → va_W → Prop} {mx : String → va_W → Prop} {mc ms : Nat} {E : String} (C : jj_C X cc own Ts R mL ret) (rw_ : jj_RW X) (hQ : jj_QX X mpost mx mc ms) (hNT : ∀ x ∈ (xc X).exceptionTable.toList, False) (hk : k ≤ mc) (hm : n ≤ ms) (hp : mx E w) : jjT X k n pc lv w E := by
  intro H locs ls rest q ce hI hl hq hv hcl
  rw [rw_.1] at hI
  rw [show xQ X = _ from hQ]
  refine vx_out (fun x hx => (hNT x hx).elim) C.locks hq hv hcl (fun t ht _ => ⟨⟨w, hp, by rw [ht]; exact hI.1, hI.2.1⟩, hI.2.2.F ht⟩) hI.2.2.2.2 hk hm
/-- behind a call that writes, and may throw -/
theorem j_afterX (C : jj_C X cc own Ts R mL ret) (rw_ : jj_RW X) {st rest : List Value} {wc wr : va_W} {mc ms : Nat} (isC isR : List Nat) (hC : isC.map (fun i => w[i]?) = wc.map some) (hR : isR.map (fun i => w[i]?) = wr.map some) (hnR : va_nd isR = true) (hdis : ∀ i ∈ isR, i ∉ isC)
    (run : ∀ (H : Heap) (locs : List Loc) (ls : Array Slot), xI X w H locs → lv_has ls (xn X) lv → vx_Run (xp X) (xl X) (xe X) (xR X) (xs X) (xm X) (xa X) (xb X) (xh X) (xc X) H locs k n mc ms (F0 (xm X) pc ls st) rest (jM_Q (xT X) (va_A wc H.size) post #[]) (jX_XC (xT X) (va_A wc H.size) xpost) (va_A wc H.size))
    (kx : ∀ E w1, xpost E w1 → jjT X (k + mc) (n + ms) pc lv (wr ++ w1) E)
    (kk : ∀ v w1, post v w1 → jj X (k + mc) (n + ms) (pc + 3) lv (v.toList ++ rest) (wr ++ w1)) : jj X k n pc lv st w := by
  intro H locs ls hI hl T hT Xs
  have hIo := hI
  rw [rw_.1] at hI
  obtain ⟨hP, hD, hS⟩ := hI
  have hFc := va_free hD hS rw_.2 isC hC
  have key : ∀ (st0 t : State) (L : List Loc) (w1 : va_W), st0.heap = H → va_F (va_A wc H.size) st0 t → va_P (xT X).1 vwCl w1 t.heap → va_D (va_A wc H.size) w1 → (∀ q ∈ L, va_A wc H.size q.base) → xI X (wr ++ w1) t.heap (locs ++ L) := by
    intro st0 t L w1 h0 hF hP1 hD1 hL
    have hF1 : H.size ≤ t.heap.size := by rw [← h0]; exact hF.1
    have hF2 : ∀ q : Nat, q < H.size → ¬ va_A wc H.size q → t.heap[q]? = H[q]? := fun q h1 h2 => (hF.2 q (by rw [h0]; exact h1) h2).trans (by rw [h0])
    obtain ⟨hP', hD'⟩ := va_join hP hD isC isR hC hR hnR hdis hF2 hFc hP1 hD1
    rw [rw_.1]
    refine ⟨hP', hD', Nat.le_trans hS.1 hF1, fun q h1 h2 => (hF2 q (Nat.lt_of_lt_of_le h1 hS.1) (fun h => h2 (hFc q h))).trans (hS.2.1 q h1 h2), fun z hz => ?_⟩
    rcases List.mem_append.mp hz with h | h
    · exact hS.2.2 z h
    · exact hFc z.base (hL z h)
  rcases run H locs ls hIo hl T hT Xs with ⟨v, st0, t, T', L, h0, X', hL, e1, e2, ⟨⟨v', w1, hv, hp, hP1, hD1⟩, hF⟩, go⟩ | ⟨q, st0, t, T', L, E, ce, h0, X', hL, e1, e2, ⟨⟨w1, hp, hP1, hD1⟩, hF⟩, hce, hcv, hcl, go⟩
  · cases hv
    obtain ⟨tt, a1, b1⟩ := kk v w1 hp t.heap (locs ++ L) ls (key st0 t L w1 h0 hF hP1 hD1 hL) hl T' e1 X'
    exact ⟨tt, go tt a1, b1⟩
  · obtain ⟨tt, a1, b1⟩ := kx E w1 hp t.heap (locs ++ L) ls rest q ce (key st0 t L w1 h0 hF hP1 hD1 hL) hl hce hcv hcl T' e1 X'
    exact ⟨tt, go.trans a1, b1⟩
/-- the two statics of Throwable at a call -/
theorem j_Z (rw_ : jj_RW X) (hZ : jZ (xA X) (xs X) (xs X).heap) {H : Heap} {locs : List Loc} {wc : va_W} (hI : xI X w H locs) (isC : List Nat) (hC : isC.map (fun i => w[i]?) = wc.map some) {U : State} (hU : U.heap = H) (hW : (xs X).WarmedH U.vm) : jZ (va_A wc H.size) U U.heap := by
  rw [rw_.1] at hI
  obtain ⟨hP, hD, hS⟩ := hI
  have hFc := va_free hD hS rw_.2 isC hC
  rw [hU]
  exact jZ.moved hW.alike ((hZ.kept (fun q h1 h2 => hS.2.1 q h1 h2)).narrow hFc)
end JXC
section JXCALL
variable {X : jj_X} {cc : ByteArray} {own : String} {Ts : List Cond} {R : Room} {mL : Nat} {ret : Option FieldType} {k n pc : Nat} {lv : List (Nat × Value)} {w : va_W}
variable {y : MethodName} {ws ws' : List Cond} {rm : Room} {As : List Value} {b : Addr} {wc wr : va_W} {Cn : String} {idx maxL ci N0 nA : Nat} {bytes : ByteArray} {rt : Option FieldType} {T0 : u_T} {fs st rest : List Value}
variable {post : Option Value → va_W → Prop} {xpost : String → va_W → Prop}
theorem j_callVXp (C : jj_C X cc own Ts R mL ret) (rw_ : jj_RW X) (hZ : jZ (xA X) (xs X) (xs X).heap) (M : jX (xl X) (xT X) y ws rm (.ref b :: As) wc post xpost) (hG : GoodIn Ts (wsV own idx Cn y ws)) (hw : ws = Cond.code y bytes maxL rt :: ws') (hd : y.cls = Cn ∧ y.cls ≠ "java/lang/invoke/MethodHandle" ∧ y.cls ≠ "java/lang/invoke/VarHandle" ∧ (parseMethodDescriptor y.desc).map (fun d => d.parameters.length) = some nA) (hnA : As.length = nA) (hR : rm.frames + 1 ≤ R.frames ∧ 8 + (maxL + 11) + rm.locals ≤ R.locals) (hcs : k + rm.cells ≤ R.cells ∧ n + rm.slots ≤ R.slots)
    (hp : w.Perm (wc ++ wr)) (hm : (b, cO ci fs) ∈ wc) (hci : vwCl[ci]? = some (Cn, T0, N0)) (hst : st = As.reverse ++ .ref b :: rest) (hcat : (rest.map fun v => v.category).sum ≤ 8) (d : decode cc pc = .ok (.invokevirtual idx, 3))
    (kx : ∀ E w1, xpost E w1 → jjT X (k + rm.cells) (n + rm.slots) pc lv (w1 ++ wr) E)
    (kk : ∀ v w1, post v w1 → jj X (k + rm.cells) (n + rm.slots) (pc + 3) lv (v.toList ++ rest) (w1 ++ wr)) : jj X k n pc lv st w := by
  refine j_permP C hp ?_
  obtain ⟨i, hi⟩ := List.getElem?_of_mem (List.mem_append_left wr hm)
  refine j_afterX C rw_ (post := post) (xpost := xpost) (rest := rest) (List.range wc.length) ((List.range wr.length).map (· + wc.length)) (pr_C wc wr) (pr_R wc wr) (pr_ndR _ _) (pr_dis _ _) (fun H locs ls hI hl => ?_) (fun E w1 h => jjT_permP C List.perm_append_comm (kx E w1 h)) (fun v w1 h => j_permP C List.perm_append_comm (kk v w1 h))
  have hIc := C.sub _ (pr_ndC _) (pr_C wc wr) hI
  exact vx_runV (As := As) ⟨C.exec, C.cod, C.nl, C.ow, C.ts⟩ (M H.size) (cwV nA C.ts hG hw rfl rfl hd (by rw [C.room]; exact hR)) ⟨jj_blindX, va_recv (D := (xT X).1) C.K (C.P hI) hci hi, fun U hU hW => ⟨rfl, by rw [hU], by rw [hU]; exact C.P hIc, C.KK.warm hW, C.D hIc, j_Z rw_ hZ hI _ (pr_C wc wr) hU hW⟩⟩ rfl hnA (by rw [← C.nx]; exact hl.1) hst (lv_room hcat) d (by rw [C.room]; exact hcs)
theorem j_callSXp (C : jj_C X cc own Ts R mL ret) (rw_ : jj_RW X) (hZ : jZ (xA X) (xs X) (xs X).heap) (M : jX (xl X) (xT X) y ws rm As wc post xpost) (hG : GoodIn Ts (va_wsS own idx y ws)) (hw : ws = Cond.code y bytes maxL rt :: ws') (hd : y.cls ≠ "java/lang/invoke/MethodHandle" ∧ y.cls ≠ "java/lang/invoke/VarHandle" ∧ (parseMethodDescriptor y.desc).map (fun d => d.parameters.length) = some nA) (hnA : As.length = nA) (hR : rm.frames + 1 ≤ R.frames ∧ 8 + (maxL + 11) + rm.locals ≤ R.locals) (hcs : k + rm.cells ≤ R.cells ∧ n + rm.slots ≤ R.slots)
    (hp : w.Perm (wc ++ wr)) (hst : st = As.reverse ++ rest) (hcat : (rest.map fun v => v.category).sum ≤ 8) (d : decode cc pc = .ok (.invokestatic idx, 3))
    (kx : ∀ E w1, xpost E w1 → jjT X (k + rm.cells) (n + rm.slots) pc lv (w1 ++ wr) E)
    (kk : ∀ v w1, post v w1 → jj X (k + rm.cells) (n + rm.slots) (pc + 3) lv (v.toList ++ rest) (w1 ++ wr)) : jj X k n pc lv st w := by
  refine j_permP C hp ?_
  refine j_afterX C rw_ (post := post) (xpost := xpost) (rest := rest) (List.range wc.length) ((List.range wr.length).map (· + wc.length)) (pr_C wc wr) (pr_R wc wr) (pr_ndR _ _) (pr_dis _ _) (fun H locs ls hI hl => ?_) (fun E w1 h => jjT_permP C List.perm_append_comm (kx E w1 h)) (fun v w1 h => j_permP C List.perm_append_comm (kk v w1 h))
  have hIc := C.sub _ (pr_ndC _) (pr_C wc wr) hI
  exact vx_runS (As := As) ⟨C.exec, C.cod, C.nl, C.ow, C.ts⟩ (M H.size) (va_cwS nA C.ts hG hw rfl rfl hd (by rw [C.room]; exact hR)) ⟨jj_blindX, fun U hU hW => ⟨rfl, by rw [hU], by rw [hU]; exact C.P hIc, C.KK.warm hW, C.D hIc, j_Z rw_ hZ hI _ (pr_C wc wr) hU hW⟩⟩ rfl hnA (by rw [← C.nx]; exact hl.1) hst (lv_room hcat) d (by rw [C.room]; exact hcs)
/-- a static method of a nest mate that is private there -/
theorem j_callNMp (C : jj_C X cc own Ts R mL ret) (rw_ : jj_RW X) (M : jM (xl X) (xT X) y ws rm As wc post) (hG : GoodIn Ts ws) (h1 : Cond.initialized y.cls ∈ Ts) (h2 : Cond.static y ∈ Ts) (hN : va_Nw (.methodLinkNest own idx y "SlewPlanner") (xs X)) (hw : ws = Cond.code y bytes maxL rt :: ws') (hd : y.cls ≠ "java/lang/invoke/MethodHandle" ∧ y.cls ≠ "java/lang/invoke/VarHandle" ∧ (parseMethodDescriptor y.desc).map (fun d => d.parameters.length) = some nA) (hnA : As.length = nA) (hR : rm.frames + 1 ≤ R.frames ∧ 8 + (maxL + 11) + rm.locals ≤ R.locals) (hcs : k + rm.cells ≤ R.cells ∧ n + rm.slots ≤ R.slots)
    (hp : w.Perm (wc ++ wr)) (hst : st = As.reverse ++ rest) (hcat : (rest.map fun v => v.category).sum ≤ 8) (d : decode cc pc = .ok (.invokestatic idx, 3))
    (kk : ∀ v w1, post v w1 → jj X (k + rm.cells) (n + rm.slots) (pc + 3) lv (v.toList ++ rest) (w1 ++ wr)) : jj X k n pc lv st w := by
  refine j_permP C hp ?_
  refine j_afterM C rw_ (post := post) (rest := rest) (List.range wc.length) ((List.range wr.length).map (· + wc.length)) (pr_C wc wr) (pr_R wc wr) (pr_ndR _ _) (pr_dis _ _) (fun H locs ls hI hl => ?_) (fun v w1 h => j_permP C List.perm_append_comm (kk v w1 h))
  have hIc := C.sub _ (pr_ndC _) (pr_C wc wr) hI
  exact va_runSN (As := As) (host := "SlewPlanner") ⟨C.exec, C.cod, C.nl, C.ow, C.ts⟩ (M H.size) ⟨va_cnB nA C.ts hG hw rfl rfl hN (C.ts _ h1) hd (by rw [C.room]; exact hR), C.ts _ h2, trivial⟩ ⟨jj_blindM, fun U hU hW => ⟨rfl, by rw [hU], by rw [hU]; exact C.P hIc, C.KK.warm hW, C.D hIc⟩⟩ rfl hnA (by rw [← C.nx]; exact hl.1) hst (lv_room hcat) d (by rw [C.room]; exact hcs)
theorem j_callNIp (C : jj_C X cc own Ts R mL ret) (rw_ : jj_RW X) (M : jM (xl X) (xT X) y ws rm (.ref b :: As) wc post) (hG : GoodIn Ts ws) (h1 : Cond.initialized y.cls ∈ Ts) (h2 : Cond.instanceMethod y ∈ Ts) (hy1 : y.name = "<init>") (hN : va_Nw (.methodLinkNest own idx y "SlewPlanner") (xs X)) (hw : ws = Cond.code y bytes maxL none :: ws') (hd : y.cls ≠ "java/lang/invoke/MethodHandle" ∧ y.cls ≠ "java/lang/invoke/VarHandle" ∧ (parseMethodDescriptor y.desc).map (fun d => d.parameters.length) = some nA) (hnA : As.length = nA) (hR : rm.frames + 1 ≤ R.frames ∧ 8 + (maxL + 11) + rm.locals ≤ R.locals) (hcs : k + rm.cells ≤ R.cells ∧ n + rm.slots ≤ R.slots)
    (hp : w.Perm (wc ++ wr)) (hst : st = As.reverse ++ .ref b :: rest) (hcat : (rest.map fun v => v.category).sum ≤ 8) (d : decode cc pc = .ok (.invokespecial idx, 3))
    (kk : ∀ v w1, post v w1 → jj X (k + rm.cells) (n + rm.slots) (pc + 3) lv (v.toList ++ rest) (w1 ++ wr)) : jj X k n pc lv st w := by
  refine j_permP C hp ?_
  refine j_afterM C rw_ (post := post) (rest := rest) (List.range wc.length) ((List.range wr.length).map (· + wc.length)) (pr_C wc wr) (pr_R wc wr) (pr_ndR _ _) (pr_dis _ _) (fun H locs ls hI hl => ?_) (fun v w1 h => j_permP C List.perm_append_comm (kk v w1 h))
  have hIc := C.sub _ (pr_ndC _) (pr_C wc wr) hI
  exact va_runIN (As := As) (host := "SlewPlanner") ⟨C.exec, C.cod, C.nl, C.ow, C.ts⟩ (M H.size) ⟨va_cnB nA C.ts hG hw rfl rfl hN (C.ts _ h1) hd (by rw [C.room]; exact hR), hy1, C.ts _ h2⟩ ⟨jj_blindM, fun U hU hW => ⟨rfl, by rw [hU], by rw [hU]; exact C.P hIc, C.KK.warm hW, C.D hIc⟩⟩ rfl hnA (by rw [← C.nx]; exact hl.1) hst (lv_room hcat) d (by rw [C.room]; exact hcs)
end JXCALL
/-! a contract over a wider world -/
theorem va_A_pm {w w' : va_W} {sz q : Nat} (h : ∀ x, x ∈ w → x ∈ w') (hq : va_A w sz q) : va_A w' sz q := by
  rcases hq with ⟨k, e, hk⟩ | hq
  · obtain ⟨i, hi⟩ := List.getElem?_of_mem (h _ (List.mem_of_getElem? hk))
    exact Or.inl ⟨i, e, hi⟩
  · exact Or.inr hq
theorem frame_end {T : jj_T} {w wc wr w1 : va_W} {st t : State} (hp : w.Perm (wc ++ wr)) (hP : va_P T.1 vwCl w st.heap) (hD : va_D (fun _ => True) w) (hP1 : va_P T.1 vwCl w1 t.heap) (hD1 : va_D (va_A wc st.heap.size) w1) (hF : va_F (va_A wc st.heap.size) st t) :
    va_P T.1 vwCl (w1 ++ wr) t.heap ∧ va_D (va_A w st.heap.size) (w1 ++ wr) ∧ va_F (va_A w st.heap.size) st t := by
  have hsub : ∀ q, va_A wc st.heap.size q → va_A w st.heap.size q := fun q h => va_A_pm (fun x hx => hp.mem_iff.mpr (List.mem_append_left wr hx)) h
  have hDs : va_D (va_A w st.heap.size) (wc ++ wr) := va_D_pm hD.self hp
  obtain ⟨h1, h2⟩ := va_join (A0 := va_A w st.heap.size) (va_P_pm hP hp) hDs (List.range wc.length) ((List.range wr.length).map (· + wc.length)) (pr_C wc wr) (pr_R wc wr) (pr_ndR _ _) (pr_dis _ _) hF.2 hsub hP1 hD1
  exact ⟨va_P_pm h1 List.perm_append_comm, va_D_pm h2 List.perm_append_comm, hF.1, fun q q1 q2 => hF.2 q q1 (fun h => q2 (hsub q h))⟩
theorem va_P_sub {D : va_G} {cl : List vw_C} {w w' : va_W} {H : Heap} (h : va_P D cl w H) (hs : ∀ x, x ∈ w' → x ∈ w) : va_P D cl w' H := fun k q hk => by
  obtain ⟨i, hi⟩ := List.getElem?_of_mem (hs q (List.mem_of_getElem? hk))
  exact h i q hi
theorem va_D_pre {A : Nat → Prop} {w wc wr : va_W} (h : va_D A w) (hp : w.Perm (wc ++ wr)) : va_D A wc := by
  have h1 := va_D_pm h hp
  rw [va_D_nd] at h1 ⊢
  rw [List.map_append] at h1
  exact ⟨(List.nodup_append.mp h1.1).1, fun q hq => h1.2 q (List.mem_append_left wr hq)⟩
theorem jM.frame {l : Launch} {T : jj_T} {y : MethodName} {ws : List Cond} {rm : Room} {av : List Value} {w wc wr : va_W} {post : Option Value → va_W → Prop} (M : jM l T y ws rm av wc post) (hp : w.Perm (wc ++ wr)) : jM l T y ws rm av w (fun v w2 => ∃ w1, post v w1 ∧ w2 = w1 ++ wr) := by
  intro sz
  refine MetFree.mono (M sz) ?_ (fun _ _ _ _ _ h => h) ?_
  · rintro a s ⟨h1, h2, h3, h4, h5⟩
    exact ⟨h1, h2, va_P_sub h3 (fun x hx => hp.mem_iff.mpr (List.mem_append_left wr hx)), h4, va_D_pre h5 hp⟩
  · rintro a s o t ⟨h1, h2, h3, h4, h5⟩ ⟨⟨⟨v, w1, hv, hq, hP1, hD1⟩, hF⟩, L, hL, hb⟩
    subst h2
    obtain ⟨e1, e2, e3⟩ := frame_end hp h3 h5 hP1 hD1 hF
    exact ⟨⟨⟨v, _, hv, ⟨w1, hq, rfl⟩, e1, e2⟩, e3⟩, L, hL, fun q hq => va_A_pm (fun x hx => hp.mem_iff.mpr (List.mem_append_left wr hx)) (hb q hq)⟩
theorem jM.mono {l : Launch} {T : jj_T} {y : MethodName} {ws : List Cond} {rm : Room} {av : List Value} {w : va_W} {post post' : Option Value → va_W → Prop} (M : jM l T y ws rm av w post) (h : ∀ v w1, post v w1 → ∃ w2, post' v w2 ∧ w1.Perm w2) : jM l T y ws rm av w post' := by
  intro sz
  refine MetFree.mono (M sz) (fun _ _ h => h) (fun _ _ _ _ _ h => h) ?_
  rintro a s o t hpre ⟨⟨⟨v, w1, hv, hq, hP1, hD1⟩, hF⟩, hL⟩
  obtain ⟨w2, hq2, hpm⟩ := h v w1 hq
  exact ⟨⟨⟨v, w2, hv, hq2, va_P_pm hP1 hpm, va_D_pm hD1 hpm⟩, hF⟩, hL⟩
theorem jX.frame {l : Launch} {T : jj_T} {y : MethodName} {ws : List Cond} {rm : Room} {av : List Value} {w wc wr : va_W} {post : Option Value → va_W → Prop} {xpost : String → va_W → Prop} (M : jX l T y ws rm av wc post xpost) (hp : w.Perm (wc ++ wr)) {post' : Option Value → va_W → Prop} {xpost' : String → va_W → Prop} (h : ∀ v w1, post v w1 → post' v (w1 ++ wr)) (hx : ∀ E w1, xpost E w1 → xpost' E (w1 ++ wr)) : jX l T y ws rm av w post' xpost' := by
  intro sz
  have hsub : ∀ {q : Nat}, va_A wc sz q → va_A w sz q := fun h => va_A_pm (fun x hx => hp.mem_iff.mpr (List.mem_append_left wr hx)) h
  refine MetFree.mono (M sz) ?_ (fun _ _ _ _ _ h => h) ?_
  · rintro a s ⟨h1, h2, h3, h4, h5, h6⟩
    exact ⟨h1, h2, va_P_sub h3 (fun x hx => hp.mem_iff.mpr (List.mem_append_left wr hx)), h4, va_D_pre h5 hp, h6.narrow (fun q => hsub)⟩
  · rintro a s o t ⟨h1, h2, h3, h4, h5, h6⟩ hq
    subst h2
    rcases hq with ⟨⟨⟨v, w1, hv, hq, hP1, hD1⟩, hF⟩, L, hL, hb⟩ | ⟨q, ho, E, ce, L, ⟨⟨w1, hq, hP1, hD1⟩, hF⟩, x1, x2, x3, x4, x5, x6⟩
    · obtain ⟨e1, e2, e3⟩ := frame_end hp h3 h5 hP1 hD1 hF
      exact Or.inl ⟨⟨⟨v, _, hv, h v w1 hq, e1, e2⟩, e3⟩, L, hL, fun q hq => hsub (hb q hq)⟩
    · obtain ⟨e1, e2, e3⟩ := frame_end hp h3 h5 hP1 hD1 hF
      exact Or.inr ⟨q, ho, E, ce, L, ⟨⟨_, hx E w1 hq, e1, e2⟩, e3⟩, x1, x2, x3, x4, x5, fun z hz => hsub (x6 z hz)⟩
/-! worlds in another order, by places -/
theorem pm_lit2 {l l' : va_W} (is : List Nat) (m : Nat) (hm : l.length = m) (hs : is.map (fun i => l[i]?) = l'.map some) (hn : is.Perm (List.range m)) : l.Perm l' := pm_lit is hs (hm ▸ hn)
theorem pm_t0 {l l' t : va_W} (h : l.Perm l') : (l ++ t).Perm (l' ++ t) := h.append_right t
theorem pm_t1 {l a b t : va_W} (h : l.Perm (a ++ b)) : (l ++ t).Perm (a ++ (b ++ t)) := by rw [← List.append_assoc]; exact h.append_right t
theorem pm_t2 {l a b t : va_W} (h : l.Perm (a ++ b)) : (l ++ t).Perm ((a ++ t) ++ b) := by
  refine (h.append_right t).trans ?_
  rw [List.append_assoc, List.append_assoc]
  exact List.Perm.append_left a List.perm_append_comm
theorem pm_t3 {a b t : va_W} : ((a ++ t) ++ b).Perm ((a ++ b) ++ t) := by
  rw [List.append_assoc, List.append_assoc]
  exact List.Perm.append_left a List.perm_append_comm
/-! the ints of a range -/
def inR (x : Int32) (a b : Int) : Bool := decide (a ≤ x.toInt) && decide (x.toInt ≤ b)
theorem inR_iff {x : Int32} {a b : Int} : inR x a b = true ↔ a ≤ x.toInt ∧ x.toInt ≤ b := by
  unfold inR; rw [Bool.and_eq_true, decide_eq_true_iff, decide_eq_true_iff]
theorem inR_f {x : Int32} {a b : Int} : inR x a b = false ↔ ¬ (a ≤ x.toInt ∧ x.toInt ≤ b) := by
  rw [← inR_iff]; exact Bool.not_eq_true _ ▸ Iff.rfl
theorem inR_nI {c : Nat} (hc : c < 100000) {a b : Int} (ha : a ≤ c) (hb : (c : Int) ≤ b) : inR (nI c) a b = true := inR_iff.mpr (by rw [nI_toInt (by omega)]; exact ⟨ha, hb⟩)
/-- a small number that isn't below 0 -/
theorem inR_N {x : Int32} {b : Nat} (h : inR x 0 b = true) : ∃ c : Nat, x = nI c ∧ c ≤ b := by
  obtain ⟨h1, h2⟩ := inR_iff.mp h
  refine ⟨x.toInt.toNat, ?_, by omega⟩
  apply Int32.toInt_inj.mp
  have h3 := x.toInt_lt
  rw [nI_toInt (by omega)]
  omega
