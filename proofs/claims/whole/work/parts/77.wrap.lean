/-! THE WRAPPERS: methods of the law that catch -/
def jW (l : Launch) (T : jj_T) (y : MethodName) (ws : List Cond) (rm : Room) (av : List Value) (wc : va_W) (post : Option Value → va_W → Prop) : Prop :=
  ∀ sz : Nat, Met l y ws rm (va_Pc av (fun U => U.heap.size = sz ∧ va_P T.1 vwCl wc U.heap ∧ jj_K T U ∧ va_D (fun _ => True) wc ∧ jZ (va_A wc sz) U U.heap)) (jM_Q T (va_A wc sz) post) rm.cells rm.slots (va_A wc sz)
theorem jW.of {l : Launch} {T : jj_T} {y : MethodName} {ws ws' : List Cond} {rm : Room} {av : List Value} {wc : va_W} {cc : ByteArray} {maxL : Nat} {ret : Option FieldType} {hh : List (Nat × Nat × Nat × Nat)} {post : Option Value → va_W → Prop} (hy : plainName y.cls = true) (hw : ws = Cond.codeWith y cc maxL ret hh :: ws') (hfit : (lg_sl av).length ≤ maxL)
    (body : ∀ X : jj_X, jj_C X cc y.cls ws rm maxL ret → jj_RW X → xl X = l → xT X = T → jj_QM X post rm.cells rm.slots → (xc X).exceptionTable.toList = tableOf hh → jZ (xA X) (xs X) (xs X).heap → jj X 0 0 0 (lv_args 0 av) [] wc) : jW l T y ws rm av wc post := by
  intro sz
  refine va_MetW (cc := cc) (maxL := maxL) (ret := ret) (hh := hh) hy hw ?_
  intro p e s m args below meth c s₁ B hml hv
  obtain ⟨rfl, hsz, hP, hK, hD, hZ⟩ := hv
  subst hsz
  have htab := vx_table (x := y) B (atoms_spec (ws := ws) B.pre _ (by rw [hw]; exact List.mem_cons_self))
  have h := body (p, l, e, rm, s, m, av.toArray, below, meth, c, MQ below (jM_Q T (va_A wc s.heap.size) post) av.toArray s rm.cells rm.slots (va_A wc s.heap.size), maxL, T, (fun w H locs => va_P T.1 vwCl w H ∧ va_D (va_A wc s.heap.size) w ∧ va_S (va_A wc s.heap.size) s.heap H locs), va_A wc s.heap.size)
    ⟨B.exec, B.bytes, hml, rfl, findClass_of_methodNamed B.named, atoms_spec (ws := ws) B.pre, hK, B.returns, B.notSynchronized, rfl, fun w H locs h => h.1, fun w w' H locs is hn hs h => ⟨fun k q hq => ?_, h.2.1.sub is hn hs, h.2.2⟩, fun w H locs h => h.2.1.weaken (fun _ _ _ _ => trivial), fun w w' H locs h h2 h3 => ⟨h2, va_D_fst h.2.1 h3, h.2.2⟩, fun w w' H locs hp h => ⟨va_P_pm h.1 hp, va_D_pm h.2.1 hp, h.2.2⟩⟩ ⟨rfl, fun q h => Or.inr h⟩ rfl rfl rfl htab hZ
  · rw [lg_entry_eq]
    exact h s.heap [] _ ⟨hP, hD.self, va_S.rf⟩ (lv_entry av hfit)
  · have h1 : (is.map (fun i => w[i]?))[k]? = some (some q) := by rw [hs, List.getElem?_map, hq]; rfl
    rw [List.getElem?_map] at h1
    cases hi : is[k]? with
    | none => rw [hi] at h1; cases h1
    | some i => rw [hi] at h1; exact h.1 i q (Option.some.inj h1)
section JWC
variable {X : jj_X} {cc : ByteArray} {own : String} {Ts : List Cond} {R : Room} {mL : Nat} {ret : Option FieldType} {k n pc : Nat} {lv : List (Nat × Value)} {w : va_W}
/-- caught by the row x of this method's table -/
theorem jT_catch (C : jj_C X cc own Ts R mL ret) {E : String} (pre : List ExceptionTableEntry) (x : ExceptionTableEntry) (suf : List ExceptionTableEntry) (hT : (xc X).exceptionTable.toList = pre ++ x :: suf) (hE : E ∈ [jE1, jE2, jE3])
    (hpass : ∀ z ∈ pre, z.catchType ≠ 0 ∧ ∃ F ∈ [jE1, jE2, jE3], E ≠ F ∧ Cond.classLink own z.catchType F ∈ Ts) (hx : covers x pc = true) (h0 : x.catchType ≠ 0) (hlink : Cond.classLink own x.catchType E ∈ Ts)
    (kk : ∀ q : Nat, jj X k n x.handlerPc lv [.ref q] w) : jjT X k n pc lv w E := by
  intro H locs ls rest q ce hI hl hq hv hcl
  obtain ⟨-, -, -, -, K5, K6, -, -⟩ := C.KK
  refine vx_catch (own := own) (name := E) C.ow pre x suf hT (fun z hz => Or.inr ?_) hx h0 (C.ts _ hlink) (va_Nw.use rfl (K5 E hE)) hq hv hcl (kk q H locs ls hI hl)
  obtain ⟨h1, F, hF, hne, hl2⟩ := hpass z hz
  exact ⟨h1, F, C.ts _ hl2, K6 E hE F hF hne⟩
end JWC
theorem PW.mem {T : jj_T} {h7 : Nat} {ac ap : Nat} {ash : Bool} {an : Nat} {aob arq : Nat → Int32} {cn : Nat} {M : Nat → aS} {S : Nat → Option aS} {w : va_W} (h : PW T h7 ((ac, ap, ash, an, aob, arq), cn, M, S) w) : ∃ fs : List Value, (h7, cO 7 fs) ∈ w := PW.ex h fun hS a0 ao ar d0 d1 d2 h1 hst hsl h2 ga go gr h3 he hew hy hyw hc hcw h4 hs so sr hl hlw hdr hh hhw hv hq ha ol dc dp dn ck gp gn mk p t0 sc sp st ds gs ss bs bd ax ay az lim dob drq gob grq sob srq E Y Ch LW hd dr sf slf P Q hw _ _ _ _ => ⟨_, hw.mem_iff.mpr List.mem_cons_self⟩
theorem MW.mem {T : jj_T} {h8 k : Nat} {ac ap : Nat} {ash : Bool} {an : Nat} {aob arq : Nat → Int32} {cn : Nat} {M : Nat → aS} {S : Nat → Option aS} {w : va_W} (h : MW T h8 k ((ac, ap, ash, an, aob, arq), cn, M, S) w) : ∃ fs : List Value, (h8, cO 8 fs) ∈ w := MW.ex h fun rv rn rnw rt rd rk rik rdk rre rle rhe rth rpa ror nx bv bo g9 D K pt oq ik dk re le he th hw _ _ _ _ => ⟨_, hw.mem_iff.mpr List.mem_cons_self⟩
theorem PW.cn {T : jj_T} {h7 : Nat} {ac ap : Nat} {ash : Bool} {an : Nat} {aob arq : Nat → Int32} {cn : Nat} {M : Nat → aS} {S : Nat → Option aS} {w : va_W} (h : PW T h7 ((ac, ap, ash, an, aob, arq), cn, M, S) w) : cn ≤ 14 := PW.ex h fun hS a0 ao ar d0 d1 d2 h1 hst hsl h2 ga go gr h3 he hew hy hyw hc hcw h4 hs so sr hl hlw hdr hh hhw hv hq ha ol dc dp dn ck gp gn mk p t0 sc sp st ds gs ss bs bd ax ay az lim dob drq gob grq sob srq E Y Ch LW hd dr sf slf P Q _ hmI _ _ _ => hmI.1
