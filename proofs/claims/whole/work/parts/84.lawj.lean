/-! THE LAW (2): its own walk's judgement -/
abbrev lawA (s : State) : Nat → Prop := fun q => s.heap.size ≤ q
/-- what holds of the law's context: the script, and that the law may end with 1 wherever it stands -/
def jj_L (X : jj_X) (b L : Nat) (sc : Nat → Int32) : Prop := va_X b L sc (xs X) (xs X).heap ∧ b < (xs X).heap.size ∧ ¬ xA X b ∧ ∀ (k n pc : Nat) (lv : List (Nat × Value)) (w : va_W), k ≤ 601024 → n ≤ 7293034 → decode cL_law pc = .ok (.ireturn, 1) → jj X k n pc lv [.int 1] w
theorem law_of {p : Program} {e : Env} {s : State} {m : MethodId} {below : List Frame} {meth : Method} {c : Code} (l : Launch) {b L : Nat} {sc : Nat → Int32} (C0 : lw_At p s m meth c b L sc)
    (body : ∀ X : jj_X, jj_C X cL_law RL wsL_law room_1 9 ret → jj_RW X → xl X = l → jZ (xA X) (xs X) (xs X).heap → jj_L X b L sc → jj X 0 0 0 [(0, .ref b)] [] []) : W p l e room_1 s m #[Value.ref b] below meth c s.heap [] 0 0 (lw_Z below #[Value.ref b] s) (entryFrame m ([Value.ref b] : List Value).toArray 9) := by
  obtain ⟨T, hK⟩ := law_K C0
  have hZ := law_Z C0
  obtain ⟨hx, hb, hr, hml, hown, hts, hX, hbl, hlocks, hgv⟩ := id C0
  have h := body (p, l, e, room_1, s, m, #[Value.ref b], below, meth, c, lw_Z below #[Value.ref b] s, 9, T, (fun w H locs => va_P T.1 vwCl w H ∧ va_D (lawA s) w ∧ va_S (lawA s) s.heap H locs), lawA s)
    ⟨hx, hb, hml, rfl, hown, fun w hw => hts w (wsL_law_in w hw), hK, hr, hlocks, rfl, fun w H locs h => h.1, fun w w' H locs is hn hs h => ⟨fun k q hq => ?_, h.2.1.sub is hn hs, h.2.2⟩, fun w H locs h => h.2.1.weaken (fun _ _ _ _ => trivial), fun w w' H locs h h2 h3 => ⟨h2, va_D_fst h.2.1 h3, h.2.2⟩, fun w w' H locs hp h => ⟨va_P_pm h.1 hp, va_D_pm h.2.1 hp, h.2.2⟩⟩ ⟨rfl, fun q h => h⟩ rfl hZ ⟨hX, hbl, Nat.not_le.mpr hbl, fun k n pc lv w hk hn d H locs ls hI hl => ?_⟩
  · rw [lg_entry_eq]
    exact h s.heap [] _ ⟨fun k q h => by simp at h, ⟨fun i j p q h => by simp at h, fun k q h => by simp at h⟩, va_S.rf⟩ (lv_entry [.ref b] (Nat.le_of_ble_eq_true rfl))
  · have h1 : (is.map (fun i => w[i]?))[k]? = some (some q) := by rw [hs, List.getElem?_map, hq]; rfl
    rw [List.getElem?_map] at h1
    cases hi : is[k]? with
    | none => rw [hi] at h1; cases h1
    | some i => rw [hi] at h1; exact h.1 i q (Option.some.inj h1)
  · refine W.widen hk hn ?_
    refine va_forget (fun q hq => hI.2.2.2.2 q hq) ?_
    exact W.base (lw_ret (Drawn.sameBut.refl s.drawn lw_cs) hx hb hr hlocks d)
section JLAW
variable {X : jj_X} {cc : ByteArray} {own : String} {Ts : List Cond} {R : Room} {mL : Nat} {ret : Option FieldType} {k n pc : Nat} {lv : List (Nat × Value)} {st rest : List Value} {w : va_W}
theorem j_sld (C : jj_C X cc own Ts R mL ret) (rw_ : jj_RW X) {b L : Nat} {sc : Nat → Int32} (hL : jj_L X b L sc) {i : Int32} (hin : vp_in i L) (d : decode cc pc = .ok (.iaload, 1)) (kk : jj X k n (pc + 1) lv (.int (sc i.toNatClampNeg) :: rest) w) : jj X k n pc lv (.int i :: .ref b :: rest) w := by
  intro H locs ls hI hl
  have hI2 := hI
  rw [rw_.1] at hI2
  exact va_sld C.exec C.cod hL.1 hL.2.1 hL.2.2.1 hI2.2.2 hin d (kk H locs ls hI hl)
theorem j_slen (C : jj_C X cc own Ts R mL ret) (rw_ : jj_RW X) {b L : Nat} {sc : Nat → Int32} (hL : jj_L X b L sc) (d : decode cc pc = .ok (.arraylength, 1)) (kk : jj X k n (pc + 1) lv (.int (nI L) :: rest) w) : jj X k n pc lv (.ref b :: rest) w := by
  intro H locs ls hI hl
  have hI2 := hI
  rw [rw_.1] at hI2
  exact va_slen C.exec C.cod hL.1 hL.2.1 hL.2.2.1 hI2.2.2 d (kk H locs ls hI hl)
theorem j_tabOut (C : jj_C X cc own Ts R mL ret) {dflt lo hi : Int} {offs : Array Int} {len : Nat} {x : Int32} {tgt : Nat} (d : decode cc pc = .ok (.tableswitch dflt lo hi offs, len)) (h : x.toInt < lo ∨ hi < x.toInt) (ht : (pc : Int) + dflt = (tgt : Int)) (kk : jj X k n tgt lv rest w) : jj X k n pc lv (.int x :: rest) w := fun H locs ls hI hl => lv_tableOut C.exec C.cod d h ht (kk H locs ls hI hl)
theorem j_tabIn (C : jj_C X cc own Ts R mL ret) {dflt lo hi : Int} {offs : Array Int} {len : Nat} {x : Int32} {off : Int} {tgt : Nat} (d : decode cc pc = .ok (.tableswitch dflt lo hi offs, len)) (h1 : ¬ x.toInt < lo) (h2 : ¬ hi < x.toInt) (ho : offs[(x.toInt - lo).toNat]? = some off) (ht : (pc : Int) + off = (tgt : Int)) (kk : jj X k n tgt lv rest w) : jj X k n pc lv (.int x :: rest) w := fun H locs ls hI hl => lv_tableIn C.exec C.cod d h1 h2 ho ht (kk H locs ls hI hl)
/-- a call of a method that catches -/
theorem j_callSWp {y : MethodName} {ws ws' : List Cond} {rm : Room} {As : List Value} {wc wr : va_W} {idx maxL nA : Nat} {bytes : ByteArray} {rt : Option FieldType} {hh : List (Nat × Nat × Nat × Nat)} {post : Option Value → va_W → Prop} (C : jj_C X cc own Ts R mL ret) (rw_ : jj_RW X) (hZ : jZ (xA X) (xs X) (xs X).heap) (M : jW (xl X) (xT X) y ws rm As wc post) (hG : GoodIn Ts (va_wsS own idx y ws)) (hw : ws = Cond.codeWith y bytes maxL rt hh :: ws') (hd : y.cls ≠ "java/lang/invoke/MethodHandle" ∧ y.cls ≠ "java/lang/invoke/VarHandle" ∧ (parseMethodDescriptor y.desc).map (fun d => d.parameters.length) = some nA) (hnA : As.length = nA) (hR : rm.frames + 1 ≤ R.frames ∧ 8 + (maxL + 11) + rm.locals ≤ R.locals) (hcs : k + rm.cells ≤ R.cells ∧ n + rm.slots ≤ R.slots)
    (hp : w.Perm (wc ++ wr)) (hst : st = As.reverse ++ rest) (hcat : (rest.map fun v => v.category).sum ≤ 8) (d : decode cc pc = .ok (.invokestatic idx, 3))
    (kk : ∀ v w1, post v w1 → jj X (k + rm.cells) (n + rm.slots) (pc + 3) lv (v.toList ++ rest) (w1 ++ wr)) : jj X k n pc lv st w := by
  refine j_permP C hp ?_
  refine j_afterM C rw_ (post := post) (rest := rest) (List.range wc.length) ((List.range wr.length).map (· + wc.length)) (pr_C wc wr) (pr_R wc wr) (pr_ndR _ _) (pr_dis _ _) (fun H locs ls hI hl => ?_) (fun v w1 h => j_permP C List.perm_append_comm (kk v w1 h))
  have hIc := C.sub _ (pr_ndC _) (pr_C wc wr) hI
  exact vx_runSW (As := As) ⟨C.exec, C.cod, C.nl, C.ow, C.ts⟩ (M H.size) (vx_cwSW nA C.ts hG hw rfl rfl hd (by rw [C.room]; exact hR)) ⟨jj_blindX, fun U hU hW => ⟨rfl, by rw [hU], by rw [hU]; exact C.P hIc, C.KK.warm hW, C.D hIc, j_Z rw_ hZ hI _ (pr_C wc wr) hU hW⟩⟩ rfl hnA (by rw [← C.nx]; exact hl.1) hst (lv_room hcat) d (by rw [C.room]; exact hcs)
end JLAW
