/-! THE COUPLING (8): the orders on the model's side -/
theorem pmO_15_0 {e0 e1 e2 e3 e4 e5 e6 e7 e8 e9 e10 e11 e12 e13 e14 : Nat × va_E} : ([e0, e1, e2, e3, e4, e5, e6, e7, e8, e9, e10, e11, e12, e13, e14] : va_W).Perm ([e0, e1, e2, e3, e8, e11, e12, e14] ++ [e4, e5, e6, e7, e9, e10, e13]) := pm_lit2 (l := [e0, e1, e2, e3, e4, e5, e6, e7, e8, e9, e10, e11, e12, e13, e14]) (l' := [e0, e1, e2, e3, e8, e11, e12, e14] ++ [e4, e5, e6, e7, e9, e10, e13]) [0, 1, 2, 3, 8, 11, 12, 14, 4, 5, 6, 7, 9, 10, 13] 15 rfl rfl (by decide +kernel)
set_option maxHeartbeats 4000000 in
theorem n_X8_bestValue (l : Launch) (T : jj_T) {h8 k0 : Nat} {ac ap : Nat} {ash : Bool} {an : Nat} {aob arq : Nat → Int32} {cn : Nat} {M : Nat → aS} {S : Nat → Option aS} {w : va_W}  (W0 : MW T h8 k0 ((ac, ap, ash, an, aob, arq), cn, M, S) w) (O : okS ((ac, ap, ash, an, aob, arq), cn, M, S)) : jM l T yX8_bestValue wsX8_bestValue { frames := 5, cells := 0, slots := 0, locals := 126 } [.ref h8] w (fun v w1 => ∃ (k : Nat) (r : Int32), v = some (.int r) ∧ k = kf_bestValue ac ap ash an aob arq cn M S ∧ ((k = 0 ∧ rs_bestValue ac ap ash an aob arq cn M S r ∧ MW T h8 0 (nx_bestValue ac ap ash an aob arq cn M S r) w1) ∨ (k ≠ 0 ∧ MW T h8 k ((ac, ap, ash, an, aob, arq), cn, M, S) w1))) := by
  refine MW.ex W0 fun rv rn rnw rt rd rk rik rdk rre rle rhe rth rpa ror nx bv bo g9 D K pt oq ik dk re le he th hw hcn hnx hdg hkp => ?_
  obtain ⟨⟨oc, op, on, orq, oco, oob⟩, oM, oS⟩ := okS.of O
  refine jM.mono (jM.frame (c_X8_bestValue l T (h8 := h8) (rv := rv) (rn := rn) (rnw := rnw) (rt := rt) (rd := rd) (rk := rk) (rik := rik) (rdk := rdk) (rre := rre) (rle := rle) (rhe := rhe) (rth := rth) (rpa := rpa) (ror := ror) (na := cn) (nx := nx) (rf := (nI k0)) (bv := bv) (bo := bo) (ac := ac) (ap := ap) (an := an) (ash := ash) (aob := aob) (arq := arq) (oq := oq) (dk := dk) (he := he) (th := th) (hap := op) (hac := oc) (hco := oco) (han := on) (hrq := orq)) (hw.trans pmO_15_0)) ?_
  rintro v _ ⟨_, ⟨k8, r, rfl, hd9⟩, rfl⟩
  rcases hd9 with ⟨rfl, rfl, g1⟩ | ⟨rfl, b1, b2, he', th', oq', rfl, g2, g3, g4, g5⟩
  · exact ⟨_, ⟨_, _, rfl, by simp [kf_bestValue, g1], Or.inr ⟨by decide, MW.mk pmO_15_0.symm hcn hnx hdg hkp⟩⟩, List.Perm.refl _⟩
  · refine ⟨_, ⟨_, _, rfl, by simp [kf_bestValue, g2, g4], Or.inl ⟨rfl, by unfold rs_bestValue; rw [tF_moE on, g3]; exact g5, ?_⟩⟩, List.Perm.refl _⟩
    show MW T h8 0 ((ac, ap, ash, an, aob, arq), cn, M, S) _
    exact MW.mk pmO_15_0.symm hcn hnx hdg hkp
set_option maxHeartbeats 4000000 in
theorem n_X8_bestOrder (l : Launch) (T : jj_T) {h8 k0 : Nat} {ac ap : Nat} {ash : Bool} {an : Nat} {aob arq : Nat → Int32} {cn : Nat} {M : Nat → aS} {S : Nat → Option aS} {w : va_W}  (W0 : MW T h8 k0 ((ac, ap, ash, an, aob, arq), cn, M, S) w) (O : okS ((ac, ap, ash, an, aob, arq), cn, M, S)) : jM l T yX8_bestOrder wsX8_bestOrder { frames := 5, cells := 0, slots := 0, locals := 126 } [.ref h8] w (fun v w1 => ∃ (k : Nat) (r : Int32), v = some (.int r) ∧ k = kf_bestOrder ac ap ash an aob arq cn M S ∧ ((k = 0 ∧ rs_bestOrder ac ap ash an aob arq cn M S r ∧ MW T h8 0 (nx_bestOrder ac ap ash an aob arq cn M S r) w1) ∨ (k ≠ 0 ∧ MW T h8 k ((ac, ap, ash, an, aob, arq), cn, M, S) w1))) := by
  refine MW.ex W0 fun rv rn rnw rt rd rk rik rdk rre rle rhe rth rpa ror nx bv bo g9 D K pt oq ik dk re le he th hw hcn hnx hdg hkp => ?_
  obtain ⟨⟨oc, op, on, orq, oco, oob⟩, oM, oS⟩ := okS.of O
  refine jM.mono (jM.frame (c_X8_bestOrder l T (h8 := h8) (rv := rv) (rn := rn) (rnw := rnw) (rt := rt) (rd := rd) (rk := rk) (rik := rik) (rdk := rdk) (rre := rre) (rle := rle) (rhe := rhe) (rth := rth) (rpa := rpa) (ror := ror) (na := cn) (nx := nx) (rf := (nI k0)) (bv := bv) (bo := bo) (ac := ac) (ap := ap) (an := an) (ash := ash) (aob := aob) (arq := arq) (oq := oq) (dk := dk) (he := he) (th := th) (hap := op) (hac := oc) (hco := oco) (han := on) (hrq := orq)) (hw.trans pmO_15_0)) ?_
  rintro v _ ⟨_, ⟨k8, r, rfl, hd9⟩, rfl⟩
  rcases hd9 with ⟨rfl, rfl, g1⟩ | ⟨rfl, b1, b2, he', th', oq', rfl, g2, g3, g4, g5⟩
  · exact ⟨_, ⟨_, _, rfl, by simp [kf_bestOrder, g1], Or.inr ⟨by decide, MW.mk pmO_15_0.symm hcn hnx hdg hkp⟩⟩, List.Perm.refl _⟩
  · refine ⟨_, ⟨_, _, rfl, by simp [kf_bestOrder, g2, g4], Or.inl ⟨rfl, by unfold rs_bestOrder; rw [tF_moE on, g3]; exact g5, ?_⟩⟩, List.Perm.refl _⟩
    show MW T h8 0 ((ac, ap, ash, an, aob, arq), cn, M, S) _
    exact MW.mk pmO_15_0.symm hcn hnx hdg hkp
