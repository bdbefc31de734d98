/-! THE COUPLING (6): the model over its whole world, the rest -/
theorem pmN_15_0 {e0 e1 e2 e3 e4 e5 e6 e7 e8 e9 e10 e11 e12 e13 e14 : Nat × va_E} : ([e0, e1, e2, e3, e4, e5, e6, e7, e8, e9, e10, e11, e12, e13, e14] : va_W).Perm ([e0, e1] ++ [e2, e3, e4, e5, e6, e7, e8, e9, e10, e11, e12, e13, e14]) := pm_lit2 (l := [e0, e1, e2, e3, e4, e5, e6, e7, e8, e9, e10, e11, e12, e13, e14]) (l' := [e0, e1] ++ [e2, e3, e4, e5, e6, e7, e8, e9, e10, e11, e12, e13, e14]) [0, 1, 2, 3, 4, 5, 6, 7, 8, 9, 10, 11, 12, 13, 14] 15 rfl rfl (by decide +kernel)
theorem pmN_15_1 {e0 e1 e2 e3 e4 e5 e6 e7 e8 e9 e10 e11 e12 e13 e14 : Nat × va_E} : ([e0, e1, e2, e3, e4, e5, e6, e7, e8, e9, e10, e11, e12, e13, e14] : va_W).Perm ([e0, e3] ++ [e1, e2, e4, e5, e6, e7, e8, e9, e10, e11, e12, e13, e14]) := pm_lit2 (l := [e0, e1, e2, e3, e4, e5, e6, e7, e8, e9, e10, e11, e12, e13, e14]) (l' := [e0, e3] ++ [e1, e2, e4, e5, e6, e7, e8, e9, e10, e11, e12, e13, e14]) [0, 3, 1, 2, 4, 5, 6, 7, 8, 9, 10, 11, 12, 13, 14] 15 rfl rfl (by decide +kernel)
theorem pmN_15_2 {e0 e1 e2 e3 e4 e5 e6 e7 e8 e9 e10 e11 e12 e13 e14 : Nat × va_E} : ([e0, e1, e2, e3, e4, e5, e6, e7, e8, e9, e10, e11, e12, e13, e14] : va_W).Perm ([e0] ++ [e1, e2, e3, e4, e5, e6, e7, e8, e9, e10, e11, e12, e13, e14]) := pm_lit2 (l := [e0, e1, e2, e3, e4, e5, e6, e7, e8, e9, e10, e11, e12, e13, e14]) (l' := [e0] ++ [e1, e2, e3, e4, e5, e6, e7, e8, e9, e10, e11, e12, e13, e14]) [0, 1, 2, 3, 4, 5, 6, 7, 8, 9, 10, 11, 12, 13, 14] 15 rfl rfl (by decide +kernel)
theorem pmN_15_3 {e0 e1 e2 e3 e4 e5 e6 e7 e8 e9 e10 e11 e12 e13 e14 : Nat × va_E} : ([e0, e1, e2, e3, e4, e5, e6, e7, e8, e9, e10, e11, e12, e13, e14] : va_W).Perm ([e0, e3, e5] ++ [e1, e2, e4, e6, e7, e8, e9, e10, e11, e12, e13, e14]) := pm_lit2 (l := [e0, e1, e2, e3, e4, e5, e6, e7, e8, e9, e10, e11, e12, e13, e14]) (l' := [e0, e3, e5] ++ [e1, e2, e4, e6, e7, e8, e9, e10, e11, e12, e13, e14]) [0, 3, 5, 1, 2, 4, 6, 7, 8, 9, 10, 11, 12, 13, 14] 15 rfl rfl (by decide +kernel)
theorem pmN_15_4 {e0 e1 e2 e3 e4 e5 e6 e7 e8 e9 e10 e11 e12 e13 e14 : Nat × va_E} : ([e0, e1, e2, e3, e4, e5, e6, e7, e8, e9, e10, e11, e12, e13, e14] : va_W).Perm ([e0, e3, e6, e7] ++ [e1, e2, e4, e5, e8, e9, e10, e11, e12, e13, e14]) := pm_lit2 (l := [e0, e1, e2, e3, e4, e5, e6, e7, e8, e9, e10, e11, e12, e13, e14]) (l' := [e0, e3, e6, e7] ++ [e1, e2, e4, e5, e8, e9, e10, e11, e12, e13, e14]) [0, 3, 6, 7, 1, 2, 4, 5, 8, 9, 10, 11, 12, 13, 14] 15 rfl rfl (by decide +kernel)
set_option maxHeartbeats 4000000 in
theorem n_X8_cellOf (l : Launch) (T : jj_T) {h8 k0 : Nat} {ac ap : Nat} {ash : Bool} {an : Nat} {aob arq : Nat → Int32} {cn : Nat} {M : Nat → aS} {S : Nat → Option aS} {w : va_W} (x : Int32) (y : Int32) (z : Int32) (W0 : MW T h8 k0 ((ac, ap, ash, an, aob, arq), cn, M, S) w) (O : okS ((ac, ap, ash, an, aob, arq), cn, M, S)) : jM l T yX8_cellOf wsX8_cellOf { frames := 0, cells := 0, slots := 0, locals := 0 } [.ref h8, .int x, .int y, .int z] w (fun v w1 => ∃ r : Int32, v = some (.int r) ∧ fs_is (fun c => decide (cvec (3 * c + 0) = x ∧ cvec (3 * c + 1) = y ∧ cvec (3 * c + 2) = z)) 150 r ∧ MW T h8 0 ((ac, ap, ash, an, aob, arq), cn, M, S) w1) := by
  refine MW.ex W0 fun rv rn rnw rt rd rk rik rdk rre rle rhe rth rpa ror nx bv bo g9 D K pt oq ik dk re le he th hw hcn hnx hdg hkp => ?_
  obtain ⟨⟨oc, op, on, orq, oco, oob⟩, oM, oS⟩ := okS.of O
  refine jM.mono (jM.frame (c_X8_cellOf l T (h8 := h8) (rv := rv) (rn := rn) (rnw := rnw) (rt := rt) (rd := rd) (rk := rk) (rik := rik) (rdk := rdk) (rre := rre) (rle := rle) (rhe := rhe) (rth := rth) (rpa := rpa) (ror := ror) (na := cn) (nx := nx) (rf := (nI k0)) (bv := bv) (bo := bo) (x := x) (y := y) (z := z)) (hw.trans pmN_15_0)) ?_
  rintro v _ ⟨_, ⟨r, rfl, rfl, z1⟩, rfl⟩
  exact ⟨_, ⟨_, rfl, z1, MW.mk pmN_15_0.symm hcn hnx hdg hkp⟩, List.Perm.refl _⟩
set_option maxHeartbeats 4000000 in
theorem n_X8_clock (l : Launch) (T : jj_T) {h8 k0 : Nat} {ac ap : Nat} {ash : Bool} {an : Nat} {aob arq : Nat → Int32} {cn : Nat} {M : Nat → aS} {S : Nat → Option aS} {w : va_W}  (W0 : MW T h8 k0 ((ac, ap, ash, an, aob, arq), cn, M, S) w) (O : okS ((ac, ap, ash, an, aob, arq), cn, M, S)) : jM l T yX8_clock wsX8_clock { frames := 0, cells := 0, slots := 0, locals := 0 } [.ref h8] w (fun v w1 => v = some (.int (nI ac)) ∧ MW T h8 0 ((ac, ap, ash, an, aob, arq), cn, M, S) w1) := by
  refine MW.ex W0 fun rv rn rnw rt rd rk rik rdk rre rle rhe rth rpa ror nx bv bo g9 D K pt oq ik dk re le he th hw hcn hnx hdg hkp => ?_
  obtain ⟨⟨oc, op, on, orq, oco, oob⟩, oM, oS⟩ := okS.of O
  refine jM.mono (jM.frame (c_X8_clock l T (h8 := h8) (rv := rv) (rn := rn) (rnw := rnw) (rt := rt) (rd := rd) (rk := rk) (rik := rik) (rdk := rdk) (rre := rre) (rle := rle) (rhe := rhe) (rth := rth) (rpa := rpa) (ror := ror) (na := cn) (nx := nx) (rf := (nI k0)) (bv := bv) (bo := bo) (ac := ac) (ap := ap) (an := an) (ash := ash) (aob := aob) (arq := arq)) (hw.trans pmN_15_1)) ?_
  rintro v _ ⟨_, ⟨rfl, rfl⟩, rfl⟩
  exact ⟨_, ⟨rfl, MW.mk pmN_15_1.symm hcn hnx hdg hkp⟩, List.Perm.refl _⟩
set_option maxHeartbeats 4000000 in
theorem n_X8_position (l : Launch) (T : jj_T) {h8 k0 : Nat} {ac ap : Nat} {ash : Bool} {an : Nat} {aob arq : Nat → Int32} {cn : Nat} {M : Nat → aS} {S : Nat → Option aS} {w : va_W}  (W0 : MW T h8 k0 ((ac, ap, ash, an, aob, arq), cn, M, S) w) (O : okS ((ac, ap, ash, an, aob, arq), cn, M, S)) : jM l T yX8_position wsX8_position { frames := 0, cells := 0, slots := 0, locals := 0 } [.ref h8] w (fun v w1 => v = some (.int (nI ap)) ∧ MW T h8 0 ((ac, ap, ash, an, aob, arq), cn, M, S) w1) := by
  refine MW.ex W0 fun rv rn rnw rt rd rk rik rdk rre rle rhe rth rpa ror nx bv bo g9 D K pt oq ik dk re le he th hw hcn hnx hdg hkp => ?_
  obtain ⟨⟨oc, op, on, orq, oco, oob⟩, oM, oS⟩ := okS.of O
  refine jM.mono (jM.frame (c_X8_position l T (h8 := h8) (rv := rv) (rn := rn) (rnw := rnw) (rt := rt) (rd := rd) (rk := rk) (rik := rik) (rdk := rdk) (rre := rre) (rle := rle) (rhe := rhe) (rth := rth) (rpa := rpa) (ror := ror) (na := cn) (nx := nx) (rf := (nI k0)) (bv := bv) (bo := bo) (ac := ac) (ap := ap) (an := an) (ash := ash) (aob := aob) (arq := arq)) (hw.trans pmN_15_1)) ?_
  rintro v _ ⟨_, ⟨rfl, rfl⟩, rfl⟩
  exact ⟨_, ⟨rfl, MW.mk pmN_15_1.symm hcn hnx hdg hkp⟩, List.Perm.refl _⟩
set_option maxHeartbeats 4000000 in
theorem n_X8_isClosed (l : Launch) (T : jj_T) {h8 k0 : Nat} {ac ap : Nat} {ash : Bool} {an : Nat} {aob arq : Nat → Int32} {cn : Nat} {M : Nat → aS} {S : Nat → Option aS} {w : va_W}  (W0 : MW T h8 k0 ((ac, ap, ash, an, aob, arq), cn, M, S) w) (O : okS ((ac, ap, ash, an, aob, arq), cn, M, S)) : jM l T yX8_isClosed wsX8_isClosed { frames := 0, cells := 0, slots := 0, locals := 0 } [.ref h8] w (fun v w1 => v = some (.int (bI ash)) ∧ MW T h8 0 ((ac, ap, ash, an, aob, arq), cn, M, S) w1) := by
  refine MW.ex W0 fun rv rn rnw rt rd rk rik rdk rre rle rhe rth rpa ror nx bv bo g9 D K pt oq ik dk re le he th hw hcn hnx hdg hkp => ?_
  obtain ⟨⟨oc, op, on, orq, oco, oob⟩, oM, oS⟩ := okS.of O
  refine jM.mono (jM.frame (c_X8_isClosed l T (h8 := h8) (rv := rv) (rn := rn) (rnw := rnw) (rt := rt) (rd := rd) (rk := rk) (rik := rik) (rdk := rdk) (rre := rre) (rle := rle) (rhe := rhe) (rth := rth) (rpa := rpa) (ror := ror) (na := cn) (nx := nx) (rf := (nI k0)) (bv := bv) (bo := bo) (ac := ac) (ap := ap) (an := an) (ash := ash) (aob := aob) (arq := arq)) (hw.trans pmN_15_1)) ?_
  rintro v _ ⟨_, ⟨rfl, rfl⟩, rfl⟩
  exact ⟨_, ⟨rfl, MW.mk pmN_15_1.symm hcn hnx hdg hkp⟩, List.Perm.refl _⟩
set_option maxHeartbeats 4000000 in
theorem n_X8_requestCount (l : Launch) (T : jj_T) {h8 k0 : Nat} {ac ap : Nat} {ash : Bool} {an : Nat} {aob arq : Nat → Int32} {cn : Nat} {M : Nat → aS} {S : Nat → Option aS} {w : va_W}  (W0 : MW T h8 k0 ((ac, ap, ash, an, aob, arq), cn, M, S) w) (O : okS ((ac, ap, ash, an, aob, arq), cn, M, S)) : jM l T yX8_requestCount wsX8_requestCount { frames := 0, cells := 0, slots := 0, locals := 0 } [.ref h8] w (fun v w1 => v = some (.int (nI an)) ∧ MW T h8 0 ((ac, ap, ash, an, aob, arq), cn, M, S) w1) := by
  refine MW.ex W0 fun rv rn rnw rt rd rk rik rdk rre rle rhe rth rpa ror nx bv bo g9 D K pt oq ik dk re le he th hw hcn hnx hdg hkp => ?_
  obtain ⟨⟨oc, op, on, orq, oco, oob⟩, oM, oS⟩ := okS.of O
  refine jM.mono (jM.frame (c_X8_requestCount l T (h8 := h8) (rv := rv) (rn := rn) (rnw := rnw) (rt := rt) (rd := rd) (rk := rk) (rik := rik) (rdk := rdk) (rre := rre) (rle := rle) (rhe := rhe) (rth := rth) (rpa := rpa) (ror := ror) (na := cn) (nx := nx) (rf := (nI k0)) (bv := bv) (bo := bo) (ac := ac) (ap := ap) (an := an) (ash := ash) (aob := aob) (arq := arq)) (hw.trans pmN_15_1)) ?_
  rintro v _ ⟨_, ⟨rfl, rfl⟩, rfl⟩
  exact ⟨_, ⟨rfl, MW.mk pmN_15_1.symm hcn hnx hdg hkp⟩, List.Perm.refl _⟩
set_option maxHeartbeats 4000000 in
theorem n_X8_undo (l : Launch) (T : jj_T) {h8 k0 : Nat} {ac ap : Nat} {ash : Bool} {an : Nat} {aob arq : Nat → Int32} {cn : Nat} {M : Nat → aS} {S : Nat → Option aS} {w : va_W}  (W0 : MW T h8 k0 ((ac, ap, ash, an, aob, arq), cn, M, S) w) (O : okS ((ac, ap, ash, an, aob, arq), cn, M, S)) : jM l T yX8_undo wsX8_undo { frames := 1, cells := 0, slots := 0, locals := 21 } [.ref h8] w (fun v w1 => ∃ (k : Nat) (r : Int32), v = some (.int r) ∧ k = kf_undo ac ap ash an aob arq cn M S ∧ ((k = 0 ∧ rs_undo ac ap ash an aob arq cn M S r ∧ MW T h8 0 (nx_undo ac ap ash an aob arq cn M S r) w1) ∨ (k ≠ 0 ∧ MW T h8 k ((ac, ap, ash, an, aob, arq), cn, M, S) w1))) := by
  refine MW.ex W0 fun rv rn rnw rt rd rk rik rdk rre rle rhe rth rpa ror nx bv bo g9 D K pt oq ik dk re le he th hw hcn hnx hdg hkp => ?_
  obtain ⟨⟨oc, op, on, orq, oco, oob⟩, oM, oS⟩ := okS.of O
  cases cn with
  | zero =>
    refine jM.mono (jM.frame (c_X8_undo_0 l T (h8 := h8) (rv := rv) (rn := rn) (rnw := rnw) (rt := rt) (rd := rd) (rk := rk) (rik := rik) (rdk := rdk) (rre := rre) (rle := rle) (rhe := rhe) (rth := rth) (rpa := rpa) (ror := ror) (na := 0) (nx := nx) (rf := (nI k0)) (bv := bv) (bo := bo)) (hw.trans pmN_15_2)) ?_
    rintro v _ ⟨_, ⟨rfl, rfl⟩, rfl⟩
    exact ⟨_, ⟨_, _, rfl, (if_pos rfl).symm, Or.inr ⟨by decide, MW.mk pmN_15_2.symm hcn hnx hdg hkp⟩⟩, List.Perm.refl _⟩
  | succ cn =>
    have z1 : ∀ t, t < 37 → D (37 * ((nx + 14 - 1) % 14) + t) = rwS (M cn) t := fun t ht => by
      have z2 := hdg cn (Nat.lt_succ_self cn) t ht
      rw [show nx + 14 - (cn + 1) + cn = nx + 14 - 1 by omega] at z2
      exact z2
    refine jM.mono (jM.frame (c_X8_undo_s l T (h8 := h8) (rv := rv) (rn := rn) (rnw := rnw) (rt := rt) (rd := rd) (rk := rk) (rik := rik) (rdk := rdk) (rre := rre) (rle := rle) (rhe := rhe) (rth := rth) (rpa := rpa) (ror := ror) (na := cn) (nx := nx) (rf := (nI k0)) (bv := bv) (bo := bo) (h := (rowF ac ap ash an aob arq)) (g := (rwS (M cn))) (D := D) (hna := (by omega)) (hnx := hnx) (hD := z1)) (hw.trans pmN_15_3)) ?_
    rintro v _ ⟨_, ⟨rfl, rfl⟩, rfl⟩
    refine ⟨_, ⟨_, _, rfl, (if_neg (Nat.succ_ne_zero cn)).symm, Or.inl ⟨rfl, rfl, ?_⟩⟩, List.Perm.refl _⟩
    show MW T h8 0 (M cn, cn, M, S) _
    obtain ⟨b1, b2, b3, b4, b5, b6, z3⟩ : ∃ b1 b2 b3 b4 b5 b6, M cn = (b1, b2, b3, b4, b5, b6) := ⟨_, _, _, _, _, _, rfl⟩
    rw [z3]
    refine MW.mk pmN_15_3.symm (by omega) (Nat.mod_lt _ (by decide)) (fun j hj t ht => ?_) hkp
    have z4 := hdg j (by omega) t ht
    rw [show ((nx + 14 - 1) % 14 + 14 - cn + j) % 14 = (nx + 14 - (cn + 1) + j) % 14 by omega]
    exact z4
theorem kp_put {ik : Nat → Bool} {K : Nat → Int32} {S : Nat → Option aS} (h : kpI ik K S) (i : Nat) (a : aS) : kpI (va_up ik i true) (dgN K i (rwS a)) (va_up S i (some a)) := by
  intro j hj
  by_cases e : j = i
  · subst e
    rw [va_up_self, va_up_self]
    refine ⟨rfl, fun b hb t ht => ?_⟩
    cases hb
    exact dgN_in ht
  · rw [va_up_ne _ _ e, va_up_ne _ _ e]
    refine ⟨(h j hj).1, fun b hb t ht => ?_⟩
    rw [dgN_out ht e]
    exact (h j hj).2 b hb t ht
set_option maxHeartbeats 4000000 in
theorem n_X8_save (l : Launch) (T : jj_T) {h8 k0 : Nat} {ac ap : Nat} {ash : Bool} {an : Nat} {aob arq : Nat → Int32} {cn : Nat} {M : Nat → aS} {S : Nat → Option aS} {w : va_W} (x : Int32) (W0 : MW T h8 k0 ((ac, ap, ash, an, aob, arq), cn, M, S) w) (O : okS ((ac, ap, ash, an, aob, arq), cn, M, S)) : jM l T yX8_save wsX8_save { frames := 1, cells := 0, slots := 0, locals := 25 } [.ref h8, .int x] w (fun v w1 => ∃ (k : Nat) (r : Int32), v = some (.int r) ∧ k = kf_save ac ap ash an aob arq cn M S x ∧ ((k = 0 ∧ rs_save ac ap ash an aob arq cn M S x r ∧ MW T h8 0 (nx_save ac ap ash an aob arq cn M S x r) w1) ∨ (k ≠ 0 ∧ MW T h8 k ((ac, ap, ash, an, aob, arq), cn, M, S) w1))) := by
  refine MW.ex W0 fun rv rn rnw rt rd rk rik rdk rre rle rhe rth rpa ror nx bv bo g9 D K pt oq ik dk re le he th hw hcn hnx hdg hkp => ?_
  obtain ⟨⟨oc, op, on, orq, oco, oob⟩, oM, oS⟩ := okS.of O
  refine jM.mono (jM.frame (c_X8_save l T (h8 := h8) (rv := rv) (rn := rn) (rnw := rnw) (rt := rt) (rd := rd) (rk := rk) (rik := rik) (rdk := rdk) (rre := rre) (rle := rle) (rhe := rhe) (rth := rth) (rpa := rpa) (ror := ror) (na := cn) (nx := nx) (rf := (nI k0)) (bv := bv) (bo := bo) (ac := ac) (ap := ap) (an := an) (ash := ash) (aob := aob) (arq := arq) (K := K) (ik := ik) (x := x)) (hw.trans pmN_15_4)) ?_
  rintro v _ ⟨_, ⟨k8, r, rfl, z0⟩, rfl⟩
  rcases z0 with ⟨rfl, rfl, z1⟩ | ⟨rfl, i, rfl, z1, z2, z3⟩
  · exact ⟨_, ⟨_, _, rfl, (if_pos z1).symm, Or.inr ⟨by decide, MW.mk pmN_15_4.symm hcn hnx hdg hkp⟩⟩, List.Perm.refl _⟩
  · have z4 : xN x = i := xN_e z1 (by omega)
    have z5 : inR x 0 1 = true := xRn z1 (by omega) (by omega) (by omega)
    refine ⟨_, ⟨_, _, rfl, (if_neg (nf z5)).symm, Or.inl ⟨rfl, z3, ?_⟩⟩, List.Perm.refl _⟩
    show MW T h8 0 ((ac, ap, ash, an, aob, arq), cn, M, va_up S (xN x) (some (ac, ap, ash, an, aob, arq))) _
    rw [z4]
    exact MW.mk pmN_15_4.symm hcn hnx hdg (kp_put hkp i (ac, ap, ash, an, aob, arq))
set_option maxHeartbeats 4000000 in
theorem n_X8_restore (l : Launch) (T : jj_T) {h8 k0 : Nat} {ac ap : Nat} {ash : Bool} {an : Nat} {aob arq : Nat → Int32} {cn : Nat} {M : Nat → aS} {S : Nat → Option aS} {w : va_W} (x : Int32) (W0 : MW T h8 k0 ((ac, ap, ash, an, aob, arq), cn, M, S) w) (O : okS ((ac, ap, ash, an, aob, arq), cn, M, S)) : jM l T yX8_restore wsX8_restore { frames := 1, cells := 0, slots := 0, locals := 25 } [.ref h8, .int x] w (fun v w1 => ∃ (k : Nat) (r : Int32), v = some (.int r) ∧ k = kf_restore ac ap ash an aob arq cn M S x ∧ ((k = 0 ∧ rs_restore ac ap ash an aob arq cn M S x r ∧ MW T h8 0 (nx_restore ac ap ash an aob arq cn M S x r) w1) ∨ (k ≠ 0 ∧ MW T h8 k ((ac, ap, ash, an, aob, arq), cn, M, S) w1))) := by
  refine MW.ex W0 fun rv rn rnw rt rd rk rik rdk rre rle rhe rth rpa ror nx bv bo g9 D K pt oq ik dk re le he th hw hcn hnx hdg hkp => ?_
  obtain ⟨⟨oc, op, on, orq, oco, oob⟩, oM, oS⟩ := okS.of O
  have z9 : ∀ i, i < 2 → ik i = true → ∀ t, t < 37 → K (37 * i + t) = rwS ((S i).getD (ac, ap, ash, an, aob, arq)) t := fun i hi hk t ht => by
    obtain ⟨y1, y2⟩ := hkp i hi
    rw [y1] at hk
    obtain ⟨a, ha⟩ := Option.isSome_iff_exists.mp hk
    rw [ha]
    exact y2 a ha t ht
  refine jM.mono (jM.frame (c_X8_restore l T (h8 := h8) (rv := rv) (rn := rn) (rnw := rnw) (rt := rt) (rd := rd) (rk := rk) (rik := rik) (rdk := rdk) (rre := rre) (rle := rle) (rhe := rhe) (rth := rth) (rpa := rpa) (ror := ror) (na := cn) (nx := nx) (rf := (nI k0)) (bv := bv) (bo := bo) (ac := ac) (ap := ap) (an := an) (ash := ash) (aob := aob) (arq := arq) (K := K) (ik := ik) (G := (fun i => rwS ((S i).getD (ac, ap, ash, an, aob, arq)))) (x := x) (hK := z9)) (hw.trans pmN_15_4)) ?_
  rintro v _ ⟨_, ⟨k8, r, rfl, z0⟩, rfl⟩
  rcases z0 with ⟨rfl, z1⟩ | ⟨rfl, i, rfl, z1, z2, z3, z4⟩
  · rcases z1 with ⟨rfl, z2⟩ | ⟨rfl, z2, i, z3, z4, z5⟩
    · exact ⟨_, ⟨_, _, rfl, (if_pos z2).symm, Or.inr ⟨by decide, MW.mk pmN_15_4.symm hcn hnx hdg hkp⟩⟩, List.Perm.refl _⟩
    · have z6 : xN x = i := xN_e z3 (by omega)
      have z7 := (hkp i z4).1
      have z8 : (S i).isNone = true := by
        rw [z5] at z7
        cases z10 : S i with
        | none => rfl
        | some a => rw [z10] at z7; cases z7
      exact ⟨_, ⟨_, _, rfl, by unfold kf_restore; rw [z6, if_neg (nf z2), if_pos z8], Or.inr ⟨by decide, MW.mk pmN_15_4.symm hcn hnx hdg hkp⟩⟩, List.Perm.refl _⟩
  · have z6 : xN x = i := xN_e z1 (by omega)
    have z5 : inR x 0 1 = true := xRn z1 (by omega) (by omega) (by omega)
    have z7 := (hkp i z2).1
    rw [z3] at z7
    obtain ⟨⟨b1, b2, b3, b4, b5, b6⟩, z8⟩ := Option.isSome_iff_exists.mp z7.symm
    refine ⟨_, ⟨_, _, rfl, by unfold kf_restore; rw [z6, if_neg (nf z5), if_neg (by rw [z8]; exact Bool.false_ne_true)], Or.inl ⟨rfl, ⟨(b1, b2, b3, b4, b5, b6), by rw [z6]; exact z8, by rw [z4, z8]; rfl⟩, ?_⟩⟩, List.Perm.refl _⟩
    show MW T h8 0 ((S (xN x)).getD (ac, ap, ash, an, aob, arq), 0, M, S) _
    rw [z6, z8]
    show MW T h8 0 ((b1, b2, b3, b4, b5, b6), 0, M, S) _
    exact MW.mk pmN_15_4.symm (by omega) hnx (fun j hj => absurd hj (by omega)) hkp
