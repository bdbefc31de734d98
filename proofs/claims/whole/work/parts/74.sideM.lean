/-! THE COUPLING (5): the model over its whole world -/
theorem or3 {a b : Bool} {c : Nat} (h : a = true ∨ 200 ≤ c ∨ b = true) : (a || (decide (200 ≤ c) || b)) = true := by
  rcases h with h | h | h
  · rw [h, Bool.true_or]
  · rw [decide_eq_true h, Bool.true_or, Bool.or_true]
  · rw [h, Bool.or_true, Bool.or_true]
theorem pmM_15_0 {e0 e1 e2 e3 e4 e5 e6 e7 e8 e9 e10 e11 e12 e13 e14 : Nat × va_E} : ([e0, e1, e2, e3, e4, e5, e6, e7, e8, e9, e10, e11, e12, e13, e14] : va_W).Perm ([e0, e1] ++ [e2, e3, e4, e5, e6, e7, e8, e9, e10, e11, e12, e13, e14]) := pm_lit2 (l := [e0, e1, e2, e3, e4, e5, e6, e7, e8, e9, e10, e11, e12, e13, e14]) (l' := [e0, e1] ++ [e2, e3, e4, e5, e6, e7, e8, e9, e10, e11, e12, e13, e14]) [0, 1, 2, 3, 4, 5, 6, 7, 8, 9, 10, 11, 12, 13, 14] 15 rfl rfl (by decide +kernel)
theorem pmM_15_1 {e0 e1 e2 e3 e4 e5 e6 e7 e8 e9 e10 e11 e12 e13 e14 : Nat × va_E} : ([e0, e1, e2, e3, e4, e5, e6, e7, e8, e9, e10, e11, e12, e13, e14] : va_W).Perm ([e0, e2] ++ [e1, e3, e4, e5, e6, e7, e8, e9, e10, e11, e12, e13, e14]) := pm_lit2 (l := [e0, e1, e2, e3, e4, e5, e6, e7, e8, e9, e10, e11, e12, e13, e14]) (l' := [e0, e2] ++ [e1, e3, e4, e5, e6, e7, e8, e9, e10, e11, e12, e13, e14]) [0, 2, 1, 3, 4, 5, 6, 7, 8, 9, 10, 11, 12, 13, 14] 15 rfl rfl (by decide +kernel)
theorem pmM_15_2 {e0 e1 e2 e3 e4 e5 e6 e7 e8 e9 e10 e11 e12 e13 e14 : Nat × va_E} : ([e0, e1, e2, e3, e4, e5, e6, e7, e8, e9, e10, e11, e12, e13, e14] : va_W).Perm ([e0, e3] ++ [e1, e2, e4, e5, e6, e7, e8, e9, e10, e11, e12, e13, e14]) := pm_lit2 (l := [e0, e1, e2, e3, e4, e5, e6, e7, e8, e9, e10, e11, e12, e13, e14]) (l' := [e0, e3] ++ [e1, e2, e4, e5, e6, e7, e8, e9, e10, e11, e12, e13, e14]) [0, 3, 1, 2, 4, 5, 6, 7, 8, 9, 10, 11, 12, 13, 14] 15 rfl rfl (by decide +kernel)
theorem pmM_15_3 {e0 e1 e2 e3 e4 e5 e6 e7 e8 e9 e10 e11 e12 e13 e14 : Nat × va_E} : ([e0, e1, e2, e3, e4, e5, e6, e7, e8, e9, e10, e11, e12, e13, e14] : va_W).Perm ([e0, e1, e3] ++ [e2, e4, e5, e6, e7, e8, e9, e10, e11, e12, e13, e14]) := pm_lit2 (l := [e0, e1, e2, e3, e4, e5, e6, e7, e8, e9, e10, e11, e12, e13, e14]) (l' := [e0, e1, e3] ++ [e2, e4, e5, e6, e7, e8, e9, e10, e11, e12, e13, e14]) [0, 1, 3, 2, 4, 5, 6, 7, 8, 9, 10, 11, 12, 13, 14] 15 rfl rfl (by decide +kernel)
theorem pmM_15_4 {e0 e1 e2 e3 e4 e5 e6 e7 e8 e9 e10 e11 e12 e13 e14 : Nat × va_E} : ([e0, e1, e2, e3, e4, e5, e6, e7, e8, e9, e10, e11, e12, e13, e14] : va_W).Perm ([e0, e1, e3, e4, e5] ++ [e2, e6, e7, e8, e9, e10, e11, e12, e13, e14]) := pm_lit2 (l := [e0, e1, e2, e3, e4, e5, e6, e7, e8, e9, e10, e11, e12, e13, e14]) (l' := [e0, e1, e3, e4, e5] ++ [e2, e6, e7, e8, e9, e10, e11, e12, e13, e14]) [0, 1, 3, 4, 5, 2, 6, 7, 8, 9, 10, 11, 12, 13, 14] 15 rfl rfl (by decide +kernel)
theorem pmM_15_5 {e0 e1 e2 e3 e4 e5 e6 e7 e8 e9 e10 e11 e12 e13 e14 : Nat × va_E} : ([e0, e1, e2, e3, e4, e5, e6, e7, e8, e9, e10, e11, e12, e13, e14] : va_W).Perm ([e0, e1, e2, e3, e5] ++ [e4, e6, e7, e8, e9, e10, e11, e12, e13, e14]) := pm_lit2 (l := [e0, e1, e2, e3, e4, e5, e6, e7, e8, e9, e10, e11, e12, e13, e14]) (l' := [e0, e1, e2, e3, e5] ++ [e4, e6, e7, e8, e9, e10, e11, e12, e13, e14]) [0, 1, 2, 3, 5, 4, 6, 7, 8, 9, 10, 11, 12, 13, 14] 15 rfl rfl (by decide +kernel)
theorem pmM_15_6 {e0 e1 e2 e3 e4 e5 e6 e7 e8 e9 e10 e11 e12 e13 e14 : Nat × va_E} : ([e0, e1, e2, e3, e4, e5, e6, e7, e8, e9, e10, e11, e12, e13, e14] : va_W).Perm ([e0, e1, e2, e3, e8, e9, e5] ++ [e4, e6, e7, e10, e11, e12, e13, e14]) := pm_lit2 (l := [e0, e1, e2, e3, e4, e5, e6, e7, e8, e9, e10, e11, e12, e13, e14]) (l' := [e0, e1, e2, e3, e8, e9, e5] ++ [e4, e6, e7, e10, e11, e12, e13, e14]) [0, 1, 2, 3, 8, 9, 5, 4, 6, 7, 10, 11, 12, 13, 14] 15 rfl rfl (by decide +kernel)
theorem pmM_15_7 {e0 e1 e2 e3 e4 e5 e6 e7 e8 e9 e10 e11 e12 e13 e14 : Nat × va_E} : ([e0, e1, e2, e3, e4, e5, e6, e7, e8, e9, e10, e11, e12, e13, e14] : va_W).Perm ([e0, e3, e5] ++ [e1, e2, e4, e6, e7, e8, e9, e10, e11, e12, e13, e14]) := pm_lit2 (l := [e0, e1, e2, e3, e4, e5, e6, e7, e8, e9, e10, e11, e12, e13, e14]) (l' := [e0, e3, e5] ++ [e1, e2, e4, e6, e7, e8, e9, e10, e11, e12, e13, e14]) [0, 3, 5, 1, 2, 4, 6, 7, 8, 9, 10, 11, 12, 13, 14] 15 rfl rfl (by decide +kernel)
theorem pmM_15_8 {e0 e1 e2 e3 e4 e5 e6 e7 e8 e9 e10 e11 e12 e13 e14 : Nat × va_E} : ([e0, e1, e2, e3, e4, e5, e6, e7, e8, e9, e10, e11, e12, e13, e14] : va_W).Perm ([e0, e1, e3, e5] ++ [e2, e4, e6, e7, e8, e9, e10, e11, e12, e13, e14]) := pm_lit2 (l := [e0, e1, e2, e3, e4, e5, e6, e7, e8, e9, e10, e11, e12, e13, e14]) (l' := [e0, e1, e3, e5] ++ [e2, e4, e6, e7, e8, e9, e10, e11, e12, e13, e14]) [0, 1, 3, 5, 2, 4, 6, 7, 8, 9, 10, 11, 12, 13, 14] 15 rfl rfl (by decide +kernel)
theorem pmM_15_9 {e0 e1 e2 e3 e4 e5 e6 e7 e8 e9 e10 e11 e12 e13 e14 : Nat × va_E} : ([e0, e1, e2, e3, e4, e5, e6, e7, e8, e9, e10, e11, e12, e13, e14] : va_W).Perm ([e0, e1, e2, e3, e8, e9] ++ [e4, e5, e6, e7, e10, e11, e12, e13, e14]) := pm_lit2 (l := [e0, e1, e2, e3, e4, e5, e6, e7, e8, e9, e10, e11, e12, e13, e14]) (l' := [e0, e1, e2, e3, e8, e9] ++ [e4, e5, e6, e7, e10, e11, e12, e13, e14]) [0, 1, 2, 3, 8, 9, 4, 5, 6, 7, 10, 11, 12, 13, 14] 15 rfl rfl (by decide +kernel)
theorem pmM_15_10 {e0 e1 e2 e3 e4 e5 e6 e7 e8 e9 e10 e11 e12 e13 e14 : Nat × va_E} : ([e0, e1, e2, e3, e4, e5, e6, e7, e8, e9, e10, e11, e12, e13, e14] : va_W).Perm ([e0, e1, e2, e3, e8, e9, e10, e13] ++ [e4, e5, e6, e7, e11, e12, e14]) := pm_lit2 (l := [e0, e1, e2, e3, e4, e5, e6, e7, e8, e9, e10, e11, e12, e13, e14]) (l' := [e0, e1, e2, e3, e8, e9, e10, e13] ++ [e4, e5, e6, e7, e11, e12, e14]) [0, 1, 2, 3, 8, 9, 10, 13, 4, 5, 6, 7, 11, 12, 14] 15 rfl rfl (by decide +kernel)
theorem pmM_15_11 {e0 e1 e2 e3 e4 e5 e6 e7 e8 e9 e10 e11 e12 e13 e14 : Nat × va_E} : ([e0, e1, e2, e3, e4, e5, e6, e7, e8, e9, e10, e11, e12, e13, e14] : va_W).Perm ([e0, e1, e2, e3, e8, e11, e12] ++ [e4, e5, e6, e7, e9, e10, e13, e14]) := pm_lit2 (l := [e0, e1, e2, e3, e4, e5, e6, e7, e8, e9, e10, e11, e12, e13, e14]) (l' := [e0, e1, e2, e3, e8, e11, e12] ++ [e4, e5, e6, e7, e9, e10, e13, e14]) [0, 1, 2, 3, 8, 11, 12, 4, 5, 6, 7, 9, 10, 13, 14] 15 rfl rfl (by decide +kernel)
theorem pmM_15_12 {e0 e1 e2 e3 e4 e5 e6 e7 e8 e9 e10 e11 e12 e13 e14 : Nat × va_E} : ([e0, e1, e2, e3, e4, e5, e6, e7, e8, e9, e10, e11, e12, e13, e14] : va_W).Perm ([e0, e1, e2, e3] ++ [e4, e5, e6, e7, e8, e9, e10, e11, e12, e13, e14]) := pm_lit2 (l := [e0, e1, e2, e3, e4, e5, e6, e7, e8, e9, e10, e11, e12, e13, e14]) (l' := [e0, e1, e2, e3] ++ [e4, e5, e6, e7, e8, e9, e10, e11, e12, e13, e14]) [0, 1, 2, 3, 4, 5, 6, 7, 8, 9, 10, 11, 12, 13, 14] 15 rfl rfl (by decide +kernel)
set_option maxHeartbeats 4000000 in
theorem n_X8_coordinate (l : Launch) (T : jj_T) {h8 k0 : Nat} {ac ap : Nat} {ash : Bool} {an : Nat} {aob arq : Nat → Int32} {cn : Nat} {M : Nat → aS} {S : Nat → Option aS} {w : va_W} (x : Int32) (y : Int32) (W0 : MW T h8 k0 ((ac, ap, ash, an, aob, arq), cn, M, S) w) (O : okS ((ac, ap, ash, an, aob, arq), cn, M, S)) : jM l T yX8_coordinate wsX8_coordinate { frames := 2, cells := 0, slots := 0, locals := 45 } [.ref h8, .int x, .int y] w (fun v w1 => ∃ (k : Nat) (r : Int32), v = some (.int r) ∧ k = kf_coordinate ac ap ash an aob arq cn M S x y ∧ ((k = 0 ∧ rs_coordinate ac ap ash an aob arq cn M S x y r ∧ MW T h8 0 (nx_coordinate ac ap ash an aob arq cn M S x y r) w1) ∨ (k ≠ 0 ∧ MW T h8 k ((ac, ap, ash, an, aob, arq), cn, M, S) w1))) := by
  refine MW.ex W0 fun rv rn rnw rt rd rk rik rdk rre rle rhe rth rpa ror nx bv bo g9 D K pt oq ik dk re le he th hw hcn hnx hdg hkp => ?_
  obtain ⟨⟨oc, op, on, orq, oco, oob⟩, oM, oS⟩ := okS.of O
  refine jM.mono (jM.frame (c_X8_coordinate l T (h8 := h8) (rv := rv) (rn := rn) (rnw := rnw) (rt := rt) (rd := rd) (rk := rk) (rik := rik) (rdk := rdk) (rre := rre) (rle := rle) (rhe := rhe) (rth := rth) (rpa := rpa) (ror := ror) (na := cn) (nx := nx) (rf := (nI k0)) (bv := bv) (bo := bo) (x := x) (y := y)) (hw.trans pmM_15_0)) ?_
  rintro v _ ⟨_, ⟨k8, r, rfl, rfl, hd9⟩, rfl⟩
  rcases hd9 with ⟨rfl, g1⟩ | ⟨rfl, g2, g3⟩ | ⟨rfl, ⟨v4, v5, g6, g7, g8, g9, g10⟩⟩
  · exact ⟨_, ⟨_, _, rfl, by simp [kf_coordinate, g1], Or.inr ⟨by decide, MW.mk pmM_15_0.symm hcn hnx hdg hkp⟩⟩, List.Perm.refl _⟩
  · exact ⟨_, ⟨_, _, rfl, by simp [kf_coordinate, g2, g3], Or.inr ⟨by decide, MW.mk pmM_15_0.symm hcn hnx hdg hkp⟩⟩, List.Perm.refl _⟩
  · have e_x : xN x = v4 := xN_e g6 (by omega)
    have e_y : xN y = v5 := xN_e g7 (by omega)
    have i_x : inR x 0 149 = true := xRn g6 (by omega) (by omega) (by omega)
    have i_y : inR y 0 2 = true := xRn g7 (by omega) (by omega) (by omega)
    refine ⟨_, ⟨_, _, rfl, by simp [kf_coordinate, i_x, i_y, e_x, e_y, g8, g9], Or.inl ⟨rfl, by unfold rs_coordinate; rw [e_x, e_y]; exact g10, ?_⟩⟩, List.Perm.refl _⟩
    show MW T h8 0 ((ac, ap, ash, an, aob, arq), cn, M, S) _
    exact MW.mk pmM_15_0.symm hcn hnx hdg hkp
set_option maxHeartbeats 4000000 in
theorem n_X8_neighbour (l : Launch) (T : jj_T) {h8 k0 : Nat} {ac ap : Nat} {ash : Bool} {an : Nat} {aob arq : Nat → Int32} {cn : Nat} {M : Nat → aS} {S : Nat → Option aS} {w : va_W} (x : Int32) (y : Int32) (W0 : MW T h8 k0 ((ac, ap, ash, an, aob, arq), cn, M, S) w) (O : okS ((ac, ap, ash, an, aob, arq), cn, M, S)) : jM l T yX8_neighbour wsX8_neighbour { frames := 2, cells := 0, slots := 0, locals := 45 } [.ref h8, .int x, .int y] w (fun v w1 => ∃ (k : Nat) (r : Int32), v = some (.int r) ∧ k = kf_neighbour ac ap ash an aob arq cn M S x y ∧ ((k = 0 ∧ rs_neighbour ac ap ash an aob arq cn M S x y r ∧ MW T h8 0 (nx_neighbour ac ap ash an aob arq cn M S x y r) w1) ∨ (k ≠ 0 ∧ MW T h8 k ((ac, ap, ash, an, aob, arq), cn, M, S) w1))) := by
  refine MW.ex W0 fun rv rn rnw rt rd rk rik rdk rre rle rhe rth rpa ror nx bv bo g9 D K pt oq ik dk re le he th hw hcn hnx hdg hkp => ?_
  obtain ⟨⟨oc, op, on, orq, oco, oob⟩, oM, oS⟩ := okS.of O
  refine jM.mono (jM.frame (c_X8_neighbour l T (h8 := h8) (rv := rv) (rn := rn) (rnw := rnw) (rt := rt) (rd := rd) (rk := rk) (rik := rik) (rdk := rdk) (rre := rre) (rle := rle) (rhe := rhe) (rth := rth) (rpa := rpa) (ror := ror) (na := cn) (nx := nx) (rf := (nI k0)) (bv := bv) (bo := bo) (x := x) (y := y)) (hw.trans pmM_15_1)) ?_
  rintro v _ ⟨_, ⟨k8, r, rfl, rfl, hd9⟩, rfl⟩
  rcases hd9 with ⟨rfl, g1⟩ | ⟨rfl, g2, g3⟩ | ⟨rfl, ⟨v4, v5, g6, g7, g8, g9, g10⟩⟩
  · exact ⟨_, ⟨_, _, rfl, by simp [kf_neighbour, g1], Or.inr ⟨by decide, MW.mk pmM_15_1.symm hcn hnx hdg hkp⟩⟩, List.Perm.refl _⟩
  · exact ⟨_, ⟨_, _, rfl, by simp [kf_neighbour, g2, g3], Or.inr ⟨by decide, MW.mk pmM_15_1.symm hcn hnx hdg hkp⟩⟩, List.Perm.refl _⟩
  · have e_x : xN x = v4 := xN_e g6 (by omega)
    have e_y : xN y = v5 := xN_e g7 (by omega)
    have i_x : inR x 0 149 = true := xRn g6 (by omega) (by omega) (by omega)
    have i_y : inR y 0 3 = true := xRn g7 (by omega) (by omega) (by omega)
    refine ⟨_, ⟨_, _, rfl, by simp [kf_neighbour, i_x, i_y, e_x, e_y, g8, g9], Or.inl ⟨rfl, by unfold rs_neighbour; rw [e_x, e_y]; exact g10, ?_⟩⟩, List.Perm.refl _⟩
    show MW T h8 0 ((ac, ap, ash, an, aob, arq), cn, M, S) _
    exact MW.mk pmM_15_1.symm hcn hnx hdg hkp
set_option maxHeartbeats 4000000 in
theorem n_X8_direction (l : Launch) (T : jj_T) {h8 k0 : Nat} {ac ap : Nat} {ash : Bool} {an : Nat} {aob arq : Nat → Int32} {cn : Nat} {M : Nat → aS} {S : Nat → Option aS} {w : va_W} (x : Int32) (y : Int32) (z : Int32) (W0 : MW T h8 k0 ((ac, ap, ash, an, aob, arq), cn, M, S) w) (O : okS ((ac, ap, ash, an, aob, arq), cn, M, S)) : jM l T yX8_direction wsX8_direction { frames := 2, cells := 0, slots := 0, locals := 45 } [.ref h8, .int x, .int y, .int z] w (fun v w1 => ∃ (k : Nat) (r : Int32), v = some (.int r) ∧ k = kf_direction ac ap ash an aob arq cn M S x y z ∧ ((k = 0 ∧ rs_direction ac ap ash an aob arq cn M S x y z r ∧ MW T h8 0 (nx_direction ac ap ash an aob arq cn M S x y z r) w1) ∨ (k ≠ 0 ∧ MW T h8 k ((ac, ap, ash, an, aob, arq), cn, M, S) w1))) := by
  refine MW.ex W0 fun rv rn rnw rt rd rk rik rdk rre rle rhe rth rpa ror nx bv bo g9 D K pt oq ik dk re le he th hw hcn hnx hdg hkp => ?_
  obtain ⟨⟨oc, op, on, orq, oco, oob⟩, oM, oS⟩ := okS.of O
  refine jM.mono (jM.frame (c_X8_direction l T (h8 := h8) (rv := rv) (rn := rn) (rnw := rnw) (rt := rt) (rd := rd) (rk := rk) (rik := rik) (rdk := rdk) (rre := rre) (rle := rle) (rhe := rhe) (rth := rth) (rpa := rpa) (ror := ror) (na := cn) (nx := nx) (rf := (nI k0)) (bv := bv) (bo := bo) (ac := ac) (ap := ap) (an := an) (ash := ash) (aob := aob) (arq := arq) (x := x) (y := y) (z := z)) (hw.trans pmM_15_2)) ?_
  rintro v _ ⟨_, ⟨k8, r, rfl, rfl, hd9⟩, rfl⟩
  rcases hd9 with ⟨rfl, g1⟩ | ⟨rfl, g2, g3⟩ | ⟨rfl, g4, g5, g6⟩ | ⟨rfl, ⟨v7, v8, v9, g10, g11, g12, g13, g14, g15, g16⟩⟩
  · exact ⟨_, ⟨_, _, rfl, by simp [kf_direction, g1], Or.inr ⟨by decide, MW.mk pmM_15_2.symm hcn hnx hdg hkp⟩⟩, List.Perm.refl _⟩
  · exact ⟨_, ⟨_, _, rfl, by simp [kf_direction, g2, g3], Or.inr ⟨by decide, MW.mk pmM_15_2.symm hcn hnx hdg hkp⟩⟩, List.Perm.refl _⟩
  · exact ⟨_, ⟨_, _, rfl, by simp [kf_direction, g4, g5, g6], Or.inr ⟨by decide, MW.mk pmM_15_2.symm hcn hnx hdg hkp⟩⟩, List.Perm.refl _⟩
  · have e_x : xN x = v7 := xN_e g10 (by omega)
    have e_y : xN y = v8 := xN_e g11 (by omega)
    have e_z : xN z = v9 := xN_e g12 (by omega)
    have i_x : inR x 0 2 = true := xRn g10 (by omega) (by omega) (by omega)
    have i_y : inR y 0 2 = true := xRn g11 (by omega) (by omega) (by omega)
    have i_z : inR z 0 300 = true := xRn g12 (by omega) (by omega) (by omega)
    refine ⟨_, ⟨_, _, rfl, by simp [kf_direction, i_x, i_y, i_z, e_x, e_y, e_z, g13, g14, g15], Or.inl ⟨rfl, by unfold rs_direction; rw [e_x, e_y, e_z]; exact g16, ?_⟩⟩, List.Perm.refl _⟩
    show MW T h8 0 ((ac, ap, ash, an, aob, arq), cn, M, S) _
    exact MW.mk pmM_15_2.symm hcn hnx hdg hkp
set_option maxHeartbeats 4000000 in
theorem n_X8_cone (l : Launch) (T : jj_T) {h8 k0 : Nat} {ac ap : Nat} {ash : Bool} {an : Nat} {aob arq : Nat → Int32} {cn : Nat} {M : Nat → aS} {S : Nat → Option aS} {w : va_W} (x : Int32) (W0 : MW T h8 k0 ((ac, ap, ash, an, aob, arq), cn, M, S) w) (O : okS ((ac, ap, ash, an, aob, arq), cn, M, S)) : jM l T yX8_cone wsX8_cone { frames := 2, cells := 0, slots := 0, locals := 45 } [.ref h8, .int x] w (fun v w1 => ∃ (k : Nat) (r : Int32), v = some (.int r) ∧ k = kf_cone ac ap ash an aob arq cn M S x ∧ ((k = 0 ∧ rs_cone ac ap ash an aob arq cn M S x r ∧ MW T h8 0 (nx_cone ac ap ash an aob arq cn M S x r) w1) ∨ (k ≠ 0 ∧ MW T h8 k ((ac, ap, ash, an, aob, arq), cn, M, S) w1))) := by
  refine MW.ex W0 fun rv rn rnw rt rd rk rik rdk rre rle rhe rth rpa ror nx bv bo g9 D K pt oq ik dk re le he th hw hcn hnx hdg hkp => ?_
  obtain ⟨⟨oc, op, on, orq, oco, oob⟩, oM, oS⟩ := okS.of O
  refine jM.mono (jM.frame (c_X8_cone l T (h8 := h8) (rv := rv) (rn := rn) (rnw := rnw) (rt := rt) (rd := rd) (rk := rk) (rik := rik) (rdk := rdk) (rre := rre) (rle := rle) (rhe := rhe) (rth := rth) (rpa := rpa) (ror := ror) (na := cn) (nx := nx) (rf := (nI k0)) (bv := bv) (bo := bo) (ac := ac) (ap := ap) (an := an) (ash := ash) (aob := aob) (arq := arq) (x := x)) (hw.trans pmM_15_2)) ?_
  rintro v _ ⟨_, ⟨k8, r, rfl, rfl, hd9⟩, rfl⟩
  rcases hd9 with ⟨rfl, g1⟩ | ⟨rfl, ⟨v2, g3, g4, g5⟩⟩
  · exact ⟨_, ⟨_, _, rfl, by simp [kf_cone, g1], Or.inr ⟨by decide, MW.mk pmM_15_2.symm hcn hnx hdg hkp⟩⟩, List.Perm.refl _⟩
  · have e_x : xN x = v2 := xN_e g3 (by omega)
    have i_x : inR x 0 2 = true := xRn g3 (by omega) (by omega) (by omega)
    refine ⟨_, ⟨_, _, rfl, by simp [kf_cone, i_x, e_x, g4], Or.inl ⟨rfl, by unfold rs_cone; rw [e_x]; exact g5, ?_⟩⟩, List.Perm.refl _⟩
    show MW T h8 0 ((ac, ap, ash, an, aob, arq), cn, M, S) _
    exact MW.mk pmM_15_2.symm hcn hnx hdg hkp
set_option maxHeartbeats 4000000 in
theorem n_X8_cosine (l : Launch) (T : jj_T) {h8 k0 : Nat} {ac ap : Nat} {ash : Bool} {an : Nat} {aob arq : Nat → Int32} {cn : Nat} {M : Nat → aS} {S : Nat → Option aS} {w : va_W} (x : Int32) (y : Int32) (z : Int32) (W0 : MW T h8 k0 ((ac, ap, ash, an, aob, arq), cn, M, S) w) (O : okS ((ac, ap, ash, an, aob, arq), cn, M, S)) : jM l T yX8_cosine wsX8_cosine { frames := 2, cells := 0, slots := 0, locals := 49 } [.ref h8, .int x, .int y, .int z] w (fun v w1 => ∃ (k : Nat) (r : UInt64), v = some (.double r) ∧ k = kf_cosine ac ap ash an aob arq cn M S x y z ∧ ((k = 0 ∧ rs_cosine ac ap ash an aob arq cn M S x y z r ∧ MW T h8 0 (nx_cosine ac ap ash an aob arq cn M S x y z r) w1) ∨ (k ≠ 0 ∧ MW T h8 k ((ac, ap, ash, an, aob, arq), cn, M, S) w1))) := by
  refine MW.ex W0 fun rv rn rnw rt rd rk rik rdk rre rle rhe rth rpa ror nx bv bo g9 D K pt oq ik dk re le he th hw hcn hnx hdg hkp => ?_
  obtain ⟨⟨oc, op, on, orq, oco, oob⟩, oM, oS⟩ := okS.of O
  refine jM.mono (jM.frame (c_X8_cosine l T (h8 := h8) (rv := rv) (rn := rn) (rnw := rnw) (rt := rt) (rd := rd) (rk := rk) (rik := rik) (rdk := rdk) (rre := rre) (rle := rle) (rhe := rhe) (rth := rth) (rpa := rpa) (ror := ror) (na := cn) (nx := nx) (rf := (nI k0)) (bv := bv) (bo := bo) (ac := ac) (ap := ap) (an := an) (ash := ash) (aob := aob) (arq := arq) (x := x) (y := y) (z := z) (hob := oob)) (hw.trans pmM_15_3)) ?_
  rintro v _ ⟨_, ⟨k8, r, rfl, rfl, hd9⟩, rfl⟩
  rcases hd9 with ⟨rfl, g1⟩ | ⟨rfl, g2, g3⟩ | ⟨rfl, g4, g5, g6⟩ | ⟨rfl, ⟨v7, v8, v9, g10, g11, g12, g13, g14, g15, g16⟩⟩
  · exact ⟨_, ⟨_, _, rfl, by simp [kf_cosine, g1], Or.inr ⟨by decide, MW.mk pmM_15_3.symm hcn hnx hdg hkp⟩⟩, List.Perm.refl _⟩
  · exact ⟨_, ⟨_, _, rfl, by simp [kf_cosine, g2, g3], Or.inr ⟨by decide, MW.mk pmM_15_3.symm hcn hnx hdg hkp⟩⟩, List.Perm.refl _⟩
  · exact ⟨_, ⟨_, _, rfl, by simp [kf_cosine, g4, g5, g6], Or.inr ⟨by decide, MW.mk pmM_15_3.symm hcn hnx hdg hkp⟩⟩, List.Perm.refl _⟩
  · have e_x : xN x = v7 := xN_e g10 (by omega)
    have e_y : xN y = v8 := xN_e g11 (by omega)
    have e_z : xN z = v9 := xN_e g12 (by omega)
    have i_x : inR x 0 149 = true := xRn g10 (by omega) (by omega) (by omega)
    have i_y : inR y 0 2 = true := xRn g11 (by omega) (by omega) (by omega)
    have i_z : inR z 0 300 = true := xRn g12 (by omega) (by omega) (by omega)
    refine ⟨_, ⟨_, _, rfl, by simp [kf_cosine, i_x, i_y, i_z, e_x, e_y, e_z, g13, g14, g15, g16], Or.inl ⟨rfl, by unfold rs_cosine; rw [e_x, e_y, e_z]; exact g16 rfl, ?_⟩⟩, List.Perm.refl _⟩
    show MW T h8 0 ((ac, ap, ash, an, aob, arq), cn, M, S) _
    exact MW.mk pmM_15_3.symm hcn hnx hdg hkp
set_option maxHeartbeats 4000000 in
theorem n_X8_isBright (l : Launch) (T : jj_T) {h8 k0 : Nat} {ac ap : Nat} {ash : Bool} {an : Nat} {aob arq : Nat → Int32} {cn : Nat} {M : Nat → aS} {S : Nat → Option aS} {w : va_W} (x : Int32) (y : Int32) (W0 : MW T h8 k0 ((ac, ap, ash, an, aob, arq), cn, M, S) w) (O : okS ((ac, ap, ash, an, aob, arq), cn, M, S)) : jM l T yX8_isBright wsX8_isBright { frames := 3, cells := 0, slots := 0, locals := 78 } [.ref h8, .int x, .int y] w (fun v w1 => ∃ (k : Nat) (r : Int32), v = some (.int r) ∧ k = kf_isBright ac ap ash an aob arq cn M S x y ∧ ((k = 0 ∧ rs_isBright ac ap ash an aob arq cn M S x y r ∧ MW T h8 0 (nx_isBright ac ap ash an aob arq cn M S x y r) w1) ∨ (k ≠ 0 ∧ MW T h8 k ((ac, ap, ash, an, aob, arq), cn, M, S) w1))) := by
  refine MW.ex W0 fun rv rn rnw rt rd rk rik rdk rre rle rhe rth rpa ror nx bv bo g9 D K pt oq ik dk re le he th hw hcn hnx hdg hkp => ?_
  obtain ⟨⟨oc, op, on, orq, oco, oob⟩, oM, oS⟩ := okS.of O
  refine jM.mono (jM.frame (c_X8_isBright l T (h8 := h8) (rv := rv) (rn := rn) (rnw := rnw) (rt := rt) (rd := rd) (rk := rk) (rik := rik) (rdk := rdk) (rre := rre) (rle := rle) (rhe := rhe) (rth := rth) (rpa := rpa) (ror := ror) (na := cn) (nx := nx) (rf := (nI k0)) (bv := bv) (bo := bo) (ac := ac) (ap := ap) (an := an) (ash := ash) (aob := aob) (arq := arq) (x := x) (y := y) (hco := oco)) (hw.trans pmM_15_3)) ?_
  rintro v _ ⟨_, ⟨k8, r, rfl, rfl, hd9⟩, rfl⟩
  rcases hd9 with ⟨rfl, g1⟩ | ⟨rfl, g2, g3⟩ | ⟨rfl, ⟨v4, v5, g6, g7, g8, g9, g10⟩⟩
  · exact ⟨_, ⟨_, _, rfl, by simp [kf_isBright, g1], Or.inr ⟨by decide, MW.mk pmM_15_3.symm hcn hnx hdg hkp⟩⟩, List.Perm.refl _⟩
  · exact ⟨_, ⟨_, _, rfl, by simp [kf_isBright, g2, g3], Or.inr ⟨by decide, MW.mk pmM_15_3.symm hcn hnx hdg hkp⟩⟩, List.Perm.refl _⟩
  · have e_x : xN x = v4 := xN_e g6 (by omega)
    have e_y : xN y = v5 := xN_e g7 (by omega)
    have i_x : inR x 0 149 = true := xRn g6 (by omega) (by omega) (by omega)
    have i_y : inR y 0 300 = true := xRn g7 (by omega) (by omega) (by omega)
    refine ⟨_, ⟨_, _, rfl, by simp [kf_isBright, i_x, i_y, e_x, e_y, g8, g9], Or.inl ⟨rfl, by unfold rs_isBright; rw [e_x, e_y]; exact congrArg bI g10, ?_⟩⟩, List.Perm.refl _⟩
    show MW T h8 0 ((ac, ap, ash, an, aob, arq), cn, M, S) _
    exact MW.mk pmM_15_3.symm hcn hnx hdg hkp
set_option maxHeartbeats 4000000 in
theorem n_X8_brightCells (l : Launch) (T : jj_T) {h8 k0 : Nat} {ac ap : Nat} {ash : Bool} {an : Nat} {aob arq : Nat → Int32} {cn : Nat} {M : Nat → aS} {S : Nat → Option aS} {w : va_W} (x : Int32) (W0 : MW T h8 k0 ((ac, ap, ash, an, aob, arq), cn, M, S) w) (O : okS ((ac, ap, ash, an, aob, arq), cn, M, S)) : jM l T yX8_brightCells wsX8_brightCells { frames := 4, cells := 0, slots := 0, locals := 102 } [.ref h8, .int x] w (fun v w1 => ∃ (k : Nat) (r : Int32), v = some (.int r) ∧ k = kf_brightCells ac ap ash an aob arq cn M S x ∧ ((k = 0 ∧ rs_brightCells ac ap ash an aob arq cn M S x r ∧ MW T h8 0 (nx_brightCells ac ap ash an aob arq cn M S x r) w1) ∨ (k ≠ 0 ∧ MW T h8 k ((ac, ap, ash, an, aob, arq), cn, M, S) w1))) := by
  refine MW.ex W0 fun rv rn rnw rt rd rk rik rdk rre rle rhe rth rpa ror nx bv bo g9 D K pt oq ik dk re le he th hw hcn hnx hdg hkp => ?_
  obtain ⟨⟨oc, op, on, orq, oco, oob⟩, oM, oS⟩ := okS.of O
  refine jM.mono (jM.frame (c_X8_brightCells l T (h8 := h8) (rv := rv) (rn := rn) (rnw := rnw) (rt := rt) (rd := rd) (rk := rk) (rik := rik) (rdk := rdk) (rre := rre) (rle := rle) (rhe := rhe) (rth := rth) (rpa := rpa) (ror := ror) (na := cn) (nx := nx) (rf := (nI k0)) (bv := bv) (bo := bo) (ac := ac) (ap := ap) (an := an) (ash := ash) (aob := aob) (arq := arq) (x := x) (hco := oco)) (hw.trans pmM_15_3)) ?_
  rintro v _ ⟨_, ⟨k8, r, rfl, rfl, hd9⟩, rfl⟩
  rcases hd9 with ⟨rfl, g1⟩ | ⟨rfl, ⟨v2, g3, g4, g5⟩⟩
  · exact ⟨_, ⟨_, _, rfl, by simp [kf_brightCells, g1], Or.inr ⟨by decide, MW.mk pmM_15_3.symm hcn hnx hdg hkp⟩⟩, List.Perm.refl _⟩
  · have e_x : xN x = v2 := xN_e g3 (by omega)
    have i_x : inR x 0 300 = true := xRn g3 (by omega) (by omega) (by omega)
    refine ⟨_, ⟨_, _, rfl, by simp [kf_brightCells, i_x, e_x, g4], Or.inl ⟨rfl, by unfold rs_brightCells; rw [e_x]; exact g5, ?_⟩⟩, List.Perm.refl _⟩
    show MW T h8 0 ((ac, ap, ash, an, aob, arq), cn, M, S) _
    exact MW.mk pmM_15_3.symm hcn hnx hdg hkp
set_option maxHeartbeats 4000000 in
theorem n_X8_firstBright (l : Launch) (T : jj_T) {h8 k0 : Nat} {ac ap : Nat} {ash : Bool} {an : Nat} {aob arq : Nat → Int32} {cn : Nat} {M : Nat → aS} {S : Nat → Option aS} {w : va_W} (x : Int32) (y : Int32) (W0 : MW T h8 k0 ((ac, ap, ash, an, aob, arq), cn, M, S) w) (O : okS ((ac, ap, ash, an, aob, arq), cn, M, S)) : jM l T yX8_firstBright wsX8_firstBright { frames := 3, cells := 0, slots := 0, locals := 78 } [.ref h8, .int x, .int y] w (fun v w1 => ∃ (k : Nat) (r : Int32), v = some (.int r) ∧ k = kf_firstBright ac ap ash an aob arq cn M S x y ∧ ((k = 0 ∧ rs_firstBright ac ap ash an aob arq cn M S x y r ∧ MW T h8 0 (nx_firstBright ac ap ash an aob arq cn M S x y r) w1) ∨ (k ≠ 0 ∧ MW T h8 k ((ac, ap, ash, an, aob, arq), cn, M, S) w1))) := by
  refine MW.ex W0 fun rv rn rnw rt rd rk rik rdk rre rle rhe rth rpa ror nx bv bo g9 D K pt oq ik dk re le he th hw hcn hnx hdg hkp => ?_
  obtain ⟨⟨oc, op, on, orq, oco, oob⟩, oM, oS⟩ := okS.of O
  refine jM.mono (jM.frame (c_X8_firstBright l T (h8 := h8) (rv := rv) (rn := rn) (rnw := rnw) (rt := rt) (rd := rd) (rk := rk) (rik := rik) (rdk := rdk) (rre := rre) (rle := rle) (rhe := rhe) (rth := rth) (rpa := rpa) (ror := ror) (na := cn) (nx := nx) (rf := (nI k0)) (bv := bv) (bo := bo) (ac := ac) (ap := ap) (an := an) (ash := ash) (aob := aob) (arq := arq) (x := x) (y := y) (hco := oco)) (hw.trans pmM_15_3)) ?_
  rintro v _ ⟨_, ⟨k8, r, rfl, rfl, hd9⟩, rfl⟩
  rcases hd9 with ⟨rfl, g1⟩ | ⟨rfl, g2, g3⟩ | ⟨rfl, ⟨v4, v5, g6, g7, g8, g9, g10⟩⟩
  · exact ⟨_, ⟨_, _, rfl, by simp [kf_firstBright, g1], Or.inr ⟨by decide, MW.mk pmM_15_3.symm hcn hnx hdg hkp⟩⟩, List.Perm.refl _⟩
  · exact ⟨_, ⟨_, _, rfl, by simp [kf_firstBright, g2, g3], Or.inr ⟨by decide, MW.mk pmM_15_3.symm hcn hnx hdg hkp⟩⟩, List.Perm.refl _⟩
  · have e_x : xN x = v4 := xN_e g6 (by omega)
    have e_y : xN y = v5 := xN_e g7 (by omega)
    have i_x : inR x 0 149 = true := xRn g6 (by omega) (by omega) (by omega)
    have i_y : inR y 0 300 = true := xRn g7 (by omega) (by omega) (by omega)
    refine ⟨_, ⟨_, _, rfl, by simp [kf_firstBright, i_x, i_y, e_x, e_y, g8, g9], Or.inl ⟨rfl, by unfold rs_firstBright; rw [e_x, e_y]; assumption, ?_⟩⟩, List.Perm.refl _⟩
    show MW T h8 0 ((ac, ap, ash, an, aob, arq), cn, M, S) _
    exact MW.mk pmM_15_3.symm hcn hnx hdg hkp
set_option maxHeartbeats 4000000 in
theorem n_X8_setAxis (l : Launch) (T : jj_T) {h8 k0 : Nat} {ac ap : Nat} {ash : Bool} {an : Nat} {aob arq : Nat → Int32} {cn : Nat} {M : Nat → aS} {S : Nat → Option aS} {w : va_W} (x : Int32) (y : Int32) (z : Int32) (u : Int32) (W0 : MW T h8 k0 ((ac, ap, ash, an, aob, arq), cn, M, S) w) (O : okS ((ac, ap, ash, an, aob, arq), cn, M, S)) : jM l T yX8_setAxis wsX8_setAxis { frames := 5, cells := 0, slots := 0, locals := 122 } [.ref h8, .int x, .int y, .int z, .int u] w (fun v w1 => ∃ (k : Nat) (r : Int32), v = some (.int r) ∧ k = kf_setAxis ac ap ash an aob arq cn M S x y z u ∧ ((k = 0 ∧ rs_setAxis ac ap ash an aob arq cn M S x y z u r ∧ MW T h8 0 (nx_setAxis ac ap ash an aob arq cn M S x y z u r) w1) ∨ (k ≠ 0 ∧ MW T h8 k ((ac, ap, ash, an, aob, arq), cn, M, S) w1))) := by
  refine MW.ex W0 fun rv rn rnw rt rd rk rik rdk rre rle rhe rth rpa ror nx bv bo g9 D K pt oq ik dk re le he th hw hcn hnx hdg hkp => ?_
  obtain ⟨⟨oc, op, on, orq, oco, oob⟩, oM, oS⟩ := okS.of O
  refine jM.mono (jM.frame (c_X8_setAxis l T (h8 := h8) (rv := rv) (rn := rn) (rnw := rnw) (rt := rt) (rd := rd) (rk := rk) (rik := rik) (rdk := rdk) (rre := rre) (rle := rle) (rhe := rhe) (rth := rth) (rpa := rpa) (ror := ror) (na := cn) (nx := nx) (rf := (nI k0)) (bv := bv) (bo := bo) (ac := ac) (ap := ap) (an := an) (ash := ash) (aob := aob) (arq := arq) (g9 := g9) (D := D) (x := x) (y := y) (z := z) (u := u) (hna := hcn) (hnx := hnx) (hap := op) (hco := oco)) (hw.trans pmM_15_4)) ?_
  rintro v _ ⟨_, ⟨k8, r, rfl, hd9⟩, rfl⟩
  rcases hd9 with ⟨g', rfl, hd8⟩ | ⟨rfl, o, rfl, g9, g10, g11, g12, g13⟩
  · rcases hd8 with ⟨rfl, g1⟩ | ⟨rfl, g2, g3⟩ | ⟨rfl, ⟨v4, g5, g6, g7, g8⟩⟩
    · exact ⟨_, ⟨_, _, rfl, by simp [kf_setAxis, g1], Or.inr ⟨by decide, MW.mk pmM_15_4.symm hcn hnx hdg hkp⟩⟩, List.Perm.refl _⟩
    · exact ⟨_, ⟨_, _, rfl, by symm; unfold kf_setAxis; rw [if_neg (nf g2), if_pos g3], Or.inr ⟨by decide, MW.mk pmM_15_4.symm hcn hnx hdg hkp⟩⟩, List.Perm.refl _⟩
    · have e_x : xN x = v4 := xN_e g5 (by omega)
      have i_x : inR x 0 2 = true := xRn g5 (by omega) (by omega) (by omega)
      exact ⟨_, ⟨_, _, rfl, by symm; unfold kf_setAxis; rw [e_x, if_neg (nf i_x), if_neg (nf g7), if_pos g8], Or.inr ⟨by decide, MW.mk pmM_15_4.symm hcn hnx hdg hkp⟩⟩, List.Perm.refl _⟩
  · have e_x : xN x = o := xN_e g9 (by omega)
    have i_x : inR x 0 2 = true := xRn g9 (by omega) (by omega) (by omega)
    refine ⟨_, ⟨_, _, rfl, by symm; unfold kf_setAxis; rw [e_x, if_neg (nf i_x), if_neg (nf g11), if_neg (nt g12)], Or.inl ⟨rfl, by unfold rs_setAxis; rw [e_x]; exact g13, ?_⟩⟩, List.Perm.refl _⟩
    show MW T h8 0 ((ac, ap, ash, an, (upd (upd (upd aob (7 * xN x + 0) y) (7 * xN x + (0 + 1)) z) (7 * xN x + (0 + 2)) u), arq), pushN cn, pushM cn M (ac, ap, ash, an, aob, arq), S) _
    rw [e_x]
    have z9 : (if cn < 14 then cn + 1 else 14) = pushN cn := by unfold pushN; split <;> omega
    rw [z9]
    exact MW.mk pmM_15_4.symm (by unfold pushN; split <;> omega) (Nat.mod_lt _ (by decide)) (dg_push hcn hnx hdg (ac, ap, ash, an, aob, arq)) hkp
set_option maxHeartbeats 4000000 in
theorem n_X8_setDrift (l : Launch) (T : jj_T) {h8 k0 : Nat} {ac ap : Nat} {ash : Bool} {an : Nat} {aob arq : Nat → Int32} {cn : Nat} {M : Nat → aS} {S : Nat → Option aS} {w : va_W} (x : Int32) (y : Int32) (z : Int32) (u : Int32) (W0 : MW T h8 k0 ((ac, ap, ash, an, aob, arq), cn, M, S) w) (O : okS ((ac, ap, ash, an, aob, arq), cn, M, S)) : jM l T yX8_setDrift wsX8_setDrift { frames := 5, cells := 0, slots := 0, locals := 122 } [.ref h8, .int x, .int y, .int z, .int u] w (fun v w1 => ∃ (k : Nat) (r : Int32), v = some (.int r) ∧ k = kf_setDrift ac ap ash an aob arq cn M S x y z u ∧ ((k = 0 ∧ rs_setDrift ac ap ash an aob arq cn M S x y z u r ∧ MW T h8 0 (nx_setDrift ac ap ash an aob arq cn M S x y z u r) w1) ∨ (k ≠ 0 ∧ MW T h8 k ((ac, ap, ash, an, aob, arq), cn, M, S) w1))) := by
  refine MW.ex W0 fun rv rn rnw rt rd rk rik rdk rre rle rhe rth rpa ror nx bv bo g9 D K pt oq ik dk re le he th hw hcn hnx hdg hkp => ?_
  obtain ⟨⟨oc, op, on, orq, oco, oob⟩, oM, oS⟩ := okS.of O
  refine jM.mono (jM.frame (c_X8_setDrift l T (h8 := h8) (rv := rv) (rn := rn) (rnw := rnw) (rt := rt) (rd := rd) (rk := rk) (rik := rik) (rdk := rdk) (rre := rre) (rle := rle) (rhe := rhe) (rth := rth) (rpa := rpa) (ror := ror) (na := cn) (nx := nx) (rf := (nI k0)) (bv := bv) (bo := bo) (ac := ac) (ap := ap) (an := an) (ash := ash) (aob := aob) (arq := arq) (g9 := g9) (D := D) (x := x) (y := y) (z := z) (u := u) (hna := hcn) (hnx := hnx) (hap := op) (hco := oco)) (hw.trans pmM_15_4)) ?_
  rintro v _ ⟨_, ⟨k8, r, rfl, hd9⟩, rfl⟩
  rcases hd9 with ⟨g', rfl, hd8⟩ | ⟨rfl, o, rfl, g9, g10, g11, g12, g13⟩
  · rcases hd8 with ⟨rfl, g1⟩ | ⟨rfl, g2, g3⟩ | ⟨rfl, ⟨v4, g5, g6, g7, g8⟩⟩
    · exact ⟨_, ⟨_, _, rfl, by simp [kf_setDrift, g1], Or.inr ⟨by decide, MW.mk pmM_15_4.symm hcn hnx hdg hkp⟩⟩, List.Perm.refl _⟩
    · exact ⟨_, ⟨_, _, rfl, by symm; unfold kf_setDrift; rw [if_neg (nf g2), if_pos g3], Or.inr ⟨by decide, MW.mk pmM_15_4.symm hcn hnx hdg hkp⟩⟩, List.Perm.refl _⟩
    · have e_x : xN x = v4 := xN_e g5 (by omega)
      have i_x : inR x 0 2 = true := xRn g5 (by omega) (by omega) (by omega)
      exact ⟨_, ⟨_, _, rfl, by symm; unfold kf_setDrift; rw [e_x, if_neg (nf i_x), if_neg (nf g7), if_pos g8], Or.inr ⟨by decide, MW.mk pmM_15_4.symm hcn hnx hdg hkp⟩⟩, List.Perm.refl _⟩
  · have e_x : xN x = o := xN_e g9 (by omega)
    have i_x : inR x 0 2 = true := xRn g9 (by omega) (by omega) (by omega)
    refine ⟨_, ⟨_, _, rfl, by symm; unfold kf_setDrift; rw [e_x, if_neg (nf i_x), if_neg (nf g11), if_neg (nt g12)], Or.inl ⟨rfl, by unfold rs_setDrift; rw [e_x]; exact g13, ?_⟩⟩, List.Perm.refl _⟩
    show MW T h8 0 ((ac, ap, ash, an, (upd (upd (upd aob (7 * xN x + 3) y) (7 * xN x + (3 + 1)) z) (7 * xN x + (3 + 2)) u), arq), pushN cn, pushM cn M (ac, ap, ash, an, aob, arq), S) _
    rw [e_x]
    have z9 : (if cn < 14 then cn + 1 else 14) = pushN cn := by unfold pushN; split <;> omega
    rw [z9]
    exact MW.mk pmM_15_4.symm (by unfold pushN; split <;> omega) (Nat.mod_lt _ (by decide)) (dg_push hcn hnx hdg (ac, ap, ash, an, aob, arq)) hkp
set_option maxHeartbeats 4000000 in
theorem n_X8_setCone (l : Launch) (T : jj_T) {h8 k0 : Nat} {ac ap : Nat} {ash : Bool} {an : Nat} {aob arq : Nat → Int32} {cn : Nat} {M : Nat → aS} {S : Nat → Option aS} {w : va_W} (x : Int32) (y : Int32) (W0 : MW T h8 k0 ((ac, ap, ash, an, aob, arq), cn, M, S) w) (O : okS ((ac, ap, ash, an, aob, arq), cn, M, S)) : jM l T yX8_setCone wsX8_setCone { frames := 5, cells := 0, slots := 0, locals := 122 } [.ref h8, .int x, .int y] w (fun v w1 => ∃ (k : Nat) (r : Int32), v = some (.int r) ∧ k = kf_setCone ac ap ash an aob arq cn M S x y ∧ ((k = 0 ∧ rs_setCone ac ap ash an aob arq cn M S x y r ∧ MW T h8 0 (nx_setCone ac ap ash an aob arq cn M S x y r) w1) ∨ (k ≠ 0 ∧ MW T h8 k ((ac, ap, ash, an, aob, arq), cn, M, S) w1))) := by
  refine MW.ex W0 fun rv rn rnw rt rd rk rik rdk rre rle rhe rth rpa ror nx bv bo g9 D K pt oq ik dk re le he th hw hcn hnx hdg hkp => ?_
  obtain ⟨⟨oc, op, on, orq, oco, oob⟩, oM, oS⟩ := okS.of O
  refine jM.mono (jM.frame (c_X8_setCone l T (h8 := h8) (rv := rv) (rn := rn) (rnw := rnw) (rt := rt) (rd := rd) (rk := rk) (rik := rik) (rdk := rdk) (rre := rre) (rle := rle) (rhe := rhe) (rth := rth) (rpa := rpa) (ror := ror) (na := cn) (nx := nx) (rf := (nI k0)) (bv := bv) (bo := bo) (ac := ac) (ap := ap) (an := an) (ash := ash) (aob := aob) (arq := arq) (g9 := g9) (D := D) (x := x) (y := y) (hna := hcn) (hnx := hnx) (hap := op) (hco := oco)) (hw.trans pmM_15_4)) ?_
  rintro v _ ⟨_, ⟨k8, r, rfl, hd9⟩, rfl⟩
  rcases hd9 with ⟨g', rfl, hd8⟩ | ⟨rfl, o, rfl, g9, g10, g11, g12, g13⟩
  · rcases hd8 with ⟨rfl, g1⟩ | ⟨rfl, g2, g3⟩ | ⟨rfl, ⟨v4, g5, g6, g7, g8⟩⟩
    · exact ⟨_, ⟨_, _, rfl, by simp [kf_setCone, g1], Or.inr ⟨by decide, MW.mk pmM_15_4.symm hcn hnx hdg hkp⟩⟩, List.Perm.refl _⟩
    · exact ⟨_, ⟨_, _, rfl, by symm; unfold kf_setCone; rw [if_neg (nf g2), if_pos g3], Or.inr ⟨by decide, MW.mk pmM_15_4.symm hcn hnx hdg hkp⟩⟩, List.Perm.refl _⟩
    · have e_x : xN x = v4 := xN_e g5 (by omega)
      have i_x : inR x 0 2 = true := xRn g5 (by omega) (by omega) (by omega)
      exact ⟨_, ⟨_, _, rfl, by symm; unfold kf_setCone; rw [e_x, if_neg (nf i_x), if_neg (nf g7), if_pos g8], Or.inr ⟨by decide, MW.mk pmM_15_4.symm hcn hnx hdg hkp⟩⟩, List.Perm.refl _⟩
  · have e_x : xN x = o := xN_e g9 (by omega)
    have i_x : inR x 0 2 = true := xRn g9 (by omega) (by omega) (by omega)
    refine ⟨_, ⟨_, _, rfl, by symm; unfold kf_setCone; rw [e_x, if_neg (nf i_x), if_neg (nf g11), if_neg (nt g12)], Or.inl ⟨rfl, by unfold rs_setCone; rw [e_x]; exact g13, ?_⟩⟩, List.Perm.refl _⟩
    show MW T h8 0 ((ac, ap, ash, an, (upd aob (7 * xN x + 6) y), arq), pushN cn, pushM cn M (ac, ap, ash, an, aob, arq), S) _
    rw [e_x]
    have z9 : (if cn < 14 then cn + 1 else 14) = pushN cn := by unfold pushN; split <;> omega
    rw [z9]
    exact MW.mk pmM_15_4.symm (by unfold pushN; split <;> omega) (Nat.mod_lt _ (by decide)) (dg_push hcn hnx hdg (ac, ap, ash, an, aob, arq)) hkp
set_option maxHeartbeats 4000000 in
theorem n_X8_step (l : Launch) (T : jj_T) {h8 k0 : Nat} {ac ap : Nat} {ash : Bool} {an : Nat} {aob arq : Nat → Int32} {cn : Nat} {M : Nat → aS} {S : Nat → Option aS} {w : va_W} (x : Int32) (W0 : MW T h8 k0 ((ac, ap, ash, an, aob, arq), cn, M, S) w) (O : okS ((ac, ap, ash, an, aob, arq), cn, M, S)) : jM l T yX8_step wsX8_step { frames := 3, cells := 0, slots := 0, locals := 78 } [.ref h8, .int x] w (fun v w1 => ∃ (k : Nat) (r : Int32), v = some (.int r) ∧ k = kf_step ac ap ash an aob arq cn M S x ∧ ((k = 0 ∧ rs_step ac ap ash an aob arq cn M S x r ∧ MW T h8 0 (nx_step ac ap ash an aob arq cn M S x r) w1) ∨ (k ≠ 0 ∧ MW T h8 k ((ac, ap, ash, an, aob, arq), cn, M, S) w1))) := by
  refine MW.ex W0 fun rv rn rnw rt rd rk rik rdk rre rle rhe rth rpa ror nx bv bo g9 D K pt oq ik dk re le he th hw hcn hnx hdg hkp => ?_
  obtain ⟨⟨oc, op, on, orq, oco, oob⟩, oM, oS⟩ := okS.of O
  refine jM.mono (jM.frame (c_X8_step l T (h8 := h8) (rv := rv) (rn := rn) (rnw := rnw) (rt := rt) (rd := rd) (rk := rk) (rik := rik) (rdk := rdk) (rre := rre) (rle := rle) (rhe := rhe) (rth := rth) (rpa := rpa) (ror := ror) (na := cn) (nx := nx) (rf := (nI k0)) (bv := bv) (bo := bo) (ac := ac) (ap := ap) (an := an) (ash := ash) (aob := aob) (arq := arq) (D := D) (x := x) (hna := hcn) (hnx := hnx) (hap := op) (hac := oc) (hco := oco)) (hw.trans pmM_15_5)) ?_
  rintro v _ ⟨_, ⟨k8, r, rfl, hd9⟩, rfl⟩
  rcases hd9 with ⟨rfl, hd8⟩ | ⟨rfl, c, rfl, g13, g14, g15, g16, g17, g18, g19⟩
  · rcases hd8 with ⟨rfl, g1⟩ | ⟨rfl, g2, ⟨v3, g4, g5, g6⟩⟩ | ⟨rfl, g7, ⟨v8, g9, g10, g11, g12⟩⟩
    · exact ⟨_, ⟨_, _, rfl, by simp [kf_step, g1], Or.inr ⟨by decide, MW.mk pmM_15_5.symm hcn hnx hdg hkp⟩⟩, List.Perm.refl _⟩
    · have e_x : xN x = v3 := xN_e g4 (by omega)
      exact ⟨_, ⟨_, _, rfl, by symm; unfold kf_step; rw [e_x, if_neg (nf g2), if_pos g6], Or.inr ⟨by decide, MW.mk pmM_15_5.symm hcn hnx hdg hkp⟩⟩, List.Perm.refl _⟩
    · have e_x : xN x = v8 := xN_e g9 (by omega)
      exact ⟨_, ⟨_, _, rfl, by symm; unfold kf_step; rw [e_x, if_neg (nf g7), if_neg (nf g11), if_pos (or3 g12)], Or.inr ⟨by decide, MW.mk pmM_15_5.symm hcn hnx hdg hkp⟩⟩, List.Perm.refl _⟩
  · have e_x : xN x = c := xN_e g13 (by omega)
    have i_x : inR x 0 149 = true := xRn g13 (by omega) (by omega) (by omega)
    refine ⟨_, ⟨_, _, rfl, by symm; unfold kf_step; rw [e_x, if_neg (nf i_x), if_neg (nf g15), if_neg (nt (by rw [g16, decide_eq_false (by omega), g18]; rfl))], Or.inl ⟨rfl, g19, ?_⟩⟩, List.Perm.refl _⟩
    show MW T h8 0 ((ac + 1, xN x, ash, an, aob, arq), pushN cn, pushM cn M (ac, ap, ash, an, aob, arq), S) _
    rw [e_x]
    have z9 : (if cn < 14 then cn + 1 else 14) = pushN cn := by unfold pushN; split <;> omega
    rw [z9]
    exact MW.mk pmM_15_5.symm (by unfold pushN; split <;> omega) (Nat.mod_lt _ (by decide)) (dg_push hcn hnx hdg (ac, ap, ash, an, aob, arq)) hkp
set_option maxHeartbeats 4000000 in
theorem n_X8_slew (l : Launch) (T : jj_T) {h8 k0 : Nat} {ac ap : Nat} {ash : Bool} {an : Nat} {aob arq : Nat → Int32} {cn : Nat} {M : Nat → aS} {S : Nat → Option aS} {w : va_W} (x : Int32) (W0 : MW T h8 k0 ((ac, ap, ash, an, aob, arq), cn, M, S) w) (O : okS ((ac, ap, ash, an, aob, arq), cn, M, S)) : jM l T yX8_slew wsX8_slew { frames := 6, cells := 0, slots := 0, locals := 143 } [.ref h8, .int x] w (fun v w1 => ∃ (k : Nat) (r : Int32), v = some (.int r) ∧ k = kf_slew ac ap ash an aob arq cn M S x ∧ ((k = 0 ∧ rs_slew ac ap ash an aob arq cn M S x r ∧ MW T h8 0 (nx_slew ac ap ash an aob arq cn M S x r) w1) ∨ (k ≠ 0 ∧ MW T h8 k ((ac, ap, ash, an, aob, arq), cn, M, S) w1))) := by
  refine MW.ex W0 fun rv rn rnw rt rd rk rik rdk rre rle rhe rth rpa ror nx bv bo g9 D K pt oq ik dk re le he th hw hcn hnx hdg hkp => ?_
  obtain ⟨⟨oc, op, on, orq, oco, oob⟩, oM, oS⟩ := okS.of O
  refine jM.mono (jM.frame (c_X8_slew l T (h8 := h8) (rv := rv) (rn := rn) (rnw := rnw) (rt := rt) (rd := rd) (rk := rk) (rik := rik) (rdk := rdk) (rre := rre) (rle := rle) (rhe := rhe) (rth := rth) (rpa := rpa) (ror := ror) (na := cn) (nx := nx) (rf := (nI k0)) (bv := bv) (bo := bo) (ac := ac) (ap := ap) (an := an) (ash := ash) (aob := aob) (arq := arq) (dk := dk) (re := re) (D := D) (x := x) (hna := hcn) (hnx := hnx) (hap := op) (hac := oc) (hco := oco)) (hw.trans pmM_15_6)) ?_
  rintro v _ ⟨_, ⟨k8, r, rfl, hd9⟩, rfl⟩
  rcases hd9 with ⟨rfl, hd8⟩ | ⟨rfl, rfl, g4, g5, ⟨v6, v7, g8, g9, g10, g11⟩⟩ | ⟨rfl, c, j, rfl, g12, g13, g14, g15, g16, g17, g18⟩
  · rcases hd8 with ⟨rfl, g1⟩ | ⟨rfl, g2, g3⟩
    · exact ⟨_, ⟨_, _, rfl, by simp [kf_slew, g1], Or.inr ⟨by decide, MW.mk pmM_15_6.symm hcn hnx hdg hkp⟩⟩, List.Perm.refl _⟩
    · exact ⟨_, ⟨_, _, rfl, by simp [kf_slew, g2, g3], Or.inr ⟨by decide, MW.mk pmM_15_6.symm hcn hnx hdg hkp⟩⟩, List.Perm.refl _⟩
  · have e_x : xN x = v6 := xN_e g8 (by omega)
    exact ⟨_, ⟨_, _, rfl, by symm; unfold kf_slew; rw [e_x, if_neg (nf g4), if_neg (nt g5), if_pos (slwB_f g10 g11)], Or.inr ⟨by decide, MW.mk pmM_15_6.symm hcn hnx hdg hkp⟩⟩, List.Perm.refl _⟩
  · have e_x : xN x = c := xN_e g12 (by omega)
    have i_x : inR x 0 149 = true := xRn g12 (by omega) (by omega) (by omega)
    refine ⟨_, ⟨_, _, rfl, by symm; unfold kf_slew; rw [e_x, if_neg (nf i_x), if_neg (nt g14), if_neg (nf (slwB_t g15 g16 g17))], Or.inl ⟨rfl, by unfold rs_slew; rw [e_x]; exact ⟨j, g18, g16, g15⟩, ?_⟩⟩, List.Perm.refl _⟩
    show MW T h8 0 ((ac + xN r, xN x, ash, an, aob, arq), pushN cn, pushM cn M (ac, ap, ash, an, aob, arq), S) _
    rw [g18, xN_nI (by omega : j < 100000)]
    rw [e_x]
    have z9 : (if cn < 14 then cn + 1 else 14) = pushN cn := by unfold pushN; split <;> omega
    rw [z9]
    exact MW.mk pmM_15_6.symm (by unfold pushN; split <;> omega) (Nat.mod_lt _ (by decide)) (dg_push hcn hnx hdg (ac, ap, ash, an, aob, arq)) hkp
set_option maxHeartbeats 4000000 in
theorem n_X8_close (l : Launch) (T : jj_T) {h8 k0 : Nat} {ac ap : Nat} {ash : Bool} {an : Nat} {aob arq : Nat → Int32} {cn : Nat} {M : Nat → aS} {S : Nat → Option aS} {w : va_W}  (W0 : MW T h8 k0 ((ac, ap, ash, an, aob, arq), cn, M, S) w) (O : okS ((ac, ap, ash, an, aob, arq), cn, M, S)) : jM l T yX8_close wsX8_close { frames := 1, cells := 0, slots := 0, locals := 21 } [.ref h8] w (fun v w1 => ∃ (k : Nat) (r : Int32), v = some (.int r) ∧ k = kf_close ac ap ash an aob arq cn M S ∧ ((k = 0 ∧ rs_close ac ap ash an aob arq cn M S r ∧ MW T h8 0 (nx_close ac ap ash an aob arq cn M S r) w1) ∨ (k ≠ 0 ∧ MW T h8 k ((ac, ap, ash, an, aob, arq), cn, M, S) w1))) := by
  refine MW.ex W0 fun rv rn rnw rt rd rk rik rdk rre rle rhe rth rpa ror nx bv bo g9 D K pt oq ik dk re le he th hw hcn hnx hdg hkp => ?_
  obtain ⟨⟨oc, op, on, orq, oco, oob⟩, oM, oS⟩ := okS.of O
  refine jM.mono (jM.frame (c_X8_close l T (h8 := h8) (rv := rv) (rn := rn) (rnw := rnw) (rt := rt) (rd := rd) (rk := rk) (rik := rik) (rdk := rdk) (rre := rre) (rle := rle) (rhe := rhe) (rth := rth) (rpa := rpa) (ror := ror) (na := cn) (nx := nx) (rf := (nI k0)) (bv := bv) (bo := bo) (ac := ac) (ap := ap) (an := an) (ash := ash) (aob := aob) (arq := arq) (D := D) (hna := hcn) (hnx := hnx)) (hw.trans pmM_15_7)) ?_
  rintro v _ ⟨_, ⟨k8, r, rfl, hd9⟩, rfl⟩
  rcases hd9 with ⟨rfl, hd8⟩ | ⟨rfl, rfl, g2, g3⟩
  · obtain ⟨rfl, g1⟩ := hd8
    exact ⟨_, ⟨_, _, rfl, by simp [kf_close, g1], Or.inr ⟨by decide, MW.mk pmM_15_7.symm hcn hnx hdg hkp⟩⟩, List.Perm.refl _⟩
  · refine ⟨_, ⟨_, _, rfl, by simp [kf_close, g2], Or.inl ⟨rfl, g3, ?_⟩⟩, List.Perm.refl _⟩
    show MW T h8 0 ((ac, ap, true, an, aob, arq), pushN cn, pushM cn M (ac, ap, ash, an, aob, arq), S) _
    have z9 : (if cn < 14 then cn + 1 else 14) = pushN cn := by unfold pushN; split <;> omega
    rw [z9]
    exact MW.mk pmM_15_7.symm (by unfold pushN; split <;> omega) (Nat.mod_lt _ (by decide)) (dg_push hcn hnx hdg (ac, ap, ash, an, aob, arq)) hkp
set_option maxHeartbeats 4000000 in
theorem n_X8_open (l : Launch) (T : jj_T) {h8 k0 : Nat} {ac ap : Nat} {ash : Bool} {an : Nat} {aob arq : Nat → Int32} {cn : Nat} {M : Nat → aS} {S : Nat → Option aS} {w : va_W}  (W0 : MW T h8 k0 ((ac, ap, ash, an, aob, arq), cn, M, S) w) (O : okS ((ac, ap, ash, an, aob, arq), cn, M, S)) : jM l T yX8_open wsX8_open { frames := 3, cells := 0, slots := 0, locals := 78 } [.ref h8] w (fun v w1 => ∃ (k : Nat) (r : Int32), v = some (.int r) ∧ k = kf_open ac ap ash an aob arq cn M S ∧ ((k = 0 ∧ rs_open ac ap ash an aob arq cn M S r ∧ MW T h8 0 (nx_open ac ap ash an aob arq cn M S r) w1) ∨ (k ≠ 0 ∧ MW T h8 k ((ac, ap, ash, an, aob, arq), cn, M, S) w1))) := by
  refine MW.ex W0 fun rv rn rnw rt rd rk rik rdk rre rle rhe rth rpa ror nx bv bo g9 D K pt oq ik dk re le he th hw hcn hnx hdg hkp => ?_
  obtain ⟨⟨oc, op, on, orq, oco, oob⟩, oM, oS⟩ := okS.of O
  refine jM.mono (jM.frame (c_X8_open l T (h8 := h8) (rv := rv) (rn := rn) (rnw := rnw) (rt := rt) (rd := rd) (rk := rk) (rik := rik) (rdk := rdk) (rre := rre) (rle := rle) (rhe := rhe) (rth := rth) (rpa := rpa) (ror := ror) (na := cn) (nx := nx) (rf := (nI k0)) (bv := bv) (bo := bo) (ac := ac) (ap := ap) (an := an) (ash := ash) (aob := aob) (arq := arq) (D := D) (hna := hcn) (hnx := hnx) (hap := op) (hco := oco)) (hw.trans pmM_15_8)) ?_
  rintro v _ ⟨_, ⟨k8, r, rfl, hd9⟩, rfl⟩
  rcases hd9 with ⟨rfl, hd8⟩ | ⟨rfl, rfl, g4, g5, g6⟩
  · rcases hd8 with ⟨rfl, g1⟩ | ⟨rfl, g2, g3⟩
    · exact ⟨_, ⟨_, _, rfl, by simp [kf_open, g1], Or.inr ⟨by decide, MW.mk pmM_15_8.symm hcn hnx hdg hkp⟩⟩, List.Perm.refl _⟩
    · exact ⟨_, ⟨_, _, rfl, by simp [kf_open, g2, g3], Or.inr ⟨by decide, MW.mk pmM_15_8.symm hcn hnx hdg hkp⟩⟩, List.Perm.refl _⟩
  · refine ⟨_, ⟨_, _, rfl, by simp [kf_open, g4, g5], Or.inl ⟨rfl, g6, ?_⟩⟩, List.Perm.refl _⟩
    show MW T h8 0 ((ac, ap, false, an, aob, arq), pushN cn, pushM cn M (ac, ap, ash, an, aob, arq), S) _
    have z9 : (if cn < 14 then cn + 1 else 14) = pushN cn := by unfold pushN; split <;> omega
    rw [z9]
    exact MW.mk pmM_15_8.symm (by unfold pushN; split <;> omega) (Nat.mod_lt _ (by decide)) (dg_push hcn hnx hdg (ac, ap, ash, an, aob, arq)) hkp
set_option maxHeartbeats 4000000 in
theorem n_X8_pass (l : Launch) (T : jj_T) {h8 k0 : Nat} {ac ap : Nat} {ash : Bool} {an : Nat} {aob arq : Nat → Int32} {cn : Nat} {M : Nat → aS} {S : Nat → Option aS} {w : va_W} (x : Int32) (W0 : MW T h8 k0 ((ac, ap, ash, an, aob, arq), cn, M, S) w) (O : okS ((ac, ap, ash, an, aob, arq), cn, M, S)) : jM l T yX8_pass wsX8_pass { frames := 1, cells := 0, slots := 0, locals := 25 } [.ref h8, .int x] w (fun v w1 => ∃ (k : Nat) (r : Int32), v = some (.int r) ∧ k = kf_pass ac ap ash an aob arq cn M S x ∧ ((k = 0 ∧ rs_pass ac ap ash an aob arq cn M S x r ∧ MW T h8 0 (nx_pass ac ap ash an aob arq cn M S x r) w1) ∨ (k ≠ 0 ∧ MW T h8 k ((ac, ap, ash, an, aob, arq), cn, M, S) w1))) := by
  refine MW.ex W0 fun rv rn rnw rt rd rk rik rdk rre rle rhe rth rpa ror nx bv bo g9 D K pt oq ik dk re le he th hw hcn hnx hdg hkp => ?_
  obtain ⟨⟨oc, op, on, orq, oco, oob⟩, oM, oS⟩ := okS.of O
  refine jM.mono (jM.frame (c_X8_pass l T (h8 := h8) (rv := rv) (rn := rn) (rnw := rnw) (rt := rt) (rd := rd) (rk := rk) (rik := rik) (rdk := rdk) (rre := rre) (rle := rle) (rhe := rhe) (rth := rth) (rpa := rpa) (ror := ror) (na := cn) (nx := nx) (rf := (nI k0)) (bv := bv) (bo := bo) (ac := ac) (ap := ap) (an := an) (ash := ash) (aob := aob) (arq := arq) (D := D) (x := x) (hna := hcn) (hnx := hnx) (hac := oc)) (hw.trans pmM_15_7)) ?_
  rintro v _ ⟨_, ⟨k8, r, rfl, hd9⟩, rfl⟩
  rcases hd9 with ⟨rfl, hd8⟩ | ⟨rfl, n, rfl, g10, g11, g12, g13, g14, g15⟩
  · rcases hd8 with ⟨rfl, g1⟩ | ⟨rfl, g2, g3⟩ | ⟨rfl, g4, g5, ⟨v6, g7, g8, g9⟩⟩
    · exact ⟨_, ⟨_, _, rfl, by simp [kf_pass, g1], Or.inr ⟨by decide, MW.mk pmM_15_7.symm hcn hnx hdg hkp⟩⟩, List.Perm.refl _⟩
    · exact ⟨_, ⟨_, _, rfl, by simp [kf_pass, g2, g3], Or.inr ⟨by decide, MW.mk pmM_15_7.symm hcn hnx hdg hkp⟩⟩, List.Perm.refl _⟩
    · have e_x : xN x = v6 := xN_e g7 (by omega)
      exact ⟨_, ⟨_, _, rfl, by simp [kf_pass, e_x, g4, g5, g8, g9], Or.inr ⟨by decide, MW.mk pmM_15_7.symm hcn hnx hdg hkp⟩⟩, List.Perm.refl _⟩
  · have e_x : xN x = n := xN_e g10 (by omega)
    have i_x : inR x 1 100 = true := xRn g10 (by omega) (by omega) (by omega)
    refine ⟨_, ⟨_, _, rfl, by simp [kf_pass, i_x, e_x, g11, g12, g13, g14], Or.inl ⟨rfl, by unfold rs_pass; rw [e_x]; exact g15, ?_⟩⟩, List.Perm.refl _⟩
    show MW T h8 0 ((ac + xN x, ap, ash, an, aob, arq), pushN cn, pushM cn M (ac, ap, ash, an, aob, arq), S) _
    rw [e_x]
    have z9 : (if cn < 14 then cn + 1 else 14) = pushN cn := by unfold pushN; split <;> omega
    rw [z9]
    exact MW.mk pmM_15_7.symm (by unfold pushN; split <;> omega) (Nat.mod_lt _ (by decide)) (dg_push hcn hnx hdg (ac, ap, ash, an, aob, arq)) hkp
set_option maxHeartbeats 4000000 in
theorem n_X8_addRequest (l : Launch) (T : jj_T) {h8 k0 : Nat} {ac ap : Nat} {ash : Bool} {an : Nat} {aob arq : Nat → Int32} {cn : Nat} {M : Nat → aS} {S : Nat → Option aS} {w : va_W} (x : Int32) (y : Int32) (z : Int32) (W0 : MW T h8 k0 ((ac, ap, ash, an, aob, arq), cn, M, S) w) (O : okS ((ac, ap, ash, an, aob, arq), cn, M, S)) : jM l T yX8_addRequest wsX8_addRequest { frames := 2, cells := 0, slots := 0, locals := 45 } [.ref h8, .int x, .int y, .int z] w (fun v w1 => ∃ (k : Nat) (r : Int32), v = some (.int r) ∧ k = kf_addRequest ac ap ash an aob arq cn M S x y z ∧ ((k = 0 ∧ rs_addRequest ac ap ash an aob arq cn M S x y z r ∧ MW T h8 0 (nx_addRequest ac ap ash an aob arq cn M S x y z r) w1) ∨ (k ≠ 0 ∧ MW T h8 k ((ac, ap, ash, an, aob, arq), cn, M, S) w1))) := by
  refine MW.ex W0 fun rv rn rnw rt rd rk rik rdk rre rle rhe rth rpa ror nx bv bo g9 D K pt oq ik dk re le he th hw hcn hnx hdg hkp => ?_
  obtain ⟨⟨oc, op, on, orq, oco, oob⟩, oM, oS⟩ := okS.of O
  refine jM.mono (jM.frame (c_X8_addRequest l T (h8 := h8) (rv := rv) (rn := rn) (rnw := rnw) (rt := rt) (rd := rd) (rk := rk) (rik := rik) (rdk := rdk) (rre := rre) (rle := rle) (rhe := rhe) (rth := rth) (rpa := rpa) (ror := ror) (na := cn) (nx := nx) (rf := (nI k0)) (bv := bv) (bo := bo) (ac := ac) (ap := ap) (an := an) (ash := ash) (aob := aob) (arq := arq) (D := D) (x := x) (y := y) (z := z) (hna := hcn) (hnx := hnx) (han := on)) (hw.trans pmM_15_7)) ?_
  rintro v _ ⟨_, ⟨k8, r, rfl, hd9⟩, rfl⟩
  rcases hd9 with ⟨rfl, hd8⟩ | ⟨rfl, c, rfl, g7, g8, g9, g10, g11⟩
  · rcases hd8 with ⟨rfl, g1⟩ | ⟨rfl, g2, g3⟩ | ⟨rfl, g4, g5, g6⟩
    · exact ⟨_, ⟨_, _, rfl, by simp [kf_addRequest, g1], Or.inr ⟨by decide, MW.mk pmM_15_7.symm hcn hnx hdg hkp⟩⟩, List.Perm.refl _⟩
    · exact ⟨_, ⟨_, _, rfl, by symm; unfold kf_addRequest; rw [if_neg (nf g2), if_pos g3], Or.inr ⟨by decide, MW.mk pmM_15_7.symm hcn hnx hdg hkp⟩⟩, List.Perm.refl _⟩
    · exact ⟨_, ⟨_, _, rfl, by symm; unfold kf_addRequest; rw [if_neg (nf g4), if_neg (nf g5), if_pos (by omega)], Or.inr ⟨by decide, MW.mk pmM_15_7.symm hcn hnx hdg hkp⟩⟩, List.Perm.refl _⟩
  · have e_x : xN x = c := xN_e g7 (by omega)
    have i_x : inR x 0 149 = true := xRn g7 (by omega) (by omega) (by omega)
    refine ⟨_, ⟨_, _, rfl, by symm; unfold kf_addRequest; rw [if_neg (nf i_x), if_neg (nf g9), if_neg (by omega)], Or.inl ⟨rfl, g11, ?_⟩⟩, List.Perm.refl _⟩
    show MW T h8 0 ((ac, ap, ash, an + 1, aob, upd (upd (upd arq (3 * an) x) (3 * an + 1) y) (3 * an + 2) z), pushN cn, pushM cn M (ac, ap, ash, an, aob, arq), S) _
    rw [g7]
    have z9 : (if cn < 14 then cn + 1 else 14) = pushN cn := by unfold pushN; split <;> omega
    rw [z9]
    exact MW.mk pmM_15_7.symm (by unfold pushN; split <;> omega) (Nat.mod_lt _ (by decide)) (dg_push hcn hnx hdg (ac, ap, ash, an, aob, arq)) hkp
set_option maxHeartbeats 4000000 in
theorem n_X8_removeRequest (l : Launch) (T : jj_T) {h8 k0 : Nat} {ac ap : Nat} {ash : Bool} {an : Nat} {aob arq : Nat → Int32} {cn : Nat} {M : Nat → aS} {S : Nat → Option aS} {w : va_W} (x : Int32) (W0 : MW T h8 k0 ((ac, ap, ash, an, aob, arq), cn, M, S) w) (O : okS ((ac, ap, ash, an, aob, arq), cn, M, S)) : jM l T yX8_removeRequest wsX8_removeRequest { frames := 2, cells := 0, slots := 0, locals := 46 } [.ref h8, .int x] w (fun v w1 => ∃ (k : Nat) (r : Int32), v = some (.int r) ∧ k = kf_removeRequest ac ap ash an aob arq cn M S x ∧ ((k = 0 ∧ rs_removeRequest ac ap ash an aob arq cn M S x r ∧ MW T h8 0 (nx_removeRequest ac ap ash an aob arq cn M S x r) w1) ∨ (k ≠ 0 ∧ MW T h8 k ((ac, ap, ash, an, aob, arq), cn, M, S) w1))) := by
  refine MW.ex W0 fun rv rn rnw rt rd rk rik rdk rre rle rhe rth rpa ror nx bv bo g9 D K pt oq ik dk re le he th hw hcn hnx hdg hkp => ?_
  obtain ⟨⟨oc, op, on, orq, oco, oob⟩, oM, oS⟩ := okS.of O
  refine jM.mono (jM.frame (c_X8_removeRequest l T (h8 := h8) (rv := rv) (rn := rn) (rnw := rnw) (rt := rt) (rd := rd) (rk := rk) (rik := rik) (rdk := rdk) (rre := rre) (rle := rle) (rhe := rhe) (rth := rth) (rpa := rpa) (ror := ror) (na := cn) (nx := nx) (rf := (nI k0)) (bv := bv) (bo := bo) (ac := ac) (ap := ap) (an := an) (ash := ash) (aob := aob) (arq := arq) (D := D) (x := x) (hna := hcn) (hnx := hnx) (han := on)) (hw.trans pmM_15_7)) ?_
  rintro v _ ⟨_, ⟨k8, r, rfl, hd9⟩, rfl⟩
  rcases hd9 with ⟨rfl, hd8⟩ | ⟨rfl, i, rfl, g2, g3, g4⟩
  · obtain ⟨rfl, g1⟩ := hd8
    exact ⟨_, ⟨_, _, rfl, by simp [kf_removeRequest, g1], Or.inr ⟨by decide, MW.mk pmM_15_7.symm hcn hnx hdg hkp⟩⟩, List.Perm.refl _⟩
  · have e_x : xN x = i := xN_e g2 (by omega)
    have i_x : inR x 0 ((an : Int) - 1) = true := xRn g2 (by omega) (by omega) (by omega)
    refine ⟨_, ⟨_, _, rfl, by simp [kf_removeRequest, i_x, e_x, g3], Or.inl ⟨rfl, g4, ?_⟩⟩, List.Perm.refl _⟩
    show MW T h8 0 ((ac, ap, ash, an - 1, aob, st_drop arq (xN x) an), pushN cn, pushM cn M (ac, ap, ash, an, aob, arq), S) _
    rw [e_x]
    have z9 : (if cn < 14 then cn + 1 else 14) = pushN cn := by unfold pushN; split <;> omega
    rw [z9]
    exact MW.mk pmM_15_7.symm (by unfold pushN; split <;> omega) (Nat.mod_lt _ (by decide)) (dg_push hcn hnx hdg (ac, ap, ash, an, aob, arq)) hkp
set_option maxHeartbeats 4000000 in
theorem n_X8_arrival (l : Launch) (T : jj_T) {h8 k0 : Nat} {ac ap : Nat} {ash : Bool} {an : Nat} {aob arq : Nat → Int32} {cn : Nat} {M : Nat → aS} {S : Nat → Option aS} {w : va_W} (x : Int32) (W0 : MW T h8 k0 ((ac, ap, ash, an, aob, arq), cn, M, S) w) (O : okS ((ac, ap, ash, an, aob, arq), cn, M, S)) : jM l T yX8_arrival wsX8_arrival { frames := 6, cells := 0, slots := 0, locals := 143 } [.ref h8, .int x] w (fun v w1 => ∃ (k : Nat) (r : Int32), v = some (.int r) ∧ k = kf_arrival ac ap ash an aob arq cn M S x ∧ ((k = 0 ∧ rs_arrival ac ap ash an aob arq cn M S x r ∧ MW T h8 0 (nx_arrival ac ap ash an aob arq cn M S x r) w1) ∨ (k ≠ 0 ∧ MW T h8 k ((ac, ap, ash, an, aob, arq), cn, M, S) w1))) := by
  refine MW.ex W0 fun rv rn rnw rt rd rk rik rdk rre rle rhe rth rpa ror nx bv bo g9 D K pt oq ik dk re le he th hw hcn hnx hdg hkp => ?_
  obtain ⟨⟨oc, op, on, orq, oco, oob⟩, oM, oS⟩ := okS.of O
  refine jM.mono (jM.frame (c_X8_arrival l T (h8 := h8) (rv := rv) (rn := rn) (rnw := rnw) (rt := rt) (rd := rd) (rk := rk) (rik := rik) (rdk := rdk) (rre := rre) (rle := rle) (rhe := rhe) (rth := rth) (rpa := rpa) (ror := ror) (na := cn) (nx := nx) (rf := (nI k0)) (bv := bv) (bo := bo) (ac := ac) (ap := ap) (an := an) (ash := ash) (aob := aob) (arq := arq) (dk := dk) (re := re) (x := x) (hap := op) (hac := oc) (hco := oco)) (hw.trans pmM_15_9)) ?_
  rintro v _ ⟨_, ⟨k8, r, rfl, hd9⟩, rfl⟩
  rcases hd9 with ⟨rfl, hd8⟩ | ⟨rfl, c, rfl, g4, g5, g6, g7⟩
  · rcases hd8 with ⟨rfl, g1⟩ | ⟨rfl, g2, g3⟩
    · exact ⟨_, ⟨_, _, rfl, by simp [kf_arrival, g1], Or.inr ⟨by decide, MW.mk pmM_15_9.symm hcn hnx hdg hkp⟩⟩, List.Perm.refl _⟩
    · exact ⟨_, ⟨_, _, rfl, by simp [kf_arrival, g2, g3], Or.inr ⟨by decide, MW.mk pmM_15_9.symm hcn hnx hdg hkp⟩⟩, List.Perm.refl _⟩
  · have e_x : xN x = c := xN_e g4 (by omega)
    have i_x : inR x 0 149 = true := xRn g4 (by omega) (by omega) (by omega)
    refine ⟨_, ⟨_, _, rfl, by simp [kf_arrival, i_x, e_x, g5, g6], Or.inl ⟨rfl, by unfold rs_arrival; rw [e_x]; assumption, ?_⟩⟩, List.Perm.refl _⟩
    show MW T h8 0 ((ac, ap, ash, an, aob, arq), cn, M, S) _
    exact MW.mk pmM_15_9.symm hcn hnx hdg hkp
set_option maxHeartbeats 4000000 in
theorem n_X8_planCell (l : Launch) (T : jj_T) {h8 k0 : Nat} {ac ap : Nat} {ash : Bool} {an : Nat} {aob arq : Nat → Int32} {cn : Nat} {M : Nat → aS} {S : Nat → Option aS} {w : va_W} (x : Int32) (y : Int32) (W0 : MW T h8 k0 ((ac, ap, ash, an, aob, arq), cn, M, S) w) (O : okS ((ac, ap, ash, an, aob, arq), cn, M, S)) : jM l T yX8_planCell wsX8_planCell { frames := 6, cells := 0, slots := 0, locals := 143 } [.ref h8, .int x, .int y] w (fun v w1 => ∃ (k : Nat) (r : Int32), v = some (.int r) ∧ k = kf_planCell ac ap ash an aob arq cn M S x y ∧ ((k = 0 ∧ rs_planCell ac ap ash an aob arq cn M S x y r ∧ MW T h8 0 (nx_planCell ac ap ash an aob arq cn M S x y r) w1) ∨ (k ≠ 0 ∧ MW T h8 k ((ac, ap, ash, an, aob, arq), cn, M, S) w1))) := by
  refine MW.ex W0 fun rv rn rnw rt rd rk rik rdk rre rle rhe rth rpa ror nx bv bo g9 D K pt oq ik dk re le he th hw hcn hnx hdg hkp => ?_
  obtain ⟨⟨oc, op, on, orq, oco, oob⟩, oM, oS⟩ := okS.of O
  refine jM.mono (jM.frame (c_X8_planCell l T (h8 := h8) (rv := rv) (rn := rn) (rnw := rnw) (rt := rt) (rd := rd) (rk := rk) (rik := rik) (rdk := rdk) (rre := rre) (rle := rle) (rhe := rhe) (rth := rth) (rpa := rpa) (ror := ror) (na := cn) (nx := nx) (rf := (nI k0)) (bv := bv) (bo := bo) (ac := ac) (ap := ap) (an := an) (ash := ash) (aob := aob) (arq := arq) (dk := dk) (re := re) (le := le) (pt := pt) (x := x) (y := y) (hap := op) (hac := oc) (hco := oco)) (hw.trans pmM_15_10)) ?_
  rintro v _ ⟨_, ⟨k8, r, rfl, hd9⟩, rfl⟩
  rcases hd9 with ⟨rfl, hd8⟩ | ⟨rfl, c, i, le', pt', rfl, g7, g8, g9, g10, g11, g12⟩
  · rcases hd8 with ⟨rfl, g1⟩ | ⟨rfl, g2, g3⟩ | ⟨rfl, g4, g5, g6⟩
    · exact ⟨_, ⟨_, _, rfl, by simp [kf_planCell, g1], Or.inr ⟨by decide, MW.mk pmM_15_10.symm hcn hnx hdg hkp⟩⟩, List.Perm.refl _⟩
    · exact ⟨_, ⟨_, _, rfl, by simp [kf_planCell, g2, g3], Or.inr ⟨by decide, MW.mk pmM_15_10.symm hcn hnx hdg hkp⟩⟩, List.Perm.refl _⟩
    · exact ⟨_, ⟨_, _, rfl, by simp [kf_planCell, g4, g5, g6], Or.inr ⟨by decide, MW.mk pmM_15_10.symm hcn hnx hdg hkp⟩⟩, List.Perm.refl _⟩
  · have e_x : xN x = c := xN_e g7 (by omega)
    have e_y : xN y = i := xN_e g9 (by omega)
    have i_x : inR x 0 149 = true := xRn g7 (by omega) (by omega) (by omega)
    have i_y : inR y 0 60 = true := xRn g9 (by omega) (by omega) (by omega)
    refine ⟨_, ⟨_, _, rfl, by simp [kf_planCell, i_x, i_y, e_x, e_y, g8, g10, g11], Or.inl ⟨rfl, by unfold rs_planCell; rw [e_x, e_y]; assumption, ?_⟩⟩, List.Perm.refl _⟩
    show MW T h8 0 ((ac, ap, ash, an, aob, arq), cn, M, S) _
    exact MW.mk pmM_15_10.symm hcn hnx hdg hkp
set_option maxHeartbeats 4000000 in
theorem n_X8_reachableCells (l : Launch) (T : jj_T) {h8 k0 : Nat} {ac ap : Nat} {ash : Bool} {an : Nat} {aob arq : Nat → Int32} {cn : Nat} {M : Nat → aS} {S : Nat → Option aS} {w : va_W} (x : Int32) (W0 : MW T h8 k0 ((ac, ap, ash, an, aob, arq), cn, M, S) w) (O : okS ((ac, ap, ash, an, aob, arq), cn, M, S)) : jM l T yX8_reachableCells wsX8_reachableCells { frames := 5, cells := 0, slots := 0, locals := 121 } [.ref h8, .int x] w (fun v w1 => ∃ (k : Nat) (r : Int32), v = some (.int r) ∧ k = kf_reachableCells ac ap ash an aob arq cn M S x ∧ ((k = 0 ∧ rs_reachableCells ac ap ash an aob arq cn M S x r ∧ MW T h8 0 (nx_reachableCells ac ap ash an aob arq cn M S x r) w1) ∨ (k ≠ 0 ∧ MW T h8 k ((ac, ap, ash, an, aob, arq), cn, M, S) w1))) := by
  refine MW.ex W0 fun rv rn rnw rt rd rk rik rdk rre rle rhe rth rpa ror nx bv bo g9 D K pt oq ik dk re le he th hw hcn hnx hdg hkp => ?_
  obtain ⟨⟨oc, op, on, orq, oco, oob⟩, oM, oS⟩ := okS.of O
  refine jM.mono (jM.frame (c_X8_reachableCells l T (h8 := h8) (rv := rv) (rn := rn) (rnw := rnw) (rt := rt) (rd := rd) (rk := rk) (rik := rik) (rdk := rdk) (rre := rre) (rle := rle) (rhe := rhe) (rth := rth) (rpa := rpa) (ror := ror) (na := cn) (nx := nx) (rf := (nI k0)) (bv := bv) (bo := bo) (ac := ac) (ap := ap) (an := an) (ash := ash) (aob := aob) (arq := arq) (dk := dk) (re := re) (x := x) (hap := op) (hac := oc) (hco := oco)) (hw.trans pmM_15_9)) ?_
  rintro v _ ⟨_, ⟨k8, r, rfl, hd9⟩, rfl⟩
  rcases hd9 with ⟨rfl, hd8⟩ | ⟨rfl, k, rfl, g4, g5, g6, g7⟩
  · rcases hd8 with ⟨rfl, g1⟩ | ⟨rfl, g2, g3⟩
    · exact ⟨_, ⟨_, _, rfl, by simp [kf_reachableCells, g1], Or.inr ⟨by decide, MW.mk pmM_15_9.symm hcn hnx hdg hkp⟩⟩, List.Perm.refl _⟩
    · exact ⟨_, ⟨_, _, rfl, by simp [kf_reachableCells, g2, g3], Or.inr ⟨by decide, MW.mk pmM_15_9.symm hcn hnx hdg hkp⟩⟩, List.Perm.refl _⟩
  · have e_x : xN x = k := xN_e g4 (by omega)
    have i_x : inR x 0 60 = true := xRn g4 (by omega) (by omega) (by omega)
    refine ⟨_, ⟨_, _, rfl, by simp [kf_reachableCells, i_x, e_x, g5, g6], Or.inl ⟨rfl, by unfold rs_reachableCells; rw [e_x]; exact g7, ?_⟩⟩, List.Perm.refl _⟩
    show MW T h8 0 ((ac, ap, ash, an, aob, arq), cn, M, S) _
    exact MW.mk pmM_15_9.symm hcn hnx hdg hkp
set_option maxHeartbeats 4000000 in
theorem n_X8_parkingCell (l : Launch) (T : jj_T) {h8 k0 : Nat} {ac ap : Nat} {ash : Bool} {an : Nat} {aob arq : Nat → Int32} {cn : Nat} {M : Nat → aS} {S : Nat → Option aS} {w : va_W} (x : Int32) (W0 : MW T h8 k0 ((ac, ap, ash, an, aob, arq), cn, M, S) w) (O : okS ((ac, ap, ash, an, aob, arq), cn, M, S)) : jM l T yX8_parkingCell wsX8_parkingCell { frames := 5, cells := 0, slots := 0, locals := 124 } [.ref h8, .int x] w (fun v w1 => ∃ (k : Nat) (r : Int32), v = some (.int r) ∧ k = kf_parkingCell ac ap ash an aob arq cn M S x ∧ ((k = 0 ∧ rs_parkingCell ac ap ash an aob arq cn M S x r ∧ MW T h8 0 (nx_parkingCell ac ap ash an aob arq cn M S x r) w1) ∨ (k ≠ 0 ∧ MW T h8 k ((ac, ap, ash, an, aob, arq), cn, M, S) w1))) := by
  refine MW.ex W0 fun rv rn rnw rt rd rk rik rdk rre rle rhe rth rpa ror nx bv bo g9 D K pt oq ik dk re le he th hw hcn hnx hdg hkp => ?_
  obtain ⟨⟨oc, op, on, orq, oco, oob⟩, oM, oS⟩ := okS.of O
  refine jM.mono (jM.frame (c_X8_parkingCell l T (h8 := h8) (rv := rv) (rn := rn) (rnw := rnw) (rt := rt) (rd := rd) (rk := rk) (rik := rik) (rdk := rdk) (rre := rre) (rle := rle) (rhe := rhe) (rth := rth) (rpa := rpa) (ror := ror) (na := cn) (nx := nx) (rf := (nI k0)) (bv := bv) (bo := bo) (ac := ac) (ap := ap) (an := an) (ash := ash) (aob := aob) (arq := arq) (dk := dk) (re := re) (x := x) (hap := op) (hac := oc) (hco := oco)) (hw.trans pmM_15_9)) ?_
  rintro v _ ⟨_, ⟨k8, r, rfl, hd9⟩, rfl⟩
  rcases hd9 with ⟨rfl, hd8⟩ | ⟨rfl, k, rfl, g4, g5, g6, ⟨v7, g8, g9⟩⟩
  · rcases hd8 with ⟨rfl, g1⟩ | ⟨rfl, g2, g3⟩
    · exact ⟨_, ⟨_, _, rfl, by simp [kf_parkingCell, g1], Or.inr ⟨by decide, MW.mk pmM_15_9.symm hcn hnx hdg hkp⟩⟩, List.Perm.refl _⟩
    · exact ⟨_, ⟨_, _, rfl, by simp [kf_parkingCell, g2, g3], Or.inr ⟨by decide, MW.mk pmM_15_9.symm hcn hnx hdg hkp⟩⟩, List.Perm.refl _⟩
  · have e_x : xN x = k := xN_e g4 (by omega)
    have i_x : inR x 0 40 = true := xRn g4 (by omega) (by omega) (by omega)
    refine ⟨_, ⟨_, _, rfl, by simp [kf_parkingCell, i_x, e_x, g5, g6], Or.inl ⟨rfl, by unfold rs_parkingCell; rw [e_x]; exact ⟨_, g8, g9⟩, ?_⟩⟩, List.Perm.refl _⟩
    show MW T h8 0 ((ac, ap, ash, an, aob, arq), cn, M, S) _
    exact MW.mk pmM_15_9.symm hcn hnx hdg hkp
set_option maxHeartbeats 4000000 in
theorem n_X8_parkingSteps (l : Launch) (T : jj_T) {h8 k0 : Nat} {ac ap : Nat} {ash : Bool} {an : Nat} {aob arq : Nat → Int32} {cn : Nat} {M : Nat → aS} {S : Nat → Option aS} {w : va_W} (x : Int32) (W0 : MW T h8 k0 ((ac, ap, ash, an, aob, arq), cn, M, S) w) (O : okS ((ac, ap, ash, an, aob, arq), cn, M, S)) : jM l T yX8_parkingSteps wsX8_parkingSteps { frames := 5, cells := 0, slots := 0, locals := 124 } [.ref h8, .int x] w (fun v w1 => ∃ (k : Nat) (r : Int32), v = some (.int r) ∧ k = kf_parkingSteps ac ap ash an aob arq cn M S x ∧ ((k = 0 ∧ rs_parkingSteps ac ap ash an aob arq cn M S x r ∧ MW T h8 0 (nx_parkingSteps ac ap ash an aob arq cn M S x r) w1) ∨ (k ≠ 0 ∧ MW T h8 k ((ac, ap, ash, an, aob, arq), cn, M, S) w1))) := by
  refine MW.ex W0 fun rv rn rnw rt rd rk rik rdk rre rle rhe rth rpa ror nx bv bo g9 D K pt oq ik dk re le he th hw hcn hnx hdg hkp => ?_
  obtain ⟨⟨oc, op, on, orq, oco, oob⟩, oM, oS⟩ := okS.of O
  refine jM.mono (jM.frame (c_X8_parkingSteps l T (h8 := h8) (rv := rv) (rn := rn) (rnw := rnw) (rt := rt) (rd := rd) (rk := rk) (rik := rik) (rdk := rdk) (rre := rre) (rle := rle) (rhe := rhe) (rth := rth) (rpa := rpa) (ror := ror) (na := cn) (nx := nx) (rf := (nI k0)) (bv := bv) (bo := bo) (ac := ac) (ap := ap) (an := an) (ash := ash) (aob := aob) (arq := arq) (dk := dk) (re := re) (x := x) (hap := op) (hac := oc) (hco := oco)) (hw.trans pmM_15_9)) ?_
  rintro v _ ⟨_, ⟨k8, r, rfl, hd9⟩, rfl⟩
  rcases hd9 with ⟨rfl, hd8⟩ | ⟨rfl, k, rfl, g4, g5, g6, g7⟩
  · rcases hd8 with ⟨rfl, g1⟩ | ⟨rfl, g2, g3⟩
    · exact ⟨_, ⟨_, _, rfl, by simp [kf_parkingSteps, g1], Or.inr ⟨by decide, MW.mk pmM_15_9.symm hcn hnx hdg hkp⟩⟩, List.Perm.refl _⟩
    · exact ⟨_, ⟨_, _, rfl, by simp [kf_parkingSteps, g2, g3], Or.inr ⟨by decide, MW.mk pmM_15_9.symm hcn hnx hdg hkp⟩⟩, List.Perm.refl _⟩
  · have e_x : xN x = k := xN_e g4 (by omega)
    have i_x : inR x 0 40 = true := xRn g4 (by omega) (by omega) (by omega)
    refine ⟨_, ⟨_, _, rfl, by simp [kf_parkingSteps, i_x, e_x, g5, g6], Or.inl ⟨rfl, by unfold rs_parkingSteps; rw [e_x]; assumption, ?_⟩⟩, List.Perm.refl _⟩
    show MW T h8 0 ((ac, ap, ash, an, aob, arq), cn, M, S) _
    exact MW.mk pmM_15_9.symm hcn hnx hdg hkp
set_option maxHeartbeats 4000000 in
theorem n_X8_requestFinish (l : Launch) (T : jj_T) {h8 k0 : Nat} {ac ap : Nat} {ash : Bool} {an : Nat} {aob arq : Nat → Int32} {cn : Nat} {M : Nat → aS} {S : Nat → Option aS} {w : va_W} (x : Int32) (W0 : MW T h8 k0 ((ac, ap, ash, an, aob, arq), cn, M, S) w) (O : okS ((ac, ap, ash, an, aob, arq), cn, M, S)) : jM l T yX8_requestFinish wsX8_requestFinish { frames := 4, cells := 0, slots := 0, locals := 101 } [.ref h8, .int x] w (fun v w1 => ∃ (k : Nat) (r : Int32), v = some (.int r) ∧ k = kf_requestFinish ac ap ash an aob arq cn M S x ∧ ((k = 0 ∧ rs_requestFinish ac ap ash an aob arq cn M S x r ∧ MW T h8 0 (nx_requestFinish ac ap ash an aob arq cn M S x r) w1) ∨ (k ≠ 0 ∧ MW T h8 k ((ac, ap, ash, an, aob, arq), cn, M, S) w1))) := by
  refine MW.ex W0 fun rv rn rnw rt rd rk rik rdk rre rle rhe rth rpa ror nx bv bo g9 D K pt oq ik dk re le he th hw hcn hnx hdg hkp => ?_
  obtain ⟨⟨oc, op, on, orq, oco, oob⟩, oM, oS⟩ := okS.of O
  refine jM.mono (jM.frame (c_X8_requestFinish l T (h8 := h8) (rv := rv) (rn := rn) (rnw := rnw) (rt := rt) (rd := rd) (rk := rk) (rik := rik) (rdk := rdk) (rre := rre) (rle := rle) (rhe := rhe) (rth := rth) (rpa := rpa) (ror := ror) (na := cn) (nx := nx) (rf := (nI k0)) (bv := bv) (bo := bo) (ac := ac) (ap := ap) (an := an) (ash := ash) (aob := aob) (arq := arq) (dk := dk) (he := he) (th := th) (x := x) (hap := op) (hac := oc) (hco := oco) (han := on) (hrq := orq)) (hw.trans pmM_15_11)) ?_
  rintro v _ ⟨_, ⟨k8, r, rfl, hd9⟩, rfl⟩
  rcases hd9 with ⟨rfl, hd8⟩ | ⟨rfl, i, he', th', rfl, g4, g5, g6, g7⟩
  · rcases hd8 with ⟨rfl, g1⟩ | ⟨rfl, g2, g3⟩
    · exact ⟨_, ⟨_, _, rfl, by simp [kf_requestFinish, g1], Or.inr ⟨by decide, MW.mk pmM_15_11.symm hcn hnx hdg hkp⟩⟩, List.Perm.refl _⟩
    · exact ⟨_, ⟨_, _, rfl, by simp [kf_requestFinish, g2, g3], Or.inr ⟨by decide, MW.mk pmM_15_11.symm hcn hnx hdg hkp⟩⟩, List.Perm.refl _⟩
  · have e_x : xN x = i := xN_e g4 (by omega)
    have i_x : inR x 0 ((an : Int) - 1) = true := xRn g4 (by omega) (by omega) (by omega)
    refine ⟨_, ⟨_, _, rfl, by simp [kf_requestFinish, i_x, e_x, g5, g6], Or.inl ⟨rfl, by unfold rs_requestFinish; rw [e_x]; assumption, ?_⟩⟩, List.Perm.refl _⟩
    show MW T h8 0 ((ac, ap, ash, an, aob, arq), cn, M, S) _
    exact MW.mk pmM_15_11.symm hcn hnx hdg hkp
set_option maxHeartbeats 4000000 in
theorem n_X8_randomWalk (l : Launch) (T : jj_T) {h8 k0 : Nat} {ac ap : Nat} {ash : Bool} {an : Nat} {aob arq : Nat → Int32} {cn : Nat} {M : Nat → aS} {S : Nat → Option aS} {w : va_W} (sd : Int64) (y : Int32) (W0 : MW T h8 k0 ((ac, ap, ash, an, aob, arq), cn, M, S) w) (O : okS ((ac, ap, ash, an, aob, arq), cn, M, S)) : jM l T yX8_randomWalk wsX8_randomWalk { frames := 3, cells := 0, slots := 0, locals := 78 } [.ref h8, .long sd, .int y] w (fun v w1 => ∃ (k : Nat) (r : Int32), v = some (.int r) ∧ k = kf_randomWalk ac ap ash an aob arq cn M S sd y ∧ ((k = 0 ∧ rs_randomWalk ac ap ash an aob arq cn M S sd y r ∧ MW T h8 0 (nx_randomWalk ac ap ash an aob arq cn M S sd y r) w1) ∨ (k ≠ 0 ∧ MW T h8 k ((ac, ap, ash, an, aob, arq), cn, M, S) w1))) := by
  refine MW.ex W0 fun rv rn rnw rt rd rk rik rdk rre rle rhe rth rpa ror nx bv bo g9 D K pt oq ik dk re le he th hw hcn hnx hdg hkp => ?_
  obtain ⟨⟨oc, op, on, orq, oco, oob⟩, oM, oS⟩ := okS.of O
  refine jM.mono (jM.frame (c_X8_randomWalk l T (h8 := h8) (rv := rv) (rn := rn) (rnw := rnw) (rt := rt) (rd := rd) (rk := rk) (rik := rik) (rdk := rdk) (rre := rre) (rle := rle) (rhe := rhe) (rth := rth) (rpa := rpa) (ror := ror) (na := cn) (nx := nx) (rf := (nI k0)) (bv := bv) (bo := bo) (ac := ac) (ap := ap) (an := an) (ash := ash) (aob := aob) (arq := arq) (sd9 := sd) (y := y) (hap := op) (hac := oc) (hco := oco)) (hw.trans pmM_15_12)) ?_
  rintro v _ ⟨_, ⟨k8, r, rfl, hd9⟩, rfl⟩
  rcases hd9 with ⟨rfl, hd8⟩ | ⟨rfl, m, rfl, g4, g5, g6, g7, g8⟩
  · rcases hd8 with ⟨rfl, g1⟩ | ⟨rfl, g2, g3⟩
    · exact ⟨_, ⟨_, _, rfl, by simp [kf_randomWalk, g1], Or.inr ⟨by decide, MW.mk pmM_15_12.symm hcn hnx hdg hkp⟩⟩, List.Perm.refl _⟩
    · exact ⟨_, ⟨_, _, rfl, by simp [kf_randomWalk, g2, g3], Or.inr ⟨by decide, MW.mk pmM_15_12.symm hcn hnx hdg hkp⟩⟩, List.Perm.refl _⟩
  · have e_y : xN y = m := xN_e g4 (by omega)
    have i_y : inR y 1 60 = true := xRn g4 (by omega) (by omega) (by omega)
    refine ⟨_, ⟨_, _, rfl, by simp [kf_randomWalk, i_y, e_y, g5, g6, g7], Or.inl ⟨rfl, by unfold rs_randomWalk; rw [e_y]; exact g8, ?_⟩⟩, List.Perm.refl _⟩
    show MW T h8 0 ((ac, ap, ash, an, aob, arq), cn, M, S) _
    exact MW.mk pmM_15_12.symm hcn hnx hdg hkp
