/-! THE COUPLING (4): the planner over its whole world, the rest -/
theorem pmB_34_0 {e0 e1 e2 e3 e4 e5 e6 e7 e8 e9 e10 e11 e12 e13 e14 e15 e16 e17 e18 e19 e20 e21 e22 e23 e24 e25 e26 e27 e28 e29 e30 e31 e32 e33 : Nat × va_E} : ([e0, e1, e2, e3, e4, e5, e6, e7, e8, e9, e10, e11, e12, e13, e14, e15, e16, e17, e18, e19, e20, e21, e22, e23, e24, e25, e26, e27, e28, e29, e30, e31, e32, e33] : va_W).Perm ([e0, e28, e29] ++ [e1, e2, e3, e4, e5, e6, e7, e8, e9, e10, e11, e12, e13, e14, e15, e16, e17, e18, e19, e20, e21, e22, e23, e24, e25, e26, e27, e30, e31, e32, e33]) := pm_lit2 (l := [e0, e1, e2, e3, e4, e5, e6, e7, e8, e9, e10, e11, e12, e13, e14, e15, e16, e17, e18, e19, e20, e21, e22, e23, e24, e25, e26, e27, e28, e29, e30, e31, e32, e33]) (l' := [e0, e28, e29] ++ [e1, e2, e3, e4, e5, e6, e7, e8, e9, e10, e11, e12, e13, e14, e15, e16, e17, e18, e19, e20, e21, e22, e23, e24, e25, e26, e27, e30, e31, e32, e33]) [0, 28, 29, 1, 2, 3, 4, 5, 6, 7, 8, 9, 10, 11, 12, 13, 14, 15, 16, 17, 18, 19, 20, 21, 22, 23, 24, 25, 26, 27, 30, 31, 32, 33] 34 rfl rfl (by decide +kernel)
theorem pmB_34_1 {e0 e1 e2 e3 e4 e5 e6 e7 e8 e9 e10 e11 e12 e13 e14 e15 e16 e17 e18 e19 e20 e21 e22 e23 e24 e25 e26 e27 e28 e29 e30 e31 e32 e33 : Nat × va_E} : ([e0, e1, e2, e3, e4, e5, e6, e7, e8, e9, e10, e11, e12, e13, e14, e15, e16, e17, e18, e19, e20, e21, e22, e23, e24, e25, e26, e27, e28, e29, e30, e31, e32, e33] : va_W).Perm ([e0, e1] ++ [e2, e3, e4, e5, e6, e7, e8, e9, e10, e11, e12, e13, e14, e15, e16, e17, e18, e19, e20, e21, e22, e23, e24, e25, e26, e27, e28, e29, e30, e31, e32, e33]) := pm_lit2 (l := [e0, e1, e2, e3, e4, e5, e6, e7, e8, e9, e10, e11, e12, e13, e14, e15, e16, e17, e18, e19, e20, e21, e22, e23, e24, e25, e26, e27, e28, e29, e30, e31, e32, e33]) (l' := [e0, e1] ++ [e2, e3, e4, e5, e6, e7, e8, e9, e10, e11, e12, e13, e14, e15, e16, e17, e18, e19, e20, e21, e22, e23, e24, e25, e26, e27, e28, e29, e30, e31, e32, e33]) [0, 1, 2, 3, 4, 5, 6, 7, 8, 9, 10, 11, 12, 13, 14, 15, 16, 17, 18, 19, 20, 21, 22, 23, 24, 25, 26, 27, 28, 29, 30, 31, 32, 33] 34 rfl rfl (by decide +kernel)
theorem pmB_34_2 {e0 e1 e2 e3 e4 e5 e6 e7 e8 e9 e10 e11 e12 e13 e14 e15 e16 e17 e18 e19 e20 e21 e22 e23 e24 e25 e26 e27 e28 e29 e30 e31 e32 e33 : Nat × va_E} : ([e0, e1, e2, e3, e4, e5, e6, e7, e8, e9, e10, e11, e12, e13, e14, e15, e16, e17, e18, e19, e20, e21, e22, e23, e24, e25, e26, e27, e28, e29, e30, e31, e32, e33] : va_W).Perm ([e0, e7] ++ [e1, e2, e3, e4, e5, e6, e8, e9, e10, e11, e12, e13, e14, e15, e16, e17, e18, e19, e20, e21, e22, e23, e24, e25, e26, e27, e28, e29, e30, e31, e32, e33]) := pm_lit2 (l := [e0, e1, e2, e3, e4, e5, e6, e7, e8, e9, e10, e11, e12, e13, e14, e15, e16, e17, e18, e19, e20, e21, e22, e23, e24, e25, e26, e27, e28, e29, e30, e31, e32, e33]) (l' := [e0, e7] ++ [e1, e2, e3, e4, e5, e6, e8, e9, e10, e11, e12, e13, e14, e15, e16, e17, e18, e19, e20, e21, e22, e23, e24, e25, e26, e27, e28, e29, e30, e31, e32, e33]) [0, 7, 1, 2, 3, 4, 5, 6, 8, 9, 10, 11, 12, 13, 14, 15, 16, 17, 18, 19, 20, 21, 22, 23, 24, 25, 26, 27, 28, 29, 30, 31, 32, 33] 34 rfl rfl (by decide +kernel)
theorem pmB_34_3 {e0 e1 e2 e3 e4 e5 e6 e7 e8 e9 e10 e11 e12 e13 e14 e15 e16 e17 e18 e19 e20 e21 e22 e23 e24 e25 e26 e27 e28 e29 e30 e31 e32 e33 : Nat × va_E} : ([e0, e1, e2, e3, e4, e5, e6, e7, e8, e9, e10, e11, e12, e13, e14, e15, e16, e17, e18, e19, e20, e21, e22, e23, e24, e25, e26, e27, e28, e29, e30, e31, e32, e33] : va_W).Perm ([e0, e1, e2, e3, e7, e8] ++ [e4, e5, e6, e9, e10, e11, e12, e13, e14, e15, e16, e17, e18, e19, e20, e21, e22, e23, e24, e25, e26, e27, e28, e29, e30, e31, e32, e33]) := pm_lit2 (l := [e0, e1, e2, e3, e4, e5, e6, e7, e8, e9, e10, e11, e12, e13, e14, e15, e16, e17, e18, e19, e20, e21, e22, e23, e24, e25, e26, e27, e28, e29, e30, e31, e32, e33]) (l' := [e0, e1, e2, e3, e7, e8] ++ [e4, e5, e6, e9, e10, e11, e12, e13, e14, e15, e16, e17, e18, e19, e20, e21, e22, e23, e24, e25, e26, e27, e28, e29, e30, e31, e32, e33]) [0, 1, 2, 3, 7, 8, 4, 5, 6, 9, 10, 11, 12, 13, 14, 15, 16, 17, 18, 19, 20, 21, 22, 23, 24, 25, 26, 27, 28, 29, 30, 31, 32, 33] 34 rfl rfl (by decide +kernel)
theorem pmB_34_4 {e0 e1 e2 e3 e4 e5 e6 e7 e8 e9 e10 e11 e12 e13 e14 e15 e16 e17 e18 e19 e20 e21 e22 e23 e24 e25 e26 e27 e28 e29 e30 e31 e32 e33 : Nat × va_E} : ([e0, e1, e2, e3, e4, e5, e6, e7, e8, e9, e10, e11, e12, e13, e14, e15, e16, e17, e18, e19, e20, e21, e22, e23, e24, e25, e26, e27, e28, e29, e30, e31, e32, e33] : va_W).Perm ([e0, e1, e2, e3, e9] ++ [e4, e5, e6, e7, e8, e10, e11, e12, e13, e14, e15, e16, e17, e18, e19, e20, e21, e22, e23, e24, e25, e26, e27, e28, e29, e30, e31, e32, e33]) := pm_lit2 (l := [e0, e1, e2, e3, e4, e5, e6, e7, e8, e9, e10, e11, e12, e13, e14, e15, e16, e17, e18, e19, e20, e21, e22, e23, e24, e25, e26, e27, e28, e29, e30, e31, e32, e33]) (l' := [e0, e1, e2, e3, e9] ++ [e4, e5, e6, e7, e8, e10, e11, e12, e13, e14, e15, e16, e17, e18, e19, e20, e21, e22, e23, e24, e25, e26, e27, e28, e29, e30, e31, e32, e33]) [0, 1, 2, 3, 9, 4, 5, 6, 7, 8, 10, 11, 12, 13, 14, 15, 16, 17, 18, 19, 20, 21, 22, 23, 24, 25, 26, 27, 28, 29, 30, 31, 32, 33] 34 rfl rfl (by decide +kernel)
theorem pmB_34_5 {e0 e1 e2 e3 e4 e5 e6 e7 e8 e9 e10 e11 e12 e13 e14 e15 e16 e17 e18 e19 e20 e21 e22 e23 e24 e25 e26 e27 e28 e29 e30 e31 e32 e33 : Nat × va_E} : ([e0, e1, e2, e3, e4, e5, e6, e7, e8, e9, e10, e11, e12, e13, e14, e15, e16, e17, e18, e19, e20, e21, e22, e23, e24, e25, e26, e27, e28, e29, e30, e31, e32, e33] : va_W).Perm ([e0, e1, e2, e3, e9, e7] ++ [e4, e5, e6, e8, e10, e11, e12, e13, e14, e15, e16, e17, e18, e19, e20, e21, e22, e23, e24, e25, e26, e27, e28, e29, e30, e31, e32, e33]) := pm_lit2 (l := [e0, e1, e2, e3, e4, e5, e6, e7, e8, e9, e10, e11, e12, e13, e14, e15, e16, e17, e18, e19, e20, e21, e22, e23, e24, e25, e26, e27, e28, e29, e30, e31, e32, e33]) (l' := [e0, e1, e2, e3, e9, e7] ++ [e4, e5, e6, e8, e10, e11, e12, e13, e14, e15, e16, e17, e18, e19, e20, e21, e22, e23, e24, e25, e26, e27, e28, e29, e30, e31, e32, e33]) [0, 1, 2, 3, 9, 7, 4, 5, 6, 8, 10, 11, 12, 13, 14, 15, 16, 17, 18, 19, 20, 21, 22, 23, 24, 25, 26, 27, 28, 29, 30, 31, 32, 33] 34 rfl rfl (by decide +kernel)
set_option maxHeartbeats 4000000 in
theorem k_X7_cellOf (l : Launch) (T : jj_T) (hlS : l.stackTraces = false) {h7 : Nat} {ac ap : Nat} {ash : Bool} {an : Nat} {aob arq : Nat → Int32} {cn : Nat} {M : Nat → aS} {S : Nat → Option aS} {w : va_W} (x : Int32) (y : Int32) (z : Int32) (W0 : PW T h7 ((ac, ap, ash, an, aob, arq), cn, M, S) w) (O : okS ((ac, ap, ash, an, aob, arq), cn, M, S)) : jM l T yX7_cellOf wsX7_cellOf { frames := 2, cells := 0, slots := 0, locals := 47 } [.ref h7, .int x, .int y, .int z] w (fun v w1 => ∃ r : Int32, v = some (.int r) ∧ fs_is (fun c => decide (cvec (3 * c + 0) = x ∧ cvec (3 * c + 1) = y ∧ cvec (3 * c + 2) = z)) 150 r ∧ PW T h7 ((ac, ap, ash, an, aob, arq), cn, M, S) w1) := by
  refine PW.ex W0 fun hS a0 ao ar d0 d1 d2 h1 hst hsl h2 ga go gr h3 he hew hy hyw hc hcw h4 hs so sr hl hlw hdr hh hhw hv hq ha ol dc dp dn ck gp gn mk p t0 sc sp st ds gs ss bs bd ax ay az lim dob drq gob grq sob srq E Y Ch LW hd dr sf slf P Q hw hmI hqI hsk hhd => ?_
  obtain ⟨⟨oc, op, on, orq, oco, oob⟩, oM, oS⟩ := okS.of O
  refine jM.mono (jM.frame (c_X7_cellOf l T (h7 := h7) (hS := hS) (d0 := d0) (h1 := h1) (hsl := hsl) (h4 := h4) (h3 := h3) (h2 := h2) (a0 := a0) (hh := hh) (hv := hv) (hq := hq) (ha := ha) (x := x) (y := y) (z := z)) (pw_q hw pmB_34_0)) ?_
  rintro v _ ⟨_, ⟨r, rfl, rfl, hr⟩, rfl⟩
  exact ⟨_, ⟨_, rfl, hr, PW.mk (pw_qb pmB_34_0.symm) hmI hqI hsk hhd⟩, List.Perm.refl _⟩
set_option maxHeartbeats 4000000 in
theorem k_X7_clock (l : Launch) (T : jj_T) (hlS : l.stackTraces = false) {h7 : Nat} {ac ap : Nat} {ash : Bool} {an : Nat} {aob arq : Nat → Int32} {cn : Nat} {M : Nat → aS} {S : Nat → Option aS} {w : va_W}  (W0 : PW T h7 ((ac, ap, ash, an, aob, arq), cn, M, S) w) (O : okS ((ac, ap, ash, an, aob, arq), cn, M, S)) : jM l T yX7_clock wsX7_clock { frames := 0, cells := 0, slots := 0, locals := 0 } [.ref h7] w (fun v w1 => v = some (.int (nI ac)) ∧ PW T h7 ((ac, ap, ash, an, aob, arq), cn, M, S) w1) := by
  refine PW.ex W0 fun hS a0 ao ar d0 d1 d2 h1 hst hsl h2 ga go gr h3 he hew hy hyw hc hcw h4 hs so sr hl hlw hdr hh hhw hv hq ha ol dc dp dn ck gp gn mk p t0 sc sp st ds gs ss bs bd ax ay az lim dob drq gob grq sob srq E Y Ch LW hd dr sf slf P Q hw hmI hqI hsk hhd => ?_
  obtain ⟨⟨oc, op, on, orq, oco, oob⟩, oM, oS⟩ := okS.of O
  refine jM.mono (jM.frame (c_X7_clock l T (h7 := h7) (hS := hS) (d0 := d0) (h1 := h1) (hsl := hsl) (h4 := h4) (h3 := h3) (h2 := h2) (a0 := a0) (ao := ao) (ar := ar) (ac := ac) (ap := ap) (an := an) (ash := ash)) (pw_q hw pmB_34_1)) ?_
  rintro v _ ⟨_, ⟨rfl, rfl⟩, rfl⟩
  exact ⟨_, ⟨rfl, PW.mk (pw_qb pmB_34_1.symm) hmI hqI hsk hhd⟩, List.Perm.refl _⟩
set_option maxHeartbeats 4000000 in
theorem k_X7_position (l : Launch) (T : jj_T) (hlS : l.stackTraces = false) {h7 : Nat} {ac ap : Nat} {ash : Bool} {an : Nat} {aob arq : Nat → Int32} {cn : Nat} {M : Nat → aS} {S : Nat → Option aS} {w : va_W}  (W0 : PW T h7 ((ac, ap, ash, an, aob, arq), cn, M, S) w) (O : okS ((ac, ap, ash, an, aob, arq), cn, M, S)) : jM l T yX7_position wsX7_position { frames := 0, cells := 0, slots := 0, locals := 0 } [.ref h7] w (fun v w1 => v = some (.int (nI ap)) ∧ PW T h7 ((ac, ap, ash, an, aob, arq), cn, M, S) w1) := by
  refine PW.ex W0 fun hS a0 ao ar d0 d1 d2 h1 hst hsl h2 ga go gr h3 he hew hy hyw hc hcw h4 hs so sr hl hlw hdr hh hhw hv hq ha ol dc dp dn ck gp gn mk p t0 sc sp st ds gs ss bs bd ax ay az lim dob drq gob grq sob srq E Y Ch LW hd dr sf slf P Q hw hmI hqI hsk hhd => ?_
  obtain ⟨⟨oc, op, on, orq, oco, oob⟩, oM, oS⟩ := okS.of O
  refine jM.mono (jM.frame (c_X7_position l T (h7 := h7) (hS := hS) (d0 := d0) (h1 := h1) (hsl := hsl) (h4 := h4) (h3 := h3) (h2 := h2) (a0 := a0) (ao := ao) (ar := ar) (ac := ac) (ap := ap) (an := an) (ash := ash)) (pw_q hw pmB_34_1)) ?_
  rintro v _ ⟨_, ⟨rfl, rfl⟩, rfl⟩
  exact ⟨_, ⟨rfl, PW.mk (pw_qb pmB_34_1.symm) hmI hqI hsk hhd⟩, List.Perm.refl _⟩
set_option maxHeartbeats 4000000 in
theorem k_X7_isClosed (l : Launch) (T : jj_T) (hlS : l.stackTraces = false) {h7 : Nat} {ac ap : Nat} {ash : Bool} {an : Nat} {aob arq : Nat → Int32} {cn : Nat} {M : Nat → aS} {S : Nat → Option aS} {w : va_W}  (W0 : PW T h7 ((ac, ap, ash, an, aob, arq), cn, M, S) w) (O : okS ((ac, ap, ash, an, aob, arq), cn, M, S)) : jM l T yX7_isClosed wsX7_isClosed { frames := 0, cells := 0, slots := 0, locals := 0 } [.ref h7] w (fun v w1 => v = some (.int (bI ash)) ∧ PW T h7 ((ac, ap, ash, an, aob, arq), cn, M, S) w1) := by
  refine PW.ex W0 fun hS a0 ao ar d0 d1 d2 h1 hst hsl h2 ga go gr h3 he hew hy hyw hc hcw h4 hs so sr hl hlw hdr hh hhw hv hq ha ol dc dp dn ck gp gn mk p t0 sc sp st ds gs ss bs bd ax ay az lim dob drq gob grq sob srq E Y Ch LW hd dr sf slf P Q hw hmI hqI hsk hhd => ?_
  obtain ⟨⟨oc, op, on, orq, oco, oob⟩, oM, oS⟩ := okS.of O
  refine jM.mono (jM.frame (c_X7_isClosed l T (h7 := h7) (hS := hS) (d0 := d0) (h1 := h1) (hsl := hsl) (h4 := h4) (h3 := h3) (h2 := h2) (a0 := a0) (ao := ao) (ar := ar) (ac := ac) (ap := ap) (an := an) (ash := ash)) (pw_q hw pmB_34_1)) ?_
  rintro v _ ⟨_, ⟨rfl, rfl⟩, rfl⟩
  exact ⟨_, ⟨rfl, PW.mk (pw_qb pmB_34_1.symm) hmI hqI hsk hhd⟩, List.Perm.refl _⟩
set_option maxHeartbeats 4000000 in
theorem k_X7_requestCount (l : Launch) (T : jj_T) (hlS : l.stackTraces = false) {h7 : Nat} {ac ap : Nat} {ash : Bool} {an : Nat} {aob arq : Nat → Int32} {cn : Nat} {M : Nat → aS} {S : Nat → Option aS} {w : va_W}  (W0 : PW T h7 ((ac, ap, ash, an, aob, arq), cn, M, S) w) (O : okS ((ac, ap, ash, an, aob, arq), cn, M, S)) : jM l T yX7_requestCount wsX7_requestCount { frames := 0, cells := 0, slots := 0, locals := 0 } [.ref h7] w (fun v w1 => v = some (.int (nI an)) ∧ PW T h7 ((ac, ap, ash, an, aob, arq), cn, M, S) w1) := by
  refine PW.ex W0 fun hS a0 ao ar d0 d1 d2 h1 hst hsl h2 ga go gr h3 he hew hy hyw hc hcw h4 hs so sr hl hlw hdr hh hhw hv hq ha ol dc dp dn ck gp gn mk p t0 sc sp st ds gs ss bs bd ax ay az lim dob drq gob grq sob srq E Y Ch LW hd dr sf slf P Q hw hmI hqI hsk hhd => ?_
  obtain ⟨⟨oc, op, on, orq, oco, oob⟩, oM, oS⟩ := okS.of O
  refine jM.mono (jM.frame (c_X7_requestCount l T (h7 := h7) (hS := hS) (d0 := d0) (h1 := h1) (hsl := hsl) (h4 := h4) (h3 := h3) (h2 := h2) (a0 := a0) (ao := ao) (ar := ar) (ac := ac) (ap := ap) (an := an) (ash := ash)) (pw_q hw pmB_34_1)) ?_
  rintro v _ ⟨_, ⟨rfl, rfl⟩, rfl⟩
  exact ⟨_, ⟨rfl, PW.mk (pw_qb pmB_34_1.symm) hmI hqI hsk hhd⟩, List.Perm.refl _⟩
theorem oW_split {T : jj_T} (P : Nat → Option oR) {i n : Nat} (hi : i < n) {q9 : oR} (hq : P i = some q9) {w F L rest tl : va_W} (hw : w.Perm (F ++ (rgW T P n ++ tl))) (hl : F.Perm (L ++ rest)) : w.Perm ((L ++ oW T (some q9)) ++ (rest ++ (rgX T P i n ++ tl))) := by
  have h := pw_t (i := i) hw hl hi
  rw [hq] at h
  exact h
theorem oW_back {T : jj_T} (P : Nat → Option oR) {i n : Nat} (hi : i < n) {q9 : oR} (hq : P i = some q9) {F L rest tl : va_W} (hl : (L ++ rest).Perm F) : ((L ++ oW T (some q9)) ++ (rest ++ (rgX T P i n ++ tl))).Perm (F ++ (rgW T P n ++ tl)) := by
  have h := pw_tx (T := T) (P := P) (tl := tl) (i := i) hl hi
  rw [hq] at h
  exact h
/-- a slot's cells first -/
theorem oQ_split {T : jj_T} (Q : Nat → Option oR) {i n : Nat} (hi : i < n) {q9 : oR} (hq : Q i = some q9) {w F L rest tl : va_W} (hw : w.Perm (F ++ (tl ++ rgW T Q n))) (hl : F.Perm (L ++ rest)) : w.Perm ((L ++ oW T (some q9)) ++ (rest ++ (rgX T Q i n ++ tl))) := oW_split Q hi hq (hw.trans (List.Perm.append_left F List.perm_append_comm)) hl
theorem oQ_back {T : jj_T} (Q : Nat → Option oR) {i n : Nat} (hi : i < n) (q9 : oR) {F L rest tl : va_W} (hl : (L ++ rest).Perm F) : ((L ++ oW T (some q9)) ++ (rest ++ (rgX T Q i n ++ tl))).Perm (F ++ (tl ++ rgW T (va_up Q i (some q9)) n)) := (pw_tb (some q9) hl hi).trans (List.Perm.append_left F List.perm_append_comm)
theorem oQ_new {T : jj_T} (Q : Nat → Option oR) {i n : Nat} (hi : i < n) (hq : Q i = none) (q9 : oR) {F L rest tl : va_W} (hl : (L ++ rest).Perm F) : ((L ++ oW T (some q9)) ++ (rest ++ (tl ++ rgW T Q n))).Perm (F ++ (tl ++ rgW T (va_up Q i (some q9)) n)) := by
  refine List.Perm.trans ?_ (oQ_back Q hi q9 hl)
  refine List.Perm.append_left _ (List.Perm.append_left _ ?_)
  refine List.perm_append_comm.trans (List.Perm.append_right tl ?_)
  have h := rg_split T Q i n hi
  rw [hq] at h
  exact h
theorem oQ_same {T : jj_T} (Q : Nat → Option oR) {i n : Nat} (hi : i < n) {q9 : oR} (hq : Q i = some q9) {F L rest tl : va_W} (hl : (L ++ rest).Perm F) : ((L ++ oW T (some q9)) ++ (rest ++ (rgX T Q i n ++ tl))).Perm (F ++ (tl ++ rgW T Q n)) := (oW_back Q hi hq hl).trans (List.Perm.append_left F List.perm_append_comm)
theorem sl_put {slf : Nat → Option Nat} {Q : Nat → Option oR} {S : Nat → Option aS} (h : slI slf Q S) (i k0 ko kr : Nat) (a : aS) : slI (va_up slf i (some k0)) (va_up Q i (some (k0, ko, kr, a))) (va_up S i (some a)) := by
  intro j hj
  by_cases e : j = i
  · subst e; rw [va_up_self, va_up_self, va_up_self]; exact ⟨rfl, Or.inr ⟨a, k0, ko, kr, rfl, rfl⟩⟩
  · rw [va_up_ne _ _ e, va_up_ne _ _ e, va_up_ne _ _ e]; exact h j hj
theorem va_up_same {α : Type} {f : Nat → α} {k : Nat} {v : α} (h : f k = v) : va_up f k v = f := funext fun j => by
  by_cases e : j = k
  · rw [e, va_up_self, h]
  · rw [va_up_ne _ _ e]
set_option maxHeartbeats 4000000 in
theorem k_X7_undo (l : Launch) (T : jj_T) (hlS : l.stackTraces = false) {h7 : Nat} {ac ap : Nat} {ash : Bool} {an : Nat} {aob arq : Nat → Int32} {cn : Nat} {M : Nat → aS} {S : Nat → Option aS} {w : va_W}  (W0 : PW T h7 ((ac, ap, ash, an, aob, arq), cn, M, S) w) (O : okS ((ac, ap, ash, an, aob, arq), cn, M, S)) : jX l T yX7_undo wsX7_undo { frames := 6, cells := 1, slots := 6, locals := 102 } [.ref h7] w (fun v w1 => kf_undo ac ap ash an aob arq cn M S = 0 ∧ ∃ r : Int32, v = some (.int r) ∧ rs_undo ac ap ash an aob arq cn M S r ∧ PW T h7 (nx_undo ac ap ash an aob arq cn M S r) w1) (fun Ex w1 => ∃ i : Nat, [jE3][i]? = some Ex ∧ kf_undo ac ap ash an aob arq cn M S = i + 1 ∧ PW T h7 ((ac, ap, ash, an, aob, arq), cn, M, S) w1) := by
  refine PW.ex W0 fun hS a0 ao ar d0 d1 d2 h1 hst hsl h2 ga go gr h3 he hew hy hyw hc hcw h4 hs so sr hl hlw hdr hh hhw hv hq ha ol dc dp dn ck gp gn mk p t0 sc sp st ds gs ss bs bd ax ay az lim dob drq gob grq sob srq E Y Ch LW hd dr sf slf P Q hw hmI hqI hsk hhd => ?_
  obtain ⟨⟨oc, op, on, orq, oco, oob⟩, oM, oS⟩ := okS.of O
  cases cn with
  | zero =>
    refine jX.frame (c_X7_undo_0 l T (hlS := hlS) (h7 := h7) (hS := hS) (d0 := d0) (h1 := h1) (hsl := hsl) (h4 := h4) (h3 := h3) (h2 := h2) (a0 := a0) (hst := hst) (ol := ol)) (pw_q hw pmB_34_2) (fun v w1 h => h.elim) (fun Ex w1 h => ?_)
    obtain ⟨rfl, rfl, -⟩ := h
    exact ⟨0, rfl, if_pos rfl, PW.mk (pw_qb pmB_34_2.symm) hmI hqI hsk hhd⟩
  | succ cn =>
    obtain ⟨k0, ko, kr, z1⟩ := hmI.2.2.2 cn (Nat.lt_succ_self cn)
    obtain ⟨b1, b2, b3, b4, b5, b6, z2⟩ : ∃ b1 b2 b3 b4 b5 b6, M cn = (b1, b2, b3, b4, b5, b6) := ⟨_, _, _, _, _, _, rfl⟩
    rw [z2] at z1
    have z3 : (ol + cn) % 14 < 14 := Nat.mod_lt _ (by decide)
    have z4 : cn + 1 ≤ 14 := hmI.1
    refine jX.frame (c_X7_undo_s l T (hlS := hlS) (h7 := h7) (hS := hS) (d0 := d0) (h1 := h1) (hsl := hsl) (h4 := h4) (h3 := h3) (h2 := h2) (a0 := a0) (ao := ao) (ar := ar) (ac := ac) (ap := ap) (an := an) (ash := ash) (aob := aob) (arq := arq) (hst := hst) (cn := cn) (ol := ol) (sf := sf) (k0 := k0) (ko := ko) (kr := kr) (kc := b1) (kp := b2) (kt := b4) (ks := b3) (kob := b5) (krq := b6) (hcn := (by omega)) (hol := hmI.2.1) (hsf := ((hmI.2.2.1 _ z3).trans (by rw [z1]; rfl)))) (oW_split P z3 z1 hw pmB_34_3) (fun v w1 h => ?_) (fun Ex w1 h => h.2.2.elim)
    obtain ⟨rfl, rfl⟩ := h
    refine ⟨if_neg (Nat.succ_ne_zero cn), _, rfl, rfl, ?_⟩
    show PW T h7 (M cn, cn, M, S) _
    rw [z2]
    exact PW.mk (oW_back (L := [(h7, cO 7 [.ref hS, .ref a0, .ref d0, .ref h1, .ref hsl, .ref h4, .ref h3, .ref h2]), (a0, cO 6 [.int (nI b1), .int (nI b2), .int (bI b3), .int (nI b4), .ref ao, .ref ar]), (ao, cI T 21 b5), (ar, cI T 12 b6), (h1, cO 1 [.int (nI cn), .ref hst, .int (nI ol)]), (hst, cS T 14 sf)]) P z3 z1 pmB_34_3.symm) ⟨by omega, hmI.2.1, hmI.2.2.1, fun j hj => hmI.2.2.2 j (by omega)⟩ hqI hsk hhd
set_option maxHeartbeats 4000000 in
theorem k_X7_save (l : Launch) (T : jj_T) (hlS : l.stackTraces = false) {h7 : Nat} {ac ap : Nat} {ash : Bool} {an : Nat} {aob arq : Nat → Int32} {cn : Nat} {M : Nat → aS} {S : Nat → Option aS} {w : va_W} (x : Int32) (W0 : PW T h7 ((ac, ap, ash, an, aob, arq), cn, M, S) w) (O : okS ((ac, ap, ash, an, aob, arq), cn, M, S)) : jX l T yX7_save wsX7_save { frames := 7, cells := 5, slots := 50, locals := 102 } [.ref h7, .int x] w (fun v w1 => kf_save ac ap ash an aob arq cn M S x = 0 ∧ ∃ r : Int32, v = some (.int r) ∧ rs_save ac ap ash an aob arq cn M S x r ∧ PW T h7 (nx_save ac ap ash an aob arq cn M S x r) w1) (fun Ex w1 => ∃ i : Nat, [jE1][i]? = some Ex ∧ kf_save ac ap ash an aob arq cn M S x = i + 1 ∧ PW T h7 ((ac, ap, ash, an, aob, arq), cn, M, S) w1) := by
  refine PW.ex W0 fun hS a0 ao ar d0 d1 d2 h1 hst hsl h2 ga go gr h3 he hew hy hyw hc hcw h4 hs so sr hl hlw hdr hh hhw hv hq ha ol dc dp dn ck gp gn mk p t0 sc sp st ds gs ss bs bd ax ay az lim dob drq gob grq sob srq E Y Ch LW hd dr sf slf P Q hw hmI hqI hsk hhd => ?_
  obtain ⟨⟨oc, op, on, orq, oco, oob⟩, oM, oS⟩ := okS.of O
  by_cases zx : inR x 0 1 = false
  · refine jX.frame (c_X7_save_x l T (hlS := hlS) (h7 := h7) (hS := hS) (d0 := d0) (h1 := h1) (hsl := hsl) (h4 := h4) (h3 := h3) (h2 := h2) (a0 := a0) (ao := ao) (ar := ar) (ac := ac) (ap := ap) (an := an) (ash := ash) (aob := aob) (arq := arq) (slf := slf) (x := x) (hbad := zx)) (pw_q hw pmB_34_4) (fun v w1 h => h.elim) (fun Ex w1 h => ?_)
    obtain ⟨rfl, rfl, -⟩ := h
    exact ⟨0, rfl, if_pos zx, PW.mk (pw_qb pmB_34_4.symm) hmI hqI hsk hhd⟩
  · have z0 : inR x 0 1 = true := by cases z9 : inR x 0 1 with | true => rfl | false => exact absurd z9 zx
    obtain ⟨i, zi, z5⟩ := inR_N (b := 1) z0
    subst zi
    have z6 : xN (nI i) = i := xN_nI (by omega)
    have z7 : i < 2 := by omega
    rcases hqI i z7 with ⟨z8, ⟨z10, z11⟩ | ⟨⟨b1, b2, b3, b4, b5, b6⟩, k0, ko, kr, z10, z11⟩⟩
    · refine jX.frame (c_X7_save_n l T (hlS := hlS) (h7 := h7) (hS := hS) (d0 := d0) (h1 := h1) (hsl := hsl) (h4 := h4) (h3 := h3) (h2 := h2) (a0 := a0) (ao := ao) (ar := ar) (ac := ac) (ap := ap) (an := an) (ash := ash) (aob := aob) (arq := arq) (slf := slf) (i := i) (hi := z7) (hsf := (z8.trans (by rw [z11]; rfl)))) (pw_q hw pmB_34_4) (fun v w1 h => ?_) (fun Ex w1 h => h.elim)
      obtain ⟨k0, ko, kr, rfl, rfl⟩ := h
      refine ⟨if_neg zx, _, rfl, rfl, ?_⟩
      show PW T h7 ((ac, ap, ash, an, aob, arq), cn, M, va_up S (xN (nI i)) (some (ac, ap, ash, an, aob, arq))) _
      rw [z6]
      exact PW.mk (oQ_new (L := [(h7, cO 7 [.ref hS, .ref a0, .ref d0, .ref h1, .ref hsl, .ref h4, .ref h3, .ref h2]), (a0, cO 6 [.int (nI ac), .int (nI ap), .int (bI ash), .int (nI an), .ref ao, .ref ar]), (ao, cI T 21 aob), (ar, cI T 12 arq), (hsl, cS T 2 (va_up slf i (some k0)))]) Q z7 z11 (k0, ko, kr, ac, ap, ash, an, aob, arq) pmB_34_4.symm) hmI (sl_put hqI i k0 ko kr (ac, ap, ash, an, aob, arq)) hsk hhd
    · have z12 : slf i = some k0 := z8.trans (by rw [z11]; rfl)
      refine jX.frame (c_X7_save_s l T (hlS := hlS) (h7 := h7) (hS := hS) (d0 := d0) (h1 := h1) (hsl := hsl) (h4 := h4) (h3 := h3) (h2 := h2) (a0 := a0) (ao := ao) (ar := ar) (ac := ac) (ap := ap) (an := an) (ash := ash) (aob := aob) (arq := arq) (slf := slf) (i := i) (k0 := k0) (ko := ko) (kr := kr) (kc := b1) (kp := b2) (kt := b4) (ks := b3) (kob := b5) (krq := b6) (hi := z7) (hsf := z12)) (oQ_split Q z7 z11 hw pmB_34_4) (fun v w1 h => ?_) (fun Ex w1 h => h.elim)
      obtain ⟨rfl, rfl⟩ := h
      refine ⟨if_neg zx, _, rfl, rfl, ?_⟩
      show PW T h7 ((ac, ap, ash, an, aob, arq), cn, M, va_up S (xN (nI i)) (some (ac, ap, ash, an, aob, arq))) _
      rw [z6]
      have z13 := sl_put hqI i k0 ko kr (ac, ap, ash, an, aob, arq)
      rw [va_up_same z12] at z13
      exact PW.mk (oQ_back (L := [(h7, cO 7 [.ref hS, .ref a0, .ref d0, .ref h1, .ref hsl, .ref h4, .ref h3, .ref h2]), (a0, cO 6 [.int (nI ac), .int (nI ap), .int (bI ash), .int (nI an), .ref ao, .ref ar]), (ao, cI T 21 aob), (ar, cI T 12 arq), (hsl, cS T 2 slf)]) Q z7 (k0, ko, kr, ac, ap, ash, an, aob, arq) pmB_34_4.symm) hmI z13 hsk hhd
set_option maxHeartbeats 4000000 in
theorem k_X7_restore (l : Launch) (T : jj_T) (hlS : l.stackTraces = false) {h7 : Nat} {ac ap : Nat} {ash : Bool} {an : Nat} {aob arq : Nat → Int32} {cn : Nat} {M : Nat → aS} {S : Nat → Option aS} {w : va_W} (x : Int32) (W0 : PW T h7 ((ac, ap, ash, an, aob, arq), cn, M, S) w) (O : okS ((ac, ap, ash, an, aob, arq), cn, M, S)) : jX l T yX7_restore wsX7_restore { frames := 7, cells := 5, slots := 50, locals := 102 } [.ref h7, .int x] w (fun v w1 => kf_restore ac ap ash an aob arq cn M S x = 0 ∧ ∃ r : Int32, v = some (.int r) ∧ rs_restore ac ap ash an aob arq cn M S x r ∧ PW T h7 (nx_restore ac ap ash an aob arq cn M S x r) w1) (fun Ex w1 => ∃ i : Nat, [jE1, jE3][i]? = some Ex ∧ kf_restore ac ap ash an aob arq cn M S x = i + 1 ∧ PW T h7 ((ac, ap, ash, an, aob, arq), cn, M, S) w1) := by
  refine PW.ex W0 fun hS a0 ao ar d0 d1 d2 h1 hst hsl h2 ga go gr h3 he hew hy hyw hc hcw h4 hs so sr hl hlw hdr hh hhw hv hq ha ol dc dp dn ck gp gn mk p t0 sc sp st ds gs ss bs bd ax ay az lim dob drq gob grq sob srq E Y Ch LW hd dr sf slf P Q hw hmI hqI hsk hhd => ?_
  obtain ⟨⟨oc, op, on, orq, oco, oob⟩, oM, oS⟩ := okS.of O
  by_cases zx : inR x 0 1 = false
  · refine jX.frame (c_X7_restore_x l T (hlS := hlS) (h7 := h7) (hS := hS) (d0 := d0) (h1 := h1) (hsl := hsl) (h4 := h4) (h3 := h3) (h2 := h2) (a0 := a0) (ao := ao) (ar := ar) (ac := ac) (ap := ap) (an := an) (ash := ash) (aob := aob) (arq := arq) (slf := slf) (x := x) (hbad := zx)) (pw_q hw pmB_34_4) (fun v w1 h => h.elim) (fun Ex w1 h => ?_)
    obtain ⟨rfl, rfl, -⟩ := h
    exact ⟨0, rfl, if_pos zx, PW.mk (pw_qb pmB_34_4.symm) hmI hqI hsk hhd⟩
  · have z0 : inR x 0 1 = true := by cases z9 : inR x 0 1 with | true => rfl | false => exact absurd z9 zx
    obtain ⟨i, zi, z5⟩ := inR_N (b := 1) z0
    subst zi
    have z6 : xN (nI i) = i := xN_nI (by omega)
    have z7 : i < 2 := by omega
    rcases hqI i z7 with ⟨z8, ⟨z10, z11⟩ | ⟨⟨b1, b2, b3, b4, b5, b6⟩, k0, ko, kr, z10, z11⟩⟩
    · refine jX.frame (c_X7_restore_n l T (hlS := hlS) (h7 := h7) (hS := hS) (d0 := d0) (h1 := h1) (hsl := hsl) (h4 := h4) (h3 := h3) (h2 := h2) (a0 := a0) (ao := ao) (ar := ar) (ac := ac) (ap := ap) (an := an) (ash := ash) (aob := aob) (arq := arq) (slf := slf) (i := i) (hi := z7) (hsf := (z8.trans (by rw [z11]; rfl)))) (pw_q hw pmB_34_4) (fun v w1 h => h.elim) (fun Ex w1 h => ?_)
      obtain ⟨rfl, rfl⟩ := h
      exact ⟨1, rfl, by unfold kf_restore; rw [z6, if_neg zx, if_pos (by rw [z10]; rfl)], PW.mk (pw_qb pmB_34_4.symm) hmI hqI hsk hhd⟩
    · have z12 : slf i = some k0 := z8.trans (by rw [z11]; rfl)
      refine jX.frame (c_X7_restore_s l T (hlS := hlS) (h7 := h7) (hS := hS) (d0 := d0) (h1 := h1) (hsl := hsl) (h4 := h4) (h3 := h3) (h2 := h2) (a0 := a0) (ao := ao) (ar := ar) (ac := ac) (ap := ap) (an := an) (ash := ash) (aob := aob) (arq := arq) (slf := slf) (i := i) (hst := hst) (cn := cn) (ol := ol) (k0 := k0) (ko := ko) (kr := kr) (kc := b1) (kp := b2) (kt := b4) (ks := b3) (kob := b5) (krq := b6) (hi := z7) (hsf := z12)) (oQ_split Q z7 z11 hw pmB_34_5) (fun v w1 h => ?_) (fun Ex w1 h => h.elim)
      obtain ⟨rfl, rfl⟩ := h
      refine ⟨by unfold kf_restore; rw [z6, if_neg zx, if_neg (by rw [z10]; exact Bool.false_ne_true)], _, rfl, ⟨(b1, b2, b3, b4, b5, b6), by rw [z6]; exact z10, rfl⟩, ?_⟩
      show PW T h7 ((S (xN (nI i))).getD (ac, ap, ash, an, aob, arq), 0, M, S) _
      rw [z6, z10]
      show PW T h7 ((b1, b2, b3, b4, b5, b6), 0, M, S) _
      exact PW.mk (oQ_same (L := [(h7, cO 7 [.ref hS, .ref a0, .ref d0, .ref h1, .ref hsl, .ref h4, .ref h3, .ref h2]), (a0, cO 6 [.int (nI b1), .int (nI b2), .int (bI b3), .int (nI b4), .ref ao, .ref ar]), (ao, cI T 21 b5), (ar, cI T 12 b6), (hsl, cS T 2 slf), (h1, cO 1 [.int (nI 0), .ref hst, .int (nI 0)])]) Q z7 z11 pmB_34_5.symm) ⟨by omega, by omega, hmI.2.2.1, fun j hj => absurd hj (by omega)⟩ hqI hsk hhd
