/-! THE MODEL: what only answers -/
theorem bI_eq1 {b : Bool} (h : bI b = nI 1) : b = true := by
  cases b
  · exact absurd h (by decide +kernel)
  · rfl
theorem bI_ne1 {b : Bool} (h : ¬ bI b = nI 1) : b = false := by
  cases b
  · rfl
  · exact absurd (by decide +kernel : bI true = nI 1) h
set_option maxHeartbeats 4000000 in
set_option maxRecDepth 100000 in
/-- coordinate -/
theorem c_X8_coordinate (l : Launch) (T : jj_T) (h8 rv rn rnw rt rd rk rik rdk rre rle rhe rth rpa ror na nx : Nat) (rf bv bo : Int32) (x y : Int32) : jM l T yX8_coordinate wsX8_coordinate { frames := 2, cells := 0, slots := 0, locals := 45 } [.ref h8, .int x, .int y] [(h8, cO 8 [.int rf, .ref rv, .ref rn, .ref rnw, .ref rt, .ref rd, .int (nI na), .int (nI nx), .ref rk, .ref rik, .ref rdk, .ref rre, .ref rle, .ref rhe, .ref rth, .ref rpa, .ref ror, .int bv, .int bo]), (rv, cI T 450 cvec)] (fun v w1 => ∃ k8 : Nat, ∃ r : Int32, v = some (.int r) ∧ w1 = [(h8, cO 8 [.int (nI k8), .ref rv, .ref rn, .ref rnw, .ref rt, .ref rd, .int (nI na), .int (nI nx), .ref rk, .ref rik, .ref rdk, .ref rre, .ref rle, .ref rhe, .ref rth, .ref rpa, .ref ror, .int bv, .int bo]), (rv, cI T 450 cvec)] ∧ ((k8 = 1 ∧ inR x 0 149 = false) ∨ (k8 = 1 ∧ inR x 0 149 = true ∧ inR y 0 2 = false) ∨ (k8 = 0 ∧ ∃ c k : Nat, x = nI c ∧ y = nI k ∧ c < 150 ∧ k < 3 ∧ r = cvec (3 * c + k)))) := by
  refine jM.of (cc := cX8_coordinate) (maxL := 3) (ret := (some .int)) (by decide) rfl (Nat.le_of_ble_eq_true rfl) ?_
  intro X C rw_ hl hT hQ hnm
  subst hl; subst hT
  have hin8 : ∀ w ∈ u_ws RX8 TX8 19, w ∈ wsX8_coordinate := by decide +kernel
  have hl7 : Cond.fieldLink RX8 7 (TX8 1).1 (TX8 1).2.1 (TX8 1).2.2.1 ∈ wsX8_coordinate := by decide +kernel
  show jj X 0 0 0 [(0, .ref h8), (1, .int x), (2, .int y)] [] [(h8, cO 8 [.int rf, .ref rv, .ref rn, .ref rnw, .ref rt, .ref rd, .int (nI na), .int (nI nx), .ref rk, .ref rik, .ref rdk, .ref rre, .ref rle, .ref rhe, .ref rth, .ref rpa, .ref ror, .int bv, .int bo]), (rv, cI (xT X) 450 cvec)]
  refine j_aload_n C dX8_coordinate_0 0 rfl rfl ?_
  refine j_iload_n C dX8_coordinate_1 1 rfl rfl ?_
  refine j_callSR C (nA := 1) (As := [.int x]) (c_X8_isCell (xl X) (xT X) x ) gX8_coordinate_X8_isCell rfl (by decide +kernel) rfl ⟨rfl, rfl⟩ (by decide) (by decide) [] rfl rfl (rest := [.ref h8]) rfl (Nat.le_of_ble_eq_true rfl) dX8_coordinate_2 ?_
  rintro _ rfl
  show jj X 0 0 5 [(0, .ref h8), (1, .int x), (2, .int y)] [.int (bI (inR x 0 149)), .ref h8] [(h8, cO 8 [.int rf, .ref rv, .ref rn, .ref rnw, .ref rt, .ref rd, .int (nI na), .int (nI nx), .ref rk, .ref rik, .ref rdk, .ref rre, .ref rle, .ref rhe, .ref rth, .ref rpa, .ref ror, .int bv, .int bo]), (rv, cI (xT X) 450 cvec)]
  refine j_if_eq C dX8_coordinate_5 (tgt := 19) (by decide) (fun q5 => ?_) (fun q5 => ?_)
  · skip
    have q5 := (kb_eq).mp q5
    refine j_iconst C dX8_coordinate_19 (v := (nI 1)) kc_i_1 ?_
    refine j_callVM C rw_ (nA := 1) (As := [.int (nI 1)]) (wr := [(rv, cI (xT X) 450 cvec)]) (c_X8_refused_s (xl X) (xT X) h8 rv rn rnw rt rd rk rik rdk rre rle rhe rth rpa ror na nx rf bv bo 1 (by omega) (by omega)) gX8_coordinate_X8_refused rfl (by decide +kernel) rfl (by decide) (by decide) [0] [1] rfl rfl rfl rfl (by decide) 0 rfl rfl (rest := []) rfl (Nat.le_of_ble_eq_true rfl) dX8_coordinate_20 ?_
    rintro _ _ ⟨rfl, rfl⟩
    show jj X 0 0 23 [(0, .ref h8), (1, .int x), (2, .int y)] [.int (bI true)] [(rv, cI (xT X) 450 cvec), (h8, cO 8 [.int (nI 1), .ref rv, .ref rn, .ref rnw, .ref rt, .ref rd, .int (nI na), .int (nI nx), .ref rk, .ref rik, .ref rdk, .ref rre, .ref rle, .ref rhe, .ref rth, .ref rpa, .ref ror, .int bv, .int bo])]
    refine j_if_eq C dX8_coordinate_23 (tgt := 28) (by decide) (fun h9 => absurd h9 (by decide +kernel)) (fun _ => ?_)
    refine j_iconst C dX8_coordinate_26 (v := (nI 0)) kc_i_0 ?_
    refine j_perm C (w' := [(h8, cO 8 [.int (nI 1), .ref rv, .ref rn, .ref rnw, .ref rt, .ref rd, .int (nI na), .int (nI nx), .ref rk, .ref rik, .ref rdk, .ref rre, .ref rle, .ref rhe, .ref rth, .ref rpa, .ref ror, .int bv, .int bo]), (rv, cI (xT X) 450 cvec)]) [1, 0] rfl rfl ?_
    refine j_iretM C rw_ hQ (by decide) (by decide) rfl ?_ dX8_coordinate_27
    exact ⟨1, _, rfl, rfl, Or.inl ⟨rfl, q5⟩⟩
  · skip
    have q5 := (kb_neq).mp q5
    refine j_iload_n C dX8_coordinate_8 2 rfl rfl ?_
    refine j_callSR C (nA := 1) (As := [.int y]) (c_X8_isThird (xl X) (xT X) y ) gX8_coordinate_X8_isThird rfl (by decide +kernel) rfl ⟨rfl, rfl⟩ (by decide) (by decide) [] rfl rfl (rest := [.ref h8]) rfl (Nat.le_of_ble_eq_true rfl) dX8_coordinate_9 ?_
    rintro _ rfl
    show jj X 0 0 12 [(0, .ref h8), (1, .int x), (2, .int y)] [.int (bI (inR y 0 2)), .ref h8] [(h8, cO 8 [.int rf, .ref rv, .ref rn, .ref rnw, .ref rt, .ref rd, .int (nI na), .int (nI nx), .ref rk, .ref rik, .ref rdk, .ref rre, .ref rle, .ref rhe, .ref rth, .ref rpa, .ref ror, .int bv, .int bo]), (rv, cI (xT X) 450 cvec)]
    refine j_if_eq C dX8_coordinate_12 (tgt := 19) (by decide) (fun q12 => ?_) (fun q12 => ?_)
    · skip
      have q12 := (kb_eq).mp q12
      refine j_iconst C dX8_coordinate_19 (v := (nI 1)) kc_i_1 ?_
      refine j_callVM C rw_ (nA := 1) (As := [.int (nI 1)]) (wr := [(rv, cI (xT X) 450 cvec)]) (c_X8_refused_s (xl X) (xT X) h8 rv rn rnw rt rd rk rik rdk rre rle rhe rth rpa ror na nx rf bv bo 1 (by omega) (by omega)) gX8_coordinate_X8_refused rfl (by decide +kernel) rfl (by decide) (by decide) [0] [1] rfl rfl rfl rfl (by decide) 0 rfl rfl (rest := []) rfl (Nat.le_of_ble_eq_true rfl) dX8_coordinate_20 ?_
      rintro _ _ ⟨rfl, rfl⟩
      show jj X 0 0 23 [(0, .ref h8), (1, .int x), (2, .int y)] [.int (bI true)] [(rv, cI (xT X) 450 cvec), (h8, cO 8 [.int (nI 1), .ref rv, .ref rn, .ref rnw, .ref rt, .ref rd, .int (nI na), .int (nI nx), .ref rk, .ref rik, .ref rdk, .ref rre, .ref rle, .ref rhe, .ref rth, .ref rpa, .ref ror, .int bv, .int bo])]
      refine j_if_eq C dX8_coordinate_23 (tgt := 28) (by decide) (fun h9 => absurd h9 (by decide +kernel)) (fun _ => ?_)
      refine j_iconst C dX8_coordinate_26 (v := (nI 0)) kc_i_0 ?_
      refine j_perm C (w' := [(h8, cO 8 [.int (nI 1), .ref rv, .ref rn, .ref rnw, .ref rt, .ref rd, .int (nI na), .int (nI nx), .ref rk, .ref rik, .ref rdk, .ref rre, .ref rle, .ref rhe, .ref rth, .ref rpa, .ref ror, .int bv, .int bo]), (rv, cI (xT X) 450 cvec)]) [1, 0] rfl rfl ?_
      refine j_iretM C rw_ hQ (by decide) (by decide) rfl ?_ dX8_coordinate_27
      exact ⟨1, _, rfl, rfl, Or.inr (Or.inl ⟨rfl, q5, q12⟩)⟩
    · skip
      have q12 := (kb_neq).mp q12
      refine j_iconst C dX8_coordinate_15 (v := (nI 0)) kc_i_0 ?_
      refine j_goto C dX8_coordinate_16 (tgt := 20) (by decide) ?_
      refine j_callVM C rw_ (nA := 1) (As := [.int (nI 0)]) (wr := [(rv, cI (xT X) 450 cvec)]) (c_X8_refused_0 (xl X) (xT X) h8 rv rn rnw rt rd rk rik rdk rre rle rhe rth rpa ror na nx rf bv bo ) gX8_coordinate_X8_refused rfl (by decide +kernel) rfl (by decide) (by decide) [0] [1] rfl rfl rfl rfl (by decide) 0 rfl rfl (rest := []) rfl (Nat.le_of_ble_eq_true rfl) dX8_coordinate_20 ?_
      rintro _ _ ⟨rfl, rfl⟩
      show jj X 0 0 23 [(0, .ref h8), (1, .int x), (2, .int y)] [.int (bI false)] [(rv, cI (xT X) 450 cvec), (h8, cO 8 [.int (nI 0), .ref rv, .ref rn, .ref rnw, .ref rt, .ref rd, .int (nI na), .int (nI nx), .ref rk, .ref rik, .ref rdk, .ref rre, .ref rle, .ref rhe, .ref rth, .ref rpa, .ref ror, .int bv, .int bo])]
      refine j_if_eq C dX8_coordinate_23 (tgt := 28) (by decide) (fun _ => ?_) (fun h9 => absurd h9 (by decide +kernel))
      obtain ⟨c, rfl, hb_c⟩ := inR_N (b := 149) q5
      obtain ⟨k, rfl, hb_k⟩ := inR_N (b := 2) q12
      refine j_aload_n C dX8_coordinate_28 0 rfl rfl ?_
      refine j_get C (hin8) (ci := 8) rfl 1 (by decide) (hl7) 1 rfl (v := .ref rv) rfl dX8_coordinate_29 ?_
      refine j_iconst C dX8_coordinate_32 (v := (nI 3)) kc_i_3 ?_
      refine j_iload_n C dX8_coordinate_33 1 rfl rfl ?_
      refine j_imul C dX8_coordinate_34 (v := (nI (3 * c))) (pk_mul _ _) ?_
      refine j_iload_n C dX8_coordinate_35 2 rfl rfl ?_
      refine j_iadd C dX8_coordinate_36 (v := (nI (3 * c + k))) (nI_add _ _) ?_
      refine j_ialoadN C (3 * c + k) rfl 0 rfl (by omega) (by decide) dX8_coordinate_37 ?_
      refine j_perm C (w' := [(h8, cO 8 [.int (nI 0), .ref rv, .ref rn, .ref rnw, .ref rt, .ref rd, .int (nI na), .int (nI nx), .ref rk, .ref rik, .ref rdk, .ref rre, .ref rle, .ref rhe, .ref rth, .ref rpa, .ref ror, .int bv, .int bo]), (rv, cI (xT X) 450 cvec)]) [1, 0] rfl rfl ?_
      refine j_iretM C rw_ hQ (by decide) (by decide) rfl ?_ dX8_coordinate_38
      exact ⟨0, _, rfl, rfl, Or.inr (Or.inr (⟨rfl, c, k, rfl, rfl, by omega, by omega, rfl⟩))⟩

set_option maxHeartbeats 4000000 in
set_option maxRecDepth 100000 in
/-- neighbour -/
theorem c_X8_neighbour (l : Launch) (T : jj_T) (h8 rv rn rnw rt rd rk rik rdk rre rle rhe rth rpa ror na nx : Nat) (rf bv bo : Int32) (x y : Int32) : jM l T yX8_neighbour wsX8_neighbour { frames := 2, cells := 0, slots := 0, locals := 45 } [.ref h8, .int x, .int y] [(h8, cO 8 [.int rf, .ref rv, .ref rn, .ref rnw, .ref rt, .ref rd, .int (nI na), .int (nI nx), .ref rk, .ref rik, .ref rdk, .ref rre, .ref rle, .ref rhe, .ref rth, .ref rpa, .ref ror, .int bv, .int bo]), (rn, cI T 600 (fun j => nI (near4 j)))] (fun v w1 => ∃ k8 : Nat, ∃ r : Int32, v = some (.int r) ∧ w1 = [(h8, cO 8 [.int (nI k8), .ref rv, .ref rn, .ref rnw, .ref rt, .ref rd, .int (nI na), .int (nI nx), .ref rk, .ref rik, .ref rdk, .ref rre, .ref rle, .ref rhe, .ref rth, .ref rpa, .ref ror, .int bv, .int bo]), (rn, cI T 600 (fun j => nI (near4 j)))] ∧ ((k8 = 1 ∧ inR x 0 149 = false) ∨ (k8 = 2 ∧ inR x 0 149 = true ∧ inR y 0 3 = false) ∨ (k8 = 0 ∧ ∃ c k : Nat, x = nI c ∧ y = nI k ∧ c < 150 ∧ k < 4 ∧ r = nI (near4 (4 * c + k))))) := by
  refine jM.of (cc := cX8_neighbour) (maxL := 3) (ret := (some .int)) (by decide) rfl (Nat.le_of_ble_eq_true rfl) ?_
  intro X C rw_ hl hT hQ hnm
  subst hl; subst hT
  have hin8 : ∀ w ∈ u_ws RX8 TX8 19, w ∈ wsX8_neighbour := by decide +kernel
  have hl13 : Cond.fieldLink RX8 13 (TX8 2).1 (TX8 2).2.1 (TX8 2).2.2.1 ∈ wsX8_neighbour := by decide +kernel
  show jj X 0 0 0 [(0, .ref h8), (1, .int x), (2, .int y)] [] [(h8, cO 8 [.int rf, .ref rv, .ref rn, .ref rnw, .ref rt, .ref rd, .int (nI na), .int (nI nx), .ref rk, .ref rik, .ref rdk, .ref rre, .ref rle, .ref rhe, .ref rth, .ref rpa, .ref ror, .int bv, .int bo]), (rn, cI (xT X) 600 (fun j => nI (near4 j)))]
  refine j_aload_n C dX8_neighbour_0 0 rfl rfl ?_
  refine j_iload_n C dX8_neighbour_1 1 rfl rfl ?_
  refine j_callSR C (nA := 1) (As := [.int x]) (c_X8_isCell (xl X) (xT X) x ) gX8_neighbour_X8_isCell rfl (by decide +kernel) rfl ⟨rfl, rfl⟩ (by decide) (by decide) [] rfl rfl (rest := [.ref h8]) rfl (Nat.le_of_ble_eq_true rfl) dX8_neighbour_2 ?_
  rintro _ rfl
  show jj X 0 0 5 [(0, .ref h8), (1, .int x), (2, .int y)] [.int (bI (inR x 0 149)), .ref h8] [(h8, cO 8 [.int rf, .ref rv, .ref rn, .ref rnw, .ref rt, .ref rd, .int (nI na), .int (nI nx), .ref rk, .ref rik, .ref rdk, .ref rre, .ref rle, .ref rhe, .ref rth, .ref rpa, .ref ror, .int bv, .int bo]), (rn, cI (xT X) 600 (fun j => nI (near4 j)))]
  refine j_if_ne C dX8_neighbour_5 (tgt := 12) (by decide) (fun q5 => ?_) (fun q5 => ?_)
  · skip
    have q5 := (kb_ne).mp q5
    refine j_iload_n C dX8_neighbour_12 2 rfl rfl ?_
    refine j_i2l C dX8_neighbour_13 (v := y.toInt64) rfl ?_
    refine j_lconst C dX8_neighbour_14 (v := lN 0) rfl ?_
    refine j_ldc2l C dX8_neighbour_15 (v := lN 3) (by decide +kernel) ?_
    refine j_callSR C (nA := 3) (As := [.long y.toInt64, .long (lN 0), .long (lN 3)]) (c_X8_in (xl X) (xT X) y (lN 0) (lN 3) (0) (3) (by decide +kernel) (by decide +kernel)) gX8_neighbour_X8_in rfl (by decide +kernel) rfl ⟨rfl, rfl⟩ (by decide) (by decide) [] rfl rfl (rest := [.ref h8]) rfl (Nat.le_of_ble_eq_true rfl) dX8_neighbour_18 ?_
    rintro _ rfl
    show jj X 0 0 21 [(0, .ref h8), (1, .int x), (2, .int y)] [.int (bI (inR y (0) (3))), .ref h8] [(h8, cO 8 [.int rf, .ref rv, .ref rn, .ref rnw, .ref rt, .ref rd, .int (nI na), .int (nI nx), .ref rk, .ref rik, .ref rdk, .ref rre, .ref rle, .ref rhe, .ref rth, .ref rpa, .ref ror, .int bv, .int bo]), (rn, cI (xT X) 600 (fun j => nI (near4 j)))]
    refine j_if_ne C dX8_neighbour_21 (tgt := 28) (by decide) (fun q21 => ?_) (fun q21 => ?_)
    · skip
      have q21 := (kb_ne).mp q21
      refine j_iconst C dX8_neighbour_28 (v := (nI 0)) kc_i_0 ?_
      refine j_callVM C rw_ (nA := 1) (As := [.int (nI 0)]) (wr := [(rn, cI (xT X) 600 (fun j => nI (near4 j)))]) (c_X8_refused_0 (xl X) (xT X) h8 rv rn rnw rt rd rk rik rdk rre rle rhe rth rpa ror na nx rf bv bo ) gX8_neighbour_X8_refused rfl (by decide +kernel) rfl (by decide) (by decide) [0] [1] rfl rfl rfl rfl (by decide) 0 rfl rfl (rest := []) rfl (Nat.le_of_ble_eq_true rfl) dX8_neighbour_29 ?_
      rintro _ _ ⟨rfl, rfl⟩
      show jj X 0 0 32 [(0, .ref h8), (1, .int x), (2, .int y)] [.int (bI false)] [(rn, cI (xT X) 600 (fun j => nI (near4 j))), (h8, cO 8 [.int (nI 0), .ref rv, .ref rn, .ref rnw, .ref rt, .ref rd, .int (nI na), .int (nI nx), .ref rk, .ref rik, .ref rdk, .ref rre, .ref rle, .ref rhe, .ref rth, .ref rpa, .ref ror, .int bv, .int bo])]
      refine j_if_eq C dX8_neighbour_32 (tgt := 37) (by decide) (fun _ => ?_) (fun h9 => absurd h9 (by decide +kernel))
      obtain ⟨c, rfl, hb_c⟩ := inR_N (b := 149) q5
      obtain ⟨k, rfl, hb_k⟩ := inR_N (b := 3) q21
      refine j_aload_n C dX8_neighbour_37 0 rfl rfl ?_
      refine j_get C (hin8) (ci := 8) rfl 2 (by decide) (hl13) 1 rfl (v := .ref rn) rfl dX8_neighbour_38 ?_
      refine j_iconst C dX8_neighbour_41 (v := (nI 4)) kc_i_4 ?_
      refine j_iload_n C dX8_neighbour_42 1 rfl rfl ?_
      refine j_imul C dX8_neighbour_43 (v := (nI (4 * c))) (pk_mul _ _) ?_
      refine j_iload_n C dX8_neighbour_44 2 rfl rfl ?_
      refine j_iadd C dX8_neighbour_45 (v := (nI (4 * c + k))) (nI_add _ _) ?_
      refine j_ialoadN C (4 * c + k) rfl 0 rfl (by omega) (by decide) dX8_neighbour_46 ?_
      refine j_perm C (w' := [(h8, cO 8 [.int (nI 0), .ref rv, .ref rn, .ref rnw, .ref rt, .ref rd, .int (nI na), .int (nI nx), .ref rk, .ref rik, .ref rdk, .ref rre, .ref rle, .ref rhe, .ref rth, .ref rpa, .ref ror, .int bv, .int bo]), (rn, cI (xT X) 600 (fun j => nI (near4 j)))]) [1, 0] rfl rfl ?_
      refine j_iretM C rw_ hQ (by decide) (by decide) rfl ?_ dX8_neighbour_47
      exact ⟨0, _, rfl, rfl, Or.inr (Or.inr (⟨rfl, c, k, rfl, rfl, by omega, by omega, rfl⟩))⟩
    · skip
      have q21 := (kb_nne).mp q21
      refine j_iconst C dX8_neighbour_24 (v := (nI 2)) kc_i_2 ?_
      refine j_goto C dX8_neighbour_25 (tgt := 29) (by decide) ?_
      refine j_callVM C rw_ (nA := 1) (As := [.int (nI 2)]) (wr := [(rn, cI (xT X) 600 (fun j => nI (near4 j)))]) (c_X8_refused_s (xl X) (xT X) h8 rv rn rnw rt rd rk rik rdk rre rle rhe rth rpa ror na nx rf bv bo 2 (by omega) (by omega)) gX8_neighbour_X8_refused rfl (by decide +kernel) rfl (by decide) (by decide) [0] [1] rfl rfl rfl rfl (by decide) 0 rfl rfl (rest := []) rfl (Nat.le_of_ble_eq_true rfl) dX8_neighbour_29 ?_
      rintro _ _ ⟨rfl, rfl⟩
      show jj X 0 0 32 [(0, .ref h8), (1, .int x), (2, .int y)] [.int (bI true)] [(rn, cI (xT X) 600 (fun j => nI (near4 j))), (h8, cO 8 [.int (nI 2), .ref rv, .ref rn, .ref rnw, .ref rt, .ref rd, .int (nI na), .int (nI nx), .ref rk, .ref rik, .ref rdk, .ref rre, .ref rle, .ref rhe, .ref rth, .ref rpa, .ref ror, .int bv, .int bo])]
      refine j_if_eq C dX8_neighbour_32 (tgt := 37) (by decide) (fun h9 => absurd h9 (by decide +kernel)) (fun _ => ?_)
      refine j_iconst C dX8_neighbour_35 (v := (nI 0)) kc_i_0 ?_
      refine j_perm C (w' := [(h8, cO 8 [.int (nI 2), .ref rv, .ref rn, .ref rnw, .ref rt, .ref rd, .int (nI na), .int (nI nx), .ref rk, .ref rik, .ref rdk, .ref rre, .ref rle, .ref rhe, .ref rth, .ref rpa, .ref ror, .int bv, .int bo]), (rn, cI (xT X) 600 (fun j => nI (near4 j)))]) [1, 0] rfl rfl ?_
      refine j_iretM C rw_ hQ (by decide) (by decide) rfl ?_ dX8_neighbour_36
      exact ⟨2, _, rfl, rfl, Or.inr (Or.inl ⟨rfl, q5, q21⟩)⟩
  · skip
    have q5 := (kb_nne).mp q5
    refine j_iconst C dX8_neighbour_8 (v := (nI 1)) kc_i_1 ?_
    refine j_goto C dX8_neighbour_9 (tgt := 29) (by decide) ?_
    refine j_callVM C rw_ (nA := 1) (As := [.int (nI 1)]) (wr := [(rn, cI (xT X) 600 (fun j => nI (near4 j)))]) (c_X8_refused_s (xl X) (xT X) h8 rv rn rnw rt rd rk rik rdk rre rle rhe rth rpa ror na nx rf bv bo 1 (by omega) (by omega)) gX8_neighbour_X8_refused rfl (by decide +kernel) rfl (by decide) (by decide) [0] [1] rfl rfl rfl rfl (by decide) 0 rfl rfl (rest := []) rfl (Nat.le_of_ble_eq_true rfl) dX8_neighbour_29 ?_
    rintro _ _ ⟨rfl, rfl⟩
    show jj X 0 0 32 [(0, .ref h8), (1, .int x), (2, .int y)] [.int (bI true)] [(rn, cI (xT X) 600 (fun j => nI (near4 j))), (h8, cO 8 [.int (nI 1), .ref rv, .ref rn, .ref rnw, .ref rt, .ref rd, .int (nI na), .int (nI nx), .ref rk, .ref rik, .ref rdk, .ref rre, .ref rle, .ref rhe, .ref rth, .ref rpa, .ref ror, .int bv, .int bo])]
    refine j_if_eq C dX8_neighbour_32 (tgt := 37) (by decide) (fun h9 => absurd h9 (by decide +kernel)) (fun _ => ?_)
    refine j_iconst C dX8_neighbour_35 (v := (nI 0)) kc_i_0 ?_
    refine j_perm C (w' := [(h8, cO 8 [.int (nI 1), .ref rv, .ref rn, .ref rnw, .ref rt, .ref rd, .int (nI na), .int (nI nx), .ref rk, .ref rik, .ref rdk, .ref rre, .ref rle, .ref rhe, .ref rth, .ref rpa, .ref ror, .int bv, .int bo]), (rn, cI (xT X) 600 (fun j => nI (near4 j)))]) [1, 0] rfl rfl ?_
    refine j_iretM C rw_ hQ (by decide) (by decide) rfl ?_ dX8_neighbour_36
    exact ⟨1, _, rfl, rfl, Or.inl ⟨rfl, q5⟩⟩

set_option maxHeartbeats 4000000 in
set_option maxRecDepth 100000 in
/-- direction -/
theorem c_X8_direction (l : Launch) (T : jj_T) (h8 rv rn rnw rt rd rk rik rdk rre rle rhe rth rpa ror na nx : Nat) (rf bv bo : Int32) (ac ap an : Nat) (ash : Bool) (aob arq : Nat → Int32) (x y z : Int32) : jM l T yX8_direction wsX8_direction { frames := 2, cells := 0, slots := 0, locals := 45 } [.ref h8, .int x, .int y, .int z] [(h8, cO 8 [.int rf, .ref rv, .ref rn, .ref rnw, .ref rt, .ref rd, .int (nI na), .int (nI nx), .ref rk, .ref rik, .ref rdk, .ref rre, .ref rle, .ref rhe, .ref rth, .ref rpa, .ref ror, .int bv, .int bo]), (rnw, cI T 37 (rowF ac ap ash an aob arq))] (fun v w1 => ∃ k8 : Nat, ∃ r : Int32, v = some (.int r) ∧ w1 = [(h8, cO 8 [.int (nI k8), .ref rv, .ref rn, .ref rnw, .ref rt, .ref rd, .int (nI na), .int (nI nx), .ref rk, .ref rik, .ref rdk, .ref rre, .ref rle, .ref rhe, .ref rth, .ref rpa, .ref ror, .int bv, .int bo]), (rnw, cI T 37 (rowF ac ap ash an aob arq))] ∧ ((k8 = 1 ∧ inR x 0 2 = false) ∨ (k8 = 1 ∧ inR x 0 2 = true ∧ inR y 0 2 = false) ∨ (k8 = 2 ∧ inR x 0 2 = true ∧ inR y 0 2 = true ∧ inR z 0 300 = false) ∨ (k8 = 0 ∧ ∃ o k tm : Nat, x = nI o ∧ y = nI k ∧ z = nI tm ∧ o < 3 ∧ k < 3 ∧ tm ≤ 300 ∧ r = st_aim aob o k tm))) := by
  refine jM.of (cc := cX8_direction) (maxL := 4) (ret := (some .int)) (by decide) rfl (Nat.le_of_ble_eq_true rfl) ?_
  intro X C rw_ hl hT hQ hnm
  subst hl; subst hT
  have hin8 : ∀ w ∈ u_ws RX8 TX8 19, w ∈ wsX8_direction := by decide +kernel
  have hl16 : Cond.fieldLink RX8 16 (TX8 3).1 (TX8 3).2.1 (TX8 3).2.2.1 ∈ wsX8_direction := by decide +kernel
  show jj X 0 0 0 [(0, .ref h8), (1, .int x), (2, .int y), (3, .int z)] [] [(h8, cO 8 [.int rf, .ref rv, .ref rn, .ref rnw, .ref rt, .ref rd, .int (nI na), .int (nI nx), .ref rk, .ref rik, .ref rdk, .ref rre, .ref rle, .ref rhe, .ref rth, .ref rpa, .ref ror, .int bv, .int bo]), (rnw, cI (xT X) 37 (rowF ac ap ash an aob arq))]
  refine j_aload_n C dX8_direction_0 0 rfl rfl ?_
  refine j_iload_n C dX8_direction_1 1 rfl rfl ?_
  refine j_callSR C (nA := 1) (As := [.int x]) (c_X8_isThird (xl X) (xT X) x ) gX8_direction_X8_isThird rfl (by decide +kernel) rfl ⟨rfl, rfl⟩ (by decide) (by decide) [] rfl rfl (rest := [.ref h8]) rfl (Nat.le_of_ble_eq_true rfl) dX8_direction_2 ?_
  rintro _ rfl
  show jj X 0 0 5 [(0, .ref h8), (1, .int x), (2, .int y), (3, .int z)] [.int (bI (inR x 0 2)), .ref h8] [(h8, cO 8 [.int rf, .ref rv, .ref rn, .ref rnw, .ref rt, .ref rd, .int (nI na), .int (nI nx), .ref rk, .ref rik, .ref rdk, .ref rre, .ref rle, .ref rhe, .ref rth, .ref rpa, .ref ror, .int bv, .int bo]), (rnw, cI (xT X) 37 (rowF ac ap ash an aob arq))]
  refine j_if_eq C dX8_direction_5 (tgt := 15) (by decide) (fun q5 => ?_) (fun q5 => ?_)
  · skip
    have q5 := (kb_eq).mp q5
    refine j_iconst C dX8_direction_15 (v := (nI 1)) kc_i_1 ?_
    refine j_goto C dX8_direction_16 (tgt := 31) (by decide) ?_
    refine j_callVM C rw_ (nA := 1) (As := [.int (nI 1)]) (wr := [(rnw, cI (xT X) 37 (rowF ac ap ash an aob arq))]) (c_X8_refused_s (xl X) (xT X) h8 rv rn rnw rt rd rk rik rdk rre rle rhe rth rpa ror na nx rf bv bo 1 (by omega) (by omega)) gX8_direction_X8_refused rfl (by decide +kernel) rfl (by decide) (by decide) [0] [1] rfl rfl rfl rfl (by decide) 0 rfl rfl (rest := []) rfl (Nat.le_of_ble_eq_true rfl) dX8_direction_31 ?_
    rintro _ _ ⟨rfl, rfl⟩
    show jj X 0 0 34 [(0, .ref h8), (1, .int x), (2, .int y), (3, .int z)] [.int (bI true)] [(rnw, cI (xT X) 37 (rowF ac ap ash an aob arq)), (h8, cO 8 [.int (nI 1), .ref rv, .ref rn, .ref rnw, .ref rt, .ref rd, .int (nI na), .int (nI nx), .ref rk, .ref rik, .ref rdk, .ref rre, .ref rle, .ref rhe, .ref rth, .ref rpa, .ref ror, .int bv, .int bo])]
    refine j_if_eq C dX8_direction_34 (tgt := 39) (by decide) (fun h9 => absurd h9 (by decide +kernel)) (fun _ => ?_)
    refine j_iconst C dX8_direction_37 (v := (nI 0)) kc_i_0 ?_
    refine j_perm C (w' := [(h8, cO 8 [.int (nI 1), .ref rv, .ref rn, .ref rnw, .ref rt, .ref rd, .int (nI na), .int (nI nx), .ref rk, .ref rik, .ref rdk, .ref rre, .ref rle, .ref rhe, .ref rth, .ref rpa, .ref ror, .int bv, .int bo]), (rnw, cI (xT X) 37 (rowF ac ap ash an aob arq))]) [1, 0] rfl rfl ?_
    refine j_iretM C rw_ hQ (by decide) (by decide) rfl ?_ dX8_direction_38
    exact ⟨1, _, rfl, rfl, Or.inl ⟨rfl, q5⟩⟩
  · skip
    have q5 := (kb_neq).mp q5
    refine j_iload_n C dX8_direction_8 2 rfl rfl ?_
    refine j_callSR C (nA := 1) (As := [.int y]) (c_X8_isThird (xl X) (xT X) y ) gX8_direction_X8_isThird rfl (by decide +kernel) rfl ⟨rfl, rfl⟩ (by decide) (by decide) [] rfl rfl (rest := [.ref h8]) rfl (Nat.le_of_ble_eq_true rfl) dX8_direction_9 ?_
    rintro _ rfl
    show jj X 0 0 12 [(0, .ref h8), (1, .int x), (2, .int y), (3, .int z)] [.int (bI (inR y 0 2)), .ref h8] [(h8, cO 8 [.int rf, .ref rv, .ref rn, .ref rnw, .ref rt, .ref rd, .int (nI na), .int (nI nx), .ref rk, .ref rik, .ref rdk, .ref rre, .ref rle, .ref rhe, .ref rth, .ref rpa, .ref ror, .int bv, .int bo]), (rnw, cI (xT X) 37 (rowF ac ap ash an aob arq))]
    refine j_if_ne C dX8_direction_12 (tgt := 19) (by decide) (fun q12 => ?_) (fun q12 => ?_)
    · skip
      have q12 := (kb_ne).mp q12
      refine j_iload_n C dX8_direction_19 3 rfl rfl ?_
      refine j_callSR C (nA := 1) (As := [.int z]) (c_X8_isTime (xl X) (xT X) z ) gX8_direction_X8_isTime rfl (by decide +kernel) rfl ⟨rfl, rfl⟩ (by decide) (by decide) [] rfl rfl (rest := [.ref h8]) rfl (Nat.le_of_ble_eq_true rfl) dX8_direction_20 ?_
      rintro _ rfl
      show jj X 0 0 23 [(0, .ref h8), (1, .int x), (2, .int y), (3, .int z)] [.int (bI (inR z 0 300)), .ref h8] [(h8, cO 8 [.int rf, .ref rv, .ref rn, .ref rnw, .ref rt, .ref rd, .int (nI na), .int (nI nx), .ref rk, .ref rik, .ref rdk, .ref rre, .ref rle, .ref rhe, .ref rth, .ref rpa, .ref ror, .int bv, .int bo]), (rnw, cI (xT X) 37 (rowF ac ap ash an aob arq))]
      refine j_if_ne C dX8_direction_23 (tgt := 30) (by decide) (fun q23 => ?_) (fun q23 => ?_)
      · skip
        have q23 := (kb_ne).mp q23
        refine j_iconst C dX8_direction_30 (v := (nI 0)) kc_i_0 ?_
        refine j_callVM C rw_ (nA := 1) (As := [.int (nI 0)]) (wr := [(rnw, cI (xT X) 37 (rowF ac ap ash an aob arq))]) (c_X8_refused_0 (xl X) (xT X) h8 rv rn rnw rt rd rk rik rdk rre rle rhe rth rpa ror na nx rf bv bo ) gX8_direction_X8_refused rfl (by decide +kernel) rfl (by decide) (by decide) [0] [1] rfl rfl rfl rfl (by decide) 0 rfl rfl (rest := []) rfl (Nat.le_of_ble_eq_true rfl) dX8_direction_31 ?_
        rintro _ _ ⟨rfl, rfl⟩
        show jj X 0 0 34 [(0, .ref h8), (1, .int x), (2, .int y), (3, .int z)] [.int (bI false)] [(rnw, cI (xT X) 37 (rowF ac ap ash an aob arq)), (h8, cO 8 [.int (nI 0), .ref rv, .ref rn, .ref rnw, .ref rt, .ref rd, .int (nI na), .int (nI nx), .ref rk, .ref rik, .ref rdk, .ref rre, .ref rle, .ref rhe, .ref rth, .ref rpa, .ref ror, .int bv, .int bo])]
        refine j_if_eq C dX8_direction_34 (tgt := 39) (by decide) (fun _ => ?_) (fun h9 => absurd h9 (by decide +kernel))
        obtain ⟨o, rfl, hb_o⟩ := inR_N (b := 2) q5
        obtain ⟨k, rfl, hb_k⟩ := inR_N (b := 2) q12
        obtain ⟨tm, rfl, hb_tm⟩ := inR_N (b := 300) q23
        refine j_aload_n C dX8_direction_39 0 rfl rfl ?_
        refine j_get C (hin8) (ci := 8) rfl 3 (by decide) (hl16) 1 rfl (v := .ref rnw) rfl dX8_direction_40 ?_
        refine j_iload_n C dX8_direction_43 1 rfl rfl ?_
        refine j_iload_n C dX8_direction_44 2 rfl rfl ?_
        refine j_iload_n C dX8_direction_45 3 rfl rfl ?_
        refine j_callSR C (nA := 4) (As := [.ref rnw, .int (nI o), .int (nI k), .int (nI tm)]) (c_X8_directionOf (xl X) (xT X) rnw o k tm (rowF ac ap ash an aob arq) (by omega) (by omega)) gX8_direction_X8_directionOf rfl (by decide +kernel) rfl ⟨rfl, rfl⟩ (by decide) (by decide) [0] rfl rfl (rest := []) rfl (Nat.le_of_ble_eq_true rfl) dX8_direction_46 ?_
        rintro _ rfl
        show jj X 0 0 49 [(0, .ref h8), (1, .int (nI o)), (2, .int (nI k)), (3, .int (nI tm))] [.int (st_aim (rowF ac ap ash an aob arq) o k tm)] [(rnw, cI (xT X) 37 (rowF ac ap ash an aob arq)), (h8, cO 8 [.int (nI 0), .ref rv, .ref rn, .ref rnw, .ref rt, .ref rd, .int (nI na), .int (nI nx), .ref rk, .ref rik, .ref rdk, .ref rre, .ref rle, .ref rhe, .ref rth, .ref rpa, .ref ror, .int bv, .int bo])]
        refine j_perm C (w' := [(h8, cO 8 [.int (nI 0), .ref rv, .ref rn, .ref rnw, .ref rt, .ref rd, .int (nI na), .int (nI nx), .ref rk, .ref rik, .ref rdk, .ref rre, .ref rle, .ref rhe, .ref rth, .ref rpa, .ref ror, .int bv, .int bo]), (rnw, cI (xT X) 37 (rowF ac ap ash an aob arq))]) [1, 0] rfl rfl ?_
        refine j_iretM C rw_ hQ (by decide) (by decide) rfl ?_ dX8_direction_49
        exact ⟨0, _, rfl, rfl, Or.inr (Or.inr (Or.inr ⟨rfl, o, k, tm, rfl, rfl, rfl, by omega, by omega, by omega, row_aim (by omega) (by omega)⟩))⟩
      · skip
        have q23 := (kb_nne).mp q23
        refine j_iconst C dX8_direction_26 (v := (nI 2)) kc_i_2 ?_
        refine j_goto C dX8_direction_27 (tgt := 31) (by decide) ?_
        refine j_callVM C rw_ (nA := 1) (As := [.int (nI 2)]) (wr := [(rnw, cI (xT X) 37 (rowF ac ap ash an aob arq))]) (c_X8_refused_s (xl X) (xT X) h8 rv rn rnw rt rd rk rik rdk rre rle rhe rth rpa ror na nx rf bv bo 2 (by omega) (by omega)) gX8_direction_X8_refused rfl (by decide +kernel) rfl (by decide) (by decide) [0] [1] rfl rfl rfl rfl (by decide) 0 rfl rfl (rest := []) rfl (Nat.le_of_ble_eq_true rfl) dX8_direction_31 ?_
        rintro _ _ ⟨rfl, rfl⟩
        show jj X 0 0 34 [(0, .ref h8), (1, .int x), (2, .int y), (3, .int z)] [.int (bI true)] [(rnw, cI (xT X) 37 (rowF ac ap ash an aob arq)), (h8, cO 8 [.int (nI 2), .ref rv, .ref rn, .ref rnw, .ref rt, .ref rd, .int (nI na), .int (nI nx), .ref rk, .ref rik, .ref rdk, .ref rre, .ref rle, .ref rhe, .ref rth, .ref rpa, .ref ror, .int bv, .int bo])]
        refine j_if_eq C dX8_direction_34 (tgt := 39) (by decide) (fun h9 => absurd h9 (by decide +kernel)) (fun _ => ?_)
        refine j_iconst C dX8_direction_37 (v := (nI 0)) kc_i_0 ?_
        refine j_perm C (w' := [(h8, cO 8 [.int (nI 2), .ref rv, .ref rn, .ref rnw, .ref rt, .ref rd, .int (nI na), .int (nI nx), .ref rk, .ref rik, .ref rdk, .ref rre, .ref rle, .ref rhe, .ref rth, .ref rpa, .ref ror, .int bv, .int bo]), (rnw, cI (xT X) 37 (rowF ac ap ash an aob arq))]) [1, 0] rfl rfl ?_
        refine j_iretM C rw_ hQ (by decide) (by decide) rfl ?_ dX8_direction_38
        exact ⟨2, _, rfl, rfl, Or.inr (Or.inr (Or.inl ⟨rfl, q5, q12, q23⟩))⟩
    · skip
      have q12 := (kb_nne).mp q12
      refine j_iconst C dX8_direction_15 (v := (nI 1)) kc_i_1 ?_
      refine j_goto C dX8_direction_16 (tgt := 31) (by decide) ?_
      refine j_callVM C rw_ (nA := 1) (As := [.int (nI 1)]) (wr := [(rnw, cI (xT X) 37 (rowF ac ap ash an aob arq))]) (c_X8_refused_s (xl X) (xT X) h8 rv rn rnw rt rd rk rik rdk rre rle rhe rth rpa ror na nx rf bv bo 1 (by omega) (by omega)) gX8_direction_X8_refused rfl (by decide +kernel) rfl (by decide) (by decide) [0] [1] rfl rfl rfl rfl (by decide) 0 rfl rfl (rest := []) rfl (Nat.le_of_ble_eq_true rfl) dX8_direction_31 ?_
      rintro _ _ ⟨rfl, rfl⟩
      show jj X 0 0 34 [(0, .ref h8), (1, .int x), (2, .int y), (3, .int z)] [.int (bI true)] [(rnw, cI (xT X) 37 (rowF ac ap ash an aob arq)), (h8, cO 8 [.int (nI 1), .ref rv, .ref rn, .ref rnw, .ref rt, .ref rd, .int (nI na), .int (nI nx), .ref rk, .ref rik, .ref rdk, .ref rre, .ref rle, .ref rhe, .ref rth, .ref rpa, .ref ror, .int bv, .int bo])]
      refine j_if_eq C dX8_direction_34 (tgt := 39) (by decide) (fun h9 => absurd h9 (by decide +kernel)) (fun _ => ?_)
      refine j_iconst C dX8_direction_37 (v := (nI 0)) kc_i_0 ?_
      refine j_perm C (w' := [(h8, cO 8 [.int (nI 1), .ref rv, .ref rn, .ref rnw, .ref rt, .ref rd, .int (nI na), .int (nI nx), .ref rk, .ref rik, .ref rdk, .ref rre, .ref rle, .ref rhe, .ref rth, .ref rpa, .ref ror, .int bv, .int bo]), (rnw, cI (xT X) 37 (rowF ac ap ash an aob arq))]) [1, 0] rfl rfl ?_
      refine j_iretM C rw_ hQ (by decide) (by decide) rfl ?_ dX8_direction_38
      exact ⟨1, _, rfl, rfl, Or.inr (Or.inl ⟨rfl, q5, q12⟩)⟩

set_option maxHeartbeats 4000000 in
set_option maxRecDepth 100000 in
/-- cone -/
theorem c_X8_cone (l : Launch) (T : jj_T) (h8 rv rn rnw rt rd rk rik rdk rre rle rhe rth rpa ror na nx : Nat) (rf bv bo : Int32) (ac ap an : Nat) (ash : Bool) (aob arq : Nat → Int32) (x : Int32) : jM l T yX8_cone wsX8_cone { frames := 2, cells := 0, slots := 0, locals := 45 } [.ref h8, .int x] [(h8, cO 8 [.int rf, .ref rv, .ref rn, .ref rnw, .ref rt, .ref rd, .int (nI na), .int (nI nx), .ref rk, .ref rik, .ref rdk, .ref rre, .ref rle, .ref rhe, .ref rth, .ref rpa, .ref ror, .int bv, .int bo]), (rnw, cI T 37 (rowF ac ap ash an aob arq))] (fun v w1 => ∃ k8 : Nat, ∃ r : Int32, v = some (.int r) ∧ w1 = [(h8, cO 8 [.int (nI k8), .ref rv, .ref rn, .ref rnw, .ref rt, .ref rd, .int (nI na), .int (nI nx), .ref rk, .ref rik, .ref rdk, .ref rre, .ref rle, .ref rhe, .ref rth, .ref rpa, .ref ror, .int bv, .int bo]), (rnw, cI T 37 (rowF ac ap ash an aob arq))] ∧ ((k8 = 1 ∧ inR x 0 2 = false) ∨ (k8 = 0 ∧ ∃ o : Nat, x = nI o ∧ o < 3 ∧ r = aob (7 * o + 6)))) := by
  refine jM.of (cc := cX8_cone) (maxL := 2) (ret := (some .int)) (by decide) rfl (Nat.le_of_ble_eq_true rfl) ?_
  intro X C rw_ hl hT hQ hnm
  subst hl; subst hT
  have hin8 : ∀ w ∈ u_ws RX8 TX8 19, w ∈ wsX8_cone := by decide +kernel
  have hl16 : Cond.fieldLink RX8 16 (TX8 3).1 (TX8 3).2.1 (TX8 3).2.2.1 ∈ wsX8_cone := by decide +kernel
  show jj X 0 0 0 [(0, .ref h8), (1, .int x)] [] [(h8, cO 8 [.int rf, .ref rv, .ref rn, .ref rnw, .ref rt, .ref rd, .int (nI na), .int (nI nx), .ref rk, .ref rik, .ref rdk, .ref rre, .ref rle, .ref rhe, .ref rth, .ref rpa, .ref ror, .int bv, .int bo]), (rnw, cI (xT X) 37 (rowF ac ap ash an aob arq))]
  refine j_aload_n C dX8_cone_0 0 rfl rfl ?_
  refine j_iload_n C dX8_cone_1 1 rfl rfl ?_
  refine j_callSR C (nA := 1) (As := [.int x]) (c_X8_isThird (xl X) (xT X) x ) gX8_cone_X8_isThird rfl (by decide +kernel) rfl ⟨rfl, rfl⟩ (by decide) (by decide) [] rfl rfl (rest := [.ref h8]) rfl (Nat.le_of_ble_eq_true rfl) dX8_cone_2 ?_
  rintro _ rfl
  show jj X 0 0 5 [(0, .ref h8), (1, .int x)] [.int (bI (inR x 0 2)), .ref h8] [(h8, cO 8 [.int rf, .ref rv, .ref rn, .ref rnw, .ref rt, .ref rd, .int (nI na), .int (nI nx), .ref rk, .ref rik, .ref rdk, .ref rre, .ref rle, .ref rhe, .ref rth, .ref rpa, .ref ror, .int bv, .int bo]), (rnw, cI (xT X) 37 (rowF ac ap ash an aob arq))]
  refine j_if_eq C dX8_cone_5 (tgt := 12) (by decide) (fun q5 => ?_) (fun q5 => ?_)
  · skip
    have q5 := (kb_eq).mp q5
    refine j_iconst C dX8_cone_12 (v := (nI 1)) kc_i_1 ?_
    refine j_callVM C rw_ (nA := 1) (As := [.int (nI 1)]) (wr := [(rnw, cI (xT X) 37 (rowF ac ap ash an aob arq))]) (c_X8_refused_s (xl X) (xT X) h8 rv rn rnw rt rd rk rik rdk rre rle rhe rth rpa ror na nx rf bv bo 1 (by omega) (by omega)) gX8_cone_X8_refused rfl (by decide +kernel) rfl (by decide) (by decide) [0] [1] rfl rfl rfl rfl (by decide) 0 rfl rfl (rest := []) rfl (Nat.le_of_ble_eq_true rfl) dX8_cone_13 ?_
    rintro _ _ ⟨rfl, rfl⟩
    show jj X 0 0 16 [(0, .ref h8), (1, .int x)] [.int (bI true)] [(rnw, cI (xT X) 37 (rowF ac ap ash an aob arq)), (h8, cO 8 [.int (nI 1), .ref rv, .ref rn, .ref rnw, .ref rt, .ref rd, .int (nI na), .int (nI nx), .ref rk, .ref rik, .ref rdk, .ref rre, .ref rle, .ref rhe, .ref rth, .ref rpa, .ref ror, .int bv, .int bo])]
    refine j_if_eq C dX8_cone_16 (tgt := 21) (by decide) (fun h9 => absurd h9 (by decide +kernel)) (fun _ => ?_)
    refine j_iconst C dX8_cone_19 (v := (nI 0)) kc_i_0 ?_
    refine j_perm C (w' := [(h8, cO 8 [.int (nI 1), .ref rv, .ref rn, .ref rnw, .ref rt, .ref rd, .int (nI na), .int (nI nx), .ref rk, .ref rik, .ref rdk, .ref rre, .ref rle, .ref rhe, .ref rth, .ref rpa, .ref ror, .int bv, .int bo]), (rnw, cI (xT X) 37 (rowF ac ap ash an aob arq))]) [1, 0] rfl rfl ?_
    refine j_iretM C rw_ hQ (by decide) (by decide) rfl ?_ dX8_cone_20
    exact ⟨1, _, rfl, rfl, Or.inl ⟨rfl, q5⟩⟩
  · skip
    have q5 := (kb_neq).mp q5
    refine j_iconst C dX8_cone_8 (v := (nI 0)) kc_i_0 ?_
    refine j_goto C dX8_cone_9 (tgt := 13) (by decide) ?_
    refine j_callVM C rw_ (nA := 1) (As := [.int (nI 0)]) (wr := [(rnw, cI (xT X) 37 (rowF ac ap ash an aob arq))]) (c_X8_refused_0 (xl X) (xT X) h8 rv rn rnw rt rd rk rik rdk rre rle rhe rth rpa ror na nx rf bv bo ) gX8_cone_X8_refused rfl (by decide +kernel) rfl (by decide) (by decide) [0] [1] rfl rfl rfl rfl (by decide) 0 rfl rfl (rest := []) rfl (Nat.le_of_ble_eq_true rfl) dX8_cone_13 ?_
    rintro _ _ ⟨rfl, rfl⟩
    show jj X 0 0 16 [(0, .ref h8), (1, .int x)] [.int (bI false)] [(rnw, cI (xT X) 37 (rowF ac ap ash an aob arq)), (h8, cO 8 [.int (nI 0), .ref rv, .ref rn, .ref rnw, .ref rt, .ref rd, .int (nI na), .int (nI nx), .ref rk, .ref rik, .ref rdk, .ref rre, .ref rle, .ref rhe, .ref rth, .ref rpa, .ref ror, .int bv, .int bo])]
    refine j_if_eq C dX8_cone_16 (tgt := 21) (by decide) (fun _ => ?_) (fun h9 => absurd h9 (by decide +kernel))
    obtain ⟨o, rfl, hb_o⟩ := inR_N (b := 2) q5
    refine j_aload_n C dX8_cone_21 0 rfl rfl ?_
    refine j_get C (hin8) (ci := 8) rfl 3 (by decide) (hl16) 1 rfl (v := .ref rnw) rfl dX8_cone_22 ?_
    refine j_bipush C dX8_cone_25 (v := (nI 7)) kc_b_7 ?_
    refine j_iload_n C dX8_cone_27 1 rfl rfl ?_
    refine j_imul C dX8_cone_28 (v := (nI (7 * o))) (pk_mul _ _) ?_
    refine j_bipush C dX8_cone_29 (v := (nI 6)) kc_b_6 ?_
    refine j_iadd C dX8_cone_31 (v := (nI (7 * o + 6))) (nI_add _ _) ?_
    refine j_ialoadN C (7 * o + 6) rfl 0 rfl (by omega) (by decide) dX8_cone_32 ?_
    refine j_perm C (w' := [(h8, cO 8 [.int (nI 0), .ref rv, .ref rn, .ref rnw, .ref rt, .ref rd, .int (nI na), .int (nI nx), .ref rk, .ref rik, .ref rdk, .ref rre, .ref rle, .ref rhe, .ref rth, .ref rpa, .ref ror, .int bv, .int bo]), (rnw, cI (xT X) 37 (rowF ac ap ash an aob arq))]) [1, 0] rfl rfl ?_
    refine j_iretM C rw_ hQ (by decide) (by decide) rfl ?_ dX8_cone_33
    exact ⟨0, _, rfl, rfl, Or.inr (⟨rfl, o, rfl, by omega, row_ob (by omega)⟩)⟩

set_option maxHeartbeats 4000000 in
set_option maxRecDepth 100000 in
/-- isBright -/
theorem c_X8_isBright (l : Launch) (T : jj_T) (h8 rv rn rnw rt rd rk rik rdk rre rle rhe rth rpa ror na nx : Nat) (rf bv bo : Int32) (ac ap an : Nat) (ash : Bool) (aob arq : Nat → Int32) (x y : Int32) (hco : coI aob) : jM l T yX8_isBright wsX8_isBright { frames := 3, cells := 0, slots := 0, locals := 78 } [.ref h8, .int x, .int y] [(h8, cO 8 [.int rf, .ref rv, .ref rn, .ref rnw, .ref rt, .ref rd, .int (nI na), .int (nI nx), .ref rk, .ref rik, .ref rdk, .ref rre, .ref rle, .ref rhe, .ref rth, .ref rpa, .ref ror, .int bv, .int bo]), (rv, cI T 450 cvec), (rnw, cI T 37 (rowF ac ap ash an aob arq))] (fun v w1 => ∃ k8 : Nat, ∃ r : Bool, v = some (.int (bI r)) ∧ w1 = [(h8, cO 8 [.int (nI k8), .ref rv, .ref rn, .ref rnw, .ref rt, .ref rd, .int (nI na), .int (nI nx), .ref rk, .ref rik, .ref rdk, .ref rre, .ref rle, .ref rhe, .ref rth, .ref rpa, .ref ror, .int bv, .int bo]), (rv, cI T 450 cvec), (rnw, cI T 37 (rowF ac ap ash an aob arq))] ∧ ((k8 = 1 ∧ inR x 0 149 = false) ∨ (k8 = 2 ∧ inR x 0 149 = true ∧ inR y 0 300 = false) ∨ (k8 = 0 ∧ ∃ c tm : Nat, x = nI c ∧ y = nI tm ∧ c < 150 ∧ tm ≤ 300 ∧ r = br aob c tm))) := by
  refine jM.of (cc := cX8_isBright) (maxL := 3) (ret := (some .boolean)) (by decide) rfl (Nat.le_of_ble_eq_true rfl) ?_
  intro X C rw_ hl hT hQ hnm
  subst hl; subst hT
  have hin8 : ∀ w ∈ u_ws RX8 TX8 19, w ∈ wsX8_isBright := by decide +kernel
  have hl16 : Cond.fieldLink RX8 16 (TX8 3).1 (TX8 3).2.1 (TX8 3).2.2.1 ∈ wsX8_isBright := by decide +kernel
  show jj X 0 0 0 [(0, .ref h8), (1, .int x), (2, .int y)] [] [(h8, cO 8 [.int rf, .ref rv, .ref rn, .ref rnw, .ref rt, .ref rd, .int (nI na), .int (nI nx), .ref rk, .ref rik, .ref rdk, .ref rre, .ref rle, .ref rhe, .ref rth, .ref rpa, .ref ror, .int bv, .int bo]), (rv, cI (xT X) 450 cvec), (rnw, cI (xT X) 37 (rowF ac ap ash an aob arq))]
  refine j_aload_n C dX8_isBright_0 0 rfl rfl ?_
  refine j_iload_n C dX8_isBright_1 1 rfl rfl ?_
  refine j_callSR C (nA := 1) (As := [.int x]) (c_X8_isCell (xl X) (xT X) x ) gX8_isBright_X8_isCell rfl (by decide +kernel) rfl ⟨rfl, rfl⟩ (by decide) (by decide) [] rfl rfl (rest := [.ref h8]) rfl (Nat.le_of_ble_eq_true rfl) dX8_isBright_2 ?_
  rintro _ rfl
  show jj X 0 0 5 [(0, .ref h8), (1, .int x), (2, .int y)] [.int (bI (inR x 0 149)), .ref h8] [(h8, cO 8 [.int rf, .ref rv, .ref rn, .ref rnw, .ref rt, .ref rd, .int (nI na), .int (nI nx), .ref rk, .ref rik, .ref rdk, .ref rre, .ref rle, .ref rhe, .ref rth, .ref rpa, .ref ror, .int bv, .int bo]), (rv, cI (xT X) 450 cvec), (rnw, cI (xT X) 37 (rowF ac ap ash an aob arq))]
  refine j_if_ne C dX8_isBright_5 (tgt := 12) (by decide) (fun q5 => ?_) (fun q5 => ?_)
  · skip
    have q5 := (kb_ne).mp q5
    refine j_iload_n C dX8_isBright_12 2 rfl rfl ?_
    refine j_callSR C (nA := 1) (As := [.int y]) (c_X8_isTime (xl X) (xT X) y ) gX8_isBright_X8_isTime rfl (by decide +kernel) rfl ⟨rfl, rfl⟩ (by decide) (by decide) [] rfl rfl (rest := [.ref h8]) rfl (Nat.le_of_ble_eq_true rfl) dX8_isBright_13 ?_
    rintro _ rfl
    show jj X 0 0 16 [(0, .ref h8), (1, .int x), (2, .int y)] [.int (bI (inR y 0 300)), .ref h8] [(h8, cO 8 [.int rf, .ref rv, .ref rn, .ref rnw, .ref rt, .ref rd, .int (nI na), .int (nI nx), .ref rk, .ref rik, .ref rdk, .ref rre, .ref rle, .ref rhe, .ref rth, .ref rpa, .ref ror, .int bv, .int bo]), (rv, cI (xT X) 450 cvec), (rnw, cI (xT X) 37 (rowF ac ap ash an aob arq))]
    refine j_if_ne C dX8_isBright_16 (tgt := 23) (by decide) (fun q16 => ?_) (fun q16 => ?_)
    · skip
      have q16 := (kb_ne).mp q16
      refine j_iconst C dX8_isBright_23 (v := (nI 0)) kc_i_0 ?_
      refine j_callVM C rw_ (nA := 1) (As := [.int (nI 0)]) (wr := [(rv, cI (xT X) 450 cvec), (rnw, cI (xT X) 37 (rowF ac ap ash an aob arq))]) (c_X8_refused_0 (xl X) (xT X) h8 rv rn rnw rt rd rk rik rdk rre rle rhe rth rpa ror na nx rf bv bo ) gX8_isBright_X8_refused rfl (by decide +kernel) rfl (by decide) (by decide) [0] [1, 2] rfl rfl rfl rfl (by decide) 0 rfl rfl (rest := []) rfl (Nat.le_of_ble_eq_true rfl) dX8_isBright_24 ?_
      rintro _ _ ⟨rfl, rfl⟩
      show jj X 0 0 27 [(0, .ref h8), (1, .int x), (2, .int y)] [.int (bI false)] [(rv, cI (xT X) 450 cvec), (rnw, cI (xT X) 37 (rowF ac ap ash an aob arq)), (h8, cO 8 [.int (nI 0), .ref rv, .ref rn, .ref rnw, .ref rt, .ref rd, .int (nI na), .int (nI nx), .ref rk, .ref rik, .ref rdk, .ref rre, .ref rle, .ref rhe, .ref rth, .ref rpa, .ref ror, .int bv, .int bo])]
      refine j_if_eq C dX8_isBright_27 (tgt := 32) (by decide) (fun _ => ?_) (fun h9 => absurd h9 (by decide +kernel))
      obtain ⟨c, rfl, hb_c⟩ := inR_N (b := 149) q5
      obtain ⟨tm, rfl, hb_tm⟩ := inR_N (b := 300) q16
      refine j_aload_n C dX8_isBright_32 0 rfl rfl ?_
      refine j_aload_n C dX8_isBright_33 0 rfl rfl ?_
      refine j_get C (hin8) (ci := 8) rfl 3 (by decide) (hl16) 2 rfl (v := .ref rnw) rfl dX8_isBright_34 ?_
      refine j_iload_n C dX8_isBright_37 1 rfl rfl ?_
      refine j_iload_n C dX8_isBright_38 2 rfl rfl ?_
      refine j_callVR C (nA := 3) (As := [.ref rnw, .int (nI c), .int (nI tm)]) (c_X8_isBrightIn (xl X) (xT X) h8 rv rn rnw rt rd rk rik rdk rre rle rhe rth rpa ror na nx (nI 0) bv bo rnw c tm (rowF ac ap ash an aob arq) (by omega) (by exact row_co hco)) gX8_isBright_X8_isBrightIn rfl (by decide +kernel) rfl ⟨rfl, rfl⟩ (by decide) (by decide) [2, 0, 1] rfl rfl 2 rfl rfl (rest := []) rfl (Nat.le_of_ble_eq_true rfl) dX8_isBright_39 ?_
      rintro _ rfl
      show jj X 0 0 42 [(0, .ref h8), (1, .int (nI c)), (2, .int (nI tm))] [.int (bI (br (rowF ac ap ash an aob arq) c tm))] [(rv, cI (xT X) 450 cvec), (rnw, cI (xT X) 37 (rowF ac ap ash an aob arq)), (h8, cO 8 [.int (nI 0), .ref rv, .ref rn, .ref rnw, .ref rt, .ref rd, .int (nI na), .int (nI nx), .ref rk, .ref rik, .ref rdk, .ref rre, .ref rle, .ref rhe, .ref rth, .ref rpa, .ref ror, .int bv, .int bo])]
      refine j_perm C (w' := [(h8, cO 8 [.int (nI 0), .ref rv, .ref rn, .ref rnw, .ref rt, .ref rd, .int (nI na), .int (nI nx), .ref rk, .ref rik, .ref rdk, .ref rre, .ref rle, .ref rhe, .ref rth, .ref rpa, .ref ror, .int bv, .int bo]), (rv, cI (xT X) 450 cvec), (rnw, cI (xT X) 37 (rowF ac ap ash an aob arq))]) [2, 0, 1] rfl rfl ?_
      refine j_iretM C rw_ hQ (by decide) (by decide) (bI_nar _) ?_ dX8_isBright_42
      exact ⟨0, _, rfl, rfl, Or.inr (Or.inr (⟨rfl, c, tm, rfl, rfl, by omega, by omega, row_br⟩))⟩
    · skip
      have q16 := (kb_nne).mp q16
      refine j_iconst C dX8_isBright_19 (v := (nI 2)) kc_i_2 ?_
      refine j_goto C dX8_isBright_20 (tgt := 24) (by decide) ?_
      refine j_callVM C rw_ (nA := 1) (As := [.int (nI 2)]) (wr := [(rv, cI (xT X) 450 cvec), (rnw, cI (xT X) 37 (rowF ac ap ash an aob arq))]) (c_X8_refused_s (xl X) (xT X) h8 rv rn rnw rt rd rk rik rdk rre rle rhe rth rpa ror na nx rf bv bo 2 (by omega) (by omega)) gX8_isBright_X8_refused rfl (by decide +kernel) rfl (by decide) (by decide) [0] [1, 2] rfl rfl rfl rfl (by decide) 0 rfl rfl (rest := []) rfl (Nat.le_of_ble_eq_true rfl) dX8_isBright_24 ?_
      rintro _ _ ⟨rfl, rfl⟩
      show jj X 0 0 27 [(0, .ref h8), (1, .int x), (2, .int y)] [.int (bI true)] [(rv, cI (xT X) 450 cvec), (rnw, cI (xT X) 37 (rowF ac ap ash an aob arq)), (h8, cO 8 [.int (nI 2), .ref rv, .ref rn, .ref rnw, .ref rt, .ref rd, .int (nI na), .int (nI nx), .ref rk, .ref rik, .ref rdk, .ref rre, .ref rle, .ref rhe, .ref rth, .ref rpa, .ref ror, .int bv, .int bo])]
      refine j_if_eq C dX8_isBright_27 (tgt := 32) (by decide) (fun h9 => absurd h9 (by decide +kernel)) (fun _ => ?_)
      refine j_iconst C dX8_isBright_30 (v := (nI 0)) kc_i_0 ?_
      show jj X 0 0 31 [(0, .ref h8), (1, .int x), (2, .int y)] [.int (bI false)] [(rv, cI (xT X) 450 cvec), (rnw, cI (xT X) 37 (rowF ac ap ash an aob arq)), (h8, cO 8 [.int (nI 2), .ref rv, .ref rn, .ref rnw, .ref rt, .ref rd, .int (nI na), .int (nI nx), .ref rk, .ref rik, .ref rdk, .ref rre, .ref rle, .ref rhe, .ref rth, .ref rpa, .ref ror, .int bv, .int bo])]
      refine j_perm C (w' := [(h8, cO 8 [.int (nI 2), .ref rv, .ref rn, .ref rnw, .ref rt, .ref rd, .int (nI na), .int (nI nx), .ref rk, .ref rik, .ref rdk, .ref rre, .ref rle, .ref rhe, .ref rth, .ref rpa, .ref ror, .int bv, .int bo]), (rv, cI (xT X) 450 cvec), (rnw, cI (xT X) 37 (rowF ac ap ash an aob arq))]) [2, 0, 1] rfl rfl ?_
      refine j_iretM C rw_ hQ (by decide) (by decide) (bI_nar _) ?_ dX8_isBright_31
      exact ⟨2, _, rfl, rfl, Or.inr (Or.inl ⟨rfl, q5, q16⟩)⟩
  · skip
    have q5 := (kb_nne).mp q5
    refine j_iconst C dX8_isBright_8 (v := (nI 1)) kc_i_1 ?_
    refine j_goto C dX8_isBright_9 (tgt := 24) (by decide) ?_
    refine j_callVM C rw_ (nA := 1) (As := [.int (nI 1)]) (wr := [(rv, cI (xT X) 450 cvec), (rnw, cI (xT X) 37 (rowF ac ap ash an aob arq))]) (c_X8_refused_s (xl X) (xT X) h8 rv rn rnw rt rd rk rik rdk rre rle rhe rth rpa ror na nx rf bv bo 1 (by omega) (by omega)) gX8_isBright_X8_refused rfl (by decide +kernel) rfl (by decide) (by decide) [0] [1, 2] rfl rfl rfl rfl (by decide) 0 rfl rfl (rest := []) rfl (Nat.le_of_ble_eq_true rfl) dX8_isBright_24 ?_
    rintro _ _ ⟨rfl, rfl⟩
    show jj X 0 0 27 [(0, .ref h8), (1, .int x), (2, .int y)] [.int (bI true)] [(rv, cI (xT X) 450 cvec), (rnw, cI (xT X) 37 (rowF ac ap ash an aob arq)), (h8, cO 8 [.int (nI 1), .ref rv, .ref rn, .ref rnw, .ref rt, .ref rd, .int (nI na), .int (nI nx), .ref rk, .ref rik, .ref rdk, .ref rre, .ref rle, .ref rhe, .ref rth, .ref rpa, .ref ror, .int bv, .int bo])]
    refine j_if_eq C dX8_isBright_27 (tgt := 32) (by decide) (fun h9 => absurd h9 (by decide +kernel)) (fun _ => ?_)
    refine j_iconst C dX8_isBright_30 (v := (nI 0)) kc_i_0 ?_
    show jj X 0 0 31 [(0, .ref h8), (1, .int x), (2, .int y)] [.int (bI false)] [(rv, cI (xT X) 450 cvec), (rnw, cI (xT X) 37 (rowF ac ap ash an aob arq)), (h8, cO 8 [.int (nI 1), .ref rv, .ref rn, .ref rnw, .ref rt, .ref rd, .int (nI na), .int (nI nx), .ref rk, .ref rik, .ref rdk, .ref rre, .ref rle, .ref rhe, .ref rth, .ref rpa, .ref ror, .int bv, .int bo])]
    refine j_perm C (w' := [(h8, cO 8 [.int (nI 1), .ref rv, .ref rn, .ref rnw, .ref rt, .ref rd, .int (nI na), .int (nI nx), .ref rk, .ref rik, .ref rdk, .ref rre, .ref rle, .ref rhe, .ref rth, .ref rpa, .ref ror, .int bv, .int bo]), (rv, cI (xT X) 450 cvec), (rnw, cI (xT X) 37 (rowF ac ap ash an aob arq))]) [2, 0, 1] rfl rfl ?_
    refine j_iretM C rw_ hQ (by decide) (by decide) (bI_nar _) ?_ dX8_isBright_31
    exact ⟨1, _, rfl, rfl, Or.inl ⟨rfl, q5⟩⟩

set_option maxHeartbeats 4000000 in
set_option maxRecDepth 100000 in
/-- brightCells -/
theorem c_X8_brightCells (l : Launch) (T : jj_T) (h8 rv rn rnw rt rd rk rik rdk rre rle rhe rth rpa ror na nx : Nat) (rf bv bo : Int32) (ac ap an : Nat) (ash : Bool) (aob arq : Nat → Int32) (x : Int32) (hco : coI aob) : jM l T yX8_brightCells wsX8_brightCells { frames := 4, cells := 0, slots := 0, locals := 102 } [.ref h8, .int x] [(h8, cO 8 [.int rf, .ref rv, .ref rn, .ref rnw, .ref rt, .ref rd, .int (nI na), .int (nI nx), .ref rk, .ref rik, .ref rdk, .ref rre, .ref rle, .ref rhe, .ref rth, .ref rpa, .ref ror, .int bv, .int bo]), (rv, cI T 450 cvec), (rnw, cI T 37 (rowF ac ap ash an aob arq))] (fun v w1 => ∃ k8 : Nat, ∃ r : Int32, v = some (.int r) ∧ w1 = [(h8, cO 8 [.int (nI k8), .ref rv, .ref rn, .ref rnw, .ref rt, .ref rd, .int (nI na), .int (nI nx), .ref rk, .ref rik, .ref rdk, .ref rre, .ref rle, .ref rhe, .ref rth, .ref rpa, .ref ror, .int bv, .int bo]), (rv, cI T 450 cvec), (rnw, cI T 37 (rowF ac ap ash an aob arq))] ∧ ((k8 = 1 ∧ inR x 0 300 = false) ∨ (k8 = 0 ∧ ∃ tm : Nat, x = nI tm ∧ tm ≤ 300 ∧ r = nI (fb_ct (fun c => br aob c tm) 150)))) := by
  refine jM.of (cc := cX8_brightCells) (maxL := 2) (ret := (some .int)) (by decide) rfl (Nat.le_of_ble_eq_true rfl) ?_
  intro X C rw_ hl hT hQ hnm
  subst hl; subst hT
  have hin8 : ∀ w ∈ u_ws RX8 TX8 19, w ∈ wsX8_brightCells := by decide +kernel
  have hl16 : Cond.fieldLink RX8 16 (TX8 3).1 (TX8 3).2.1 (TX8 3).2.2.1 ∈ wsX8_brightCells := by decide +kernel
  show jj X 0 0 0 [(0, .ref h8), (1, .int x)] [] [(h8, cO 8 [.int rf, .ref rv, .ref rn, .ref rnw, .ref rt, .ref rd, .int (nI na), .int (nI nx), .ref rk, .ref rik, .ref rdk, .ref rre, .ref rle, .ref rhe, .ref rth, .ref rpa, .ref ror, .int bv, .int bo]), (rv, cI (xT X) 450 cvec), (rnw, cI (xT X) 37 (rowF ac ap ash an aob arq))]
  refine j_aload_n C dX8_brightCells_0 0 rfl rfl ?_
  refine j_iload_n C dX8_brightCells_1 1 rfl rfl ?_
  refine j_callSR C (nA := 1) (As := [.int x]) (c_X8_isTime (xl X) (xT X) x ) gX8_brightCells_X8_isTime rfl (by decide +kernel) rfl ⟨rfl, rfl⟩ (by decide) (by decide) [] rfl rfl (rest := [.ref h8]) rfl (Nat.le_of_ble_eq_true rfl) dX8_brightCells_2 ?_
  rintro _ rfl
  show jj X 0 0 5 [(0, .ref h8), (1, .int x)] [.int (bI (inR x 0 300)), .ref h8] [(h8, cO 8 [.int rf, .ref rv, .ref rn, .ref rnw, .ref rt, .ref rd, .int (nI na), .int (nI nx), .ref rk, .ref rik, .ref rdk, .ref rre, .ref rle, .ref rhe, .ref rth, .ref rpa, .ref ror, .int bv, .int bo]), (rv, cI (xT X) 450 cvec), (rnw, cI (xT X) 37 (rowF ac ap ash an aob arq))]
  refine j_if_eq C dX8_brightCells_5 (tgt := 12) (by decide) (fun q5 => ?_) (fun q5 => ?_)
  · skip
    have q5 := (kb_eq).mp q5
    refine j_iconst C dX8_brightCells_12 (v := (nI 1)) kc_i_1 ?_
    refine j_callVM C rw_ (nA := 1) (As := [.int (nI 1)]) (wr := [(rv, cI (xT X) 450 cvec), (rnw, cI (xT X) 37 (rowF ac ap ash an aob arq))]) (c_X8_refused_s (xl X) (xT X) h8 rv rn rnw rt rd rk rik rdk rre rle rhe rth rpa ror na nx rf bv bo 1 (by omega) (by omega)) gX8_brightCells_X8_refused rfl (by decide +kernel) rfl (by decide) (by decide) [0] [1, 2] rfl rfl rfl rfl (by decide) 0 rfl rfl (rest := []) rfl (Nat.le_of_ble_eq_true rfl) dX8_brightCells_13 ?_
    rintro _ _ ⟨rfl, rfl⟩
    show jj X 0 0 16 [(0, .ref h8), (1, .int x)] [.int (bI true)] [(rv, cI (xT X) 450 cvec), (rnw, cI (xT X) 37 (rowF ac ap ash an aob arq)), (h8, cO 8 [.int (nI 1), .ref rv, .ref rn, .ref rnw, .ref rt, .ref rd, .int (nI na), .int (nI nx), .ref rk, .ref rik, .ref rdk, .ref rre, .ref rle, .ref rhe, .ref rth, .ref rpa, .ref ror, .int bv, .int bo])]
    refine j_if_eq C dX8_brightCells_16 (tgt := 21) (by decide) (fun h9 => absurd h9 (by decide +kernel)) (fun _ => ?_)
    refine j_iconst C dX8_brightCells_19 (v := (nI 0)) kc_i_0 ?_
    refine j_perm C (w' := [(h8, cO 8 [.int (nI 1), .ref rv, .ref rn, .ref rnw, .ref rt, .ref rd, .int (nI na), .int (nI nx), .ref rk, .ref rik, .ref rdk, .ref rre, .ref rle, .ref rhe, .ref rth, .ref rpa, .ref ror, .int bv, .int bo]), (rv, cI (xT X) 450 cvec), (rnw, cI (xT X) 37 (rowF ac ap ash an aob arq))]) [2, 0, 1] rfl rfl ?_
    refine j_iretM C rw_ hQ (by decide) (by decide) rfl ?_ dX8_brightCells_20
    exact ⟨1, _, rfl, rfl, Or.inl ⟨rfl, q5⟩⟩
  · skip
    have q5 := (kb_neq).mp q5
    refine j_iconst C dX8_brightCells_8 (v := (nI 0)) kc_i_0 ?_
    refine j_goto C dX8_brightCells_9 (tgt := 13) (by decide) ?_
    refine j_callVM C rw_ (nA := 1) (As := [.int (nI 0)]) (wr := [(rv, cI (xT X) 450 cvec), (rnw, cI (xT X) 37 (rowF ac ap ash an aob arq))]) (c_X8_refused_0 (xl X) (xT X) h8 rv rn rnw rt rd rk rik rdk rre rle rhe rth rpa ror na nx rf bv bo ) gX8_brightCells_X8_refused rfl (by decide +kernel) rfl (by decide) (by decide) [0] [1, 2] rfl rfl rfl rfl (by decide) 0 rfl rfl (rest := []) rfl (Nat.le_of_ble_eq_true rfl) dX8_brightCells_13 ?_
    rintro _ _ ⟨rfl, rfl⟩
    show jj X 0 0 16 [(0, .ref h8), (1, .int x)] [.int (bI false)] [(rv, cI (xT X) 450 cvec), (rnw, cI (xT X) 37 (rowF ac ap ash an aob arq)), (h8, cO 8 [.int (nI 0), .ref rv, .ref rn, .ref rnw, .ref rt, .ref rd, .int (nI na), .int (nI nx), .ref rk, .ref rik, .ref rdk, .ref rre, .ref rle, .ref rhe, .ref rth, .ref rpa, .ref ror, .int bv, .int bo])]
    refine j_if_eq C dX8_brightCells_16 (tgt := 21) (by decide) (fun _ => ?_) (fun h9 => absurd h9 (by decide +kernel))
    obtain ⟨tm, rfl, hb_tm⟩ := inR_N (b := 300) q5
    refine j_aload_n C dX8_brightCells_21 0 rfl rfl ?_
    refine j_aload_n C dX8_brightCells_22 0 rfl rfl ?_
    refine j_get C (hin8) (ci := 8) rfl 3 (by decide) (hl16) 2 rfl (v := .ref rnw) rfl dX8_brightCells_23 ?_
    refine j_iload_n C dX8_brightCells_26 1 rfl rfl ?_
    refine j_callVR C (nA := 2) (As := [.ref rnw, .int (nI tm)]) (c_X8_brightIn (xl X) (xT X) h8 rv rn rnw rt rd rk rik rdk rre rle rhe rth rpa ror na nx (nI 0) bv bo rnw tm (rowF ac ap ash an aob arq) (by exact row_co hco)) gX8_brightCells_X8_brightIn rfl (by decide +kernel) rfl ⟨rfl, rfl⟩ (by decide) (by decide) [2, 0, 1] rfl rfl 2 rfl rfl (rest := []) rfl (Nat.le_of_ble_eq_true rfl) dX8_brightCells_27 ?_
    rintro _ rfl
    show jj X 0 0 30 [(0, .ref h8), (1, .int (nI tm))] [.int (nI (fb_ct (fun c => br (rowF ac ap ash an aob arq) c tm) 150))] [(rv, cI (xT X) 450 cvec), (rnw, cI (xT X) 37 (rowF ac ap ash an aob arq)), (h8, cO 8 [.int (nI 0), .ref rv, .ref rn, .ref rnw, .ref rt, .ref rd, .int (nI na), .int (nI nx), .ref rk, .ref rik, .ref rdk, .ref rre, .ref rle, .ref rhe, .ref rth, .ref rpa, .ref ror, .int bv, .int bo])]
    refine j_perm C (w' := [(h8, cO 8 [.int (nI 0), .ref rv, .ref rn, .ref rnw, .ref rt, .ref rd, .int (nI na), .int (nI nx), .ref rk, .ref rik, .ref rdk, .ref rre, .ref rle, .ref rhe, .ref rth, .ref rpa, .ref ror, .int bv, .int bo]), (rv, cI (xT X) 450 cvec), (rnw, cI (xT X) 37 (rowF ac ap ash an aob arq))]) [2, 0, 1] rfl rfl ?_
    refine j_iretM C rw_ hQ (by decide) (by decide) rfl ?_ dX8_brightCells_30
    exact ⟨0, _, rfl, rfl, Or.inr (⟨rfl, tm, rfl, by omega, by simp only [row_brf]⟩)⟩

set_option maxHeartbeats 4000000 in
set_option maxRecDepth 100000 in
/-- firstBright -/
theorem c_X8_firstBright (l : Launch) (T : jj_T) (h8 rv rn rnw rt rd rk rik rdk rre rle rhe rth rpa ror na nx : Nat) (rf bv bo : Int32) (ac ap an : Nat) (ash : Bool) (aob arq : Nat → Int32) (x y : Int32) (hco : coI aob) : jM l T yX8_firstBright wsX8_firstBright { frames := 3, cells := 0, slots := 0, locals := 78 } [.ref h8, .int x, .int y] [(h8, cO 8 [.int rf, .ref rv, .ref rn, .ref rnw, .ref rt, .ref rd, .int (nI na), .int (nI nx), .ref rk, .ref rik, .ref rdk, .ref rre, .ref rle, .ref rhe, .ref rth, .ref rpa, .ref ror, .int bv, .int bo]), (rv, cI T 450 cvec), (rnw, cI T 37 (rowF ac ap ash an aob arq))] (fun v w1 => ∃ k8 : Nat, ∃ r : Int32, v = some (.int r) ∧ w1 = [(h8, cO 8 [.int (nI k8), .ref rv, .ref rn, .ref rnw, .ref rt, .ref rd, .int (nI na), .int (nI nx), .ref rk, .ref rik, .ref rdk, .ref rre, .ref rle, .ref rhe, .ref rth, .ref rpa, .ref ror, .int bv, .int bo]), (rv, cI T 450 cvec), (rnw, cI T 37 (rowF ac ap ash an aob arq))] ∧ ((k8 = 1 ∧ inR x 0 149 = false) ∨ (k8 = 2 ∧ inR x 0 149 = true ∧ inR y 0 300 = false) ∨ (k8 = 0 ∧ ∃ c fr : Nat, x = nI c ∧ y = nI fr ∧ c < 150 ∧ fr ≤ 300 ∧ ft_is (br aob c) fr 300 r))) := by
  refine jM.of (cc := cX8_firstBright) (maxL := 4) (ret := (some .int)) (by decide) rfl (Nat.le_of_ble_eq_true rfl) ?_
  intro X C rw_ hl hT hQ hnm
  subst hl; subst hT
  have hin8 : ∀ w ∈ u_ws RX8 TX8 19, w ∈ wsX8_firstBright := by decide +kernel
  have hl16 : Cond.fieldLink RX8 16 (TX8 3).1 (TX8 3).2.1 (TX8 3).2.2.1 ∈ wsX8_firstBright := by decide +kernel
  show jj X 0 0 0 [(0, .ref h8), (1, .int x), (2, .int y)] [] [(h8, cO 8 [.int rf, .ref rv, .ref rn, .ref rnw, .ref rt, .ref rd, .int (nI na), .int (nI nx), .ref rk, .ref rik, .ref rdk, .ref rre, .ref rle, .ref rhe, .ref rth, .ref rpa, .ref ror, .int bv, .int bo]), (rv, cI (xT X) 450 cvec), (rnw, cI (xT X) 37 (rowF ac ap ash an aob arq))]
  refine j_aload_n C dX8_firstBright_0 0 rfl rfl ?_
  refine j_iload_n C dX8_firstBright_1 1 rfl rfl ?_
  refine j_callSR C (nA := 1) (As := [.int x]) (c_X8_isCell (xl X) (xT X) x ) gX8_firstBright_X8_isCell rfl (by decide +kernel) rfl ⟨rfl, rfl⟩ (by decide) (by decide) [] rfl rfl (rest := [.ref h8]) rfl (Nat.le_of_ble_eq_true rfl) dX8_firstBright_2 ?_
  rintro _ rfl
  show jj X 0 0 5 [(0, .ref h8), (1, .int x), (2, .int y)] [.int (bI (inR x 0 149)), .ref h8] [(h8, cO 8 [.int rf, .ref rv, .ref rn, .ref rnw, .ref rt, .ref rd, .int (nI na), .int (nI nx), .ref rk, .ref rik, .ref rdk, .ref rre, .ref rle, .ref rhe, .ref rth, .ref rpa, .ref ror, .int bv, .int bo]), (rv, cI (xT X) 450 cvec), (rnw, cI (xT X) 37 (rowF ac ap ash an aob arq))]
  refine j_if_ne C dX8_firstBright_5 (tgt := 12) (by decide) (fun q5 => ?_) (fun q5 => ?_)
  · skip
    have q5 := (kb_ne).mp q5
    refine j_iload_n C dX8_firstBright_12 2 rfl rfl ?_
    refine j_callSR C (nA := 1) (As := [.int y]) (c_X8_isTime (xl X) (xT X) y ) gX8_firstBright_X8_isTime rfl (by decide +kernel) rfl ⟨rfl, rfl⟩ (by decide) (by decide) [] rfl rfl (rest := [.ref h8]) rfl (Nat.le_of_ble_eq_true rfl) dX8_firstBright_13 ?_
    rintro _ rfl
    show jj X 0 0 16 [(0, .ref h8), (1, .int x), (2, .int y)] [.int (bI (inR y 0 300)), .ref h8] [(h8, cO 8 [.int rf, .ref rv, .ref rn, .ref rnw, .ref rt, .ref rd, .int (nI na), .int (nI nx), .ref rk, .ref rik, .ref rdk, .ref rre, .ref rle, .ref rhe, .ref rth, .ref rpa, .ref ror, .int bv, .int bo]), (rv, cI (xT X) 450 cvec), (rnw, cI (xT X) 37 (rowF ac ap ash an aob arq))]
    refine j_if_ne C dX8_firstBright_16 (tgt := 23) (by decide) (fun q16 => ?_) (fun q16 => ?_)
    · skip
      have q16 := (kb_ne).mp q16
      refine j_iconst C dX8_firstBright_23 (v := (nI 0)) kc_i_0 ?_
      refine j_callVM C rw_ (nA := 1) (As := [.int (nI 0)]) (wr := [(rv, cI (xT X) 450 cvec), (rnw, cI (xT X) 37 (rowF ac ap ash an aob arq))]) (c_X8_refused_0 (xl X) (xT X) h8 rv rn rnw rt rd rk rik rdk rre rle rhe rth rpa ror na nx rf bv bo ) gX8_firstBright_X8_refused rfl (by decide +kernel) rfl (by decide) (by decide) [0] [1, 2] rfl rfl rfl rfl (by decide) 0 rfl rfl (rest := []) rfl (Nat.le_of_ble_eq_true rfl) dX8_firstBright_24 ?_
      rintro _ _ ⟨rfl, rfl⟩
      show jj X 0 0 27 [(0, .ref h8), (1, .int x), (2, .int y)] [.int (bI false)] [(rv, cI (xT X) 450 cvec), (rnw, cI (xT X) 37 (rowF ac ap ash an aob arq)), (h8, cO 8 [.int (nI 0), .ref rv, .ref rn, .ref rnw, .ref rt, .ref rd, .int (nI na), .int (nI nx), .ref rk, .ref rik, .ref rdk, .ref rre, .ref rle, .ref rhe, .ref rth, .ref rpa, .ref ror, .int bv, .int bo])]
      refine j_if_eq C dX8_firstBright_27 (tgt := 32) (by decide) (fun _ => ?_) (fun h9 => absurd h9 (by decide +kernel))
      obtain ⟨c, rfl, hb_c⟩ := inR_N (b := 149) q5
      obtain ⟨fr, rfl, hb_fr⟩ := inR_N (b := 300) q16
      refine j_iload_n C dX8_firstBright_32 2 rfl rfl ?_
      refine j_istore_n C dX8_firstBright_33 rfl (by decide) (lv' := [(3, .int (nI fr)), (0, .ref h8), (1, .int (nI c)), (2, .int (nI fr))]) rfl ?_
      refine j_lv [1, 2, 3, 0] rfl ?_
      suffices hc34 : ∀ (mm : Nat) (tm : Nat), 301 - tm < mm → (fr ≤ tm) → (tm ≤ 301) → (∀ d, fr ≤ d → d < tm → br aob c d = false) → jj X 0 0 34 [(0, .ref h8), (1, .int (nI c)), (2, .int (nI fr)), (3, .int (nI tm))] [] [(rv, cI (xT X) 450 cvec), (rnw, cI (xT X) 37 (rowF ac ap ash an aob arq)), (h8, cO 8 [.int (nI 0), .ref rv, .ref rn, .ref rnw, .ref rt, .ref rd, .int (nI na), .int (nI nx), .ref rk, .ref rik, .ref rdk, .ref rre, .ref rle, .ref rhe, .ref rth, .ref rpa, .ref ror, .int bv, .int bo])] by
        refine hc34 _ _ (Nat.lt_succ_self _) ?_ ?_ ?_
        · omega
        · omega
        · intro d h1 h2; omega
      intro mm
      induction mm with
      | zero => intro tm hm; exact absurd hm (Nat.not_lt_zero _)
      | succ mm ih34 =>
        intro tm hm34 ht1 ht2 hf
        refine j_iload_n C dX8_firstBright_34 3 rfl rfl ?_
        refine j_sipush C dX8_firstBright_35 (v := (nI 300)) kc_s_300 ?_
        refine j_icmp_gt C dX8_firstBright_38 (tgt := 62) (by decide) (fun q38 => ?_) (fun q38 => ?_)
        · skip
          have q38 := (kn_gt (a := tm) (b := 300) (by omega) (by omega)).mp q38
          refine j_bipush C dX8_firstBright_62 (v := (-9)) kc_b_m9 ?_
          refine j_perm C (w' := [(h8, cO 8 [.int (nI 0), .ref rv, .ref rn, .ref rnw, .ref rt, .ref rd, .int (nI na), .int (nI nx), .ref rk, .ref rik, .ref rdk, .ref rre, .ref rle, .ref rhe, .ref rth, .ref rpa, .ref ror, .int bv, .int bo]), (rv, cI (xT X) 450 cvec), (rnw, cI (xT X) 37 (rowF ac ap ash an aob arq))]) [2, 0, 1] rfl rfl ?_
          refine j_iretM C rw_ hQ (by decide) (by decide) rfl ?_ dX8_firstBright_64
          exact ⟨0, _, rfl, rfl, Or.inr (Or.inr (⟨rfl, c, fr, rfl, rfl, by omega, by omega, Or.inr ⟨fun t h1 h2 => hf t h1 (by omega), rfl⟩⟩))⟩
        · skip
          have q38 := (kn_ngt (a := tm) (b := 300) (by omega) (by omega)).mp q38
          refine j_aload_n C dX8_firstBright_41 0 rfl rfl ?_
          refine j_aload_n C dX8_firstBright_42 0 rfl rfl ?_
          refine j_get C (hin8) (ci := 8) rfl 3 (by decide) (hl16) 2 rfl (v := .ref rnw) rfl dX8_firstBright_43 ?_
          refine j_iload_n C dX8_firstBright_46 1 rfl rfl ?_
          refine j_iload_n C dX8_firstBright_47 3 rfl rfl ?_
          refine j_callVR C (nA := 3) (As := [.ref rnw, .int (nI c), .int (nI tm)]) (c_X8_isBrightIn (xl X) (xT X) h8 rv rn rnw rt rd rk rik rdk rre rle rhe rth rpa ror na nx (nI 0) bv bo rnw c tm (rowF ac ap ash an aob arq) (by omega) (by exact row_co hco)) gX8_firstBright_X8_isBrightIn rfl (by decide +kernel) rfl ⟨rfl, rfl⟩ (by decide) (by decide) [2, 0, 1] rfl rfl 2 rfl rfl (rest := []) rfl (Nat.le_of_ble_eq_true rfl) dX8_firstBright_48 ?_
          rintro _ rfl
          show jj X 0 0 51 [(0, .ref h8), (1, .int (nI c)), (2, .int (nI fr)), (3, .int (nI tm))] [.int (bI (br (rowF ac ap ash an aob arq) c tm))] [(rv, cI (xT X) 450 cvec), (rnw, cI (xT X) 37 (rowF ac ap ash an aob arq)), (h8, cO 8 [.int (nI 0), .ref rv, .ref rn, .ref rnw, .ref rt, .ref rd, .int (nI na), .int (nI nx), .ref rk, .ref rik, .ref rdk, .ref rre, .ref rle, .ref rhe, .ref rth, .ref rpa, .ref ror, .int bv, .int bo])]
          refine j_if_eq C dX8_firstBright_51 (tgt := 56) (by decide) (fun q51 => ?_) (fun q51 => ?_)
          · skip
            have q51 := (kb_eq).mp q51
            refine j_iinc C dX8_firstBright_56 (q := 3) (v := (nI (tm + 1))) rfl (kc_inc tm) (by decide) (lv' := [(3, .int (nI (tm + 1))), (0, .ref h8), (1, .int (nI c)), (2, .int (nI fr))]) rfl ?_
            refine j_goto C dX8_firstBright_59 (tgt := 34) (by decide) ?_
            refine j_lv [1, 2, 3, 0] rfl ?_
            refine ih34 _ (by omega) ?_ ?_ ?_
            · omega
            · omega
            · intro d h1 h2
              rw [row_br] at q51
              by_cases h : d = tm
              · rw [h]; exact q51
              · exact hf d h1 (by omega)
          · skip
            have q51 := (kb_neq).mp q51
            refine j_iload_n C dX8_firstBright_54 3 rfl rfl ?_
            refine j_perm C (w' := [(h8, cO 8 [.int (nI 0), .ref rv, .ref rn, .ref rnw, .ref rt, .ref rd, .int (nI na), .int (nI nx), .ref rk, .ref rik, .ref rdk, .ref rre, .ref rle, .ref rhe, .ref rth, .ref rpa, .ref ror, .int bv, .int bo]), (rv, cI (xT X) 450 cvec), (rnw, cI (xT X) 37 (rowF ac ap ash an aob arq))]) [2, 0, 1] rfl rfl ?_
            refine j_iretM C rw_ hQ (by decide) (by decide) rfl ?_ dX8_firstBright_55
            rw [row_br] at q51
            exact ⟨0, _, rfl, rfl, Or.inr (Or.inr ⟨rfl, c, fr, rfl, rfl, by omega, by omega, Or.inl ⟨tm, ht1, by omega, q51, hf, rfl⟩⟩)⟩
    · skip
      have q16 := (kb_nne).mp q16
      refine j_iconst C dX8_firstBright_19 (v := (nI 2)) kc_i_2 ?_
      refine j_goto C dX8_firstBright_20 (tgt := 24) (by decide) ?_
      refine j_callVM C rw_ (nA := 1) (As := [.int (nI 2)]) (wr := [(rv, cI (xT X) 450 cvec), (rnw, cI (xT X) 37 (rowF ac ap ash an aob arq))]) (c_X8_refused_s (xl X) (xT X) h8 rv rn rnw rt rd rk rik rdk rre rle rhe rth rpa ror na nx rf bv bo 2 (by omega) (by omega)) gX8_firstBright_X8_refused rfl (by decide +kernel) rfl (by decide) (by decide) [0] [1, 2] rfl rfl rfl rfl (by decide) 0 rfl rfl (rest := []) rfl (Nat.le_of_ble_eq_true rfl) dX8_firstBright_24 ?_
      rintro _ _ ⟨rfl, rfl⟩
      show jj X 0 0 27 [(0, .ref h8), (1, .int x), (2, .int y)] [.int (bI true)] [(rv, cI (xT X) 450 cvec), (rnw, cI (xT X) 37 (rowF ac ap ash an aob arq)), (h8, cO 8 [.int (nI 2), .ref rv, .ref rn, .ref rnw, .ref rt, .ref rd, .int (nI na), .int (nI nx), .ref rk, .ref rik, .ref rdk, .ref rre, .ref rle, .ref rhe, .ref rth, .ref rpa, .ref ror, .int bv, .int bo])]
      refine j_if_eq C dX8_firstBright_27 (tgt := 32) (by decide) (fun h9 => absurd h9 (by decide +kernel)) (fun _ => ?_)
      refine j_iconst C dX8_firstBright_30 (v := (nI 0)) kc_i_0 ?_
      refine j_perm C (w' := [(h8, cO 8 [.int (nI 2), .ref rv, .ref rn, .ref rnw, .ref rt, .ref rd, .int (nI na), .int (nI nx), .ref rk, .ref rik, .ref rdk, .ref rre, .ref rle, .ref rhe, .ref rth, .ref rpa, .ref ror, .int bv, .int bo]), (rv, cI (xT X) 450 cvec), (rnw, cI (xT X) 37 (rowF ac ap ash an aob arq))]) [2, 0, 1] rfl rfl ?_
      refine j_iretM C rw_ hQ (by decide) (by decide) rfl ?_ dX8_firstBright_31
      exact ⟨2, _, rfl, rfl, Or.inr (Or.inl ⟨rfl, q5, q16⟩)⟩
  · skip
    have q5 := (kb_nne).mp q5
    refine j_iconst C dX8_firstBright_8 (v := (nI 1)) kc_i_1 ?_
    refine j_goto C dX8_firstBright_9 (tgt := 24) (by decide) ?_
    refine j_callVM C rw_ (nA := 1) (As := [.int (nI 1)]) (wr := [(rv, cI (xT X) 450 cvec), (rnw, cI (xT X) 37 (rowF ac ap ash an aob arq))]) (c_X8_refused_s (xl X) (xT X) h8 rv rn rnw rt rd rk rik rdk rre rle rhe rth rpa ror na nx rf bv bo 1 (by omega) (by omega)) gX8_firstBright_X8_refused rfl (by decide +kernel) rfl (by decide) (by decide) [0] [1, 2] rfl rfl rfl rfl (by decide) 0 rfl rfl (rest := []) rfl (Nat.le_of_ble_eq_true rfl) dX8_firstBright_24 ?_
    rintro _ _ ⟨rfl, rfl⟩
    show jj X 0 0 27 [(0, .ref h8), (1, .int x), (2, .int y)] [.int (bI true)] [(rv, cI (xT X) 450 cvec), (rnw, cI (xT X) 37 (rowF ac ap ash an aob arq)), (h8, cO 8 [.int (nI 1), .ref rv, .ref rn, .ref rnw, .ref rt, .ref rd, .int (nI na), .int (nI nx), .ref rk, .ref rik, .ref rdk, .ref rre, .ref rle, .ref rhe, .ref rth, .ref rpa, .ref ror, .int bv, .int bo])]
    refine j_if_eq C dX8_firstBright_27 (tgt := 32) (by decide) (fun h9 => absurd h9 (by decide +kernel)) (fun _ => ?_)
    refine j_iconst C dX8_firstBright_30 (v := (nI 0)) kc_i_0 ?_
    refine j_perm C (w' := [(h8, cO 8 [.int (nI 1), .ref rv, .ref rn, .ref rnw, .ref rt, .ref rd, .int (nI na), .int (nI nx), .ref rk, .ref rik, .ref rdk, .ref rre, .ref rle, .ref rhe, .ref rth, .ref rpa, .ref ror, .int bv, .int bo]), (rv, cI (xT X) 450 cvec), (rnw, cI (xT X) 37 (rowF ac ap ash an aob arq))]) [2, 0, 1] rfl rfl ?_
    refine j_iretM C rw_ hQ (by decide) (by decide) rfl ?_ dX8_firstBright_31
    exact ⟨1, _, rfl, rfl, Or.inl ⟨rfl, q5⟩⟩

set_option maxHeartbeats 4000000 in
set_option maxRecDepth 100000 in
/-- cellOf(x, y, z) -/
theorem c_X8_cellOf (l : Launch) (T : jj_T) (h8 rv rn rnw rt rd rk rik rdk rre rle rhe rth rpa ror na nx : Nat) (rf bv bo : Int32) (x y z : Int32) : jM l T yX8_cellOf wsX8_cellOf { frames := 0, cells := 0, slots := 0, locals := 0 } [.ref h8, .int x, .int y, .int z] [(h8, cO 8 [.int rf, .ref rv, .ref rn, .ref rnw, .ref rt, .ref rd, .int (nI na), .int (nI nx), .ref rk, .ref rik, .ref rdk, .ref rre, .ref rle, .ref rhe, .ref rth, .ref rpa, .ref ror, .int bv, .int bo]), (rv, cI T 450 cvec)] (fun v w1 => ∃ r : Int32, v = some (.int r) ∧ w1 = [(h8, cO 8 [.int (nI 0), .ref rv, .ref rn, .ref rnw, .ref rt, .ref rd, .int (nI na), .int (nI nx), .ref rk, .ref rik, .ref rdk, .ref rre, .ref rle, .ref rhe, .ref rth, .ref rpa, .ref ror, .int bv, .int bo]), (rv, cI T 450 cvec)] ∧ (fs_is (fun c => decide (cvec (3 * c + 0) = x ∧ cvec (3 * c + 1) = y ∧ cvec (3 * c + 2) = z)) 150 r)) := by
  refine jM.of (cc := cX8_cellOf) (maxL := 5) (ret := (some .int)) (by decide) rfl (Nat.le_of_ble_eq_true rfl) ?_
  intro X C rw_ hl hT hQ hnm
  subst hl; subst hT
  have hin8 : ∀ w ∈ u_ws RX8 TX8 19, w ∈ wsX8_cellOf := by decide +kernel
  have hl7 : Cond.fieldLink RX8 7 (TX8 1).1 (TX8 1).2.1 (TX8 1).2.2.1 ∈ wsX8_cellOf := by decide +kernel
  have hl57 : Cond.fieldLink RX8 57 (TX8 0).1 (TX8 0).2.1 (TX8 0).2.2.1 ∈ wsX8_cellOf := by decide +kernel
  show jj X 0 0 0 [(0, .ref h8), (1, .int x), (2, .int y), (3, .int z)] [] [(h8, cO 8 [.int rf, .ref rv, .ref rn, .ref rnw, .ref rt, .ref rd, .int (nI na), .int (nI nx), .ref rk, .ref rik, .ref rdk, .ref rre, .ref rle, .ref rhe, .ref rth, .ref rpa, .ref ror, .int bv, .int bo]), (rv, cI (xT X) 450 cvec)]
  refine j_aload_n C dX8_cellOf_0 0 rfl rfl ?_
  refine j_iconst C dX8_cellOf_1 (v := (nI 0)) kc_i_0 ?_
  refine j_put C rw_ (hin8) tyX8 tyX8_ok nmX8 (ci := 8) rfl 0 (by decide) (hl57) (by decide +kernel) (ty := .int) (by decide +kernel) rfl rfl 0 rfl (Nat.le_of_ble_eq_true rfl) (w' := [(h8, cO 8 [.int (nI 0), .ref rv, .ref rn, .ref rnw, .ref rt, .ref rd, .int (nI na), .int (nI nx), .ref rk, .ref rik, .ref rdk, .ref rre, .ref rle, .ref rhe, .ref rth, .ref rpa, .ref ror, .int bv, .int bo]), (rv, cI (xT X) 450 cvec)]) rfl dX8_cellOf_2 ?_
  refine j_iconst C dX8_cellOf_5 (v := (nI 0)) kc_i_0 ?_
  refine j_istore C dX8_cellOf_6 (by decide) (lv' := [(4, .int (nI 0)), (0, .ref h8), (1, .int x), (2, .int y), (3, .int z)]) rfl ?_
  refine j_lv [1, 2, 3, 4, 0] rfl ?_
  suffices hc8 : ∀ (mm : Nat) (c : Nat), 150 - c < mm → (c ≤ 150) → (∀ d, d < c → ¬ (cvec (3 * d + 0) = x ∧ cvec (3 * d + 1) = y ∧ cvec (3 * d + 2) = z)) → jj X 0 0 8 [(0, .ref h8), (1, .int x), (2, .int y), (3, .int z), (4, .int (nI c))] [] [(h8, cO 8 [.int (nI 0), .ref rv, .ref rn, .ref rnw, .ref rt, .ref rd, .int (nI na), .int (nI nx), .ref rk, .ref rik, .ref rdk, .ref rre, .ref rle, .ref rhe, .ref rth, .ref rpa, .ref ror, .int bv, .int bo]), (rv, cI (xT X) 450 cvec)] by
    refine hc8 _ _ (Nat.lt_succ_self _) ?_ ?_
    · omega
    · intro d hd; omega
  intro mm
  induction mm with
  | zero => intro c hm; exact absurd hm (Nat.not_lt_zero _)
  | succ mm ih8 =>
    intro c hm8 hc hf
    refine j_iload C dX8_cellOf_8 4 rfl ?_
    refine j_sipush C dX8_cellOf_10 (v := (nI 150)) kc_s_150 ?_
    refine j_icmp_ge C dX8_cellOf_13 (tgt := 68) (by decide) (fun q13 => ?_) (fun q13 => ?_)
    · skip
      have q13 := (kn_ge (a := c) (b := 150) (by omega) (by omega)).mp q13
      refine j_bipush C dX8_cellOf_68 (v := (-9)) kc_b_m9 ?_
      refine j_iretM C rw_ hQ (by decide) (by decide) rfl ?_ dX8_cellOf_70
      exact ⟨_, rfl, rfl, Or.inr ⟨fun d hd => decide_eq_false (hf d (by omega)), rfl⟩⟩
    · skip
      have q13 := (kn_nge (a := c) (b := 150) (by omega) (by omega)).mp q13
      refine j_aload_n C dX8_cellOf_16 0 rfl rfl ?_
      refine j_get C (hin8) (ci := 8) rfl 1 (by decide) (hl7) 0 rfl (v := .ref rv) rfl dX8_cellOf_17 ?_
      refine j_iconst C dX8_cellOf_20 (v := (nI 3)) kc_i_3 ?_
      refine j_iload C dX8_cellOf_21 4 rfl ?_
      refine j_imul C dX8_cellOf_23 (v := (nI (3 * c))) (pk_mul _ _) ?_
      refine j_ialoadN C (3 * c) rfl 1 rfl (by omega) (by decide) dX8_cellOf_24 ?_
      refine j_iload_n C dX8_cellOf_25 1 rfl rfl ?_
      refine j_icmp_ne C dX8_cellOf_26 (tgt := 62) (by decide) (fun q26 => ?_) (fun q26 => ?_)
      · skip
        refine j_iinc C dX8_cellOf_62 (q := 4) (v := (nI (c + 1))) rfl (kc_inc c) (by decide) (lv' := [(4, .int (nI (c + 1))), (0, .ref h8), (1, .int x), (2, .int y), (3, .int z)]) rfl ?_
        refine j_goto C dX8_cellOf_65 (tgt := 8) (by decide) ?_
        refine j_lv [1, 2, 3, 4, 0] rfl ?_
        refine ih8 _ (by omega) ?_ ?_
        · omega
        · intro d hd
          by_cases h : d = c
          · rw [h]; exact fun q => q26 q.1
          · exact hf d (by omega)
      · skip
        refine j_aload_n C dX8_cellOf_29 0 rfl rfl ?_
        refine j_get C (hin8) (ci := 8) rfl 1 (by decide) (hl7) 0 rfl (v := .ref rv) rfl dX8_cellOf_30 ?_
        refine j_iconst C dX8_cellOf_33 (v := (nI 3)) kc_i_3 ?_
        refine j_iload C dX8_cellOf_34 4 rfl ?_
        refine j_imul C dX8_cellOf_36 (v := (nI (3 * c))) (pk_mul _ _) ?_
        refine j_iconst C dX8_cellOf_37 (v := (nI 1)) kc_i_1 ?_
        refine j_iadd C dX8_cellOf_38 (v := (nI (3 * c + 1))) (nI_add _ _) ?_
        refine j_ialoadN C (3 * c + 1) rfl 1 rfl (by omega) (by decide) dX8_cellOf_39 ?_
        refine j_iload_n C dX8_cellOf_40 2 rfl rfl ?_
        refine j_icmp_ne C dX8_cellOf_41 (tgt := 62) (by decide) (fun q41 => ?_) (fun q41 => ?_)
        · skip
          refine j_iinc C dX8_cellOf_62 (q := 4) (v := (nI (c + 1))) rfl (kc_inc c) (by decide) (lv' := [(4, .int (nI (c + 1))), (0, .ref h8), (1, .int x), (2, .int y), (3, .int z)]) rfl ?_
          refine j_goto C dX8_cellOf_65 (tgt := 8) (by decide) ?_
          refine j_lv [1, 2, 3, 4, 0] rfl ?_
          refine ih8 _ (by omega) ?_ ?_
          · omega
          · intro d hd
            by_cases h : d = c
            · rw [h]; exact fun q => q41 q.2.1
            · exact hf d (by omega)
        · skip
          refine j_aload_n C dX8_cellOf_44 0 rfl rfl ?_
          refine j_get C (hin8) (ci := 8) rfl 1 (by decide) (hl7) 0 rfl (v := .ref rv) rfl dX8_cellOf_45 ?_
          refine j_iconst C dX8_cellOf_48 (v := (nI 3)) kc_i_3 ?_
          refine j_iload C dX8_cellOf_49 4 rfl ?_
          refine j_imul C dX8_cellOf_51 (v := (nI (3 * c))) (pk_mul _ _) ?_
          refine j_iconst C dX8_cellOf_52 (v := (nI 2)) kc_i_2 ?_
          refine j_iadd C dX8_cellOf_53 (v := (nI (3 * c + 2))) (nI_add _ _) ?_
          refine j_ialoadN C (3 * c + 2) rfl 1 rfl (by omega) (by decide) dX8_cellOf_54 ?_
          refine j_iload_n C dX8_cellOf_55 3 rfl rfl ?_
          refine j_icmp_ne C dX8_cellOf_56 (tgt := 62) (by decide) (fun q56 => ?_) (fun q56 => ?_)
          · skip
            refine j_iinc C dX8_cellOf_62 (q := 4) (v := (nI (c + 1))) rfl (kc_inc c) (by decide) (lv' := [(4, .int (nI (c + 1))), (0, .ref h8), (1, .int x), (2, .int y), (3, .int z)]) rfl ?_
            refine j_goto C dX8_cellOf_65 (tgt := 8) (by decide) ?_
            refine j_lv [1, 2, 3, 4, 0] rfl ?_
            refine ih8 _ (by omega) ?_ ?_
            · omega
            · intro d hd
              by_cases h : d = c
              · rw [h]; exact fun q => q56 q.2.2
              · exact hf d (by omega)
          · skip
            refine j_iload C dX8_cellOf_59 4 rfl ?_
            refine j_iretM C rw_ hQ (by decide) (by decide) rfl ?_ dX8_cellOf_61
            exact ⟨_, rfl, rfl, Or.inl ⟨c, by omega, decide_eq_true ⟨q26, q41, q56⟩, fun d hd => decide_eq_false (hf d hd), rfl⟩⟩

set_option maxHeartbeats 4000000 in
set_option maxRecDepth 100000 in
/-- clock -/
theorem c_X8_clock (l : Launch) (T : jj_T) (h8 rv rn rnw rt rd rk rik rdk rre rle rhe rth rpa ror na nx : Nat) (rf bv bo : Int32) (ac ap an : Nat) (ash : Bool) (aob arq : Nat → Int32)  : jM l T yX8_clock wsX8_clock { frames := 0, cells := 0, slots := 0, locals := 0 } [.ref h8] [(h8, cO 8 [.int rf, .ref rv, .ref rn, .ref rnw, .ref rt, .ref rd, .int (nI na), .int (nI nx), .ref rk, .ref rik, .ref rdk, .ref rre, .ref rle, .ref rhe, .ref rth, .ref rpa, .ref ror, .int bv, .int bo]), (rnw, cI T 37 (rowF ac ap ash an aob arq))] (fun v w1 => v = some (.int (nI ac)) ∧ w1 = [(h8, cO 8 [.int (nI 0), .ref rv, .ref rn, .ref rnw, .ref rt, .ref rd, .int (nI na), .int (nI nx), .ref rk, .ref rik, .ref rdk, .ref rre, .ref rle, .ref rhe, .ref rth, .ref rpa, .ref ror, .int bv, .int bo]), (rnw, cI T 37 (rowF ac ap ash an aob arq))]) := by
  refine jM.of (cc := cX8_clock) (maxL := 1) (ret := (some .int)) (by decide) rfl (Nat.le_of_ble_eq_true rfl) ?_
  intro X C rw_ hl hT hQ hnm
  subst hl; subst hT
  have hin8 : ∀ w ∈ u_ws RX8 TX8 19, w ∈ wsX8_clock := by decide +kernel
  have hl16 : Cond.fieldLink RX8 16 (TX8 3).1 (TX8 3).2.1 (TX8 3).2.2.1 ∈ wsX8_clock := by decide +kernel
  have hl57 : Cond.fieldLink RX8 57 (TX8 0).1 (TX8 0).2.1 (TX8 0).2.2.1 ∈ wsX8_clock := by decide +kernel
  show jj X 0 0 0 [(0, .ref h8)] [] [(h8, cO 8 [.int rf, .ref rv, .ref rn, .ref rnw, .ref rt, .ref rd, .int (nI na), .int (nI nx), .ref rk, .ref rik, .ref rdk, .ref rre, .ref rle, .ref rhe, .ref rth, .ref rpa, .ref ror, .int bv, .int bo]), (rnw, cI (xT X) 37 (rowF ac ap ash an aob arq))]
  refine j_aload_n C dX8_clock_0 0 rfl rfl ?_
  refine j_iconst C dX8_clock_1 (v := (nI 0)) kc_i_0 ?_
  refine j_put C rw_ (hin8) tyX8 tyX8_ok nmX8 (ci := 8) rfl 0 (by decide) (hl57) (by decide +kernel) (ty := .int) (by decide +kernel) rfl rfl 0 rfl (Nat.le_of_ble_eq_true rfl) (w' := [(h8, cO 8 [.int (nI 0), .ref rv, .ref rn, .ref rnw, .ref rt, .ref rd, .int (nI na), .int (nI nx), .ref rk, .ref rik, .ref rdk, .ref rre, .ref rle, .ref rhe, .ref rth, .ref rpa, .ref ror, .int bv, .int bo]), (rnw, cI (xT X) 37 (rowF ac ap ash an aob arq))]) rfl dX8_clock_2 ?_
  refine j_aload_n C dX8_clock_5 0 rfl rfl ?_
  refine j_get C (hin8) (ci := 8) rfl 3 (by decide) (hl16) 0 rfl (v := .ref rnw) rfl dX8_clock_6 ?_
  refine j_bipush C dX8_clock_9 (v := (nI 21)) kc_b_21 ?_
  refine j_ialoadN C 21 rfl 1 rfl (by omega) (by decide) dX8_clock_11 ?_
  show jj X 0 0 12 [(0, .ref h8)] [.int (nI ac)] [(h8, cO 8 [.int (nI 0), .ref rv, .ref rn, .ref rnw, .ref rt, .ref rd, .int (nI na), .int (nI nx), .ref rk, .ref rik, .ref rdk, .ref rre, .ref rle, .ref rhe, .ref rth, .ref rpa, .ref ror, .int bv, .int bo]), (rnw, cI (xT X) 37 (rowF ac ap ash an aob arq))]
  refine j_iretM C rw_ hQ (by decide) (by decide) rfl ?_ dX8_clock_12
  exact ⟨rfl, rfl⟩

set_option maxHeartbeats 4000000 in
set_option maxRecDepth 100000 in
/-- position -/
theorem c_X8_position (l : Launch) (T : jj_T) (h8 rv rn rnw rt rd rk rik rdk rre rle rhe rth rpa ror na nx : Nat) (rf bv bo : Int32) (ac ap an : Nat) (ash : Bool) (aob arq : Nat → Int32)  : jM l T yX8_position wsX8_position { frames := 0, cells := 0, slots := 0, locals := 0 } [.ref h8] [(h8, cO 8 [.int rf, .ref rv, .ref rn, .ref rnw, .ref rt, .ref rd, .int (nI na), .int (nI nx), .ref rk, .ref rik, .ref rdk, .ref rre, .ref rle, .ref rhe, .ref rth, .ref rpa, .ref ror, .int bv, .int bo]), (rnw, cI T 37 (rowF ac ap ash an aob arq))] (fun v w1 => v = some (.int (nI ap)) ∧ w1 = [(h8, cO 8 [.int (nI 0), .ref rv, .ref rn, .ref rnw, .ref rt, .ref rd, .int (nI na), .int (nI nx), .ref rk, .ref rik, .ref rdk, .ref rre, .ref rle, .ref rhe, .ref rth, .ref rpa, .ref ror, .int bv, .int bo]), (rnw, cI T 37 (rowF ac ap ash an aob arq))]) := by
  refine jM.of (cc := cX8_position) (maxL := 1) (ret := (some .int)) (by decide) rfl (Nat.le_of_ble_eq_true rfl) ?_
  intro X C rw_ hl hT hQ hnm
  subst hl; subst hT
  have hin8 : ∀ w ∈ u_ws RX8 TX8 19, w ∈ wsX8_position := by decide +kernel
  have hl16 : Cond.fieldLink RX8 16 (TX8 3).1 (TX8 3).2.1 (TX8 3).2.2.1 ∈ wsX8_position := by decide +kernel
  have hl57 : Cond.fieldLink RX8 57 (TX8 0).1 (TX8 0).2.1 (TX8 0).2.2.1 ∈ wsX8_position := by decide +kernel
  show jj X 0 0 0 [(0, .ref h8)] [] [(h8, cO 8 [.int rf, .ref rv, .ref rn, .ref rnw, .ref rt, .ref rd, .int (nI na), .int (nI nx), .ref rk, .ref rik, .ref rdk, .ref rre, .ref rle, .ref rhe, .ref rth, .ref rpa, .ref ror, .int bv, .int bo]), (rnw, cI (xT X) 37 (rowF ac ap ash an aob arq))]
  refine j_aload_n C dX8_position_0 0 rfl rfl ?_
  refine j_iconst C dX8_position_1 (v := (nI 0)) kc_i_0 ?_
  refine j_put C rw_ (hin8) tyX8 tyX8_ok nmX8 (ci := 8) rfl 0 (by decide) (hl57) (by decide +kernel) (ty := .int) (by decide +kernel) rfl rfl 0 rfl (Nat.le_of_ble_eq_true rfl) (w' := [(h8, cO 8 [.int (nI 0), .ref rv, .ref rn, .ref rnw, .ref rt, .ref rd, .int (nI na), .int (nI nx), .ref rk, .ref rik, .ref rdk, .ref rre, .ref rle, .ref rhe, .ref rth, .ref rpa, .ref ror, .int bv, .int bo]), (rnw, cI (xT X) 37 (rowF ac ap ash an aob arq))]) rfl dX8_position_2 ?_
  refine j_aload_n C dX8_position_5 0 rfl rfl ?_
  refine j_get C (hin8) (ci := 8) rfl 3 (by decide) (hl16) 0 rfl (v := .ref rnw) rfl dX8_position_6 ?_
  refine j_bipush C dX8_position_9 (v := (nI 22)) kc_b_22 ?_
  refine j_ialoadN C 22 rfl 1 rfl (by omega) (by decide) dX8_position_11 ?_
  show jj X 0 0 12 [(0, .ref h8)] [.int (nI ap)] [(h8, cO 8 [.int (nI 0), .ref rv, .ref rn, .ref rnw, .ref rt, .ref rd, .int (nI na), .int (nI nx), .ref rk, .ref rik, .ref rdk, .ref rre, .ref rle, .ref rhe, .ref rth, .ref rpa, .ref ror, .int bv, .int bo]), (rnw, cI (xT X) 37 (rowF ac ap ash an aob arq))]
  refine j_iretM C rw_ hQ (by decide) (by decide) rfl ?_ dX8_position_12
  exact ⟨rfl, rfl⟩

set_option maxHeartbeats 4000000 in
set_option maxRecDepth 100000 in
/-- requestCount -/
theorem c_X8_requestCount (l : Launch) (T : jj_T) (h8 rv rn rnw rt rd rk rik rdk rre rle rhe rth rpa ror na nx : Nat) (rf bv bo : Int32) (ac ap an : Nat) (ash : Bool) (aob arq : Nat → Int32)  : jM l T yX8_requestCount wsX8_requestCount { frames := 0, cells := 0, slots := 0, locals := 0 } [.ref h8] [(h8, cO 8 [.int rf, .ref rv, .ref rn, .ref rnw, .ref rt, .ref rd, .int (nI na), .int (nI nx), .ref rk, .ref rik, .ref rdk, .ref rre, .ref rle, .ref rhe, .ref rth, .ref rpa, .ref ror, .int bv, .int bo]), (rnw, cI T 37 (rowF ac ap ash an aob arq))] (fun v w1 => v = some (.int (nI an)) ∧ w1 = [(h8, cO 8 [.int (nI 0), .ref rv, .ref rn, .ref rnw, .ref rt, .ref rd, .int (nI na), .int (nI nx), .ref rk, .ref rik, .ref rdk, .ref rre, .ref rle, .ref rhe, .ref rth, .ref rpa, .ref ror, .int bv, .int bo]), (rnw, cI T 37 (rowF ac ap ash an aob arq))]) := by
  refine jM.of (cc := cX8_requestCount) (maxL := 1) (ret := (some .int)) (by decide) rfl (Nat.le_of_ble_eq_true rfl) ?_
  intro X C rw_ hl hT hQ hnm
  subst hl; subst hT
  have hin8 : ∀ w ∈ u_ws RX8 TX8 19, w ∈ wsX8_requestCount := by decide +kernel
  have hl16 : Cond.fieldLink RX8 16 (TX8 3).1 (TX8 3).2.1 (TX8 3).2.2.1 ∈ wsX8_requestCount := by decide +kernel
  have hl57 : Cond.fieldLink RX8 57 (TX8 0).1 (TX8 0).2.1 (TX8 0).2.2.1 ∈ wsX8_requestCount := by decide +kernel
  show jj X 0 0 0 [(0, .ref h8)] [] [(h8, cO 8 [.int rf, .ref rv, .ref rn, .ref rnw, .ref rt, .ref rd, .int (nI na), .int (nI nx), .ref rk, .ref rik, .ref rdk, .ref rre, .ref rle, .ref rhe, .ref rth, .ref rpa, .ref ror, .int bv, .int bo]), (rnw, cI (xT X) 37 (rowF ac ap ash an aob arq))]
  refine j_aload_n C dX8_requestCount_0 0 rfl rfl ?_
  refine j_iconst C dX8_requestCount_1 (v := (nI 0)) kc_i_0 ?_
  refine j_put C rw_ (hin8) tyX8 tyX8_ok nmX8 (ci := 8) rfl 0 (by decide) (hl57) (by decide +kernel) (ty := .int) (by decide +kernel) rfl rfl 0 rfl (Nat.le_of_ble_eq_true rfl) (w' := [(h8, cO 8 [.int (nI 0), .ref rv, .ref rn, .ref rnw, .ref rt, .ref rd, .int (nI na), .int (nI nx), .ref rk, .ref rik, .ref rdk, .ref rre, .ref rle, .ref rhe, .ref rth, .ref rpa, .ref ror, .int bv, .int bo]), (rnw, cI (xT X) 37 (rowF ac ap ash an aob arq))]) rfl dX8_requestCount_2 ?_
  refine j_aload_n C dX8_requestCount_5 0 rfl rfl ?_
  refine j_get C (hin8) (ci := 8) rfl 3 (by decide) (hl16) 0 rfl (v := .ref rnw) rfl dX8_requestCount_6 ?_
  refine j_bipush C dX8_requestCount_9 (v := (nI 24)) kc_b_24 ?_
  refine j_ialoadN C 24 rfl 1 rfl (by omega) (by decide) dX8_requestCount_11 ?_
  show jj X 0 0 12 [(0, .ref h8)] [.int (nI an)] [(h8, cO 8 [.int (nI 0), .ref rv, .ref rn, .ref rnw, .ref rt, .ref rd, .int (nI na), .int (nI nx), .ref rk, .ref rik, .ref rdk, .ref rre, .ref rle, .ref rhe, .ref rth, .ref rpa, .ref ror, .int bv, .int bo]), (rnw, cI (xT X) 37 (rowF ac ap ash an aob arq))]
  refine j_iretM C rw_ hQ (by decide) (by decide) rfl ?_ dX8_requestCount_12
  exact ⟨rfl, rfl⟩

set_option maxHeartbeats 4000000 in
set_option maxRecDepth 100000 in
/-- isClosed -/
theorem c_X8_isClosed (l : Launch) (T : jj_T) (h8 rv rn rnw rt rd rk rik rdk rre rle rhe rth rpa ror na nx : Nat) (rf bv bo : Int32) (ac ap an : Nat) (ash : Bool) (aob arq : Nat → Int32)  : jM l T yX8_isClosed wsX8_isClosed { frames := 0, cells := 0, slots := 0, locals := 0 } [.ref h8] [(h8, cO 8 [.int rf, .ref rv, .ref rn, .ref rnw, .ref rt, .ref rd, .int (nI na), .int (nI nx), .ref rk, .ref rik, .ref rdk, .ref rre, .ref rle, .ref rhe, .ref rth, .ref rpa, .ref ror, .int bv, .int bo]), (rnw, cI T 37 (rowF ac ap ash an aob arq))] (fun v w1 => v = some (.int (bI ash)) ∧ w1 = [(h8, cO 8 [.int (nI 0), .ref rv, .ref rn, .ref rnw, .ref rt, .ref rd, .int (nI na), .int (nI nx), .ref rk, .ref rik, .ref rdk, .ref rre, .ref rle, .ref rhe, .ref rth, .ref rpa, .ref ror, .int bv, .int bo]), (rnw, cI T 37 (rowF ac ap ash an aob arq))]) := by
  refine jM.of (cc := cX8_isClosed) (maxL := 1) (ret := (some .boolean)) (by decide) rfl (Nat.le_of_ble_eq_true rfl) ?_
  intro X C rw_ hl hT hQ hnm
  subst hl; subst hT
  have hin8 : ∀ w ∈ u_ws RX8 TX8 19, w ∈ wsX8_isClosed := by decide +kernel
  have hl16 : Cond.fieldLink RX8 16 (TX8 3).1 (TX8 3).2.1 (TX8 3).2.2.1 ∈ wsX8_isClosed := by decide +kernel
  have hl57 : Cond.fieldLink RX8 57 (TX8 0).1 (TX8 0).2.1 (TX8 0).2.2.1 ∈ wsX8_isClosed := by decide +kernel
  show jj X 0 0 0 [(0, .ref h8)] [] [(h8, cO 8 [.int rf, .ref rv, .ref rn, .ref rnw, .ref rt, .ref rd, .int (nI na), .int (nI nx), .ref rk, .ref rik, .ref rdk, .ref rre, .ref rle, .ref rhe, .ref rth, .ref rpa, .ref ror, .int bv, .int bo]), (rnw, cI (xT X) 37 (rowF ac ap ash an aob arq))]
  refine j_aload_n C dX8_isClosed_0 0 rfl rfl ?_
  refine j_iconst C dX8_isClosed_1 (v := (nI 0)) kc_i_0 ?_
  refine j_put C rw_ (hin8) tyX8 tyX8_ok nmX8 (ci := 8) rfl 0 (by decide) (hl57) (by decide +kernel) (ty := .int) (by decide +kernel) rfl rfl 0 rfl (Nat.le_of_ble_eq_true rfl) (w' := [(h8, cO 8 [.int (nI 0), .ref rv, .ref rn, .ref rnw, .ref rt, .ref rd, .int (nI na), .int (nI nx), .ref rk, .ref rik, .ref rdk, .ref rre, .ref rle, .ref rhe, .ref rth, .ref rpa, .ref ror, .int bv, .int bo]), (rnw, cI (xT X) 37 (rowF ac ap ash an aob arq))]) rfl dX8_isClosed_2 ?_
  refine j_aload_n C dX8_isClosed_5 0 rfl rfl ?_
  refine j_get C (hin8) (ci := 8) rfl 3 (by decide) (hl16) 0 rfl (v := .ref rnw) rfl dX8_isClosed_6 ?_
  refine j_bipush C dX8_isClosed_9 (v := (nI 23)) kc_b_23 ?_
  refine j_ialoadN C 23 rfl 1 rfl (by omega) (by decide) dX8_isClosed_11 ?_
  show jj X 0 0 12 [(0, .ref h8)] [.int (bI ash)] [(h8, cO 8 [.int (nI 0), .ref rv, .ref rn, .ref rnw, .ref rt, .ref rd, .int (nI na), .int (nI nx), .ref rk, .ref rik, .ref rdk, .ref rre, .ref rle, .ref rhe, .ref rth, .ref rpa, .ref ror, .int bv, .int bo]), (rnw, cI (xT X) 37 (rowF ac ap ash an aob arq))]
  refine j_iconst C dX8_isClosed_12 (v := (nI 1)) kc_i_1 ?_
  refine j_icmp_ne C dX8_isClosed_13 (tgt := 20) (by decide) (fun q13 => ?_) (fun q13 => ?_)
  · skip
    refine j_iconst C dX8_isClosed_20 (v := (nI 0)) kc_i_0 ?_
    refine j_iretM C rw_ hQ (by decide) (by decide) (by decide +kernel) ?_ dX8_isClosed_21
    exact ⟨kb_f (bI_ne1 q13), rfl⟩
  · skip
    refine j_iconst C dX8_isClosed_16 (v := (nI 1)) kc_i_1 ?_
    refine j_goto C dX8_isClosed_17 (tgt := 21) (by decide) ?_
    refine j_iretM C rw_ hQ (by decide) (by decide) (by decide +kernel) ?_ dX8_isClosed_21
    exact ⟨kb_t (bI_eq1 q13), rfl⟩
