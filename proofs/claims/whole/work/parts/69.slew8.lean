/-! THE MODEL: slew -/
set_option maxHeartbeats 4000000 in
set_option maxRecDepth 100000 in
/-- slew(cell) -/
theorem c_X8_slew (l : Launch) (T : jj_T) (h8 rv rn rnw rt rd rk rik rdk rre rle rhe rth rpa ror na nx : Nat) (rf bv bo : Int32) (ac ap an : Nat) (ash : Bool) (aob arq : Nat → Int32) (dk re : Nat → Bool) (D : Nat → Int32) (x : Int32) (hna : na ≤ 14) (hnx : nx < 14) (hap : ap < 150) (hac : ac ≤ 200) (hco : coI aob) : jM l T yX8_slew wsX8_slew { frames := 6, cells := 0, slots := 0, locals := 143 } [.ref h8, .int x] [(h8, cO 8 [.int rf, .ref rv, .ref rn, .ref rnw, .ref rt, .ref rd, .int (nI na), .int (nI nx), .ref rk, .ref rik, .ref rdk, .ref rre, .ref rle, .ref rhe, .ref rth, .ref rpa, .ref ror, .int bv, .int bo]), (rv, cI T 450 cvec), (rn, cI T 600 (fun j => nI (near4 j))), (rnw, cI T 37 (rowF ac ap ash an aob arq)), (rdk, cZ T 15300 (fun j => bI (dk j))), (rre, cZ T 9150 (fun j => bI (re j))), (rd, cI T 518 D)] (fun v w1 => ∃ (k8 : Nat) (r : Int32), v = some (.int r) ∧ ((w1 = [(h8, cO 8 [.int (nI k8), .ref rv, .ref rn, .ref rnw, .ref rt, .ref rd, .int (nI na), .int (nI nx), .ref rk, .ref rik, .ref rdk, .ref rre, .ref rle, .ref rhe, .ref rth, .ref rpa, .ref ror, .int bv, .int bo]), (rv, cI T 450 cvec), (rn, cI T 600 (fun j => nI (near4 j))), (rnw, cI T 37 (rowF ac ap ash an aob arq)), (rdk, cZ T 15300 (fun j => bI (dk j))), (rre, cZ T 9150 (fun j => bI (re j))), (rd, cI T 518 D)] ∧ ((k8 = 1 ∧ inR x 0 149 = false) ∨ (k8 = 2 ∧ inR x 0 149 = true ∧ ash = true))) ∨ (w1 = [(h8, cO 8 [.int (nI 2), .ref rv, .ref rn, .ref rnw, .ref rt, .ref rd, .int (nI na), .int (nI nx), .ref rk, .ref rik, .ref rdk, .ref rre, .ref rle, .ref rhe, .ref rth, .ref rpa, .ref ror, .int bv, .int bo]), (rv, cI T 450 cvec), (rn, cI T 600 (fun j => nI (near4 j))), (rnw, cI T 37 (rowF ac ap ash an aob arq)), (rdk, cZ T 15300 (fun j => bI (flB (dkP aob ac) dk (150 * (60 + 1)) j))), (rre, cZ T 9150 (fun j => bI (flB (rcP aob ac ap) re (150 * (60 + 1)) j))), (rd, cI T 518 D)] ∧ k8 = 2 ∧ inR x 0 149 = true ∧ ash = false ∧ ∃ (c : Nat) (r0 : Int32), x = nI c ∧ c < 150 ∧ ft_is (fun s => rc aob ac ap s c) 0 60  r0 ∧ (r0 = -9 ∨ ∃ j : Nat, r0 = nI j ∧ j ≤ 60 ∧ 200 < ac + j)) ∨ (k8 = 0 ∧ ∃ c j : Nat, w1 = [(h8, cO 8 [.int (nI 0), .ref rv, .ref rn, .ref rnw, .ref rt, .ref rd, .int (nI (if na < 14 then na + 1 else 14)), .int (nI ((nx + 1) % 14)), .ref rk, .ref rik, .ref rdk, .ref rre, .ref rle, .ref rhe, .ref rth, .ref rpa, .ref ror, .int bv, .int bo]), (rv, cI T 450 cvec), (rn, cI T 600 (fun j => nI (near4 j))), (rnw, cI T 37 (rowF (ac + j) c ash an aob arq)), (rdk, cZ T 15300 (fun j => bI (flB (dkP aob ac) dk (150 * (60 + 1)) j))), (rre, cZ T 9150 (fun j => bI (flB (rcP aob ac ap) re (150 * (60 + 1)) j))), (rd, cI T 518 (dgN D nx (rowF ac ap ash an aob arq)))] ∧ x = nI c ∧ c < 150 ∧ ash = false ∧ ft_is (fun s => rc aob ac ap s c) 0 60  (nI j) ∧ j ≤ 60 ∧ ac + j ≤ 200 ∧ r = nI j))) := by
  refine jM.of (cc := cX8_slew) (maxL := 3) (ret := (some .int)) (by decide) rfl (Nat.le_of_ble_eq_true rfl) ?_
  intro X C rw_ hl hT hQ hnm
  subst hl; subst hT
  have hin8 : ∀ w ∈ u_ws RX8 TX8 19, w ∈ wsX8_slew := by decide +kernel
  have hl16 : Cond.fieldLink RX8 16 (TX8 3).1 (TX8 3).2.1 (TX8 3).2.2.1 ∈ wsX8_slew := by decide +kernel
  show jj X 0 0 0 [(0, .ref h8), (1, .int x)] [] [(h8, cO 8 [.int rf, .ref rv, .ref rn, .ref rnw, .ref rt, .ref rd, .int (nI na), .int (nI nx), .ref rk, .ref rik, .ref rdk, .ref rre, .ref rle, .ref rhe, .ref rth, .ref rpa, .ref ror, .int bv, .int bo]), (rv, cI (xT X) 450 cvec), (rn, cI (xT X) 600 (fun j => nI (near4 j))), (rnw, cI (xT X) 37 (rowF ac ap ash an aob arq)), (rdk, cZ (xT X) 15300 (fun j => bI (dk j))), (rre, cZ (xT X) 9150 (fun j => bI (re j))), (rd, cI (xT X) 518 D)]
  refine j_aload_n C dX8_slew_0 0 rfl rfl ?_
  refine j_iload_n C dX8_slew_1 1 rfl rfl ?_
  refine j_callSR C (nA := 1) (As := [.int x]) (c_X8_isCell (xl X) (xT X) x ) gX8_slew_X8_isCell rfl (by decide +kernel) rfl ⟨rfl, rfl⟩ (by decide) (by decide) [] rfl rfl (rest := [.ref h8]) rfl (Nat.le_of_ble_eq_true rfl) dX8_slew_2 ?_
  rintro _ rfl
  show jj X 0 0 5 [(0, .ref h8), (1, .int x)] [.int (bI (inR x 0 149)), .ref h8] [(h8, cO 8 [.int rf, .ref rv, .ref rn, .ref rnw, .ref rt, .ref rd, .int (nI na), .int (nI nx), .ref rk, .ref rik, .ref rdk, .ref rre, .ref rle, .ref rhe, .ref rth, .ref rpa, .ref ror, .int bv, .int bo]), (rv, cI (xT X) 450 cvec), (rn, cI (xT X) 600 (fun j => nI (near4 j))), (rnw, cI (xT X) 37 (rowF ac ap ash an aob arq)), (rdk, cZ (xT X) 15300 (fun j => bI (dk j))), (rre, cZ (xT X) 9150 (fun j => bI (re j))), (rd, cI (xT X) 518 D)]
  refine j_if_ne C dX8_slew_5 (tgt := 12) (by decide) (fun q5 => ?_) (fun q5 => ?_)
  · skip
    have q5 := (kb_ne).mp q5
    obtain ⟨c, rfl, hb_c⟩ := inR_N (b := 149) q5
    refine j_aload_n C dX8_slew_12 0 rfl rfl ?_
    refine j_get C (hin8) (ci := 8) rfl 3 (by decide) (hl16) 0 rfl (v := .ref rnw) rfl dX8_slew_13 ?_
    refine j_bipush C dX8_slew_16 (v := (nI 23)) kc_b_23 ?_
    refine j_ialoadN C 23 rfl 3 rfl (by omega) (by decide) dX8_slew_18 ?_
    show jj X 0 0 19 [(0, .ref h8), (1, .int (nI c))] [.int (bI ash), .ref h8] [(h8, cO 8 [.int rf, .ref rv, .ref rn, .ref rnw, .ref rt, .ref rd, .int (nI na), .int (nI nx), .ref rk, .ref rik, .ref rdk, .ref rre, .ref rle, .ref rhe, .ref rth, .ref rpa, .ref ror, .int bv, .int bo]), (rv, cI (xT X) 450 cvec), (rn, cI (xT X) 600 (fun j => nI (near4 j))), (rnw, cI (xT X) 37 (rowF ac ap ash an aob arq)), (rdk, cZ (xT X) 15300 (fun j => bI (dk j))), (rre, cZ (xT X) 9150 (fun j => bI (re j))), (rd, cI (xT X) 518 D)]
    refine j_iconst C dX8_slew_19 (v := (nI 1)) kc_i_1 ?_
    refine j_icmp_ne C dX8_slew_20 (tgt := 27) (by decide) (fun q20 => ?_) (fun q20 => ?_)
    · skip
      refine j_iconst C dX8_slew_27 (v := (nI 0)) kc_i_0 ?_
      refine j_callVM C rw_ (nA := 1) (As := [.int (nI 0)]) (wr := [(rv, cI (xT X) 450 cvec), (rn, cI (xT X) 600 (fun j => nI (near4 j))), (rnw, cI (xT X) 37 (rowF ac ap ash an aob arq)), (rdk, cZ (xT X) 15300 (fun j => bI (dk j))), (rre, cZ (xT X) 9150 (fun j => bI (re j))), (rd, cI (xT X) 518 D)]) (c_X8_refused_0 (xl X) (xT X) h8 rv rn rnw rt rd rk rik rdk rre rle rhe rth rpa ror na nx rf bv bo ) gX8_slew_X8_refused rfl (by decide +kernel) rfl (by decide) (by decide) [0] [1, 2, 3, 4, 5, 6] rfl rfl rfl rfl (by decide) 0 rfl rfl (rest := []) rfl (Nat.le_of_ble_eq_true rfl) dX8_slew_28 ?_
      rintro _ _ ⟨rfl, rfl⟩
      show jj X 0 0 31 [(0, .ref h8), (1, .int (nI c))] [.int (bI false)] [(rv, cI (xT X) 450 cvec), (rn, cI (xT X) 600 (fun j => nI (near4 j))), (rnw, cI (xT X) 37 (rowF ac ap ash an aob arq)), (rdk, cZ (xT X) 15300 (fun j => bI (dk j))), (rre, cZ (xT X) 9150 (fun j => bI (re j))), (rd, cI (xT X) 518 D), (h8, cO 8 [.int (nI 0), .ref rv, .ref rn, .ref rnw, .ref rt, .ref rd, .int (nI na), .int (nI nx), .ref rk, .ref rik, .ref rdk, .ref rre, .ref rle, .ref rhe, .ref rth, .ref rpa, .ref ror, .int bv, .int bo])]
      refine j_if_eq C dX8_slew_31 (tgt := 36) (by decide) (fun _ => ?_) (fun h9 => absurd h9 (by decide +kernel))
      refine j_aload_n C dX8_slew_36 0 rfl rfl ?_
      refine j_iload_n C dX8_slew_37 1 rfl rfl ?_
      refine j_callVM C rw_ (nA := 1) (As := [.int (nI c)]) (wr := [(rd, cI (xT X) 518 D)]) (c_X8_arrivalOf (xl X) (xT X) h8 rv rn rnw rt rd rk rik rdk rre rle rhe rth rpa ror na nx (nI 0) bv bo ac ap an ash aob arq dk re c (by exact hap) (by exact hac) (by exact hco) (by omega)) gX8_slew_X8_arrivalOf rfl (by decide +kernel) rfl (by decide) (by decide) [6, 0, 1, 2, 3, 4] [5] rfl rfl rfl rfl (by decide) 6 rfl rfl (rest := []) rfl (Nat.le_of_ble_eq_true rfl) dX8_slew_38 ?_
      rintro _ _ ⟨r_1, rfl, rfl, hr⟩
      show jj X 0 0 41 [(0, .ref h8), (1, .int (nI c))] [.int r_1] [(rd, cI (xT X) 518 D), (h8, cO 8 [.int (nI 0), .ref rv, .ref rn, .ref rnw, .ref rt, .ref rd, .int (nI na), .int (nI nx), .ref rk, .ref rik, .ref rdk, .ref rre, .ref rle, .ref rhe, .ref rth, .ref rpa, .ref ror, .int bv, .int bo]), (rv, cI (xT X) 450 cvec), (rn, cI (xT X) 600 (fun j => nI (near4 j))), (rnw, cI (xT X) 37 (rowF ac ap ash an aob arq)), (rdk, cZ (xT X) 15300 (fun j => bI (flB (dkP aob ac) dk (150 * (60 + 1)) j))), (rre, cZ (xT X) 9150 (fun j => bI (flB (rcP aob ac ap) re (150 * (60 + 1)) j)))]
      refine j_istore_n C dX8_slew_41 rfl (by decide) (lv' := [(2, .int r_1), (0, .ref h8), (1, .int (nI c))]) rfl ?_
      refine j_aload_n C dX8_slew_42 1 rfl rfl ?_
      refine j_iload_n C dX8_slew_43 0 rfl rfl ?_
      refine j_bipush C dX8_slew_44 (v := (-9)) kc_b_m9 ?_
      refine j_icmp_eq C dX8_slew_46 (tgt := 64) (by decide) (fun q46 => ?_) (fun q46 => ?_)
      · skip
        refine j_iconst C dX8_slew_64 (v := (nI 2)) kc_i_2 ?_
        refine j_goto C dX8_slew_65 (tgt := 69) (by decide) ?_
        refine j_callVM C rw_ (nA := 1) (As := [.int (nI 2)]) (wr := [(rd, cI (xT X) 518 D), (rv, cI (xT X) 450 cvec), (rn, cI (xT X) 600 (fun j => nI (near4 j))), (rnw, cI (xT X) 37 (rowF ac ap ash an aob arq)), (rdk, cZ (xT X) 15300 (fun j => bI (flB (dkP aob ac) dk (150 * (60 + 1)) j))), (rre, cZ (xT X) 9150 (fun j => bI (flB (rcP aob ac ap) re (150 * (60 + 1)) j)))]) (c_X8_refused_s (xl X) (xT X) h8 rv rn rnw rt rd rk rik rdk rre rle rhe rth rpa ror na nx (nI 0) bv bo 2 (by omega) (by omega)) gX8_slew_X8_refused rfl (by decide +kernel) rfl (by decide) (by decide) [1] [0, 2, 3, 4, 5, 6] rfl rfl rfl rfl (by decide) 1 rfl rfl (rest := []) rfl (Nat.le_of_ble_eq_true rfl) dX8_slew_69 ?_
        rintro _ _ ⟨rfl, rfl⟩
        show jj X 0 0 72 [(2, .int r_1), (0, .ref h8), (1, .int (nI c))] [.int (bI true)] [(rd, cI (xT X) 518 D), (rv, cI (xT X) 450 cvec), (rn, cI (xT X) 600 (fun j => nI (near4 j))), (rnw, cI (xT X) 37 (rowF ac ap ash an aob arq)), (rdk, cZ (xT X) 15300 (fun j => bI (flB (dkP aob ac) dk (150 * (60 + 1)) j))), (rre, cZ (xT X) 9150 (fun j => bI (flB (rcP aob ac ap) re (150 * (60 + 1)) j))), (h8, cO 8 [.int (nI 2), .ref rv, .ref rn, .ref rnw, .ref rt, .ref rd, .int (nI na), .int (nI nx), .ref rk, .ref rik, .ref rdk, .ref rre, .ref rle, .ref rhe, .ref rth, .ref rpa, .ref ror, .int bv, .int bo])]
        refine j_if_eq C dX8_slew_72 (tgt := 77) (by decide) (fun h9 => absurd h9 (by decide +kernel)) (fun _ => ?_)
        refine j_iconst C dX8_slew_75 (v := (nI 0)) kc_i_0 ?_
        refine j_perm C (w' := [(h8, cO 8 [.int (nI 2), .ref rv, .ref rn, .ref rnw, .ref rt, .ref rd, .int (nI na), .int (nI nx), .ref rk, .ref rik, .ref rdk, .ref rre, .ref rle, .ref rhe, .ref rth, .ref rpa, .ref ror, .int bv, .int bo]), (rv, cI (xT X) 450 cvec), (rn, cI (xT X) 600 (fun j => nI (near4 j))), (rnw, cI (xT X) 37 (rowF ac ap ash an aob arq)), (rdk, cZ (xT X) 15300 (fun j => bI (flB (dkP aob ac) dk (150 * (60 + 1)) j))), (rre, cZ (xT X) 9150 (fun j => bI (flB (rcP aob ac ap) re (150 * (60 + 1)) j))), (rd, cI (xT X) 518 D)]) [6, 1, 2, 3, 4, 5, 0] rfl rfl ?_
        refine j_iretM C rw_ hQ (by decide) (by decide) rfl ?_ dX8_slew_76
        exact ⟨2, _, rfl, Or.inr (Or.inl ⟨rfl, rfl, q5, bI_ne1 q20, c, _, rfl, by omega, hr, Or.inl q46⟩)⟩
      · skip
        have hr4 := hr
        rcases hr with ⟨j, -, hj60, -, -, rfl⟩ | ⟨-, e9⟩
        rotate_left
        · exact absurd e9 q46
        refine j_aload_n C dX8_slew_49 1 rfl rfl ?_
        refine j_get C (hin8) (ci := 8) rfl 3 (by decide) (hl16) 1 rfl (v := .ref rnw) rfl dX8_slew_50 ?_
        refine j_bipush C dX8_slew_53 (v := (nI 21)) kc_b_21 ?_
        refine j_ialoadN C 21 rfl 4 rfl (by omega) (by decide) dX8_slew_55 ?_
        show jj X 0 0 56 [(2, .int (nI j)), (0, .ref h8), (1, .int (nI c))] [.int (nI ac), .ref h8] [(rd, cI (xT X) 518 D), (h8, cO 8 [.int (nI 0), .ref rv, .ref rn, .ref rnw, .ref rt, .ref rd, .int (nI na), .int (nI nx), .ref rk, .ref rik, .ref rdk, .ref rre, .ref rle, .ref rhe, .ref rth, .ref rpa, .ref ror, .int bv, .int bo]), (rv, cI (xT X) 450 cvec), (rn, cI (xT X) 600 (fun j => nI (near4 j))), (rnw, cI (xT X) 37 (rowF ac ap ash an aob arq)), (rdk, cZ (xT X) 15300 (fun j => bI (flB (dkP aob ac) dk (150 * (60 + 1)) j))), (rre, cZ (xT X) 9150 (fun j => bI (flB (rcP aob ac ap) re (150 * (60 + 1)) j)))]
        refine j_iload_n C dX8_slew_56 0 rfl rfl ?_
        refine j_iadd C dX8_slew_57 (v := (nI (ac + j))) (nI_add _ _) ?_
        refine j_sipush C dX8_slew_58 (v := (nI 200)) kc_s_200 ?_
        refine j_icmp_le C dX8_slew_61 (tgt := 68) (by decide) (fun q61 => ?_) (fun q61 => ?_)
        · skip
          have q61 := (kn_le (a := ac + j) (b := 200) (by omega) (by omega)).mp q61
          refine j_iconst C dX8_slew_68 (v := (nI 0)) kc_i_0 ?_
          refine j_callVM C rw_ (nA := 1) (As := [.int (nI 0)]) (wr := [(rd, cI (xT X) 518 D), (rv, cI (xT X) 450 cvec), (rn, cI (xT X) 600 (fun j => nI (near4 j))), (rnw, cI (xT X) 37 (rowF ac ap ash an aob arq)), (rdk, cZ (xT X) 15300 (fun j => bI (flB (dkP aob ac) dk (150 * (60 + 1)) j))), (rre, cZ (xT X) 9150 (fun j => bI (flB (rcP aob ac ap) re (150 * (60 + 1)) j)))]) (c_X8_refused_0 (xl X) (xT X) h8 rv rn rnw rt rd rk rik rdk rre rle rhe rth rpa ror na nx (nI 0) bv bo ) gX8_slew_X8_refused rfl (by decide +kernel) rfl (by decide) (by decide) [1] [0, 2, 3, 4, 5, 6] rfl rfl rfl rfl (by decide) 1 rfl rfl (rest := []) rfl (Nat.le_of_ble_eq_true rfl) dX8_slew_69 ?_
          rintro _ _ ⟨rfl, rfl⟩
          show jj X 0 0 72 [(2, .int (nI j)), (0, .ref h8), (1, .int (nI c))] [.int (bI false)] [(rd, cI (xT X) 518 D), (rv, cI (xT X) 450 cvec), (rn, cI (xT X) 600 (fun j => nI (near4 j))), (rnw, cI (xT X) 37 (rowF ac ap ash an aob arq)), (rdk, cZ (xT X) 15300 (fun j => bI (flB (dkP aob ac) dk (150 * (60 + 1)) j))), (rre, cZ (xT X) 9150 (fun j => bI (flB (rcP aob ac ap) re (150 * (60 + 1)) j))), (h8, cO 8 [.int (nI 0), .ref rv, .ref rn, .ref rnw, .ref rt, .ref rd, .int (nI na), .int (nI nx), .ref rk, .ref rik, .ref rdk, .ref rre, .ref rle, .ref rhe, .ref rth, .ref rpa, .ref ror, .int bv, .int bo])]
          refine j_if_eq C dX8_slew_72 (tgt := 77) (by decide) (fun _ => ?_) (fun h9 => absurd h9 (by decide +kernel))
          refine j_aload_n C dX8_slew_77 1 rfl rfl ?_
          refine j_callVM C rw_ (nA := 0) (As := []) (wr := [(rv, cI (xT X) 450 cvec), (rn, cI (xT X) 600 (fun j => nI (near4 j))), (rdk, cZ (xT X) 15300 (fun j => bI (flB (dkP aob ac) dk (150 * (60 + 1)) j))), (rre, cZ (xT X) 9150 (fun j => bI (flB (rcP aob ac ap) re (150 * (60 + 1)) j)))]) (c_X8_note (xl X) (xT X) h8 rv rn rnw rt rd rk rik rdk rre rle rhe rth rpa ror na nx (nI 0) bv bo (rowF ac ap ash an aob arq) D (by exact hna) (by exact hnx)) gX8_slew_X8_note rfl (by decide +kernel) rfl (by decide) (by decide) [6, 3, 0] [1, 2, 4, 5] rfl rfl rfl rfl (by decide) 6 rfl rfl (rest := []) rfl (Nat.le_of_ble_eq_true rfl) dX8_slew_78 ?_
          rintro _ _ ⟨rfl, rfl⟩
          show jj X 0 0 81 [(2, .int (nI j)), (0, .ref h8), (1, .int (nI c))] [] [(rv, cI (xT X) 450 cvec), (rn, cI (xT X) 600 (fun j => nI (near4 j))), (rdk, cZ (xT X) 15300 (fun j => bI (flB (dkP aob ac) dk (150 * (60 + 1)) j))), (rre, cZ (xT X) 9150 (fun j => bI (flB (rcP aob ac ap) re (150 * (60 + 1)) j))), (h8, cO 8 [.int (nI 0), .ref rv, .ref rn, .ref rnw, .ref rt, .ref rd, .int (nI (if na < 14 then na + 1 else 14)), .int (nI ((nx + 1) % 14)), .ref rk, .ref rik, .ref rdk, .ref rre, .ref rle, .ref rhe, .ref rth, .ref rpa, .ref ror, .int bv, .int bo]), (rnw, cI (xT X) 37 (rowF ac ap ash an aob arq)), (rd, cI (xT X) 518 (dgN D nx (rowF ac ap ash an aob arq)))]
          refine j_aload_n C dX8_slew_81 1 rfl rfl ?_
          refine j_get C (hin8) (ci := 8) rfl 3 (by decide) (hl16) 4 rfl (v := .ref rnw) rfl dX8_slew_82 ?_
          refine j_bipush C dX8_slew_85 (v := (nI 22)) kc_b_22 ?_
          refine j_iload_n C dX8_slew_87 2 rfl rfl ?_
          refine j_iastoreN C rw_ 22 rfl 5 rfl (by omega) (by decide) (w' := [(rv, cI (xT X) 450 cvec), (rn, cI (xT X) 600 (fun j => nI (near4 j))), (rdk, cZ (xT X) 15300 (fun j => bI (flB (dkP aob ac) dk (150 * (60 + 1)) j))), (rre, cZ (xT X) 9150 (fun j => bI (flB (rcP aob ac ap) re (150 * (60 + 1)) j))), (h8, cO 8 [.int (nI 0), .ref rv, .ref rn, .ref rnw, .ref rt, .ref rd, .int (nI (if na < 14 then na + 1 else 14)), .int (nI ((nx + 1) % 14)), .ref rk, .ref rik, .ref rdk, .ref rre, .ref rle, .ref rhe, .ref rth, .ref rpa, .ref ror, .int bv, .int bo]), (rnw, cI (xT X) 37 (upd (rowF ac ap ash an aob arq) 22 (nI c))), (rd, cI (xT X) 518 (dgN D nx (rowF ac ap ash an aob arq)))]) rfl dX8_slew_88 ?_
          rw [row_p]
          refine j_aload_n C dX8_slew_89 1 rfl rfl ?_
          refine j_get C (hin8) (ci := 8) rfl 3 (by decide) (hl16) 4 rfl (v := .ref rnw) rfl dX8_slew_90 ?_
          refine j_bipush C dX8_slew_93 (v := (nI 21)) kc_b_21 ?_
          refine j_dup2 C dX8_slew_95 rfl rfl ?_
          refine j_ialoadN C 21 rfl 5 rfl (by omega) (by decide) dX8_slew_96 ?_
          show jj X 0 0 97 [(2, .int (nI j)), (0, .ref h8), (1, .int (nI c))] [.int (nI ac), .int (nI 21), .ref rnw] [(rv, cI (xT X) 450 cvec), (rn, cI (xT X) 600 (fun j => nI (near4 j))), (rdk, cZ (xT X) 15300 (fun j => bI (flB (dkP aob ac) dk (150 * (60 + 1)) j))), (rre, cZ (xT X) 9150 (fun j => bI (flB (rcP aob ac ap) re (150 * (60 + 1)) j))), (h8, cO 8 [.int (nI 0), .ref rv, .ref rn, .ref rnw, .ref rt, .ref rd, .int (nI (if na < 14 then na + 1 else 14)), .int (nI ((nx + 1) % 14)), .ref rk, .ref rik, .ref rdk, .ref rre, .ref rle, .ref rhe, .ref rth, .ref rpa, .ref ror, .int bv, .int bo]), (rnw, cI (xT X) 37 (rowF ac c ash an aob arq)), (rd, cI (xT X) 518 (dgN D nx (rowF ac ap ash an aob arq)))]
          refine j_iload_n C dX8_slew_97 0 rfl rfl ?_
          refine j_iadd C dX8_slew_98 (v := (nI (ac + j))) (nI_add _ _) ?_
          refine j_iastoreN C rw_ 21 rfl 5 rfl (by omega) (by decide) (w' := [(rv, cI (xT X) 450 cvec), (rn, cI (xT X) 600 (fun j => nI (near4 j))), (rdk, cZ (xT X) 15300 (fun j => bI (flB (dkP aob ac) dk (150 * (60 + 1)) j))), (rre, cZ (xT X) 9150 (fun j => bI (flB (rcP aob ac ap) re (150 * (60 + 1)) j))), (h8, cO 8 [.int (nI 0), .ref rv, .ref rn, .ref rnw, .ref rt, .ref rd, .int (nI (if na < 14 then na + 1 else 14)), .int (nI ((nx + 1) % 14)), .ref rk, .ref rik, .ref rdk, .ref rre, .ref rle, .ref rhe, .ref rth, .ref rpa, .ref ror, .int bv, .int bo]), (rnw, cI (xT X) 37 (upd (rowF ac c ash an aob arq) 21 (nI (ac + j)))), (rd, cI (xT X) 518 (dgN D nx (rowF ac ap ash an aob arq)))]) rfl dX8_slew_99 ?_
          rw [row_c]
          refine j_iload_n C dX8_slew_100 0 rfl rfl ?_
          refine j_perm C (w' := [(h8, cO 8 [.int (nI 0), .ref rv, .ref rn, .ref rnw, .ref rt, .ref rd, .int (nI (if na < 14 then na + 1 else 14)), .int (nI ((nx + 1) % 14)), .ref rk, .ref rik, .ref rdk, .ref rre, .ref rle, .ref rhe, .ref rth, .ref rpa, .ref ror, .int bv, .int bo]), (rv, cI (xT X) 450 cvec), (rn, cI (xT X) 600 (fun j => nI (near4 j))), (rnw, cI (xT X) 37 (rowF (ac + j) c ash an aob arq)), (rdk, cZ (xT X) 15300 (fun j => bI (flB (dkP aob ac) dk (150 * (60 + 1)) j))), (rre, cZ (xT X) 9150 (fun j => bI (flB (rcP aob ac ap) re (150 * (60 + 1)) j))), (rd, cI (xT X) 518 (dgN D nx (rowF ac ap ash an aob arq)))]) [4, 0, 1, 5, 2, 3, 6] rfl rfl ?_
          refine j_iretM C rw_ hQ (by decide) (by decide) rfl ?_ dX8_slew_101
          exact ⟨0, _, rfl, Or.inr (Or.inr ⟨rfl, c, j, rfl, rfl, by omega, bI_ne1 q20, hr4, hj60, by omega, rfl⟩)⟩
        · skip
          have q61 := (kn_nle (a := ac + j) (b := 200) (by omega) (by omega)).mp q61
          refine j_iconst C dX8_slew_64 (v := (nI 2)) kc_i_2 ?_
          refine j_goto C dX8_slew_65 (tgt := 69) (by decide) ?_
          refine j_callVM C rw_ (nA := 1) (As := [.int (nI 2)]) (wr := [(rd, cI (xT X) 518 D), (rv, cI (xT X) 450 cvec), (rn, cI (xT X) 600 (fun j => nI (near4 j))), (rnw, cI (xT X) 37 (rowF ac ap ash an aob arq)), (rdk, cZ (xT X) 15300 (fun j => bI (flB (dkP aob ac) dk (150 * (60 + 1)) j))), (rre, cZ (xT X) 9150 (fun j => bI (flB (rcP aob ac ap) re (150 * (60 + 1)) j)))]) (c_X8_refused_s (xl X) (xT X) h8 rv rn rnw rt rd rk rik rdk rre rle rhe rth rpa ror na nx (nI 0) bv bo 2 (by omega) (by omega)) gX8_slew_X8_refused rfl (by decide +kernel) rfl (by decide) (by decide) [1] [0, 2, 3, 4, 5, 6] rfl rfl rfl rfl (by decide) 1 rfl rfl (rest := []) rfl (Nat.le_of_ble_eq_true rfl) dX8_slew_69 ?_
          rintro _ _ ⟨rfl, rfl⟩
          show jj X 0 0 72 [(2, .int (nI j)), (0, .ref h8), (1, .int (nI c))] [.int (bI true)] [(rd, cI (xT X) 518 D), (rv, cI (xT X) 450 cvec), (rn, cI (xT X) 600 (fun j => nI (near4 j))), (rnw, cI (xT X) 37 (rowF ac ap ash an aob arq)), (rdk, cZ (xT X) 15300 (fun j => bI (flB (dkP aob ac) dk (150 * (60 + 1)) j))), (rre, cZ (xT X) 9150 (fun j => bI (flB (rcP aob ac ap) re (150 * (60 + 1)) j))), (h8, cO 8 [.int (nI 2), .ref rv, .ref rn, .ref rnw, .ref rt, .ref rd, .int (nI na), .int (nI nx), .ref rk, .ref rik, .ref rdk, .ref rre, .ref rle, .ref rhe, .ref rth, .ref rpa, .ref ror, .int bv, .int bo])]
          refine j_if_eq C dX8_slew_72 (tgt := 77) (by decide) (fun h9 => absurd h9 (by decide +kernel)) (fun _ => ?_)
          refine j_iconst C dX8_slew_75 (v := (nI 0)) kc_i_0 ?_
          refine j_perm C (w' := [(h8, cO 8 [.int (nI 2), .ref rv, .ref rn, .ref rnw, .ref rt, .ref rd, .int (nI na), .int (nI nx), .ref rk, .ref rik, .ref rdk, .ref rre, .ref rle, .ref rhe, .ref rth, .ref rpa, .ref ror, .int bv, .int bo]), (rv, cI (xT X) 450 cvec), (rn, cI (xT X) 600 (fun j => nI (near4 j))), (rnw, cI (xT X) 37 (rowF ac ap ash an aob arq)), (rdk, cZ (xT X) 15300 (fun j => bI (flB (dkP aob ac) dk (150 * (60 + 1)) j))), (rre, cZ (xT X) 9150 (fun j => bI (flB (rcP aob ac ap) re (150 * (60 + 1)) j))), (rd, cI (xT X) 518 D)]) [6, 1, 2, 3, 4, 5, 0] rfl rfl ?_
          refine j_iretM C rw_ hQ (by decide) (by decide) rfl ?_ dX8_slew_76
          exact ⟨2, _, rfl, Or.inr (Or.inl ⟨rfl, rfl, q5, bI_ne1 q20, c, _, rfl, by omega, hr4, Or.inr ⟨j, rfl, hj60, by omega⟩⟩)⟩
    · skip
      refine j_iconst C dX8_slew_23 (v := (nI 2)) kc_i_2 ?_
      refine j_goto C dX8_slew_24 (tgt := 28) (by decide) ?_
      refine j_callVM C rw_ (nA := 1) (As := [.int (nI 2)]) (wr := [(rv, cI (xT X) 450 cvec), (rn, cI (xT X) 600 (fun j => nI (near4 j))), (rnw, cI (xT X) 37 (rowF ac ap ash an aob arq)), (rdk, cZ (xT X) 15300 (fun j => bI (dk j))), (rre, cZ (xT X) 9150 (fun j => bI (re j))), (rd, cI (xT X) 518 D)]) (c_X8_refused_s (xl X) (xT X) h8 rv rn rnw rt rd rk rik rdk rre rle rhe rth rpa ror na nx rf bv bo 2 (by omega) (by omega)) gX8_slew_X8_refused rfl (by decide +kernel) rfl (by decide) (by decide) [0] [1, 2, 3, 4, 5, 6] rfl rfl rfl rfl (by decide) 0 rfl rfl (rest := []) rfl (Nat.le_of_ble_eq_true rfl) dX8_slew_28 ?_
      rintro _ _ ⟨rfl, rfl⟩
      show jj X 0 0 31 [(0, .ref h8), (1, .int (nI c))] [.int (bI true)] [(rv, cI (xT X) 450 cvec), (rn, cI (xT X) 600 (fun j => nI (near4 j))), (rnw, cI (xT X) 37 (rowF ac ap ash an aob arq)), (rdk, cZ (xT X) 15300 (fun j => bI (dk j))), (rre, cZ (xT X) 9150 (fun j => bI (re j))), (rd, cI (xT X) 518 D), (h8, cO 8 [.int (nI 2), .ref rv, .ref rn, .ref rnw, .ref rt, .ref rd, .int (nI na), .int (nI nx), .ref rk, .ref rik, .ref rdk, .ref rre, .ref rle, .ref rhe, .ref rth, .ref rpa, .ref ror, .int bv, .int bo])]
      refine j_if_eq C dX8_slew_31 (tgt := 36) (by decide) (fun h9 => absurd h9 (by decide +kernel)) (fun _ => ?_)
      refine j_iconst C dX8_slew_34 (v := (nI 0)) kc_i_0 ?_
      refine j_perm C (w' := [(h8, cO 8 [.int (nI 2), .ref rv, .ref rn, .ref rnw, .ref rt, .ref rd, .int (nI na), .int (nI nx), .ref rk, .ref rik, .ref rdk, .ref rre, .ref rle, .ref rhe, .ref rth, .ref rpa, .ref ror, .int bv, .int bo]), (rv, cI (xT X) 450 cvec), (rn, cI (xT X) 600 (fun j => nI (near4 j))), (rnw, cI (xT X) 37 (rowF ac ap ash an aob arq)), (rdk, cZ (xT X) 15300 (fun j => bI (dk j))), (rre, cZ (xT X) 9150 (fun j => bI (re j))), (rd, cI (xT X) 518 D)]) [6, 0, 1, 2, 3, 4, 5] rfl rfl ?_
      refine j_iretM C rw_ hQ (by decide) (by decide) rfl ?_ dX8_slew_35
      exact ⟨2, _, rfl, Or.inl ⟨rfl, Or.inr ⟨rfl, q5, bI_eq1 q20⟩⟩⟩
  · skip
    have q5 := (kb_nne).mp q5
    refine j_iconst C dX8_slew_8 (v := (nI 1)) kc_i_1 ?_
    refine j_goto C dX8_slew_9 (tgt := 28) (by decide) ?_
    refine j_callVM C rw_ (nA := 1) (As := [.int (nI 1)]) (wr := [(rv, cI (xT X) 450 cvec), (rn, cI (xT X) 600 (fun j => nI (near4 j))), (rnw, cI (xT X) 37 (rowF ac ap ash an aob arq)), (rdk, cZ (xT X) 15300 (fun j => bI (dk j))), (rre, cZ (xT X) 9150 (fun j => bI (re j))), (rd, cI (xT X) 518 D)]) (c_X8_refused_s (xl X) (xT X) h8 rv rn rnw rt rd rk rik rdk rre rle rhe rth rpa ror na nx rf bv bo 1 (by omega) (by omega)) gX8_slew_X8_refused rfl (by decide +kernel) rfl (by decide) (by decide) [0] [1, 2, 3, 4, 5, 6] rfl rfl rfl rfl (by decide) 0 rfl rfl (rest := []) rfl (Nat.le_of_ble_eq_true rfl) dX8_slew_28 ?_
    rintro _ _ ⟨rfl, rfl⟩
    show jj X 0 0 31 [(0, .ref h8), (1, .int x)] [.int (bI true)] [(rv, cI (xT X) 450 cvec), (rn, cI (xT X) 600 (fun j => nI (near4 j))), (rnw, cI (xT X) 37 (rowF ac ap ash an aob arq)), (rdk, cZ (xT X) 15300 (fun j => bI (dk j))), (rre, cZ (xT X) 9150 (fun j => bI (re j))), (rd, cI (xT X) 518 D), (h8, cO 8 [.int (nI 1), .ref rv, .ref rn, .ref rnw, .ref rt, .ref rd, .int (nI na), .int (nI nx), .ref rk, .ref rik, .ref rdk, .ref rre, .ref rle, .ref rhe, .ref rth, .ref rpa, .ref ror, .int bv, .int bo])]
    refine j_if_eq C dX8_slew_31 (tgt := 36) (by decide) (fun h9 => absurd h9 (by decide +kernel)) (fun _ => ?_)
    refine j_iconst C dX8_slew_34 (v := (nI 0)) kc_i_0 ?_
    refine j_perm C (w' := [(h8, cO 8 [.int (nI 1), .ref rv, .ref rn, .ref rnw, .ref rt, .ref rd, .int (nI na), .int (nI nx), .ref rk, .ref rik, .ref rdk, .ref rre, .ref rle, .ref rhe, .ref rth, .ref rpa, .ref ror, .int bv, .int bo]), (rv, cI (xT X) 450 cvec), (rn, cI (xT X) 600 (fun j => nI (near4 j))), (rnw, cI (xT X) 37 (rowF ac ap ash an aob arq)), (rdk, cZ (xT X) 15300 (fun j => bI (dk j))), (rre, cZ (xT X) 9150 (fun j => bI (re j))), (rd, cI (xT X) 518 D)]) [6, 0, 1, 2, 3, 4, 5] rfl rfl ?_
    refine j_iretM C rw_ hQ (by decide) (by decide) rfl ?_ dX8_slew_35
    exact ⟨1, _, rfl, Or.inl ⟨rfl, Or.inl ⟨rfl, q5⟩⟩⟩
