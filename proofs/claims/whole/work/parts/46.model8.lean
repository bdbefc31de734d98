/-! THE MODEL: what acts (3) -/
set_option maxHeartbeats 4000000 in
set_option maxRecDepth 100000 in
/-- step -/
theorem c_X8_step (l : Launch) (T : jj_T) (h8 rv rn rnw rt rd rk rik rdk rre rle rhe rth rpa ror na nx : Nat) (rf bv bo : Int32) (ac ap an : Nat) (ash : Bool) (aob arq : Nat → Int32) (D : Nat → Int32) (x : Int32)  (hna : na ≤ 14) (hnx : nx < 14) (hap : ap < 150) (hac : ac ≤ 200) (hco : coI aob) : jM l T yX8_step wsX8_step { frames := 3, cells := 0, slots := 0, locals := 78 } [.ref h8, .int x] [(h8, cO 8 [.int rf, .ref rv, .ref rn, .ref rnw, .ref rt, .ref rd, .int (nI na), .int (nI nx), .ref rk, .ref rik, .ref rdk, .ref rre, .ref rle, .ref rhe, .ref rth, .ref rpa, .ref ror, .int bv, .int bo]), (rv, cI T 450 cvec), (rn, cI T 600 (fun j => nI (near4 j))), (rnw, cI T 37 (rowF ac ap ash an aob arq)), (rd, cI T 518 D)] (fun v w1 => ∃ (k8 : Nat) (r : Int32), v = some (.int r) ∧ ((w1 = [(h8, cO 8 [.int (nI k8), .ref rv, .ref rn, .ref rnw, .ref rt, .ref rd, .int (nI na), .int (nI nx), .ref rk, .ref rik, .ref rdk, .ref rre, .ref rle, .ref rhe, .ref rth, .ref rpa, .ref ror, .int bv, .int bo]), (rv, cI T 450 cvec), (rn, cI T 600 (fun j => nI (near4 j))), (rnw, cI T 37 (rowF ac ap ash an aob arq)), (rd, cI T 518 D)] ∧ ((k8 = 1 ∧ inR x 0 149 = false) ∨ (k8 = 2 ∧ inR x 0 149 = true ∧ (∃ c : Nat, x = nI c ∧ c < 150 ∧ (decide (ap = c) || tb_nb ap c) = false)) ∨ (k8 = 3 ∧ inR x 0 149 = true ∧ (∃ c : Nat, x = nI c ∧ c < 150 ∧ (decide (ap = c) || tb_nb ap c) = true ∧ (ash = true ∨ 200 ≤ ac ∨ br aob c (ac + 1) = true))))) ∨ (k8 = 0 ∧ ∃ c : Nat, w1 = [(h8, cO 8 [.int (nI 0), .ref rv, .ref rn, .ref rnw, .ref rt, .ref rd, .int (nI (if na < 14 then na + 1 else 14)), .int (nI ((nx + 1) % 14)), .ref rk, .ref rik, .ref rdk, .ref rre, .ref rle, .ref rhe, .ref rth, .ref rpa, .ref ror, .int bv, .int bo]), (rv, cI T 450 cvec), (rn, cI T 600 (fun j => nI (near4 j))), (rnw, cI T 37 (rowF (ac + 1) c ash an aob arq)), (rd, cI T 518 (dgN D nx (rowF ac ap ash an aob arq)))] ∧ x = nI c ∧ c < 150 ∧ (decide (ap = c) || tb_nb ap c) = true ∧ ash = false ∧ ac < 200 ∧ br aob c (ac + 1) = false ∧ r = nI (ac + 1)))) := by
  refine jM.of (cc := cX8_step) (maxL := 3) (ret := (some .int)) (by decide) rfl (Nat.le_of_ble_eq_true rfl) ?_
  intro X C rw_ hl hT hQ hnm
  subst hl; subst hT
  have hin8 : ∀ w ∈ u_ws RX8 TX8 19, w ∈ wsX8_step := by decide +kernel
  have hl16 : Cond.fieldLink RX8 16 (TX8 3).1 (TX8 3).2.1 (TX8 3).2.2.1 ∈ wsX8_step := by decide +kernel
  show jj X 0 0 0 [(0, .ref h8), (1, .int x)] [] [(h8, cO 8 [.int rf, .ref rv, .ref rn, .ref rnw, .ref rt, .ref rd, .int (nI na), .int (nI nx), .ref rk, .ref rik, .ref rdk, .ref rre, .ref rle, .ref rhe, .ref rth, .ref rpa, .ref ror, .int bv, .int bo]), (rv, cI (xT X) 450 cvec), (rn, cI (xT X) 600 (fun j => nI (near4 j))), (rnw, cI (xT X) 37 (rowF ac ap ash an aob arq)), (rd, cI (xT X) 518 D)]
  refine j_aload_n C dX8_step_0 0 rfl rfl ?_
  refine j_iload_n C dX8_step_1 1 rfl rfl ?_
  refine j_callSR C (nA := 1) (As := [.int x]) (c_X8_isCell (xl X) (xT X) x ) gX8_step_X8_isCell rfl (by decide +kernel) rfl ⟨rfl, rfl⟩ (by decide) (by decide) [] rfl rfl (rest := [.ref h8]) rfl (Nat.le_of_ble_eq_true rfl) dX8_step_2 ?_
  rintro _ rfl
  show jj X 0 0 5 [(0, .ref h8), (1, .int x)] [.int (bI (inR x 0 149)), .ref h8] [(h8, cO 8 [.int rf, .ref rv, .ref rn, .ref rnw, .ref rt, .ref rd, .int (nI na), .int (nI nx), .ref rk, .ref rik, .ref rdk, .ref rre, .ref rle, .ref rhe, .ref rth, .ref rpa, .ref ror, .int bv, .int bo]), (rv, cI (xT X) 450 cvec), (rn, cI (xT X) 600 (fun j => nI (near4 j))), (rnw, cI (xT X) 37 (rowF ac ap ash an aob arq)), (rd, cI (xT X) 518 D)]
  refine j_if_ne C dX8_step_5 (tgt := 12) (by decide) (fun q5 => ?_) (fun q5 => ?_)
  · skip
    have q5 := (kb_ne).mp q5
    obtain ⟨c, rfl, hb_c⟩ := inR_N (b := 149) q5
    refine j_aload_n C dX8_step_12 0 rfl rfl ?_
    refine j_aload_n C dX8_step_13 0 rfl rfl ?_
    refine j_get C (hin8) (ci := 8) rfl 3 (by decide) (hl16) 0 rfl (v := .ref rnw) rfl dX8_step_14 ?_
    refine j_bipush C dX8_step_17 (v := (nI 22)) kc_b_22 ?_
    refine j_ialoadN C 22 rfl 3 rfl (by omega) (by decide) dX8_step_19 ?_
    show jj X 0 0 20 [(0, .ref h8), (1, .int (nI c))] [.int (nI ap), .ref h8, .ref h8] [(h8, cO 8 [.int rf, .ref rv, .ref rn, .ref rnw, .ref rt, .ref rd, .int (nI na), .int (nI nx), .ref rk, .ref rik, .ref rdk, .ref rre, .ref rle, .ref rhe, .ref rth, .ref rpa, .ref ror, .int bv, .int bo]), (rv, cI (xT X) 450 cvec), (rn, cI (xT X) 600 (fun j => nI (near4 j))), (rnw, cI (xT X) 37 (rowF ac ap ash an aob arq)), (rd, cI (xT X) 518 D)]
    refine j_iload_n C dX8_step_20 1 rfl rfl ?_
    refine j_callVR C (nA := 2) (As := [.int (nI ap), .int (nI c)]) (c_X8_isNear (xl X) (xT X) h8 rv rn rnw rt rd rk rik rdk rre rle rhe rth rpa ror na nx rf bv bo ap c (by omega) (by omega)) gX8_step_X8_isNear rfl (by decide +kernel) rfl ⟨rfl, rfl⟩ (by decide) (by decide) [0, 2] rfl rfl 0 rfl rfl (rest := [.ref h8]) rfl (Nat.le_of_ble_eq_true rfl) dX8_step_21 ?_
    rintro _ rfl
    show jj X 0 0 24 [(0, .ref h8), (1, .int (nI c))] [.int (bI (decide (ap = c) || tb_nb ap c)), .ref h8] [(h8, cO 8 [.int rf, .ref rv, .ref rn, .ref rnw, .ref rt, .ref rd, .int (nI na), .int (nI nx), .ref rk, .ref rik, .ref rdk, .ref rre, .ref rle, .ref rhe, .ref rth, .ref rpa, .ref ror, .int bv, .int bo]), (rv, cI (xT X) 450 cvec), (rn, cI (xT X) 600 (fun j => nI (near4 j))), (rnw, cI (xT X) 37 (rowF ac ap ash an aob arq)), (rd, cI (xT X) 518 D)]
    refine j_if_ne C dX8_step_24 (tgt := 31) (by decide) (fun q24 => ?_) (fun q24 => ?_)
    · skip
      have q24 := (kb_ne).mp q24
      refine j_iconst C dX8_step_31 (v := (nI 0)) kc_i_0 ?_
      refine j_callVM C rw_ (nA := 1) (As := [.int (nI 0)]) (wr := [(rv, cI (xT X) 450 cvec), (rn, cI (xT X) 600 (fun j => nI (near4 j))), (rnw, cI (xT X) 37 (rowF ac ap ash an aob arq)), (rd, cI (xT X) 518 D)]) (c_X8_refused_0 (xl X) (xT X) h8 rv rn rnw rt rd rk rik rdk rre rle rhe rth rpa ror na nx rf bv bo ) gX8_step_X8_refused rfl (by decide +kernel) rfl (by decide) (by decide) [0] [1, 2, 3, 4] rfl rfl rfl rfl (by decide) 0 rfl rfl (rest := []) rfl (Nat.le_of_ble_eq_true rfl) dX8_step_32 ?_
      rintro _ _ ⟨rfl, rfl⟩
      show jj X 0 0 35 [(0, .ref h8), (1, .int (nI c))] [.int (bI false)] [(rv, cI (xT X) 450 cvec), (rn, cI (xT X) 600 (fun j => nI (near4 j))), (rnw, cI (xT X) 37 (rowF ac ap ash an aob arq)), (rd, cI (xT X) 518 D), (h8, cO 8 [.int (nI 0), .ref rv, .ref rn, .ref rnw, .ref rt, .ref rd, .int (nI na), .int (nI nx), .ref rk, .ref rik, .ref rdk, .ref rre, .ref rle, .ref rhe, .ref rth, .ref rpa, .ref ror, .int bv, .int bo])]
      refine j_if_eq C dX8_step_35 (tgt := 40) (by decide) (fun _ => ?_) (fun h9 => absurd h9 (by decide +kernel))
      refine j_aload_n C dX8_step_40 0 rfl rfl ?_
      refine j_get C (hin8) (ci := 8) rfl 3 (by decide) (hl16) 4 rfl (v := .ref rnw) rfl dX8_step_41 ?_
      refine j_bipush C dX8_step_44 (v := (nI 23)) kc_b_23 ?_
      refine j_ialoadN C 23 rfl 2 rfl (by omega) (by decide) dX8_step_46 ?_
      show jj X 0 0 47 [(0, .ref h8), (1, .int (nI c))] [.int (bI ash)] [(rv, cI (xT X) 450 cvec), (rn, cI (xT X) 600 (fun j => nI (near4 j))), (rnw, cI (xT X) 37 (rowF ac ap ash an aob arq)), (rd, cI (xT X) 518 D), (h8, cO 8 [.int (nI 0), .ref rv, .ref rn, .ref rnw, .ref rt, .ref rd, .int (nI na), .int (nI nx), .ref rk, .ref rik, .ref rdk, .ref rre, .ref rle, .ref rhe, .ref rth, .ref rpa, .ref ror, .int bv, .int bo])]
      refine j_if_ne C dX8_step_47 (tgt := 88) (by decide) (fun q47 => ?_) (fun q47 => ?_)
      · skip
        have q47 := (kb_ne).mp q47
        refine j_iconst C dX8_step_88 (v := (nI 0)) kc_i_0 ?_
        show jj X 0 0 89 [(0, .ref h8), (1, .int (nI c))] [.int (bI false)] [(rv, cI (xT X) 450 cvec), (rn, cI (xT X) 600 (fun j => nI (near4 j))), (rnw, cI (xT X) 37 (rowF ac ap ash an aob arq)), (rd, cI (xT X) 518 D), (h8, cO 8 [.int (nI 0), .ref rv, .ref rn, .ref rnw, .ref rt, .ref rd, .int (nI na), .int (nI nx), .ref rk, .ref rik, .ref rdk, .ref rre, .ref rle, .ref rhe, .ref rth, .ref rpa, .ref ror, .int bv, .int bo])]
        refine j_istore_n C dX8_step_89 rfl (by decide) (lv' := [(2, .int (bI false)), (0, .ref h8), (1, .int (nI c))]) rfl ?_
        refine j_aload_n C dX8_step_90 1 rfl rfl ?_
        refine j_iload_n C dX8_step_91 0 rfl rfl ?_
        refine j_if_eq C dX8_step_92 (tgt := 99) (by decide) (fun _ => ?_) (fun h9 => absurd h9 (by decide +kernel))
        refine j_iconst C dX8_step_99 (v := (nI 3)) kc_i_3 ?_
        refine j_callVM C rw_ (nA := 1) (As := [.int (nI 3)]) (wr := [(rv, cI (xT X) 450 cvec), (rn, cI (xT X) 600 (fun j => nI (near4 j))), (rnw, cI (xT X) 37 (rowF ac ap ash an aob arq)), (rd, cI (xT X) 518 D)]) (c_X8_refused_s (xl X) (xT X) h8 rv rn rnw rt rd rk rik rdk rre rle rhe rth rpa ror na nx (nI 0) bv bo 3 (by omega) (by omega)) gX8_step_X8_refused rfl (by decide +kernel) rfl (by decide) (by decide) [4] [0, 1, 2, 3] rfl rfl rfl rfl (by decide) 4 rfl rfl (rest := []) rfl (Nat.le_of_ble_eq_true rfl) dX8_step_100 ?_
        rintro _ _ ⟨rfl, rfl⟩
        show jj X 0 0 103 [(2, .int (bI false)), (0, .ref h8), (1, .int (nI c))] [.int (bI true)] [(rv, cI (xT X) 450 cvec), (rn, cI (xT X) 600 (fun j => nI (near4 j))), (rnw, cI (xT X) 37 (rowF ac ap ash an aob arq)), (rd, cI (xT X) 518 D), (h8, cO 8 [.int (nI 3), .ref rv, .ref rn, .ref rnw, .ref rt, .ref rd, .int (nI na), .int (nI nx), .ref rk, .ref rik, .ref rdk, .ref rre, .ref rle, .ref rhe, .ref rth, .ref rpa, .ref ror, .int bv, .int bo])]
        refine j_if_eq C dX8_step_103 (tgt := 108) (by decide) (fun h9 => absurd h9 (by decide +kernel)) (fun _ => ?_)
        refine j_iconst C dX8_step_106 (v := (nI 0)) kc_i_0 ?_
        refine j_perm C (w' := [(h8, cO 8 [.int (nI 3), .ref rv, .ref rn, .ref rnw, .ref rt, .ref rd, .int (nI na), .int (nI nx), .ref rk, .ref rik, .ref rdk, .ref rre, .ref rle, .ref rhe, .ref rth, .ref rpa, .ref ror, .int bv, .int bo]), (rv, cI (xT X) 450 cvec), (rn, cI (xT X) 600 (fun j => nI (near4 j))), (rnw, cI (xT X) 37 (rowF ac ap ash an aob arq)), (rd, cI (xT X) 518 D)]) [4, 0, 1, 2, 3] rfl rfl ?_
        refine j_iretM C rw_ hQ (by decide) (by decide) rfl ?_ dX8_step_107
        exact ⟨3, _, rfl, Or.inl ⟨rfl, Or.inr (Or.inr (⟨rfl, q5, c, rfl, by omega, q24, Or.inl q47⟩))⟩⟩
      · skip
        have q47 := (kb_nne).mp q47
        refine j_aload_n C dX8_step_50 0 rfl rfl ?_
        refine j_get C (hin8) (ci := 8) rfl 3 (by decide) (hl16) 4 rfl (v := .ref rnw) rfl dX8_step_51 ?_
        refine j_bipush C dX8_step_54 (v := (nI 21)) kc_b_21 ?_
        refine j_ialoadN C 21 rfl 2 rfl (by omega) (by decide) dX8_step_56 ?_
        show jj X 0 0 57 [(0, .ref h8), (1, .int (nI c))] [.int (nI ac)] [(rv, cI (xT X) 450 cvec), (rn, cI (xT X) 600 (fun j => nI (near4 j))), (rnw, cI (xT X) 37 (rowF ac ap ash an aob arq)), (rd, cI (xT X) 518 D), (h8, cO 8 [.int (nI 0), .ref rv, .ref rn, .ref rnw, .ref rt, .ref rd, .int (nI na), .int (nI nx), .ref rk, .ref rik, .ref rdk, .ref rre, .ref rle, .ref rhe, .ref rth, .ref rpa, .ref ror, .int bv, .int bo])]
        refine j_sipush C dX8_step_57 (v := (nI 200)) kc_s_200 ?_
        refine j_icmp_ge C dX8_step_60 (tgt := 88) (by decide) (fun q60 => ?_) (fun q60 => ?_)
        · skip
          have q60 := (kn_ge (a := ac) (b := 200) (by omega) (by omega)).mp q60
          refine j_iconst C dX8_step_88 (v := (nI 0)) kc_i_0 ?_
          show jj X 0 0 89 [(0, .ref h8), (1, .int (nI c))] [.int (bI false)] [(rv, cI (xT X) 450 cvec), (rn, cI (xT X) 600 (fun j => nI (near4 j))), (rnw, cI (xT X) 37 (rowF ac ap ash an aob arq)), (rd, cI (xT X) 518 D), (h8, cO 8 [.int (nI 0), .ref rv, .ref rn, .ref rnw, .ref rt, .ref rd, .int (nI na), .int (nI nx), .ref rk, .ref rik, .ref rdk, .ref rre, .ref rle, .ref rhe, .ref rth, .ref rpa, .ref ror, .int bv, .int bo])]
          refine j_istore_n C dX8_step_89 rfl (by decide) (lv' := [(2, .int (bI false)), (0, .ref h8), (1, .int (nI c))]) rfl ?_
          refine j_aload_n C dX8_step_90 1 rfl rfl ?_
          refine j_iload_n C dX8_step_91 0 rfl rfl ?_
          refine j_if_eq C dX8_step_92 (tgt := 99) (by decide) (fun _ => ?_) (fun h9 => absurd h9 (by decide +kernel))
          refine j_iconst C dX8_step_99 (v := (nI 3)) kc_i_3 ?_
          refine j_callVM C rw_ (nA := 1) (As := [.int (nI 3)]) (wr := [(rv, cI (xT X) 450 cvec), (rn, cI (xT X) 600 (fun j => nI (near4 j))), (rnw, cI (xT X) 37 (rowF ac ap ash an aob arq)), (rd, cI (xT X) 518 D)]) (c_X8_refused_s (xl X) (xT X) h8 rv rn rnw rt rd rk rik rdk rre rle rhe rth rpa ror na nx (nI 0) bv bo 3 (by omega) (by omega)) gX8_step_X8_refused rfl (by decide +kernel) rfl (by decide) (by decide) [4] [0, 1, 2, 3] rfl rfl rfl rfl (by decide) 4 rfl rfl (rest := []) rfl (Nat.le_of_ble_eq_true rfl) dX8_step_100 ?_
          rintro _ _ ⟨rfl, rfl⟩
          show jj X 0 0 103 [(2, .int (bI false)), (0, .ref h8), (1, .int (nI c))] [.int (bI true)] [(rv, cI (xT X) 450 cvec), (rn, cI (xT X) 600 (fun j => nI (near4 j))), (rnw, cI (xT X) 37 (rowF ac ap ash an aob arq)), (rd, cI (xT X) 518 D), (h8, cO 8 [.int (nI 3), .ref rv, .ref rn, .ref rnw, .ref rt, .ref rd, .int (nI na), .int (nI nx), .ref rk, .ref rik, .ref rdk, .ref rre, .ref rle, .ref rhe, .ref rth, .ref rpa, .ref ror, .int bv, .int bo])]
          refine j_if_eq C dX8_step_103 (tgt := 108) (by decide) (fun h9 => absurd h9 (by decide +kernel)) (fun _ => ?_)
          refine j_iconst C dX8_step_106 (v := (nI 0)) kc_i_0 ?_
          refine j_perm C (w' := [(h8, cO 8 [.int (nI 3), .ref rv, .ref rn, .ref rnw, .ref rt, .ref rd, .int (nI na), .int (nI nx), .ref rk, .ref rik, .ref rdk, .ref rre, .ref rle, .ref rhe, .ref rth, .ref rpa, .ref ror, .int bv, .int bo]), (rv, cI (xT X) 450 cvec), (rn, cI (xT X) 600 (fun j => nI (near4 j))), (rnw, cI (xT X) 37 (rowF ac ap ash an aob arq)), (rd, cI (xT X) 518 D)]) [4, 0, 1, 2, 3] rfl rfl ?_
          refine j_iretM C rw_ hQ (by decide) (by decide) rfl ?_ dX8_step_107
          exact ⟨3, _, rfl, Or.inl ⟨rfl, Or.inr (Or.inr (⟨rfl, q5, c, rfl, by omega, q24, Or.inr (Or.inl q60)⟩))⟩⟩
        · skip
          have q60 := (kn_nge (a := ac) (b := 200) (by omega) (by omega)).mp q60
          refine j_aload_n C dX8_step_63 0 rfl rfl ?_
          refine j_aload_n C dX8_step_64 0 rfl rfl ?_
          refine j_get C (hin8) (ci := 8) rfl 3 (by decide) (hl16) 4 rfl (v := .ref rnw) rfl dX8_step_65 ?_
          refine j_iload_n C dX8_step_68 1 rfl rfl ?_
          refine j_aload_n C dX8_step_69 0 rfl rfl ?_
          refine j_get C (hin8) (ci := 8) rfl 3 (by decide) (hl16) 4 rfl (v := .ref rnw) rfl dX8_step_70 ?_
          refine j_bipush C dX8_step_73 (v := (nI 21)) kc_b_21 ?_
          refine j_ialoadN C 21 rfl 2 rfl (by omega) (by decide) dX8_step_75 ?_
          show jj X 0 0 76 [(0, .ref h8), (1, .int (nI c))] [.int (nI ac), .int (nI c), .ref rnw, .ref h8] [(rv, cI (xT X) 450 cvec), (rn, cI (xT X) 600 (fun j => nI (near4 j))), (rnw, cI (xT X) 37 (rowF ac ap ash an aob arq)), (rd, cI (xT X) 518 D), (h8, cO 8 [.int (nI 0), .ref rv, .ref rn, .ref rnw, .ref rt, .ref rd, .int (nI na), .int (nI nx), .ref rk, .ref rik, .ref rdk, .ref rre, .ref rle, .ref rhe, .ref rth, .ref rpa, .ref ror, .int bv, .int bo])]
          refine j_iconst C dX8_step_76 (v := (nI 1)) kc_i_1 ?_
          refine j_iadd C dX8_step_77 (v := (nI (ac + 1))) (nI_add _ _) ?_
          refine j_callVR C (nA := 3) (As := [.ref rnw, .int (nI c), .int (nI (ac + 1))]) (c_X8_isBrightIn (xl X) (xT X) h8 rv rn rnw rt rd rk rik rdk rre rle rhe rth rpa ror na nx (nI 0) bv bo rnw c (ac + 1) (rowF ac ap ash an aob arq) (by omega) (by exact row_co hco)) gX8_step_X8_isBrightIn rfl (by decide +kernel) rfl ⟨rfl, rfl⟩ (by decide) (by decide) [4, 0, 2] rfl rfl 4 rfl rfl (rest := []) rfl (Nat.le_of_ble_eq_true rfl) dX8_step_78 ?_
          rintro _ rfl
          show jj X 0 0 81 [(0, .ref h8), (1, .int (nI c))] [.int (bI (br (rowF ac ap ash an aob arq) c (ac + 1)))] [(rv, cI (xT X) 450 cvec), (rn, cI (xT X) 600 (fun j => nI (near4 j))), (rnw, cI (xT X) 37 (rowF ac ap ash an aob arq)), (rd, cI (xT X) 518 D), (h8, cO 8 [.int (nI 0), .ref rv, .ref rn, .ref rnw, .ref rt, .ref rd, .int (nI na), .int (nI nx), .ref rk, .ref rik, .ref rdk, .ref rre, .ref rle, .ref rhe, .ref rth, .ref rpa, .ref ror, .int bv, .int bo])]
          refine j_if_ne C dX8_step_81 (tgt := 88) (by decide) (fun q81 => ?_) (fun q81 => ?_)
          · skip
            have q81 := (kb_ne).mp q81
            refine j_iconst C dX8_step_88 (v := (nI 0)) kc_i_0 ?_
            show jj X 0 0 89 [(0, .ref h8), (1, .int (nI c))] [.int (bI false)] [(rv, cI (xT X) 450 cvec), (rn, cI (xT X) 600 (fun j => nI (near4 j))), (rnw, cI (xT X) 37 (rowF ac ap ash an aob arq)), (rd, cI (xT X) 518 D), (h8, cO 8 [.int (nI 0), .ref rv, .ref rn, .ref rnw, .ref rt, .ref rd, .int (nI na), .int (nI nx), .ref rk, .ref rik, .ref rdk, .ref rre, .ref rle, .ref rhe, .ref rth, .ref rpa, .ref ror, .int bv, .int bo])]
            refine j_istore_n C dX8_step_89 rfl (by decide) (lv' := [(2, .int (bI false)), (0, .ref h8), (1, .int (nI c))]) rfl ?_
            refine j_aload_n C dX8_step_90 1 rfl rfl ?_
            refine j_iload_n C dX8_step_91 0 rfl rfl ?_
            refine j_if_eq C dX8_step_92 (tgt := 99) (by decide) (fun _ => ?_) (fun h9 => absurd h9 (by decide +kernel))
            refine j_iconst C dX8_step_99 (v := (nI 3)) kc_i_3 ?_
            refine j_callVM C rw_ (nA := 1) (As := [.int (nI 3)]) (wr := [(rv, cI (xT X) 450 cvec), (rn, cI (xT X) 600 (fun j => nI (near4 j))), (rnw, cI (xT X) 37 (rowF ac ap ash an aob arq)), (rd, cI (xT X) 518 D)]) (c_X8_refused_s (xl X) (xT X) h8 rv rn rnw rt rd rk rik rdk rre rle rhe rth rpa ror na nx (nI 0) bv bo 3 (by omega) (by omega)) gX8_step_X8_refused rfl (by decide +kernel) rfl (by decide) (by decide) [4] [0, 1, 2, 3] rfl rfl rfl rfl (by decide) 4 rfl rfl (rest := []) rfl (Nat.le_of_ble_eq_true rfl) dX8_step_100 ?_
            rintro _ _ ⟨rfl, rfl⟩
            show jj X 0 0 103 [(2, .int (bI false)), (0, .ref h8), (1, .int (nI c))] [.int (bI true)] [(rv, cI (xT X) 450 cvec), (rn, cI (xT X) 600 (fun j => nI (near4 j))), (rnw, cI (xT X) 37 (rowF ac ap ash an aob arq)), (rd, cI (xT X) 518 D), (h8, cO 8 [.int (nI 3), .ref rv, .ref rn, .ref rnw, .ref rt, .ref rd, .int (nI na), .int (nI nx), .ref rk, .ref rik, .ref rdk, .ref rre, .ref rle, .ref rhe, .ref rth, .ref rpa, .ref ror, .int bv, .int bo])]
            refine j_if_eq C dX8_step_103 (tgt := 108) (by decide) (fun h9 => absurd h9 (by decide +kernel)) (fun _ => ?_)
            refine j_iconst C dX8_step_106 (v := (nI 0)) kc_i_0 ?_
            refine j_perm C (w' := [(h8, cO 8 [.int (nI 3), .ref rv, .ref rn, .ref rnw, .ref rt, .ref rd, .int (nI na), .int (nI nx), .ref rk, .ref rik, .ref rdk, .ref rre, .ref rle, .ref rhe, .ref rth, .ref rpa, .ref ror, .int bv, .int bo]), (rv, cI (xT X) 450 cvec), (rn, cI (xT X) 600 (fun j => nI (near4 j))), (rnw, cI (xT X) 37 (rowF ac ap ash an aob arq)), (rd, cI (xT X) 518 D)]) [4, 0, 1, 2, 3] rfl rfl ?_
            refine j_iretM C rw_ hQ (by decide) (by decide) rfl ?_ dX8_step_107
            exact ⟨3, _, rfl, Or.inl ⟨rfl, Or.inr (Or.inr (⟨rfl, q5, c, rfl, by omega, q24, Or.inr (Or.inr (by rw [row_br] at q81; exact q81))⟩))⟩⟩
          · skip
            have q81 := (kb_nne).mp q81
            refine j_iconst C dX8_step_84 (v := (nI 1)) kc_i_1 ?_
            refine j_goto C dX8_step_85 (tgt := 89) (by decide) ?_
            show jj X 0 0 89 [(0, .ref h8), (1, .int (nI c))] [.int (bI true)] [(rv, cI (xT X) 450 cvec), (rn, cI (xT X) 600 (fun j => nI (near4 j))), (rnw, cI (xT X) 37 (rowF ac ap ash an aob arq)), (rd, cI (xT X) 518 D), (h8, cO 8 [.int (nI 0), .ref rv, .ref rn, .ref rnw, .ref rt, .ref rd, .int (nI na), .int (nI nx), .ref rk, .ref rik, .ref rdk, .ref rre, .ref rle, .ref rhe, .ref rth, .ref rpa, .ref ror, .int bv, .int bo])]
            refine j_istore_n C dX8_step_89 rfl (by decide) (lv' := [(2, .int (bI true)), (0, .ref h8), (1, .int (nI c))]) rfl ?_
            refine j_aload_n C dX8_step_90 1 rfl rfl ?_
            refine j_iload_n C dX8_step_91 0 rfl rfl ?_
            refine j_if_eq C dX8_step_92 (tgt := 99) (by decide) (fun h9 => absurd h9 (by decide +kernel)) (fun _ => ?_)
            refine j_iconst C dX8_step_95 (v := (nI 0)) kc_i_0 ?_
            refine j_goto C dX8_step_96 (tgt := 100) (by decide) ?_
            refine j_callVM C rw_ (nA := 1) (As := [.int (nI 0)]) (wr := [(rv, cI (xT X) 450 cvec), (rn, cI (xT X) 600 (fun j => nI (near4 j))), (rnw, cI (xT X) 37 (rowF ac ap ash an aob arq)), (rd, cI (xT X) 518 D)]) (c_X8_refused_0 (xl X) (xT X) h8 rv rn rnw rt rd rk rik rdk rre rle rhe rth rpa ror na nx (nI 0) bv bo ) gX8_step_X8_refused rfl (by decide +kernel) rfl (by decide) (by decide) [4] [0, 1, 2, 3] rfl rfl rfl rfl (by decide) 4 rfl rfl (rest := []) rfl (Nat.le_of_ble_eq_true rfl) dX8_step_100 ?_
            rintro _ _ ⟨rfl, rfl⟩
            show jj X 0 0 103 [(2, .int (bI true)), (0, .ref h8), (1, .int (nI c))] [.int (bI false)] [(rv, cI (xT X) 450 cvec), (rn, cI (xT X) 600 (fun j => nI (near4 j))), (rnw, cI (xT X) 37 (rowF ac ap ash an aob arq)), (rd, cI (xT X) 518 D), (h8, cO 8 [.int (nI 0), .ref rv, .ref rn, .ref rnw, .ref rt, .ref rd, .int (nI na), .int (nI nx), .ref rk, .ref rik, .ref rdk, .ref rre, .ref rle, .ref rhe, .ref rth, .ref rpa, .ref ror, .int bv, .int bo])]
            refine j_if_eq C dX8_step_103 (tgt := 108) (by decide) (fun _ => ?_) (fun h9 => absurd h9 (by decide +kernel))
            refine j_aload_n C dX8_step_108 1 rfl rfl ?_
            refine j_callVM C rw_ (nA := 0) (As := []) (wr := [(rv, cI (xT X) 450 cvec), (rn, cI (xT X) 600 (fun j => nI (near4 j)))]) (c_X8_note (xl X) (xT X) h8 rv rn rnw rt rd rk rik rdk rre rle rhe rth rpa ror na nx (nI 0) bv bo (rowF ac ap ash an aob arq) D (by exact hna) (by exact hnx)) gX8_step_X8_note rfl (by decide +kernel) rfl (by decide) (by decide) [4, 2, 3] [0, 1] rfl rfl rfl rfl (by decide) 4 rfl rfl (rest := []) rfl (Nat.le_of_ble_eq_true rfl) dX8_step_109 ?_
            rintro _ _ ⟨rfl, rfl⟩
            show jj X 0 0 112 [(2, .int (bI true)), (0, .ref h8), (1, .int (nI c))] [] [(rv, cI (xT X) 450 cvec), (rn, cI (xT X) 600 (fun j => nI (near4 j))), (h8, cO 8 [.int (nI 0), .ref rv, .ref rn, .ref rnw, .ref rt, .ref rd, .int (nI (if na < 14 then na + 1 else 14)), .int (nI ((nx + 1) % 14)), .ref rk, .ref rik, .ref rdk, .ref rre, .ref rle, .ref rhe, .ref rth, .ref rpa, .ref ror, .int bv, .int bo]), (rnw, cI (xT X) 37 (rowF ac ap ash an aob arq)), (rd, cI (xT X) 518 (dgN D nx (rowF ac ap ash an aob arq)))]
            refine j_aload_n C dX8_step_112 1 rfl rfl ?_
            refine j_get C (hin8) (ci := 8) rfl 3 (by decide) (hl16) 2 rfl (v := .ref rnw) rfl dX8_step_113 ?_
            refine j_bipush C dX8_step_116 (v := (nI 22)) kc_b_22 ?_
            refine j_iload_n C dX8_step_118 2 rfl rfl ?_
            refine j_iastoreN C rw_ 22 rfl 3 rfl (by omega) (by decide) (w' := [(rv, cI (xT X) 450 cvec), (rn, cI (xT X) 600 (fun j => nI (near4 j))), (h8, cO 8 [.int (nI 0), .ref rv, .ref rn, .ref rnw, .ref rt, .ref rd, .int (nI (if na < 14 then na + 1 else 14)), .int (nI ((nx + 1) % 14)), .ref rk, .ref rik, .ref rdk, .ref rre, .ref rle, .ref rhe, .ref rth, .ref rpa, .ref ror, .int bv, .int bo]), (rnw, cI (xT X) 37 (upd (rowF ac ap ash an aob arq) 22 (nI c))), (rd, cI (xT X) 518 (dgN D nx (rowF ac ap ash an aob arq)))]) rfl dX8_step_119 ?_
            rw [row_p]
            refine j_aload_n C dX8_step_120 1 rfl rfl ?_
            refine j_get C (hin8) (ci := 8) rfl 3 (by decide) (hl16) 2 rfl (v := .ref rnw) rfl dX8_step_121 ?_
            refine j_bipush C dX8_step_124 (v := (nI 21)) kc_b_21 ?_
            refine j_dup2 C dX8_step_126 rfl rfl ?_
            refine j_ialoadN C 21 rfl 3 rfl (by omega) (by decide) dX8_step_127 ?_
            show jj X 0 0 128 [(2, .int (bI true)), (0, .ref h8), (1, .int (nI c))] [.int (nI ac), .int (nI 21), .ref rnw] [(rv, cI (xT X) 450 cvec), (rn, cI (xT X) 600 (fun j => nI (near4 j))), (h8, cO 8 [.int (nI 0), .ref rv, .ref rn, .ref rnw, .ref rt, .ref rd, .int (nI (if na < 14 then na + 1 else 14)), .int (nI ((nx + 1) % 14)), .ref rk, .ref rik, .ref rdk, .ref rre, .ref rle, .ref rhe, .ref rth, .ref rpa, .ref ror, .int bv, .int bo]), (rnw, cI (xT X) 37 (rowF ac c ash an aob arq)), (rd, cI (xT X) 518 (dgN D nx (rowF ac ap ash an aob arq)))]
            refine j_iconst C dX8_step_128 (v := (nI 1)) kc_i_1 ?_
            refine j_iadd C dX8_step_129 (v := (nI (ac + 1))) (nI_add _ _) ?_
            refine j_iastoreN C rw_ 21 rfl 3 rfl (by omega) (by decide) (w' := [(rv, cI (xT X) 450 cvec), (rn, cI (xT X) 600 (fun j => nI (near4 j))), (h8, cO 8 [.int (nI 0), .ref rv, .ref rn, .ref rnw, .ref rt, .ref rd, .int (nI (if na < 14 then na + 1 else 14)), .int (nI ((nx + 1) % 14)), .ref rk, .ref rik, .ref rdk, .ref rre, .ref rle, .ref rhe, .ref rth, .ref rpa, .ref ror, .int bv, .int bo]), (rnw, cI (xT X) 37 (upd (rowF ac c ash an aob arq) 21 (nI (ac + 1)))), (rd, cI (xT X) 518 (dgN D nx (rowF ac ap ash an aob arq)))]) rfl dX8_step_130 ?_
            rw [row_c]
            refine j_aload_n C dX8_step_131 1 rfl rfl ?_
            refine j_get C (hin8) (ci := 8) rfl 3 (by decide) (hl16) 2 rfl (v := .ref rnw) rfl dX8_step_132 ?_
            refine j_bipush C dX8_step_135 (v := (nI 21)) kc_b_21 ?_
            refine j_ialoadN C 21 rfl 3 rfl (by omega) (by decide) dX8_step_137 ?_
            show jj X 0 0 138 [(2, .int (bI true)), (0, .ref h8), (1, .int (nI c))] [.int (nI (ac + 1))] [(rv, cI (xT X) 450 cvec), (rn, cI (xT X) 600 (fun j => nI (near4 j))), (h8, cO 8 [.int (nI 0), .ref rv, .ref rn, .ref rnw, .ref rt, .ref rd, .int (nI (if na < 14 then na + 1 else 14)), .int (nI ((nx + 1) % 14)), .ref rk, .ref rik, .ref rdk, .ref rre, .ref rle, .ref rhe, .ref rth, .ref rpa, .ref ror, .int bv, .int bo]), (rnw, cI (xT X) 37 (rowF (ac + 1) c ash an aob arq)), (rd, cI (xT X) 518 (dgN D nx (rowF ac ap ash an aob arq)))]
            refine j_perm C (w' := [(h8, cO 8 [.int (nI 0), .ref rv, .ref rn, .ref rnw, .ref rt, .ref rd, .int (nI (if na < 14 then na + 1 else 14)), .int (nI ((nx + 1) % 14)), .ref rk, .ref rik, .ref rdk, .ref rre, .ref rle, .ref rhe, .ref rth, .ref rpa, .ref ror, .int bv, .int bo]), (rv, cI (xT X) 450 cvec), (rn, cI (xT X) 600 (fun j => nI (near4 j))), (rnw, cI (xT X) 37 (rowF (ac + 1) c ash an aob arq)), (rd, cI (xT X) 518 (dgN D nx (rowF ac ap ash an aob arq)))]) [2, 0, 1, 3, 4] rfl rfl ?_
            refine j_iretM C rw_ hQ (by decide) (by decide) rfl ?_ dX8_step_138
            exact ⟨0, _, rfl, Or.inr ⟨rfl, c, rfl, rfl, by omega, q24, q47, q60, by rw [row_br] at q81; exact q81, rfl⟩⟩
    · skip
      have q24 := (kb_nne).mp q24
      refine j_iconst C dX8_step_27 (v := (nI 2)) kc_i_2 ?_
      refine j_goto C dX8_step_28 (tgt := 32) (by decide) ?_
      refine j_callVM C rw_ (nA := 1) (As := [.int (nI 2)]) (wr := [(rv, cI (xT X) 450 cvec), (rn, cI (xT X) 600 (fun j => nI (near4 j))), (rnw, cI (xT X) 37 (rowF ac ap ash an aob arq)), (rd, cI (xT X) 518 D)]) (c_X8_refused_s (xl X) (xT X) h8 rv rn rnw rt rd rk rik rdk rre rle rhe rth rpa ror na nx rf bv bo 2 (by omega) (by omega)) gX8_step_X8_refused rfl (by decide +kernel) rfl (by decide) (by decide) [0] [1, 2, 3, 4] rfl rfl rfl rfl (by decide) 0 rfl rfl (rest := []) rfl (Nat.le_of_ble_eq_true rfl) dX8_step_32 ?_
      rintro _ _ ⟨rfl, rfl⟩
      show jj X 0 0 35 [(0, .ref h8), (1, .int (nI c))] [.int (bI true)] [(rv, cI (xT X) 450 cvec), (rn, cI (xT X) 600 (fun j => nI (near4 j))), (rnw, cI (xT X) 37 (rowF ac ap ash an aob arq)), (rd, cI (xT X) 518 D), (h8, cO 8 [.int (nI 2), .ref rv, .ref rn, .ref rnw, .ref rt, .ref rd, .int (nI na), .int (nI nx), .ref rk, .ref rik, .ref rdk, .ref rre, .ref rle, .ref rhe, .ref rth, .ref rpa, .ref ror, .int bv, .int bo])]
      refine j_if_eq C dX8_step_35 (tgt := 40) (by decide) (fun h9 => absurd h9 (by decide +kernel)) (fun _ => ?_)
      refine j_iconst C dX8_step_38 (v := (nI 0)) kc_i_0 ?_
      refine j_perm C (w' := [(h8, cO 8 [.int (nI 2), .ref rv, .ref rn, .ref rnw, .ref rt, .ref rd, .int (nI na), .int (nI nx), .ref rk, .ref rik, .ref rdk, .ref rre, .ref rle, .ref rhe, .ref rth, .ref rpa, .ref ror, .int bv, .int bo]), (rv, cI (xT X) 450 cvec), (rn, cI (xT X) 600 (fun j => nI (near4 j))), (rnw, cI (xT X) 37 (rowF ac ap ash an aob arq)), (rd, cI (xT X) 518 D)]) [4, 0, 1, 2, 3] rfl rfl ?_
      refine j_iretM C rw_ hQ (by decide) (by decide) rfl ?_ dX8_step_39
      exact ⟨2, _, rfl, Or.inl ⟨rfl, Or.inr (Or.inl ⟨rfl, q5, c, rfl, by omega, q24⟩)⟩⟩
  · skip
    have q5 := (kb_nne).mp q5
    refine j_iconst C dX8_step_8 (v := (nI 1)) kc_i_1 ?_
    refine j_goto C dX8_step_9 (tgt := 32) (by decide) ?_
    refine j_callVM C rw_ (nA := 1) (As := [.int (nI 1)]) (wr := [(rv, cI (xT X) 450 cvec), (rn, cI (xT X) 600 (fun j => nI (near4 j))), (rnw, cI (xT X) 37 (rowF ac ap ash an aob arq)), (rd, cI (xT X) 518 D)]) (c_X8_refused_s (xl X) (xT X) h8 rv rn rnw rt rd rk rik rdk rre rle rhe rth rpa ror na nx rf bv bo 1 (by omega) (by omega)) gX8_step_X8_refused rfl (by decide +kernel) rfl (by decide) (by decide) [0] [1, 2, 3, 4] rfl rfl rfl rfl (by decide) 0 rfl rfl (rest := []) rfl (Nat.le_of_ble_eq_true rfl) dX8_step_32 ?_
    rintro _ _ ⟨rfl, rfl⟩
    show jj X 0 0 35 [(0, .ref h8), (1, .int x)] [.int (bI true)] [(rv, cI (xT X) 450 cvec), (rn, cI (xT X) 600 (fun j => nI (near4 j))), (rnw, cI (xT X) 37 (rowF ac ap ash an aob arq)), (rd, cI (xT X) 518 D), (h8, cO 8 [.int (nI 1), .ref rv, .ref rn, .ref rnw, .ref rt, .ref rd, .int (nI na), .int (nI nx), .ref rk, .ref rik, .ref rdk, .ref rre, .ref rle, .ref rhe, .ref rth, .ref rpa, .ref ror, .int bv, .int bo])]
    refine j_if_eq C dX8_step_35 (tgt := 40) (by decide) (fun h9 => absurd h9 (by decide +kernel)) (fun _ => ?_)
    refine j_iconst C dX8_step_38 (v := (nI 0)) kc_i_0 ?_
    refine j_perm C (w' := [(h8, cO 8 [.int (nI 1), .ref rv, .ref rn, .ref rnw, .ref rt, .ref rd, .int (nI na), .int (nI nx), .ref rk, .ref rik, .ref rdk, .ref rre, .ref rle, .ref rhe, .ref rth, .ref rpa, .ref ror, .int bv, .int bo]), (rv, cI (xT X) 450 cvec), (rn, cI (xT X) 600 (fun j => nI (near4 j))), (rnw, cI (xT X) 37 (rowF ac ap ash an aob arq)), (rd, cI (xT X) 518 D)]) [4, 0, 1, 2, 3] rfl rfl ?_
    refine j_iretM C rw_ hQ (by decide) (by decide) rfl ?_ dX8_step_39
    exact ⟨1, _, rfl, Or.inl ⟨rfl, Or.inl ⟨rfl, q5⟩⟩⟩

set_option maxHeartbeats 4000000 in
set_option maxRecDepth 100000 in
/-- addRequest -/
theorem c_X8_addRequest (l : Launch) (T : jj_T) (h8 rv rn rnw rt rd rk rik rdk rre rle rhe rth rpa ror na nx : Nat) (rf bv bo : Int32) (ac ap an : Nat) (ash : Bool) (aob arq : Nat → Int32) (D : Nat → Int32) (x y z : Int32)  (hna : na ≤ 14) (hnx : nx < 14) (han : an ≤ 4) : jM l T yX8_addRequest wsX8_addRequest { frames := 2, cells := 0, slots := 0, locals := 45 } [.ref h8, .int x, .int y, .int z] [(h8, cO 8 [.int rf, .ref rv, .ref rn, .ref rnw, .ref rt, .ref rd, .int (nI na), .int (nI nx), .ref rk, .ref rik, .ref rdk, .ref rre, .ref rle, .ref rhe, .ref rth, .ref rpa, .ref ror, .int bv, .int bo]), (rnw, cI T 37 (rowF ac ap ash an aob arq)), (rd, cI T 518 D)] (fun v w1 => ∃ (k8 : Nat) (r : Int32), v = some (.int r) ∧ ((w1 = [(h8, cO 8 [.int (nI k8), .ref rv, .ref rn, .ref rnw, .ref rt, .ref rd, .int (nI na), .int (nI nx), .ref rk, .ref rik, .ref rdk, .ref rre, .ref rle, .ref rhe, .ref rth, .ref rpa, .ref ror, .int bv, .int bo]), (rnw, cI T 37 (rowF ac ap ash an aob arq)), (rd, cI T 518 D)] ∧ ((k8 = 1 ∧ inR x 0 149 = false) ∨ (k8 = 2 ∧ inR x 0 149 = true ∧ (inR y 1 20 && inR z 1 99) = false) ∨ (k8 = 3 ∧ inR x 0 149 = true ∧ (inR y 1 20 && inR z 1 99) = true ∧ an = 4))) ∨ (k8 = 0 ∧ ∃ c : Nat, w1 = [(h8, cO 8 [.int (nI 0), .ref rv, .ref rn, .ref rnw, .ref rt, .ref rd, .int (nI (if na < 14 then na + 1 else 14)), .int (nI ((nx + 1) % 14)), .ref rk, .ref rik, .ref rdk, .ref rre, .ref rle, .ref rhe, .ref rth, .ref rpa, .ref ror, .int bv, .int bo]), (rnw, cI T 37 (rowF ac ap ash (an + 1) aob (upd (upd (upd arq (3 * an) (nI c)) (3 * an + 1) y) (3 * an + 2) z))), (rd, cI T 518 (dgN D nx (rowF ac ap ash an aob arq)))] ∧ x = nI c ∧ c < 150 ∧ (inR y 1 20 && inR z 1 99) = true ∧ an < 4 ∧ r = nI an))) := by
  refine jM.of (cc := cX8_addRequest) (maxL := 6) (ret := (some .int)) (by decide) rfl (Nat.le_of_ble_eq_true rfl) ?_
  intro X C rw_ hl hT hQ hnm
  subst hl; subst hT
  have hin8 : ∀ w ∈ u_ws RX8 TX8 19, w ∈ wsX8_addRequest := by decide +kernel
  have hl16 : Cond.fieldLink RX8 16 (TX8 3).1 (TX8 3).2.1 (TX8 3).2.2.1 ∈ wsX8_addRequest := by decide +kernel
  show jj X 0 0 0 [(0, .ref h8), (1, .int x), (2, .int y), (3, .int z)] [] [(h8, cO 8 [.int rf, .ref rv, .ref rn, .ref rnw, .ref rt, .ref rd, .int (nI na), .int (nI nx), .ref rk, .ref rik, .ref rdk, .ref rre, .ref rle, .ref rhe, .ref rth, .ref rpa, .ref ror, .int bv, .int bo]), (rnw, cI (xT X) 37 (rowF ac ap ash an aob arq)), (rd, cI (xT X) 518 D)]
  have hc31 : ∀ (sd : Bool), (sd = (inR y 1 20 && inR z 1 99)) → jj X 0 0 31 [(0, .ref h8), (1, .int x), (2, .int y), (3, .int z), (4, .int (bI sd))] [] [(h8, cO 8 [.int rf, .ref rv, .ref rn, .ref rnw, .ref rt, .ref rd, .int (nI na), .int (nI nx), .ref rk, .ref rik, .ref rdk, .ref rre, .ref rle, .ref rhe, .ref rth, .ref rpa, .ref ror, .int bv, .int bo]), (rnw, cI (xT X) 37 (rowF ac ap ash an aob arq)), (rd, cI (xT X) 518 D)] := by
    intro sd hsd
    refine j_aload_n C dX8_addRequest_31 0 rfl rfl ?_
    refine j_iload_n C dX8_addRequest_32 1 rfl rfl ?_
    refine j_callSR C (nA := 1) (As := [.int x]) (c_X8_isCell (xl X) (xT X) x ) gX8_addRequest_X8_isCell rfl (by decide +kernel) rfl ⟨rfl, rfl⟩ (by decide) (by decide) [] rfl rfl (rest := [.ref h8]) rfl (Nat.le_of_ble_eq_true rfl) dX8_addRequest_33 ?_
    rintro _ rfl
    show jj X 0 0 36 [(0, .ref h8), (1, .int x), (2, .int y), (3, .int z), (4, .int (bI sd))] [.int (bI (inR x 0 149)), .ref h8] [(h8, cO 8 [.int rf, .ref rv, .ref rn, .ref rnw, .ref rt, .ref rd, .int (nI na), .int (nI nx), .ref rk, .ref rik, .ref rdk, .ref rre, .ref rle, .ref rhe, .ref rth, .ref rpa, .ref ror, .int bv, .int bo]), (rnw, cI (xT X) 37 (rowF ac ap ash an aob arq)), (rd, cI (xT X) 518 D)]
    refine j_if_ne C dX8_addRequest_36 (tgt := 43) (by decide) (fun q36 => ?_) (fun q36 => ?_)
    · skip
      have q36 := (kb_ne).mp q36
      obtain ⟨c, rfl, hb_c⟩ := inR_N (b := 149) q36
      refine j_iload C dX8_addRequest_43 4 rfl ?_
      refine j_if_ne C dX8_addRequest_45 (tgt := 52) (by decide) (fun q45 => ?_) (fun q45 => ?_)
      · skip
        have q45 := (kb_ne).mp q45
        refine j_aload_n C dX8_addRequest_52 0 rfl rfl ?_
        refine j_get C (hin8) (ci := 8) rfl 3 (by decide) (hl16) 0 rfl (v := .ref rnw) rfl dX8_addRequest_53 ?_
        refine j_bipush C dX8_addRequest_56 (v := (nI 24)) kc_b_24 ?_
        refine j_ialoadN C 24 rfl 1 rfl (by omega) (by decide) dX8_addRequest_58 ?_
        show jj X 0 0 59 [(0, .ref h8), (1, .int (nI c)), (2, .int y), (3, .int z), (4, .int (bI sd))] [.int (nI an), .ref h8] [(h8, cO 8 [.int rf, .ref rv, .ref rn, .ref rnw, .ref rt, .ref rd, .int (nI na), .int (nI nx), .ref rk, .ref rik, .ref rdk, .ref rre, .ref rle, .ref rhe, .ref rth, .ref rpa, .ref ror, .int bv, .int bo]), (rnw, cI (xT X) 37 (rowF ac ap ash an aob arq)), (rd, cI (xT X) 518 D)]
        refine j_iconst C dX8_addRequest_59 (v := (nI 4)) kc_i_4 ?_
        refine j_icmp_ne C dX8_addRequest_60 (tgt := 67) (by decide) (fun q60 => ?_) (fun q60 => ?_)
        · skip
          have q60 := (kn_ne (a := an) (b := 4) (by omega) (by omega)).mp q60
          refine j_iconst C dX8_addRequest_67 (v := (nI 0)) kc_i_0 ?_
          refine j_callVM C rw_ (nA := 1) (As := [.int (nI 0)]) (wr := [(rnw, cI (xT X) 37 (rowF ac ap ash an aob arq)), (rd, cI (xT X) 518 D)]) (c_X8_refused_0 (xl X) (xT X) h8 rv rn rnw rt rd rk rik rdk rre rle rhe rth rpa ror na nx rf bv bo ) gX8_addRequest_X8_refused rfl (by decide +kernel) rfl (by decide) (by decide) [0] [1, 2] rfl rfl rfl rfl (by decide) 0 rfl rfl (rest := []) rfl (Nat.le_of_ble_eq_true rfl) dX8_addRequest_68 ?_
          rintro _ _ ⟨rfl, rfl⟩
          show jj X 0 0 71 [(0, .ref h8), (1, .int (nI c)), (2, .int y), (3, .int z), (4, .int (bI sd))] [.int (bI false)] [(rnw, cI (xT X) 37 (rowF ac ap ash an aob arq)), (rd, cI (xT X) 518 D), (h8, cO 8 [.int (nI 0), .ref rv, .ref rn, .ref rnw, .ref rt, .ref rd, .int (nI na), .int (nI nx), .ref rk, .ref rik, .ref rdk, .ref rre, .ref rle, .ref rhe, .ref rth, .ref rpa, .ref ror, .int bv, .int bo])]
          refine j_if_eq C dX8_addRequest_71 (tgt := 76) (by decide) (fun _ => ?_) (fun h9 => absurd h9 (by decide +kernel))
          refine j_aload_n C dX8_addRequest_76 0 rfl rfl ?_
          refine j_callVM C rw_ (nA := 0) (As := []) (wr := []) (c_X8_note (xl X) (xT X) h8 rv rn rnw rt rd rk rik rdk rre rle rhe rth rpa ror na nx (nI 0) bv bo (rowF ac ap ash an aob arq) D (by exact hna) (by exact hnx)) gX8_addRequest_X8_note rfl (by decide +kernel) rfl (by decide) (by decide) [2, 0, 1] [] rfl rfl rfl rfl (by decide) 2 rfl rfl (rest := []) rfl (Nat.le_of_ble_eq_true rfl) dX8_addRequest_77 ?_
          rintro _ _ ⟨rfl, rfl⟩
          show jj X 0 0 80 [(0, .ref h8), (1, .int (nI c)), (2, .int y), (3, .int z), (4, .int (bI sd))] [] [(h8, cO 8 [.int (nI 0), .ref rv, .ref rn, .ref rnw, .ref rt, .ref rd, .int (nI (if na < 14 then na + 1 else 14)), .int (nI ((nx + 1) % 14)), .ref rk, .ref rik, .ref rdk, .ref rre, .ref rle, .ref rhe, .ref rth, .ref rpa, .ref ror, .int bv, .int bo]), (rnw, cI (xT X) 37 (rowF ac ap ash an aob arq)), (rd, cI (xT X) 518 (dgN D nx (rowF ac ap ash an aob arq)))]
          refine j_bipush C dX8_addRequest_80 (v := (nI 25)) kc_b_25 ?_
          refine j_iconst C dX8_addRequest_82 (v := (nI 3)) kc_i_3 ?_
          refine j_aload_n C dX8_addRequest_83 0 rfl rfl ?_
          refine j_get C (hin8) (ci := 8) rfl 3 (by decide) (hl16) 0 rfl (v := .ref rnw) rfl dX8_addRequest_84 ?_
          refine j_bipush C dX8_addRequest_87 (v := (nI 24)) kc_b_24 ?_
          refine j_ialoadN C 24 rfl 1 rfl (by omega) (by decide) dX8_addRequest_89 ?_
          show jj X 0 0 90 [(0, .ref h8), (1, .int (nI c)), (2, .int y), (3, .int z), (4, .int (bI sd))] [.int (nI an), .int (nI 3), .int (nI 25)] [(h8, cO 8 [.int (nI 0), .ref rv, .ref rn, .ref rnw, .ref rt, .ref rd, .int (nI (if na < 14 then na + 1 else 14)), .int (nI ((nx + 1) % 14)), .ref rk, .ref rik, .ref rdk, .ref rre, .ref rle, .ref rhe, .ref rth, .ref rpa, .ref ror, .int bv, .int bo]), (rnw, cI (xT X) 37 (rowF ac ap ash an aob arq)), (rd, cI (xT X) 518 (dgN D nx (rowF ac ap ash an aob arq)))]
          refine j_imul C dX8_addRequest_90 (v := (nI (3 * an))) (pk_mul _ _) ?_
          refine j_iadd C dX8_addRequest_91 (v := (nI (25 + 3 * an))) (nI_add _ _) ?_
          refine j_istore C dX8_addRequest_92 (by decide) (lv' := [(5, .int (nI (25 + 3 * an))), (0, .ref h8), (1, .int (nI c)), (2, .int y), (3, .int z), (4, .int (bI sd))]) rfl ?_
          refine j_aload_n C dX8_addRequest_94 1 rfl rfl ?_
          refine j_get C (hin8) (ci := 8) rfl 3 (by decide) (hl16) 0 rfl (v := .ref rnw) rfl dX8_addRequest_95 ?_
          refine j_iload C dX8_addRequest_98 0 rfl ?_
          refine j_iload_n C dX8_addRequest_100 2 rfl rfl ?_
          refine j_iastoreN C rw_ (25 + 3 * an) rfl 1 rfl (by omega) (by decide) (w' := [(h8, cO 8 [.int (nI 0), .ref rv, .ref rn, .ref rnw, .ref rt, .ref rd, .int (nI (if na < 14 then na + 1 else 14)), .int (nI ((nx + 1) % 14)), .ref rk, .ref rik, .ref rdk, .ref rre, .ref rle, .ref rhe, .ref rth, .ref rpa, .ref ror, .int bv, .int bo]), (rnw, cI (xT X) 37 (upd (rowF ac ap ash an aob arq) (25 + 3 * an) (nI c))), (rd, cI (xT X) 518 (dgN D nx (rowF ac ap ash an aob arq)))]) rfl dX8_addRequest_101 ?_
          rw [row_r]
          refine j_aload_n C dX8_addRequest_102 1 rfl rfl ?_
          refine j_get C (hin8) (ci := 8) rfl 3 (by decide) (hl16) 0 rfl (v := .ref rnw) rfl dX8_addRequest_103 ?_
          refine j_iload C dX8_addRequest_106 0 rfl ?_
          refine j_iconst C dX8_addRequest_108 (v := (nI 1)) kc_i_1 ?_
          refine j_iadd C dX8_addRequest_109 (v := (nI (25 + 3 * an + 1))) (nI_add _ _) ?_
          refine j_iload_n C dX8_addRequest_110 3 rfl rfl ?_
          refine j_iastoreN C rw_ (25 + 3 * an + 1) rfl 1 rfl (by omega) (by decide) (w' := [(h8, cO 8 [.int (nI 0), .ref rv, .ref rn, .ref rnw, .ref rt, .ref rd, .int (nI (if na < 14 then na + 1 else 14)), .int (nI ((nx + 1) % 14)), .ref rk, .ref rik, .ref rdk, .ref rre, .ref rle, .ref rhe, .ref rth, .ref rpa, .ref ror, .int bv, .int bo]), (rnw, cI (xT X) 37 (upd (rowF ac ap ash an aob (upd arq (3 * an) (nI c))) (25 + 3 * an + 1) y)), (rd, cI (xT X) 518 (dgN D nx (rowF ac ap ash an aob arq)))]) rfl dX8_addRequest_111 ?_
          rw [show 25 + 3 * an + 1 = 25 + (3 * an + 1) by omega, row_r]
          refine j_aload_n C dX8_addRequest_112 1 rfl rfl ?_
          refine j_get C (hin8) (ci := 8) rfl 3 (by decide) (hl16) 0 rfl (v := .ref rnw) rfl dX8_addRequest_113 ?_
          refine j_iload C dX8_addRequest_116 0 rfl ?_
          refine j_iconst C dX8_addRequest_118 (v := (nI 2)) kc_i_2 ?_
          refine j_iadd C dX8_addRequest_119 (v := (nI (25 + 3 * an + 2))) (nI_add _ _) ?_
          refine j_iload_n C dX8_addRequest_120 4 rfl rfl ?_
          refine j_iastoreN C rw_ (25 + 3 * an + 2) rfl 1 rfl (by omega) (by decide) (w' := [(h8, cO 8 [.int (nI 0), .ref rv, .ref rn, .ref rnw, .ref rt, .ref rd, .int (nI (if na < 14 then na + 1 else 14)), .int (nI ((nx + 1) % 14)), .ref rk, .ref rik, .ref rdk, .ref rre, .ref rle, .ref rhe, .ref rth, .ref rpa, .ref ror, .int bv, .int bo]), (rnw, cI (xT X) 37 (upd (rowF ac ap ash an aob (upd (upd arq (3 * an) (nI c)) (3 * an + 1) y)) (25 + 3 * an + 2) z)), (rd, cI (xT X) 518 (dgN D nx (rowF ac ap ash an aob arq)))]) rfl dX8_addRequest_121 ?_
          rw [show 25 + 3 * an + 2 = 25 + (3 * an + 2) by omega, row_r]
          refine j_aload_n C dX8_addRequest_122 1 rfl rfl ?_
          refine j_get C (hin8) (ci := 8) rfl 3 (by decide) (hl16) 0 rfl (v := .ref rnw) rfl dX8_addRequest_123 ?_
          refine j_bipush C dX8_addRequest_126 (v := (nI 24)) kc_b_24 ?_
          refine j_dup2 C dX8_addRequest_128 rfl rfl ?_
          refine j_ialoadN C 24 rfl 1 rfl (by omega) (by decide) dX8_addRequest_129 ?_
          show jj X 0 0 130 [(5, .int (nI (25 + 3 * an))), (0, .ref h8), (1, .int (nI c)), (2, .int y), (3, .int z), (4, .int (bI sd))] [.int (nI an), .int (nI 24), .ref rnw] [(h8, cO 8 [.int (nI 0), .ref rv, .ref rn, .ref rnw, .ref rt, .ref rd, .int (nI (if na < 14 then na + 1 else 14)), .int (nI ((nx + 1) % 14)), .ref rk, .ref rik, .ref rdk, .ref rre, .ref rle, .ref rhe, .ref rth, .ref rpa, .ref ror, .int bv, .int bo]), (rnw, cI (xT X) 37 (rowF ac ap ash an aob (upd (upd (upd arq (3 * an) (nI c)) (3 * an + 1) y) (3 * an + 2) z))), (rd, cI (xT X) 518 (dgN D nx (rowF ac ap ash an aob arq)))]
          refine j_iconst C dX8_addRequest_130 (v := (nI 1)) kc_i_1 ?_
          refine j_iadd C dX8_addRequest_131 (v := (nI (an + 1))) (nI_add _ _) ?_
          refine j_iastoreN C rw_ 24 rfl 1 rfl (by omega) (by decide) (w' := [(h8, cO 8 [.int (nI 0), .ref rv, .ref rn, .ref rnw, .ref rt, .ref rd, .int (nI (if na < 14 then na + 1 else 14)), .int (nI ((nx + 1) % 14)), .ref rk, .ref rik, .ref rdk, .ref rre, .ref rle, .ref rhe, .ref rth, .ref rpa, .ref ror, .int bv, .int bo]), (rnw, cI (xT X) 37 (upd (rowF ac ap ash an aob (upd (upd (upd arq (3 * an) (nI c)) (3 * an + 1) y) (3 * an + 2) z)) 24 (nI (an + 1)))), (rd, cI (xT X) 518 (dgN D nx (rowF ac ap ash an aob arq)))]) rfl dX8_addRequest_132 ?_
          rw [row_n]
          refine j_aload_n C dX8_addRequest_133 1 rfl rfl ?_
          refine j_get C (hin8) (ci := 8) rfl 3 (by decide) (hl16) 0 rfl (v := .ref rnw) rfl dX8_addRequest_134 ?_
          refine j_bipush C dX8_addRequest_137 (v := (nI 24)) kc_b_24 ?_
          refine j_ialoadN C 24 rfl 1 rfl (by omega) (by decide) dX8_addRequest_139 ?_
          show jj X 0 0 140 [(5, .int (nI (25 + 3 * an))), (0, .ref h8), (1, .int (nI c)), (2, .int y), (3, .int z), (4, .int (bI sd))] [.int (nI (an + 1))] [(h8, cO 8 [.int (nI 0), .ref rv, .ref rn, .ref rnw, .ref rt, .ref rd, .int (nI (if na < 14 then na + 1 else 14)), .int (nI ((nx + 1) % 14)), .ref rk, .ref rik, .ref rdk, .ref rre, .ref rle, .ref rhe, .ref rth, .ref rpa, .ref ror, .int bv, .int bo]), (rnw, cI (xT X) 37 (rowF ac ap ash (an + 1) aob (upd (upd (upd arq (3 * an) (nI c)) (3 * an + 1) y) (3 * an + 2) z))), (rd, cI (xT X) 518 (dgN D nx (rowF ac ap ash an aob arq)))]
          refine j_iconst C dX8_addRequest_140 (v := (nI 1)) kc_i_1 ?_
          refine j_isub C dX8_addRequest_141 (v := (nI ((an + 1) - 1))) (pk_sub (by omega)) ?_
          refine j_iretM C rw_ hQ (by decide) (by decide) rfl ?_ dX8_addRequest_142
          exact ⟨0, _, rfl, Or.inr ⟨rfl, c, rfl, rfl, by omega, by rw [← hsd]; exact q45, by omega, by rw [Nat.add_sub_cancel]⟩⟩
        · skip
          have q60 := (kn_nne (a := an) (b := 4) (by omega) (by omega)).mp q60
          refine j_iconst C dX8_addRequest_63 (v := (nI 3)) kc_i_3 ?_
          refine j_goto C dX8_addRequest_64 (tgt := 68) (by decide) ?_
          refine j_callVM C rw_ (nA := 1) (As := [.int (nI 3)]) (wr := [(rnw, cI (xT X) 37 (rowF ac ap ash an aob arq)), (rd, cI (xT X) 518 D)]) (c_X8_refused_s (xl X) (xT X) h8 rv rn rnw rt rd rk rik rdk rre rle rhe rth rpa ror na nx rf bv bo 3 (by omega) (by omega)) gX8_addRequest_X8_refused rfl (by decide +kernel) rfl (by decide) (by decide) [0] [1, 2] rfl rfl rfl rfl (by decide) 0 rfl rfl (rest := []) rfl (Nat.le_of_ble_eq_true rfl) dX8_addRequest_68 ?_
          rintro _ _ ⟨rfl, rfl⟩
          show jj X 0 0 71 [(0, .ref h8), (1, .int (nI c)), (2, .int y), (3, .int z), (4, .int (bI sd))] [.int (bI true)] [(rnw, cI (xT X) 37 (rowF ac ap ash an aob arq)), (rd, cI (xT X) 518 D), (h8, cO 8 [.int (nI 3), .ref rv, .ref rn, .ref rnw, .ref rt, .ref rd, .int (nI na), .int (nI nx), .ref rk, .ref rik, .ref rdk, .ref rre, .ref rle, .ref rhe, .ref rth, .ref rpa, .ref ror, .int bv, .int bo])]
          refine j_if_eq C dX8_addRequest_71 (tgt := 76) (by decide) (fun h9 => absurd h9 (by decide +kernel)) (fun _ => ?_)
          refine j_iconst C dX8_addRequest_74 (v := (nI 0)) kc_i_0 ?_
          refine j_perm C (w' := [(h8, cO 8 [.int (nI 3), .ref rv, .ref rn, .ref rnw, .ref rt, .ref rd, .int (nI na), .int (nI nx), .ref rk, .ref rik, .ref rdk, .ref rre, .ref rle, .ref rhe, .ref rth, .ref rpa, .ref ror, .int bv, .int bo]), (rnw, cI (xT X) 37 (rowF ac ap ash an aob arq)), (rd, cI (xT X) 518 D)]) [2, 0, 1] rfl rfl ?_
          refine j_iretM C rw_ hQ (by decide) (by decide) rfl ?_ dX8_addRequest_75
          exact ⟨3, _, rfl, Or.inl ⟨rfl, Or.inr (Or.inr (⟨rfl, q36, by rw [← hsd]; exact q45, q60⟩))⟩⟩
      · skip
        have q45 := (kb_nne).mp q45
        refine j_iconst C dX8_addRequest_48 (v := (nI 2)) kc_i_2 ?_
        refine j_goto C dX8_addRequest_49 (tgt := 68) (by decide) ?_
        refine j_callVM C rw_ (nA := 1) (As := [.int (nI 2)]) (wr := [(rnw, cI (xT X) 37 (rowF ac ap ash an aob arq)), (rd, cI (xT X) 518 D)]) (c_X8_refused_s (xl X) (xT X) h8 rv rn rnw rt rd rk rik rdk rre rle rhe rth rpa ror na nx rf bv bo 2 (by omega) (by omega)) gX8_addRequest_X8_refused rfl (by decide +kernel) rfl (by decide) (by decide) [0] [1, 2] rfl rfl rfl rfl (by decide) 0 rfl rfl (rest := []) rfl (Nat.le_of_ble_eq_true rfl) dX8_addRequest_68 ?_
        rintro _ _ ⟨rfl, rfl⟩
        show jj X 0 0 71 [(0, .ref h8), (1, .int (nI c)), (2, .int y), (3, .int z), (4, .int (bI sd))] [.int (bI true)] [(rnw, cI (xT X) 37 (rowF ac ap ash an aob arq)), (rd, cI (xT X) 518 D), (h8, cO 8 [.int (nI 2), .ref rv, .ref rn, .ref rnw, .ref rt, .ref rd, .int (nI na), .int (nI nx), .ref rk, .ref rik, .ref rdk, .ref rre, .ref rle, .ref rhe, .ref rth, .ref rpa, .ref ror, .int bv, .int bo])]
        refine j_if_eq C dX8_addRequest_71 (tgt := 76) (by decide) (fun h9 => absurd h9 (by decide +kernel)) (fun _ => ?_)
        refine j_iconst C dX8_addRequest_74 (v := (nI 0)) kc_i_0 ?_
        refine j_perm C (w' := [(h8, cO 8 [.int (nI 2), .ref rv, .ref rn, .ref rnw, .ref rt, .ref rd, .int (nI na), .int (nI nx), .ref rk, .ref rik, .ref rdk, .ref rre, .ref rle, .ref rhe, .ref rth, .ref rpa, .ref ror, .int bv, .int bo]), (rnw, cI (xT X) 37 (rowF ac ap ash an aob arq)), (rd, cI (xT X) 518 D)]) [2, 0, 1] rfl rfl ?_
        refine j_iretM C rw_ hQ (by decide) (by decide) rfl ?_ dX8_addRequest_75
        exact ⟨2, _, rfl, Or.inl ⟨rfl, Or.inr (Or.inl ⟨rfl, q36, by rw [← hsd]; exact q45⟩)⟩⟩
    · skip
      have q36 := (kb_nne).mp q36
      refine j_iconst C dX8_addRequest_39 (v := (nI 1)) kc_i_1 ?_
      refine j_goto C dX8_addRequest_40 (tgt := 68) (by decide) ?_
      refine j_callVM C rw_ (nA := 1) (As := [.int (nI 1)]) (wr := [(rnw, cI (xT X) 37 (rowF ac ap ash an aob arq)), (rd, cI (xT X) 518 D)]) (c_X8_refused_s (xl X) (xT X) h8 rv rn rnw rt rd rk rik rdk rre rle rhe rth rpa ror na nx rf bv bo 1 (by omega) (by omega)) gX8_addRequest_X8_refused rfl (by decide +kernel) rfl (by decide) (by decide) [0] [1, 2] rfl rfl rfl rfl (by decide) 0 rfl rfl (rest := []) rfl (Nat.le_of_ble_eq_true rfl) dX8_addRequest_68 ?_
      rintro _ _ ⟨rfl, rfl⟩
      show jj X 0 0 71 [(0, .ref h8), (1, .int x), (2, .int y), (3, .int z), (4, .int (bI sd))] [.int (bI true)] [(rnw, cI (xT X) 37 (rowF ac ap ash an aob arq)), (rd, cI (xT X) 518 D), (h8, cO 8 [.int (nI 1), .ref rv, .ref rn, .ref rnw, .ref rt, .ref rd, .int (nI na), .int (nI nx), .ref rk, .ref rik, .ref rdk, .ref rre, .ref rle, .ref rhe, .ref rth, .ref rpa, .ref ror, .int bv, .int bo])]
      refine j_if_eq C dX8_addRequest_71 (tgt := 76) (by decide) (fun h9 => absurd h9 (by decide +kernel)) (fun _ => ?_)
      refine j_iconst C dX8_addRequest_74 (v := (nI 0)) kc_i_0 ?_
      refine j_perm C (w' := [(h8, cO 8 [.int (nI 1), .ref rv, .ref rn, .ref rnw, .ref rt, .ref rd, .int (nI na), .int (nI nx), .ref rk, .ref rik, .ref rdk, .ref rre, .ref rle, .ref rhe, .ref rth, .ref rpa, .ref ror, .int bv, .int bo]), (rnw, cI (xT X) 37 (rowF ac ap ash an aob arq)), (rd, cI (xT X) 518 D)]) [2, 0, 1] rfl rfl ?_
      refine j_iretM C rw_ hQ (by decide) (by decide) rfl ?_ dX8_addRequest_75
      exact ⟨1, _, rfl, Or.inl ⟨rfl, Or.inl ⟨rfl, q36⟩⟩⟩
  refine j_iload_n C dX8_addRequest_0 2 rfl rfl ?_
  refine j_i2l C dX8_addRequest_1 (v := y.toInt64) rfl ?_
  refine j_lconst C dX8_addRequest_2 (v := lN 1) rfl ?_
  refine j_ldc2l C dX8_addRequest_3 (v := lN 20) (by decide +kernel) ?_
  refine j_callSR C (nA := 3) (As := [.long y.toInt64, .long (lN 1), .long (lN 20)]) (c_X8_in (xl X) (xT X) y (lN 1) (lN 20) (1) (20) (by decide +kernel) (by decide +kernel)) gX8_addRequest_X8_in rfl (by decide +kernel) rfl ⟨rfl, rfl⟩ (by decide) (by decide) [] rfl rfl (rest := []) rfl (Nat.le_of_ble_eq_true rfl) dX8_addRequest_6 ?_
  rintro _ rfl
  show jj X 0 0 9 [(0, .ref h8), (1, .int x), (2, .int y), (3, .int z)] [.int (bI (inR y (1) (20)))] [(h8, cO 8 [.int rf, .ref rv, .ref rn, .ref rnw, .ref rt, .ref rd, .int (nI na), .int (nI nx), .ref rk, .ref rik, .ref rdk, .ref rre, .ref rle, .ref rhe, .ref rth, .ref rpa, .ref ror, .int bv, .int bo]), (rnw, cI (xT X) 37 (rowF ac ap ash an aob arq)), (rd, cI (xT X) 518 D)]
  refine j_if_eq C dX8_addRequest_9 (tgt := 28) (by decide) (fun q9 => ?_) (fun q9 => ?_)
  · skip
    have q9 := (kb_eq).mp q9
    refine j_iconst C dX8_addRequest_28 (v := (nI 0)) kc_i_0 ?_
    show jj X 0 0 29 [(0, .ref h8), (1, .int x), (2, .int y), (3, .int z)] [.int (bI false)] [(h8, cO 8 [.int rf, .ref rv, .ref rn, .ref rnw, .ref rt, .ref rd, .int (nI na), .int (nI nx), .ref rk, .ref rik, .ref rdk, .ref rre, .ref rle, .ref rhe, .ref rth, .ref rpa, .ref ror, .int bv, .int bo]), (rnw, cI (xT X) 37 (rowF ac ap ash an aob arq)), (rd, cI (xT X) 518 D)]
    refine j_istore C dX8_addRequest_29 (by decide) (lv' := [(4, .int (bI false)), (0, .ref h8), (1, .int x), (2, .int y), (3, .int z)]) rfl ?_
    refine j_lv [1, 2, 3, 4, 0] rfl ?_
    refine hc31 _ ?_
    · rw [q9]; rfl
  · skip
    have q9 := (kb_neq).mp q9
    refine j_iload_n C dX8_addRequest_12 3 rfl rfl ?_
    refine j_i2l C dX8_addRequest_13 (v := z.toInt64) rfl ?_
    refine j_lconst C dX8_addRequest_14 (v := lN 1) rfl ?_
    refine j_ldc2l C dX8_addRequest_15 (v := lN 99) (by decide +kernel) ?_
    refine j_callSR C (nA := 3) (As := [.long z.toInt64, .long (lN 1), .long (lN 99)]) (c_X8_in (xl X) (xT X) z (lN 1) (lN 99) (1) (99) (by decide +kernel) (by decide +kernel)) gX8_addRequest_X8_in rfl (by decide +kernel) rfl ⟨rfl, rfl⟩ (by decide) (by decide) [] rfl rfl (rest := []) rfl (Nat.le_of_ble_eq_true rfl) dX8_addRequest_18 ?_
    rintro _ rfl
    show jj X 0 0 21 [(0, .ref h8), (1, .int x), (2, .int y), (3, .int z)] [.int (bI (inR z (1) (99)))] [(h8, cO 8 [.int rf, .ref rv, .ref rn, .ref rnw, .ref rt, .ref rd, .int (nI na), .int (nI nx), .ref rk, .ref rik, .ref rdk, .ref rre, .ref rle, .ref rhe, .ref rth, .ref rpa, .ref ror, .int bv, .int bo]), (rnw, cI (xT X) 37 (rowF ac ap ash an aob arq)), (rd, cI (xT X) 518 D)]
    refine j_if_eq C dX8_addRequest_21 (tgt := 28) (by decide) (fun q21 => ?_) (fun q21 => ?_)
    · skip
      have q21 := (kb_eq).mp q21
      refine j_iconst C dX8_addRequest_28 (v := (nI 0)) kc_i_0 ?_
      show jj X 0 0 29 [(0, .ref h8), (1, .int x), (2, .int y), (3, .int z)] [.int (bI false)] [(h8, cO 8 [.int rf, .ref rv, .ref rn, .ref rnw, .ref rt, .ref rd, .int (nI na), .int (nI nx), .ref rk, .ref rik, .ref rdk, .ref rre, .ref rle, .ref rhe, .ref rth, .ref rpa, .ref ror, .int bv, .int bo]), (rnw, cI (xT X) 37 (rowF ac ap ash an aob arq)), (rd, cI (xT X) 518 D)]
      refine j_istore C dX8_addRequest_29 (by decide) (lv' := [(4, .int (bI false)), (0, .ref h8), (1, .int x), (2, .int y), (3, .int z)]) rfl ?_
      refine j_lv [1, 2, 3, 4, 0] rfl ?_
      refine hc31 _ ?_
      · rw [q9, q21]; rfl
    · skip
      have q21 := (kb_neq).mp q21
      refine j_iconst C dX8_addRequest_24 (v := (nI 1)) kc_i_1 ?_
      refine j_goto C dX8_addRequest_25 (tgt := 29) (by decide) ?_
      show jj X 0 0 29 [(0, .ref h8), (1, .int x), (2, .int y), (3, .int z)] [.int (bI true)] [(h8, cO 8 [.int rf, .ref rv, .ref rn, .ref rnw, .ref rt, .ref rd, .int (nI na), .int (nI nx), .ref rk, .ref rik, .ref rdk, .ref rre, .ref rle, .ref rhe, .ref rth, .ref rpa, .ref ror, .int bv, .int bo]), (rnw, cI (xT X) 37 (rowF ac ap ash an aob arq)), (rd, cI (xT X) 518 D)]
      refine j_istore C dX8_addRequest_29 (by decide) (lv' := [(4, .int (bI true)), (0, .ref h8), (1, .int x), (2, .int y), (3, .int z)]) rfl ?_
      refine j_lv [1, 2, 3, 4, 0] rfl ?_
      refine hc31 _ ?_
      · rw [q9, q21]; rfl

set_option maxHeartbeats 4000000 in
set_option maxRecDepth 100000 in
/-- setAxis -/
theorem c_X8_setAxis (l : Launch) (T : jj_T) (h8 rv rn rnw rt rd rk rik rdk rre rle rhe rth rpa ror na nx : Nat) (rf bv bo : Int32) (ac ap an : Nat) (ash : Bool) (aob arq : Nat → Int32) (g9 D : Nat → Int32) (x y z u : Int32) (hna : na ≤ 14) (hnx : nx < 14) (hap : ap < 150) (hco : coI aob) : jM l T yX8_setAxis wsX8_setAxis { frames := 5, cells := 0, slots := 0, locals := 122 } [.ref h8, .int x, .int y, .int z, .int u] [(h8, cO 8 [.int rf, .ref rv, .ref rn, .ref rnw, .ref rt, .ref rd, .int (nI na), .int (nI nx), .ref rk, .ref rik, .ref rdk, .ref rre, .ref rle, .ref rhe, .ref rth, .ref rpa, .ref ror, .int bv, .int bo]), (rv, cI T 450 cvec), (rnw, cI T 37 (rowF ac ap ash an aob arq)), (rt, cI T 37 g9), (rd, cI T 518 D)] (fun v w1 => ∃ (k8 : Nat) (r : Int32), v = some (.int r) ∧ ((∃ g' : Nat → Int32, w1 = [(h8, cO 8 [.int (nI k8), .ref rv, .ref rn, .ref rnw, .ref rt, .ref rd, .int (nI na), .int (nI nx), .ref rk, .ref rik, .ref rdk, .ref rre, .ref rle, .ref rhe, .ref rth, .ref rpa, .ref ror, .int bv, .int bo]), (rv, cI T 450 cvec), (rnw, cI T 37 (rowF ac ap ash an aob arq)), (rt, cI T 37 g'), (rd, cI T 518 D)] ∧ ((k8 = 1 ∧ inR x 0 2 = false) ∨ (k8 = 2 ∧ inR x 0 2 = true ∧ ((inR y (-(99 : Int)) 99 && (inR z (-(99 : Int)) 99 && inR u (-(99 : Int)) 99)) && (decide (y ≠ 0) || (decide (z ≠ 0) || decide (u ≠ 0)))) = false) ∨ (k8 = 3 ∧ ∃ o : Nat, x = nI o ∧ o < 3 ∧ ((inR y (-(99 : Int)) 99 && (inR z (-(99 : Int)) 99 && inR u (-(99 : Int)) 99)) && (decide (y ≠ 0) || (decide (z ≠ 0) || decide (u ≠ 0)))) = true ∧ (!ash && br (upd (upd (upd aob (7 * o + 0) y) (7 * o + (0 + 1)) z) (7 * o + (0 + 2)) u) ap ac) = true))) ∨ (k8 = 0 ∧ ∃ o : Nat, w1 = [(h8, cO 8 [.int (nI 0), .ref rv, .ref rn, .ref rnw, .ref rt, .ref rd, .int (nI (if na < 14 then na + 1 else 14)), .int (nI ((nx + 1) % 14)), .ref rk, .ref rik, .ref rdk, .ref rre, .ref rle, .ref rhe, .ref rth, .ref rpa, .ref ror, .int bv, .int bo]), (rv, cI T 450 cvec), (rnw, cI T 37 (rowF ac ap ash an (upd (upd (upd aob (7 * o + 0) y) (7 * o + (0 + 1)) z) (7 * o + (0 + 2)) u) arq)), (rt, cI T 37 (rowF ac ap ash an (upd (upd (upd aob (7 * o + 0) y) (7 * o + (0 + 1)) z) (7 * o + (0 + 2)) u) arq)), (rd, cI T 518 (dgN D nx (rowF ac ap ash an aob arq)))] ∧ x = nI o ∧ o < 3 ∧ ((inR y (-(99 : Int)) 99 && (inR z (-(99 : Int)) 99 && inR u (-(99 : Int)) 99)) && (decide (y ≠ 0) || (decide (z ≠ 0) || decide (u ≠ 0)))) = true ∧ (!ash && br (upd (upd (upd aob (7 * o + 0) y) (7 * o + (0 + 1)) z) (7 * o + (0 + 2)) u) ap ac) = false ∧ r = nI (fb_ct (fun c => br (upd (upd (upd aob (7 * o + 0) y) (7 * o + (0 + 1)) z) (7 * o + (0 + 2)) u) c ac) 150)))) := by
  refine jM.of (cc := cX8_setAxis) (maxL := 6) (ret := (some .int)) (by decide) rfl (Nat.le_of_ble_eq_true rfl) ?_
  intro X C rw_ hl hT hQ hnm
  subst hl; subst hT
  have hin8 : ∀ w ∈ u_ws RX8 TX8 19, w ∈ wsX8_setAxis := by decide +kernel
  have hl16 : Cond.fieldLink RX8 16 (TX8 3).1 (TX8 3).2.1 (TX8 3).2.2.1 ∈ wsX8_setAxis := by decide +kernel
  have hl19 : Cond.fieldLink RX8 19 (TX8 4).1 (TX8 4).2.1 (TX8 4).2.2.1 ∈ wsX8_setAxis := by decide +kernel
  show jj X 0 0 0 [(0, .ref h8), (1, .int x), (2, .int y), (3, .int z), (4, .int u)] [] [(h8, cO 8 [.int rf, .ref rv, .ref rn, .ref rnw, .ref rt, .ref rd, .int (nI na), .int (nI nx), .ref rk, .ref rik, .ref rdk, .ref rre, .ref rle, .ref rhe, .ref rth, .ref rpa, .ref ror, .int bv, .int bo]), (rv, cI (xT X) 450 cvec), (rnw, cI (xT X) 37 (rowF ac ap ash an aob arq)), (rt, cI (xT X) 37 g9), (rd, cI (xT X) 518 D)]
  have hc32 : ∀ (sd : Bool), (sd = ((inR y (-(99 : Int)) 99 && (inR z (-(99 : Int)) 99 && inR u (-(99 : Int)) 99)) && (decide (y ≠ 0) || (decide (z ≠ 0) || decide (u ≠ 0))))) → jj X 0 0 32 [(0, .ref h8), (1, .int x), (2, .int y), (3, .int z), (4, .int u), (5, .int (bI sd))] [] [(h8, cO 8 [.int rf, .ref rv, .ref rn, .ref rnw, .ref rt, .ref rd, .int (nI na), .int (nI nx), .ref rk, .ref rik, .ref rdk, .ref rre, .ref rle, .ref rhe, .ref rth, .ref rpa, .ref ror, .int bv, .int bo]), (rv, cI (xT X) 450 cvec), (rnw, cI (xT X) 37 (rowF ac ap ash an aob arq)), (rt, cI (xT X) 37 g9), (rd, cI (xT X) 518 D)] := by
    intro sd hsd
    refine j_aload_n C dX8_setAxis_32 0 rfl rfl ?_
    refine j_iload_n C dX8_setAxis_33 1 rfl rfl ?_
    refine j_callSR C (nA := 1) (As := [.int x]) (c_X8_isThird (xl X) (xT X) x ) gX8_setAxis_X8_isThird rfl (by decide +kernel) rfl ⟨rfl, rfl⟩ (by decide) (by decide) [] rfl rfl (rest := [.ref h8]) rfl (Nat.le_of_ble_eq_true rfl) dX8_setAxis_34 ?_
    rintro _ rfl
    show jj X 0 0 37 [(0, .ref h8), (1, .int x), (2, .int y), (3, .int z), (4, .int u), (5, .int (bI sd))] [.int (bI (inR x 0 2)), .ref h8] [(h8, cO 8 [.int rf, .ref rv, .ref rn, .ref rnw, .ref rt, .ref rd, .int (nI na), .int (nI nx), .ref rk, .ref rik, .ref rdk, .ref rre, .ref rle, .ref rhe, .ref rth, .ref rpa, .ref ror, .int bv, .int bo]), (rv, cI (xT X) 450 cvec), (rnw, cI (xT X) 37 (rowF ac ap ash an aob arq)), (rt, cI (xT X) 37 g9), (rd, cI (xT X) 518 D)]
    refine j_if_ne C dX8_setAxis_37 (tgt := 44) (by decide) (fun q37 => ?_) (fun q37 => ?_)
    · skip
      have q37 := (kb_ne).mp q37
      refine j_iload C dX8_setAxis_44 5 rfl ?_
      refine j_if_ne C dX8_setAxis_46 (tgt := 53) (by decide) (fun q46 => ?_) (fun q46 => ?_)
      · skip
        have q46 := (kb_ne).mp q46
        refine j_iconst C dX8_setAxis_53 (v := (nI 0)) kc_i_0 ?_
        refine j_callVM C rw_ (nA := 1) (As := [.int (nI 0)]) (wr := [(rv, cI (xT X) 450 cvec), (rnw, cI (xT X) 37 (rowF ac ap ash an aob arq)), (rt, cI (xT X) 37 g9), (rd, cI (xT X) 518 D)]) (c_X8_refused_0 (xl X) (xT X) h8 rv rn rnw rt rd rk rik rdk rre rle rhe rth rpa ror na nx rf bv bo ) gX8_setAxis_X8_refused rfl (by decide +kernel) rfl (by decide) (by decide) [0] [1, 2, 3, 4] rfl rfl rfl rfl (by decide) 0 rfl rfl (rest := []) rfl (Nat.le_of_ble_eq_true rfl) dX8_setAxis_54 ?_
        rintro _ _ ⟨rfl, rfl⟩
        show jj X 0 0 57 [(0, .ref h8), (1, .int x), (2, .int y), (3, .int z), (4, .int u), (5, .int (bI sd))] [.int (bI false)] [(rv, cI (xT X) 450 cvec), (rnw, cI (xT X) 37 (rowF ac ap ash an aob arq)), (rt, cI (xT X) 37 g9), (rd, cI (xT X) 518 D), (h8, cO 8 [.int (nI 0), .ref rv, .ref rn, .ref rnw, .ref rt, .ref rd, .int (nI na), .int (nI nx), .ref rk, .ref rik, .ref rdk, .ref rre, .ref rle, .ref rhe, .ref rth, .ref rpa, .ref ror, .int bv, .int bo])]
        refine j_if_eq C dX8_setAxis_57 (tgt := 62) (by decide) (fun _ => ?_) (fun h9 => absurd h9 (by decide +kernel))
        obtain ⟨o, rfl, hb_o⟩ := inR_N (b := 2) q37
        refine j_aload_n C dX8_setAxis_62 0 rfl rfl ?_
        refine j_get C (hin8) (ci := 8) rfl 3 (by decide) (hl16) 4 rfl (v := .ref rnw) rfl dX8_setAxis_63 ?_
        refine j_aload_n C dX8_setAxis_66 0 rfl rfl ?_
        refine j_get C (hin8) (ci := 8) rfl 4 (by decide) (hl19) 4 rfl (v := .ref rt) rfl dX8_setAxis_67 ?_
        refine j_callSM C rw_ (nA := 2) (As := [.ref rnw, .ref rt]) (wr := [(rv, cI (xT X) 450 cvec), (rd, cI (xT X) 518 D), (h8, cO 8 [.int (nI 0), .ref rv, .ref rn, .ref rnw, .ref rt, .ref rd, .int (nI na), .int (nI nx), .ref rk, .ref rik, .ref rdk, .ref rre, .ref rle, .ref rhe, .ref rth, .ref rpa, .ref ror, .int bv, .int bo])]) (c_X8_copy (xl X) (xT X) rnw rt (rowF ac ap ash an aob arq) g9 ) gX8_setAxis_X8_copy rfl (by decide +kernel) rfl (by decide) (by decide) [1, 2] [0, 3, 4] rfl rfl rfl rfl (by decide) (rest := []) rfl (Nat.le_of_ble_eq_true rfl) dX8_setAxis_70 ?_
        rintro _ _ ⟨rfl, rfl⟩
        show jj X 0 0 73 [(0, .ref h8), (1, .int (nI o)), (2, .int y), (3, .int z), (4, .int u), (5, .int (bI sd))] [] [(rv, cI (xT X) 450 cvec), (rd, cI (xT X) 518 D), (h8, cO 8 [.int (nI 0), .ref rv, .ref rn, .ref rnw, .ref rt, .ref rd, .int (nI na), .int (nI nx), .ref rk, .ref rik, .ref rdk, .ref rre, .ref rle, .ref rhe, .ref rth, .ref rpa, .ref ror, .int bv, .int bo]), (rnw, cI (xT X) 37 (rowF ac ap ash an aob arq)), (rt, cI (xT X) 37 (rowF ac ap ash an aob arq))]
        refine j_aload_n C dX8_setAxis_73 0 rfl rfl ?_
        refine j_get C (hin8) (ci := 8) rfl 4 (by decide) (hl19) 2 rfl (v := .ref rt) rfl dX8_setAxis_74 ?_
        refine j_bipush C dX8_setAxis_77 (v := (nI 7)) kc_b_7 ?_
        refine j_iload_n C dX8_setAxis_79 1 rfl rfl ?_
        refine j_imul C dX8_setAxis_80 (v := (nI (7 * o))) (pk_mul _ _) ?_
        refine j_iload_n C dX8_setAxis_81 2 rfl rfl ?_
        refine j_iastoreN C rw_ (7 * o) rfl 4 rfl (by omega) (by decide) (w' := [(rv, cI (xT X) 450 cvec), (rd, cI (xT X) 518 D), (h8, cO 8 [.int (nI 0), .ref rv, .ref rn, .ref rnw, .ref rt, .ref rd, .int (nI na), .int (nI nx), .ref rk, .ref rik, .ref rdk, .ref rre, .ref rle, .ref rhe, .ref rth, .ref rpa, .ref ror, .int bv, .int bo]), (rnw, cI (xT X) 37 (rowF ac ap ash an aob arq)), (rt, cI (xT X) 37 (upd (rowF ac ap ash an aob arq) (7 * o) y))]) rfl dX8_setAxis_82 ?_
        rw [row_o (k := 7 * o) (by omega)]
        refine j_aload_n C dX8_setAxis_83 0 rfl rfl ?_
        refine j_get C (hin8) (ci := 8) rfl 4 (by decide) (hl19) 2 rfl (v := .ref rt) rfl dX8_setAxis_84 ?_
        refine j_bipush C dX8_setAxis_87 (v := (nI 7)) kc_b_7 ?_
        refine j_iload_n C dX8_setAxis_89 1 rfl rfl ?_
        refine j_imul C dX8_setAxis_90 (v := (nI (7 * o))) (pk_mul _ _) ?_
        refine j_iconst C dX8_setAxis_91 (v := (nI 1)) kc_i_1 ?_
        refine j_iadd C dX8_setAxis_92 (v := (nI (7 * o + 1))) (nI_add _ _) ?_
        refine j_iload_n C dX8_setAxis_93 3 rfl rfl ?_
        refine j_iastoreN C rw_ (7 * o + 1) rfl 4 rfl (by omega) (by decide) (w' := [(rv, cI (xT X) 450 cvec), (rd, cI (xT X) 518 D), (h8, cO 8 [.int (nI 0), .ref rv, .ref rn, .ref rnw, .ref rt, .ref rd, .int (nI na), .int (nI nx), .ref rk, .ref rik, .ref rdk, .ref rre, .ref rle, .ref rhe, .ref rth, .ref rpa, .ref ror, .int bv, .int bo]), (rnw, cI (xT X) 37 (rowF ac ap ash an aob arq)), (rt, cI (xT X) 37 (upd (rowF ac ap ash an (upd aob (7 * o) y) arq) (7 * o + 1) z))]) rfl dX8_setAxis_94 ?_
        rw [row_o (k := 7 * o + 1) (by omega)]
        refine j_aload_n C dX8_setAxis_95 0 rfl rfl ?_
        refine j_get C (hin8) (ci := 8) rfl 4 (by decide) (hl19) 2 rfl (v := .ref rt) rfl dX8_setAxis_96 ?_
        refine j_bipush C dX8_setAxis_99 (v := (nI 7)) kc_b_7 ?_
        refine j_iload_n C dX8_setAxis_101 1 rfl rfl ?_
        refine j_imul C dX8_setAxis_102 (v := (nI (7 * o))) (pk_mul _ _) ?_
        refine j_iconst C dX8_setAxis_103 (v := (nI 2)) kc_i_2 ?_
        refine j_iadd C dX8_setAxis_104 (v := (nI (7 * o + 2))) (nI_add _ _) ?_
        refine j_iload C dX8_setAxis_105 4 rfl ?_
        refine j_iastoreN C rw_ (7 * o + 2) rfl 4 rfl (by omega) (by decide) (w' := [(rv, cI (xT X) 450 cvec), (rd, cI (xT X) 518 D), (h8, cO 8 [.int (nI 0), .ref rv, .ref rn, .ref rnw, .ref rt, .ref rd, .int (nI na), .int (nI nx), .ref rk, .ref rik, .ref rdk, .ref rre, .ref rle, .ref rhe, .ref rth, .ref rpa, .ref ror, .int bv, .int bo]), (rnw, cI (xT X) 37 (rowF ac ap ash an aob arq)), (rt, cI (xT X) 37 (upd (rowF ac ap ash an (upd (upd aob (7 * o) y) (7 * o + 1) z) arq) (7 * o + 2) u))]) rfl dX8_setAxis_107 ?_
        rw [row_o (k := 7 * o + 2) (by omega)]
        show jj X 0 0 108 [(0, .ref h8), (1, .int (nI o)), (2, .int y), (3, .int z), (4, .int u), (5, .int (bI sd))] [] [(rv, cI (xT X) 450 cvec), (rd, cI (xT X) 518 D), (h8, cO 8 [.int (nI 0), .ref rv, .ref rn, .ref rnw, .ref rt, .ref rd, .int (nI na), .int (nI nx), .ref rk, .ref rik, .ref rdk, .ref rre, .ref rle, .ref rhe, .ref rth, .ref rpa, .ref ror, .int bv, .int bo]), (rnw, cI (xT X) 37 (rowF ac ap ash an aob arq)), (rt, cI (xT X) 37 (rowF ac ap ash an (upd (upd (upd aob (7 * o + 0) y) (7 * o + (0 + 1)) z) (7 * o + (0 + 2)) u) arq))]
        refine j_aload_n C dX8_setAxis_108 0 rfl rfl ?_
        have hco2 : coI (upd (upd (upd aob (7 * o + 0) y) (7 * o + (0 + 1)) z) (7 * o + (0 + 2)) u) := co_upd (co_upd (co_upd hco (by omega)) (by omega)) (by omega)
        rcases Bool.eq_false_or_eq_true (!ash && br (upd (upd (upd aob (7 * o + 0) y) (7 * o + (0 + 1)) z) (7 * o + (0 + 2)) u) ap ac) with hlit | hlit
        · skip
          refine j_callVM C rw_ (nA := 0) (As := []) (wr := []) (c_X8_changed_3 (xl X) (xT X) h8 rv rn rnw rt rd rk rik rdk rre rle rhe rth rpa ror na nx (nI 0) bv bo ac ap an ash aob arq ac ap an ash (upd (upd (upd aob (7 * o + 0) y) (7 * o + (0 + 1)) z) (7 * o + (0 + 2)) u) arq D (by exact hna) (by exact hnx) (by exact hap) (by exact hco2) (by exact hlit)) gX8_setAxis_X8_changed rfl (by decide +kernel) rfl (by decide) (by decide) [2, 0, 3, 4, 1] [] rfl rfl rfl rfl (by decide) 2 rfl rfl (rest := []) rfl (Nat.le_of_ble_eq_true rfl) dX8_setAxis_109 ?_
          rintro _ _ ⟨rfl, rfl⟩
          show jj X 0 0 112 [(0, .ref h8), (1, .int (nI o)), (2, .int y), (3, .int z), (4, .int u), (5, .int (bI sd))] [.int (nI 0)] [(h8, cO 8 [.int (nI 3), .ref rv, .ref rn, .ref rnw, .ref rt, .ref rd, .int (nI na), .int (nI nx), .ref rk, .ref rik, .ref rdk, .ref rre, .ref rle, .ref rhe, .ref rth, .ref rpa, .ref ror, .int bv, .int bo]), (rv, cI (xT X) 450 cvec), (rnw, cI (xT X) 37 (rowF ac ap ash an aob arq)), (rt, cI (xT X) 37 (rowF ac ap ash an (upd (upd (upd aob (7 * o + 0) y) (7 * o + (0 + 1)) z) (7 * o + (0 + 2)) u) arq)), (rd, cI (xT X) 518 D)]
          refine j_iretM C rw_ hQ (by decide) (by decide) rfl ?_ dX8_setAxis_112
          exact ⟨3, _, rfl, Or.inl ⟨_, rfl, Or.inr (Or.inr (⟨rfl, o, rfl, by omega, (by rw [← hsd]; exact q46), hlit⟩))⟩⟩
        · skip
          refine j_callVM C rw_ (nA := 0) (As := []) (wr := []) (c_X8_changed_0 (xl X) (xT X) h8 rv rn rnw rt rd rk rik rdk rre rle rhe rth rpa ror na nx (nI 0) bv bo ac ap an ash aob arq ac ap an ash (upd (upd (upd aob (7 * o + 0) y) (7 * o + (0 + 1)) z) (7 * o + (0 + 2)) u) arq D (by exact hna) (by exact hnx) (by exact hap) (by exact hco2) (by exact hlit)) gX8_setAxis_X8_changed rfl (by decide +kernel) rfl (by decide) (by decide) [2, 0, 3, 4, 1] [] rfl rfl rfl rfl (by decide) 2 rfl rfl (rest := []) rfl (Nat.le_of_ble_eq_true rfl) dX8_setAxis_109 ?_
          rintro _ _ ⟨rfl, rfl⟩
          show jj X 0 0 112 [(0, .ref h8), (1, .int (nI o)), (2, .int y), (3, .int z), (4, .int u), (5, .int (bI sd))] [.int (nI (fb_ct (fun c => br (upd (upd (upd aob (7 * o + 0) y) (7 * o + (0 + 1)) z) (7 * o + (0 + 2)) u) c ac) 150))] [(h8, cO 8 [.int (nI 0), .ref rv, .ref rn, .ref rnw, .ref rt, .ref rd, .int (nI (if na < 14 then na + 1 else 14)), .int (nI ((nx + 1) % 14)), .ref rk, .ref rik, .ref rdk, .ref rre, .ref rle, .ref rhe, .ref rth, .ref rpa, .ref ror, .int bv, .int bo]), (rv, cI (xT X) 450 cvec), (rnw, cI (xT X) 37 (rowF ac ap ash an (upd (upd (upd aob (7 * o + 0) y) (7 * o + (0 + 1)) z) (7 * o + (0 + 2)) u) arq)), (rt, cI (xT X) 37 (rowF ac ap ash an (upd (upd (upd aob (7 * o + 0) y) (7 * o + (0 + 1)) z) (7 * o + (0 + 2)) u) arq)), (rd, cI (xT X) 518 (dgN D nx (rowF ac ap ash an aob arq)))]
          refine j_iretM C rw_ hQ (by decide) (by decide) rfl ?_ dX8_setAxis_112
          exact ⟨0, _, rfl, Or.inr ⟨rfl, o, rfl, rfl, by omega, (by rw [← hsd]; exact q46), hlit, rfl⟩⟩
      · skip
        have q46 := (kb_nne).mp q46
        refine j_iconst C dX8_setAxis_49 (v := (nI 2)) kc_i_2 ?_
        refine j_goto C dX8_setAxis_50 (tgt := 54) (by decide) ?_
        refine j_callVM C rw_ (nA := 1) (As := [.int (nI 2)]) (wr := [(rv, cI (xT X) 450 cvec), (rnw, cI (xT X) 37 (rowF ac ap ash an aob arq)), (rt, cI (xT X) 37 g9), (rd, cI (xT X) 518 D)]) (c_X8_refused_s (xl X) (xT X) h8 rv rn rnw rt rd rk rik rdk rre rle rhe rth rpa ror na nx rf bv bo 2 (by omega) (by omega)) gX8_setAxis_X8_refused rfl (by decide +kernel) rfl (by decide) (by decide) [0] [1, 2, 3, 4] rfl rfl rfl rfl (by decide) 0 rfl rfl (rest := []) rfl (Nat.le_of_ble_eq_true rfl) dX8_setAxis_54 ?_
        rintro _ _ ⟨rfl, rfl⟩
        show jj X 0 0 57 [(0, .ref h8), (1, .int x), (2, .int y), (3, .int z), (4, .int u), (5, .int (bI sd))] [.int (bI true)] [(rv, cI (xT X) 450 cvec), (rnw, cI (xT X) 37 (rowF ac ap ash an aob arq)), (rt, cI (xT X) 37 g9), (rd, cI (xT X) 518 D), (h8, cO 8 [.int (nI 2), .ref rv, .ref rn, .ref rnw, .ref rt, .ref rd, .int (nI na), .int (nI nx), .ref rk, .ref rik, .ref rdk, .ref rre, .ref rle, .ref rhe, .ref rth, .ref rpa, .ref ror, .int bv, .int bo])]
        refine j_if_eq C dX8_setAxis_57 (tgt := 62) (by decide) (fun h9 => absurd h9 (by decide +kernel)) (fun _ => ?_)
        refine j_iconst C dX8_setAxis_60 (v := (nI 0)) kc_i_0 ?_
        refine j_perm C (w' := [(h8, cO 8 [.int (nI 2), .ref rv, .ref rn, .ref rnw, .ref rt, .ref rd, .int (nI na), .int (nI nx), .ref rk, .ref rik, .ref rdk, .ref rre, .ref rle, .ref rhe, .ref rth, .ref rpa, .ref ror, .int bv, .int bo]), (rv, cI (xT X) 450 cvec), (rnw, cI (xT X) 37 (rowF ac ap ash an aob arq)), (rt, cI (xT X) 37 g9), (rd, cI (xT X) 518 D)]) [4, 0, 1, 2, 3] rfl rfl ?_
        refine j_iretM C rw_ hQ (by decide) (by decide) rfl ?_ dX8_setAxis_61
        exact ⟨2, _, rfl, Or.inl ⟨_, rfl, Or.inr (Or.inl ⟨rfl, q37, by rw [← hsd]; exact q46⟩)⟩⟩
    · skip
      have q37 := (kb_nne).mp q37
      refine j_iconst C dX8_setAxis_40 (v := (nI 1)) kc_i_1 ?_
      refine j_goto C dX8_setAxis_41 (tgt := 54) (by decide) ?_
      refine j_callVM C rw_ (nA := 1) (As := [.int (nI 1)]) (wr := [(rv, cI (xT X) 450 cvec), (rnw, cI (xT X) 37 (rowF ac ap ash an aob arq)), (rt, cI (xT X) 37 g9), (rd, cI (xT X) 518 D)]) (c_X8_refused_s (xl X) (xT X) h8 rv rn rnw rt rd rk rik rdk rre rle rhe rth rpa ror na nx rf bv bo 1 (by omega) (by omega)) gX8_setAxis_X8_refused rfl (by decide +kernel) rfl (by decide) (by decide) [0] [1, 2, 3, 4] rfl rfl rfl rfl (by decide) 0 rfl rfl (rest := []) rfl (Nat.le_of_ble_eq_true rfl) dX8_setAxis_54 ?_
      rintro _ _ ⟨rfl, rfl⟩
      show jj X 0 0 57 [(0, .ref h8), (1, .int x), (2, .int y), (3, .int z), (4, .int u), (5, .int (bI sd))] [.int (bI true)] [(rv, cI (xT X) 450 cvec), (rnw, cI (xT X) 37 (rowF ac ap ash an aob arq)), (rt, cI (xT X) 37 g9), (rd, cI (xT X) 518 D), (h8, cO 8 [.int (nI 1), .ref rv, .ref rn, .ref rnw, .ref rt, .ref rd, .int (nI na), .int (nI nx), .ref rk, .ref rik, .ref rdk, .ref rre, .ref rle, .ref rhe, .ref rth, .ref rpa, .ref ror, .int bv, .int bo])]
      refine j_if_eq C dX8_setAxis_57 (tgt := 62) (by decide) (fun h9 => absurd h9 (by decide +kernel)) (fun _ => ?_)
      refine j_iconst C dX8_setAxis_60 (v := (nI 0)) kc_i_0 ?_
      refine j_perm C (w' := [(h8, cO 8 [.int (nI 1), .ref rv, .ref rn, .ref rnw, .ref rt, .ref rd, .int (nI na), .int (nI nx), .ref rk, .ref rik, .ref rdk, .ref rre, .ref rle, .ref rhe, .ref rth, .ref rpa, .ref ror, .int bv, .int bo]), (rv, cI (xT X) 450 cvec), (rnw, cI (xT X) 37 (rowF ac ap ash an aob arq)), (rt, cI (xT X) 37 g9), (rd, cI (xT X) 518 D)]) [4, 0, 1, 2, 3] rfl rfl ?_
      refine j_iretM C rw_ hQ (by decide) (by decide) rfl ?_ dX8_setAxis_61
      exact ⟨1, _, rfl, Or.inl ⟨_, rfl, Or.inl ⟨rfl, q37⟩⟩⟩
  refine j_iload_n C dX8_setAxis_0 2 rfl rfl ?_
  refine j_iload_n C dX8_setAxis_1 3 rfl rfl ?_
  refine j_iload C dX8_setAxis_2 4 rfl ?_
  refine j_bipush C dX8_setAxis_4 (v := (nI 99)) kc_b_99 ?_
  refine j_callSR C (nA := 4) (As := [.int y, .int z, .int u, .int (nI 99)]) (c_X8_areIn (xl X) (xT X) y z u 99 (by omega)) gX8_setAxis_X8_areIn rfl (by decide +kernel) rfl ⟨rfl, rfl⟩ (by decide) (by decide) [] rfl rfl (rest := []) rfl (Nat.le_of_ble_eq_true rfl) dX8_setAxis_6 ?_
  rintro _ rfl
  show jj X 0 0 9 [(0, .ref h8), (1, .int x), (2, .int y), (3, .int z), (4, .int u)] [.int (bI (inR y (-(99 : Int)) 99 && (inR z (-(99 : Int)) 99 && inR u (-(99 : Int)) 99)))] [(h8, cO 8 [.int rf, .ref rv, .ref rn, .ref rnw, .ref rt, .ref rd, .int (nI na), .int (nI nx), .ref rk, .ref rik, .ref rdk, .ref rre, .ref rle, .ref rhe, .ref rth, .ref rpa, .ref ror, .int bv, .int bo]), (rv, cI (xT X) 450 cvec), (rnw, cI (xT X) 37 (rowF ac ap ash an aob arq)), (rt, cI (xT X) 37 g9), (rd, cI (xT X) 518 D)]
  refine j_if_eq C dX8_setAxis_9 (tgt := 29) (by decide) (fun q9 => ?_) (fun q9 => ?_)
  · skip
    have q9 := (kb_eq).mp q9
    refine j_iconst C dX8_setAxis_29 (v := (nI 0)) kc_i_0 ?_
    show jj X 0 0 30 [(0, .ref h8), (1, .int x), (2, .int y), (3, .int z), (4, .int u)] [.int (bI false)] [(h8, cO 8 [.int rf, .ref rv, .ref rn, .ref rnw, .ref rt, .ref rd, .int (nI na), .int (nI nx), .ref rk, .ref rik, .ref rdk, .ref rre, .ref rle, .ref rhe, .ref rth, .ref rpa, .ref ror, .int bv, .int bo]), (rv, cI (xT X) 450 cvec), (rnw, cI (xT X) 37 (rowF ac ap ash an aob arq)), (rt, cI (xT X) 37 g9), (rd, cI (xT X) 518 D)]
    refine j_istore C dX8_setAxis_30 (by decide) (lv' := [(5, .int (bI false)), (0, .ref h8), (1, .int x), (2, .int y), (3, .int z), (4, .int u)]) rfl ?_
    refine j_lv [1, 2, 3, 4, 5, 0] rfl ?_
    refine hc32 _ ?_
    · rw [q9]; rfl
  · skip
    have q9 := (kb_neq).mp q9
    refine j_iload_n C dX8_setAxis_12 2 rfl rfl ?_
    refine j_if_ne C dX8_setAxis_13 (tgt := 25) (by decide) (fun q13 => ?_) (fun q13 => ?_)
    · skip
      refine j_iconst C dX8_setAxis_25 (v := (nI 1)) kc_i_1 ?_
      refine j_goto C dX8_setAxis_26 (tgt := 30) (by decide) ?_
      show jj X 0 0 30 [(0, .ref h8), (1, .int x), (2, .int y), (3, .int z), (4, .int u)] [.int (bI true)] [(h8, cO 8 [.int rf, .ref rv, .ref rn, .ref rnw, .ref rt, .ref rd, .int (nI na), .int (nI nx), .ref rk, .ref rik, .ref rdk, .ref rre, .ref rle, .ref rhe, .ref rth, .ref rpa, .ref ror, .int bv, .int bo]), (rv, cI (xT X) 450 cvec), (rnw, cI (xT X) 37 (rowF ac ap ash an aob arq)), (rt, cI (xT X) 37 g9), (rd, cI (xT X) 518 D)]
      refine j_istore C dX8_setAxis_30 (by decide) (lv' := [(5, .int (bI true)), (0, .ref h8), (1, .int x), (2, .int y), (3, .int z), (4, .int u)]) rfl ?_
      refine j_lv [1, 2, 3, 4, 5, 0] rfl ?_
      refine hc32 _ ?_
      · rw [q9, decide_eq_true q13]; rfl
    · skip
      refine j_iload_n C dX8_setAxis_16 3 rfl rfl ?_
      refine j_if_ne C dX8_setAxis_17 (tgt := 25) (by decide) (fun q17 => ?_) (fun q17 => ?_)
      · skip
        refine j_iconst C dX8_setAxis_25 (v := (nI 1)) kc_i_1 ?_
        refine j_goto C dX8_setAxis_26 (tgt := 30) (by decide) ?_
        show jj X 0 0 30 [(0, .ref h8), (1, .int x), (2, .int y), (3, .int z), (4, .int u)] [.int (bI true)] [(h8, cO 8 [.int rf, .ref rv, .ref rn, .ref rnw, .ref rt, .ref rd, .int (nI na), .int (nI nx), .ref rk, .ref rik, .ref rdk, .ref rre, .ref rle, .ref rhe, .ref rth, .ref rpa, .ref ror, .int bv, .int bo]), (rv, cI (xT X) 450 cvec), (rnw, cI (xT X) 37 (rowF ac ap ash an aob arq)), (rt, cI (xT X) 37 g9), (rd, cI (xT X) 518 D)]
        refine j_istore C dX8_setAxis_30 (by decide) (lv' := [(5, .int (bI true)), (0, .ref h8), (1, .int x), (2, .int y), (3, .int z), (4, .int u)]) rfl ?_
        refine j_lv [1, 2, 3, 4, 5, 0] rfl ?_
        refine hc32 _ ?_
        · rw [q9, decide_eq_false (fun h => h q13), decide_eq_true q17]; rfl
      · skip
        refine j_iload C dX8_setAxis_20 4 rfl ?_
        refine j_if_eq C dX8_setAxis_22 (tgt := 29) (by decide) (fun q22 => ?_) (fun q22 => ?_)
        · skip
          refine j_iconst C dX8_setAxis_29 (v := (nI 0)) kc_i_0 ?_
          show jj X 0 0 30 [(0, .ref h8), (1, .int x), (2, .int y), (3, .int z), (4, .int u)] [.int (bI false)] [(h8, cO 8 [.int rf, .ref rv, .ref rn, .ref rnw, .ref rt, .ref rd, .int (nI na), .int (nI nx), .ref rk, .ref rik, .ref rdk, .ref rre, .ref rle, .ref rhe, .ref rth, .ref rpa, .ref ror, .int bv, .int bo]), (rv, cI (xT X) 450 cvec), (rnw, cI (xT X) 37 (rowF ac ap ash an aob arq)), (rt, cI (xT X) 37 g9), (rd, cI (xT X) 518 D)]
          refine j_istore C dX8_setAxis_30 (by decide) (lv' := [(5, .int (bI false)), (0, .ref h8), (1, .int x), (2, .int y), (3, .int z), (4, .int u)]) rfl ?_
          refine j_lv [1, 2, 3, 4, 5, 0] rfl ?_
          refine hc32 _ ?_
          · rw [q9, decide_eq_false (fun h => h q13), decide_eq_false (fun h => h q17), decide_eq_false (fun h => h q22)]; rfl
        · skip
          refine j_iconst C dX8_setAxis_25 (v := (nI 1)) kc_i_1 ?_
          refine j_goto C dX8_setAxis_26 (tgt := 30) (by decide) ?_
          show jj X 0 0 30 [(0, .ref h8), (1, .int x), (2, .int y), (3, .int z), (4, .int u)] [.int (bI true)] [(h8, cO 8 [.int rf, .ref rv, .ref rn, .ref rnw, .ref rt, .ref rd, .int (nI na), .int (nI nx), .ref rk, .ref rik, .ref rdk, .ref rre, .ref rle, .ref rhe, .ref rth, .ref rpa, .ref ror, .int bv, .int bo]), (rv, cI (xT X) 450 cvec), (rnw, cI (xT X) 37 (rowF ac ap ash an aob arq)), (rt, cI (xT X) 37 g9), (rd, cI (xT X) 518 D)]
          refine j_istore C dX8_setAxis_30 (by decide) (lv' := [(5, .int (bI true)), (0, .ref h8), (1, .int x), (2, .int y), (3, .int z), (4, .int u)]) rfl ?_
          refine j_lv [1, 2, 3, 4, 5, 0] rfl ?_
          refine hc32 _ ?_
          · rw [q9, decide_eq_false (fun h => h q13), decide_eq_false (fun h => h q17), decide_eq_true q22]; rfl
