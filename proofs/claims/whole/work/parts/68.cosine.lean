/-! THE COSINE, on both sides -/
set_option maxHeartbeats 4000000 in
set_option maxRecDepth 100000 in
/-- cosine -/
theorem c_X8_cosine (l : Launch) (T : jj_T) (h8 rv rn rnw rt rd rk rik rdk rre rle rhe rth rpa ror na nx : Nat) (rf bv bo : Int32) (ac ap an : Nat) (ash : Bool) (aob arq : Nat → Int32) (x y z : Int32) (hob : obI aob) : jM l T yX8_cosine wsX8_cosine { frames := 2, cells := 0, slots := 0, locals := 49 } [.ref h8, .int x, .int y, .int z] [(h8, cO 8 [.int rf, .ref rv, .ref rn, .ref rnw, .ref rt, .ref rd, .int (nI na), .int (nI nx), .ref rk, .ref rik, .ref rdk, .ref rre, .ref rle, .ref rhe, .ref rth, .ref rpa, .ref ror, .int bv, .int bo]), (rv, cI T 450 cvec), (rnw, cI T 37 (rowF ac ap ash an aob arq))] (fun v w1 => ∃ k8 : Nat, ∃ r : UInt64, v = some (.double r) ∧ w1 = [(h8, cO 8 [.int (nI k8), .ref rv, .ref rn, .ref rnw, .ref rt, .ref rd, .int (nI na), .int (nI nx), .ref rk, .ref rik, .ref rdk, .ref rre, .ref rle, .ref rhe, .ref rth, .ref rpa, .ref ror, .int bv, .int bo]), (rv, cI T 450 cvec), (rnw, cI T 37 (rowF ac ap ash an aob arq))] ∧ ((k8 = 1 ∧ inR x 0 149 = false) ∨ (k8 = 1 ∧ inR x 0 149 = true ∧ inR y 0 2 = false) ∨ (k8 = 2 ∧ inR x 0 149 = true ∧ inR y 0 2 = true ∧ inR z 0 300 = false) ∨ (k8 = 0 ∧ ∃ c o tm : Nat, x = nI c ∧ y = nI o ∧ z = nI tm ∧ c < 150 ∧ o < 3 ∧ tm ≤ 300 ∧ (k8 = 0 → r = cosD aob c o tm)))) := by
  refine jM.of (cc := cX8_cosine) (maxL := 7) (ret := (some .double)) (by decide) rfl (Nat.le_of_ble_eq_true rfl) ?_
  intro X C rw_ hl hT hQ hnm
  subst hl; subst hT
  have hin8 : ∀ w ∈ u_ws RX8 TX8 19, w ∈ wsX8_cosine := by decide +kernel
  have hl16 : Cond.fieldLink RX8 16 (TX8 3).1 (TX8 3).2.1 (TX8 3).2.2.1 ∈ wsX8_cosine := by decide +kernel
  show jj X 0 0 0 [(0, .ref h8), (1, .int x), (2, .int y), (3, .int z)] [] [(h8, cO 8 [.int rf, .ref rv, .ref rn, .ref rnw, .ref rt, .ref rd, .int (nI na), .int (nI nx), .ref rk, .ref rik, .ref rdk, .ref rre, .ref rle, .ref rhe, .ref rth, .ref rpa, .ref ror, .int bv, .int bo]), (rv, cI (xT X) 450 cvec), (rnw, cI (xT X) 37 (rowF ac ap ash an aob arq))]
  refine j_aload_n C dX8_cosine_0 0 rfl rfl ?_
  refine j_iload_n C dX8_cosine_1 1 rfl rfl ?_
  refine j_callSR C (nA := 1) (As := [.int x]) (c_X8_isCell (xl X) (xT X) x ) gX8_cosine_X8_isCell rfl (by decide +kernel) rfl ⟨rfl, rfl⟩ (by decide) (by decide) [] rfl rfl (rest := [.ref h8]) rfl (Nat.le_of_ble_eq_true rfl) dX8_cosine_2 ?_
  rintro _ rfl
  show jj X 0 0 5 [(0, .ref h8), (1, .int x), (2, .int y), (3, .int z)] [.int (bI (inR x 0 149)), .ref h8] [(h8, cO 8 [.int rf, .ref rv, .ref rn, .ref rnw, .ref rt, .ref rd, .int (nI na), .int (nI nx), .ref rk, .ref rik, .ref rdk, .ref rre, .ref rle, .ref rhe, .ref rth, .ref rpa, .ref ror, .int bv, .int bo]), (rv, cI (xT X) 450 cvec), (rnw, cI (xT X) 37 (rowF ac ap ash an aob arq))]
  refine j_if_eq C dX8_cosine_5 (tgt := 15) (by decide) (fun q5 => ?_) (fun q5 => ?_)
  · skip
    have q5 := (kb_eq).mp q5
    refine j_iconst C dX8_cosine_15 (v := (nI 1)) kc_i_1 ?_
    refine j_goto C dX8_cosine_16 (tgt := 31) (by decide) ?_
    refine j_callVM C rw_ (nA := 1) (As := [.int (nI 1)]) (wr := [(rv, cI (xT X) 450 cvec), (rnw, cI (xT X) 37 (rowF ac ap ash an aob arq))]) (c_X8_refused_s (xl X) (xT X) h8 rv rn rnw rt rd rk rik rdk rre rle rhe rth rpa ror na nx rf bv bo 1 (by omega) (by omega)) gX8_cosine_X8_refused rfl (by decide +kernel) rfl (by decide) (by decide) [0] [1, 2] rfl rfl rfl rfl (by decide) 0 rfl rfl (rest := []) rfl (Nat.le_of_ble_eq_true rfl) dX8_cosine_31 ?_
    rintro _ _ ⟨rfl, rfl⟩
    show jj X 0 0 34 [(0, .ref h8), (1, .int x), (2, .int y), (3, .int z)] [.int (bI true)] [(rv, cI (xT X) 450 cvec), (rnw, cI (xT X) 37 (rowF ac ap ash an aob arq)), (h8, cO 8 [.int (nI 1), .ref rv, .ref rn, .ref rnw, .ref rt, .ref rd, .int (nI na), .int (nI nx), .ref rk, .ref rik, .ref rdk, .ref rre, .ref rle, .ref rhe, .ref rth, .ref rpa, .ref ror, .int bv, .int bo])]
    refine j_if_eq C dX8_cosine_34 (tgt := 39) (by decide) (fun h9 => absurd h9 (by decide +kernel)) (fun _ => ?_)
    refine j_dconst0 C dX8_cosine_37 ?_
    refine j_perm C (w' := [(h8, cO 8 [.int (nI 1), .ref rv, .ref rn, .ref rnw, .ref rt, .ref rd, .int (nI na), .int (nI nx), .ref rk, .ref rik, .ref rdk, .ref rre, .ref rle, .ref rhe, .ref rth, .ref rpa, .ref ror, .int bv, .int bo]), (rv, cI (xT X) 450 cvec), (rnw, cI (xT X) 37 (rowF ac ap ash an aob arq))]) [2, 0, 1] rfl rfl ?_
    refine j_dretM C rw_ hQ (by decide) (by decide) ?_ dX8_cosine_38
    exact ⟨1, _, rfl, rfl, Or.inl ⟨rfl, q5⟩⟩
  · skip
    have q5 := (kb_neq).mp q5
    refine j_iload_n C dX8_cosine_8 2 rfl rfl ?_
    refine j_callSR C (nA := 1) (As := [.int y]) (c_X8_isThird (xl X) (xT X) y ) gX8_cosine_X8_isThird rfl (by decide +kernel) rfl ⟨rfl, rfl⟩ (by decide) (by decide) [] rfl rfl (rest := [.ref h8]) rfl (Nat.le_of_ble_eq_true rfl) dX8_cosine_9 ?_
    rintro _ rfl
    show jj X 0 0 12 [(0, .ref h8), (1, .int x), (2, .int y), (3, .int z)] [.int (bI (inR y 0 2)), .ref h8] [(h8, cO 8 [.int rf, .ref rv, .ref rn, .ref rnw, .ref rt, .ref rd, .int (nI na), .int (nI nx), .ref rk, .ref rik, .ref rdk, .ref rre, .ref rle, .ref rhe, .ref rth, .ref rpa, .ref ror, .int bv, .int bo]), (rv, cI (xT X) 450 cvec), (rnw, cI (xT X) 37 (rowF ac ap ash an aob arq))]
    refine j_if_ne C dX8_cosine_12 (tgt := 19) (by decide) (fun q12 => ?_) (fun q12 => ?_)
    · skip
      have q12 := (kb_ne).mp q12
      refine j_iload_n C dX8_cosine_19 3 rfl rfl ?_
      refine j_callSR C (nA := 1) (As := [.int z]) (c_X8_isTime (xl X) (xT X) z ) gX8_cosine_X8_isTime rfl (by decide +kernel) rfl ⟨rfl, rfl⟩ (by decide) (by decide) [] rfl rfl (rest := [.ref h8]) rfl (Nat.le_of_ble_eq_true rfl) dX8_cosine_20 ?_
      rintro _ rfl
      show jj X 0 0 23 [(0, .ref h8), (1, .int x), (2, .int y), (3, .int z)] [.int (bI (inR z 0 300)), .ref h8] [(h8, cO 8 [.int rf, .ref rv, .ref rn, .ref rnw, .ref rt, .ref rd, .int (nI na), .int (nI nx), .ref rk, .ref rik, .ref rdk, .ref rre, .ref rle, .ref rhe, .ref rth, .ref rpa, .ref ror, .int bv, .int bo]), (rv, cI (xT X) 450 cvec), (rnw, cI (xT X) 37 (rowF ac ap ash an aob arq))]
      refine j_if_ne C dX8_cosine_23 (tgt := 30) (by decide) (fun q23 => ?_) (fun q23 => ?_)
      · skip
        have q23 := (kb_ne).mp q23
        refine j_iconst C dX8_cosine_30 (v := (nI 0)) kc_i_0 ?_
        refine j_callVM C rw_ (nA := 1) (As := [.int (nI 0)]) (wr := [(rv, cI (xT X) 450 cvec), (rnw, cI (xT X) 37 (rowF ac ap ash an aob arq))]) (c_X8_refused_0 (xl X) (xT X) h8 rv rn rnw rt rd rk rik rdk rre rle rhe rth rpa ror na nx rf bv bo ) gX8_cosine_X8_refused rfl (by decide +kernel) rfl (by decide) (by decide) [0] [1, 2] rfl rfl rfl rfl (by decide) 0 rfl rfl (rest := []) rfl (Nat.le_of_ble_eq_true rfl) dX8_cosine_31 ?_
        rintro _ _ ⟨rfl, rfl⟩
        show jj X 0 0 34 [(0, .ref h8), (1, .int x), (2, .int y), (3, .int z)] [.int (bI false)] [(rv, cI (xT X) 450 cvec), (rnw, cI (xT X) 37 (rowF ac ap ash an aob arq)), (h8, cO 8 [.int (nI 0), .ref rv, .ref rn, .ref rnw, .ref rt, .ref rd, .int (nI na), .int (nI nx), .ref rk, .ref rik, .ref rdk, .ref rre, .ref rle, .ref rhe, .ref rth, .ref rpa, .ref ror, .int bv, .int bo])]
        refine j_if_eq C dX8_cosine_34 (tgt := 39) (by decide) (fun _ => ?_) (fun h9 => absurd h9 (by decide +kernel))
        obtain ⟨c, rfl, hb_c⟩ := inR_N (b := 149) q5
        obtain ⟨o, rfl, hb_o⟩ := inR_N (b := 2) q12
        obtain ⟨tm, rfl, hb_tm⟩ := inR_N (b := 300) q23
        refine j_aload_n C dX8_cosine_39 0 rfl rfl ?_
        refine j_get C (hin8) (ci := 8) rfl 3 (by decide) (hl16) 2 rfl (v := .ref rnw) rfl dX8_cosine_40 ?_
        refine j_iload_n C dX8_cosine_43 2 rfl rfl ?_
        refine j_iload_n C dX8_cosine_44 3 rfl rfl ?_
        refine j_callSR C (nA := 3) (As := [.ref rnw, .int (nI o), .int (nI tm)]) (c_X8_squareOf (xl X) (xT X) rnw o tm (rowF ac ap ash an aob arq) (by omega)) gX8_cosine_X8_squareOf rfl (by decide +kernel) rfl ⟨rfl, rfl⟩ (by decide) (by decide) [1] rfl rfl (rest := []) rfl (Nat.le_of_ble_eq_true rfl) dX8_cosine_45 ?_
        rintro _ rfl
        show jj X 0 0 48 [(0, .ref h8), (1, .int (nI c)), (2, .int (nI o)), (3, .int (nI tm))] [.int (sqA (rowF ac ap ash an aob arq) o tm)] [(rv, cI (xT X) 450 cvec), (rnw, cI (xT X) 37 (rowF ac ap ash an aob arq)), (h8, cO 8 [.int (nI 0), .ref rv, .ref rn, .ref rnw, .ref rt, .ref rd, .int (nI na), .int (nI nx), .ref rk, .ref rik, .ref rdk, .ref rre, .ref rle, .ref rhe, .ref rth, .ref rpa, .ref ror, .int bv, .int bo])]
        obtain ⟨m, hm1, hm2⟩ := sq_nat hob (show o < 3 by omega) (show tm ≤ 300 by omega)
        have hm3 : sqA (rowF ac ap ash an aob arq) o tm = nI m := by
          rw [← hm1]; unfold sqA; rw [row_aim (by omega) (by omega), row_aim (by omega) (by omega), row_aim (by omega) (by omega)]
        refine j_ieq (nI m) (by exact hm3) ?_
        refine j_istore C dX8_cosine_48 (by decide) (lv' := [(4, .int (nI m)), (0, .ref h8), (1, .int (nI c)), (2, .int (nI o)), (3, .int (nI tm))]) rfl ?_
        refine j_iload C dX8_cosine_50 0 rfl ?_
        refine j_if_ne C dX8_cosine_52 (tgt := 59) (by decide) (fun q52 => ?_) (fun q52 => ?_)
        · skip
          have q52 := (kz_ne (a := m) (by omega)).mp q52
          refine j_aload_n C dX8_cosine_59 1 rfl rfl ?_
          refine j_aload_n C dX8_cosine_60 1 rfl rfl ?_
          refine j_get C (hin8) (ci := 8) rfl 3 (by decide) (hl16) 2 rfl (v := .ref rnw) rfl dX8_cosine_61 ?_
          refine j_iload_n C dX8_cosine_64 2 rfl rfl ?_
          refine j_iload_n C dX8_cosine_65 3 rfl rfl ?_
          refine j_iload_n C dX8_cosine_66 4 rfl rfl ?_
          refine j_callVR C (nA := 4) (As := [.ref rnw, .int (nI c), .int (nI o), .int (nI tm)]) (c_X8_productOf (xl X) (xT X) h8 rv rn rnw rt rd rk rik rdk rre rle rhe rth rpa ror na nx (nI 0) bv bo rnw c o tm (rowF ac ap ash an aob arq) (by omega) (by omega)) gX8_cosine_X8_productOf rfl (by decide +kernel) rfl ⟨rfl, rfl⟩ (by decide) (by decide) [2, 0, 1] rfl rfl 2 rfl rfl (rest := []) rfl (Nat.le_of_ble_eq_true rfl) dX8_cosine_67 ?_
          rintro _ rfl
          show jj X 0 0 70 [(4, .int (nI m)), (0, .ref h8), (1, .int (nI c)), (2, .int (nI o)), (3, .int (nI tm))] [.int (dotA (rowF ac ap ash an aob arq) c o tm)] [(rv, cI (xT X) 450 cvec), (rnw, cI (xT X) 37 (rowF ac ap ash an aob arq)), (h8, cO 8 [.int (nI 0), .ref rv, .ref rn, .ref rnw, .ref rt, .ref rd, .int (nI na), .int (nI nx), .ref rk, .ref rik, .ref rdk, .ref rre, .ref rle, .ref rhe, .ref rth, .ref rpa, .ref ror, .int bv, .int bo])]
          refine j_ieq (dotA aob c o tm) (by unfold dotA; rw [row_aim (by omega) (by omega), row_aim (by omega) (by omega), row_aim (by omega) (by omega)]) ?_
          refine j_i2d C dX8_cosine_70 (v := FP.i2d (dotA aob c o tm)) rfl ?_
          refine j_dstore C dX8_cosine_71 (by decide) (lv' := [(5, .double (FP.i2d (dotA aob c o tm))), (4, .int (nI m)), (0, .ref h8), (1, .int (nI c)), (2, .int (nI o)), (3, .int (nI tm))]) rfl ?_
          refine j_dload C dX8_cosine_73 0 rfl ?_
          refine j_aload_n C dX8_cosine_75 2 rfl rfl ?_
          refine j_iload_n C dX8_cosine_76 3 rfl rfl ?_
          refine j_callVR C (nA := 1) (As := [.int (nI c)]) (c_X8_squareOfCell (xl X) (xT X) h8 rv rn rnw rt rd rk rik rdk rre rle rhe rth rpa ror na nx (nI 0) bv bo c (by omega)) gX8_cosine_X8_squareOfCell rfl (by decide +kernel) rfl ⟨rfl, rfl⟩ (by decide) (by decide) [2, 0] rfl rfl 2 rfl rfl (rest := [.double (FP.i2d (dotA aob c o tm))]) rfl (Nat.le_of_ble_eq_true rfl) dX8_cosine_77 ?_
          rintro _ rfl
          show jj X 0 0 80 [(5, .double (FP.i2d (dotA aob c o tm))), (4, .int (nI m)), (0, .ref h8), (1, .int (nI c)), (2, .int (nI o)), (3, .int (nI tm))] [.int (csq c), .double (FP.i2d (dotA aob c o tm))] [(rv, cI (xT X) 450 cvec), (rnw, cI (xT X) 37 (rowF ac ap ash an aob arq)), (h8, cO 8 [.int (nI 0), .ref rv, .ref rn, .ref rnw, .ref rt, .ref rd, .int (nI na), .int (nI nx), .ref rk, .ref rik, .ref rdk, .ref rre, .ref rle, .ref rhe, .ref rth, .ref rpa, .ref ror, .int bv, .int bo])]
          refine j_ieq (nI (nOf (csq c))) (by exact (csq_nat c (by omega)).1) ?_
          refine j_callSR C (nA := 1) (As := [.int (nI (nOf (csq c)))]) (c_X8_root (xl X) (xT X) (nOf (csq c)) (by have := (csq_nat c (by omega)).2; omega) (by have := (csq_nat c (by omega)).2; omega)) gX8_cosine_X8_root rfl (by decide +kernel) rfl ⟨rfl, rfl⟩ (by decide) (by decide) [] rfl rfl (rest := [.double (FP.i2d (dotA aob c o tm))]) rfl (Nat.le_of_ble_eq_true rfl) dX8_cosine_80 ?_
          rintro _ rfl
          show jj X 0 0 83 [(5, .double (FP.i2d (dotA aob c o tm))), (4, .int (nI m)), (0, .ref h8), (1, .int (nI c)), (2, .int (nI o)), (3, .int (nI tm))] [.double (rtM (nOf (csq c))), .double (FP.i2d (dotA aob c o tm))] [(rv, cI (xT X) 450 cvec), (rnw, cI (xT X) 37 (rowF ac ap ash an aob arq)), (h8, cO 8 [.int (nI 0), .ref rv, .ref rn, .ref rnw, .ref rt, .ref rd, .int (nI na), .int (nI nx), .ref rk, .ref rik, .ref rdk, .ref rre, .ref rle, .ref rhe, .ref rth, .ref rpa, .ref ror, .int bv, .int bo])]
          refine j_iload C dX8_cosine_83 1 rfl ?_
          refine j_callSR C (nA := 1) (As := [.int (nI m)]) (c_X8_root (xl X) (xT X) m (by omega) (by omega)) gX8_cosine_X8_root rfl (by decide +kernel) rfl ⟨rfl, rfl⟩ (by decide) (by decide) [] rfl rfl (rest := [.double (rtM (nOf (csq c))), .double (FP.i2d (dotA aob c o tm))]) rfl (Nat.le_of_ble_eq_true rfl) dX8_cosine_85 ?_
          rintro _ rfl
          show jj X 0 0 88 [(5, .double (FP.i2d (dotA aob c o tm))), (4, .int (nI m)), (0, .ref h8), (1, .int (nI c)), (2, .int (nI o)), (3, .int (nI tm))] [.double (rtM m), .double (rtM (nOf (csq c))), .double (FP.i2d (dotA aob c o tm))] [(rv, cI (xT X) 450 cvec), (rnw, cI (xT X) 37 (rowF ac ap ash an aob arq)), (h8, cO 8 [.int (nI 0), .ref rv, .ref rn, .ref rnw, .ref rt, .ref rd, .int (nI na), .int (nI nx), .ref rk, .ref rik, .ref rdk, .ref rre, .ref rle, .ref rhe, .ref rth, .ref rpa, .ref ror, .int bv, .int bo])]
          have hcn := cos_num (p := dotA aob c o tm) (m := nOf (csq c)) (n := m) (by have := (csq_nat c (by omega)).2; omega) (by have := (csq_nat c (by omega)).2; omega) (by omega) (by omega)
          refine j_dmul C dX8_cosine_88 (isN_n hcn.1) (v := FP.dmul (rtM (nOf (csq c))) (rtM m)) rfl ?_
          refine j_ddiv C dX8_cosine_89 (isN_n hcn.2) (v := FP.ddiv (FP.i2d (dotA aob c o tm)) (FP.dmul (rtM (nOf (csq c))) (rtM m))) rfl ?_
          refine j_perm C (w' := [(h8, cO 8 [.int (nI 0), .ref rv, .ref rn, .ref rnw, .ref rt, .ref rd, .int (nI na), .int (nI nx), .ref rk, .ref rik, .ref rdk, .ref rre, .ref rle, .ref rhe, .ref rth, .ref rpa, .ref ror, .int bv, .int bo]), (rv, cI (xT X) 450 cvec), (rnw, cI (xT X) 37 (rowF ac ap ash an aob arq))]) [2, 0, 1] rfl rfl ?_
          refine j_dretM C rw_ hQ (by decide) (by decide) ?_ dX8_cosine_90
          exact ⟨0, _, rfl, rfl, Or.inr (Or.inr (Or.inr ⟨rfl, c, o, tm, rfl, rfl, rfl, by omega, by omega, by omega, fun _ => cos_val hm1 (by omega) hm2⟩))⟩
        · skip
          have q52 := (kz_nne (a := m) (by omega)).mp q52
          refine j_ldc2d C dX8_cosine_55 (v := 9221120237041090560) (by decide +kernel) ?_
          refine j_perm C (w' := [(h8, cO 8 [.int (nI 0), .ref rv, .ref rn, .ref rnw, .ref rt, .ref rd, .int (nI na), .int (nI nx), .ref rk, .ref rik, .ref rdk, .ref rre, .ref rle, .ref rhe, .ref rth, .ref rpa, .ref ror, .int bv, .int bo]), (rv, cI (xT X) 450 cvec), (rnw, cI (xT X) 37 (rowF ac ap ash an aob arq))]) [2, 0, 1] rfl rfl ?_
          refine j_dretM C rw_ hQ (by decide) (by decide) ?_ dX8_cosine_58
          exact ⟨0, _, rfl, rfl, Or.inr (Or.inr (Or.inr ⟨rfl, c, o, tm, rfl, rfl, rfl, by omega, by omega, by omega, fun _ => cos_nan (hm1.trans ((kz_eq (by omega)).mpr q52))⟩))⟩
      · skip
        have q23 := (kb_nne).mp q23
        refine j_iconst C dX8_cosine_26 (v := (nI 2)) kc_i_2 ?_
        refine j_goto C dX8_cosine_27 (tgt := 31) (by decide) ?_
        refine j_callVM C rw_ (nA := 1) (As := [.int (nI 2)]) (wr := [(rv, cI (xT X) 450 cvec), (rnw, cI (xT X) 37 (rowF ac ap ash an aob arq))]) (c_X8_refused_s (xl X) (xT X) h8 rv rn rnw rt rd rk rik rdk rre rle rhe rth rpa ror na nx rf bv bo 2 (by omega) (by omega)) gX8_cosine_X8_refused rfl (by decide +kernel) rfl (by decide) (by decide) [0] [1, 2] rfl rfl rfl rfl (by decide) 0 rfl rfl (rest := []) rfl (Nat.le_of_ble_eq_true rfl) dX8_cosine_31 ?_
        rintro _ _ ⟨rfl, rfl⟩
        show jj X 0 0 34 [(0, .ref h8), (1, .int x), (2, .int y), (3, .int z)] [.int (bI true)] [(rv, cI (xT X) 450 cvec), (rnw, cI (xT X) 37 (rowF ac ap ash an aob arq)), (h8, cO 8 [.int (nI 2), .ref rv, .ref rn, .ref rnw, .ref rt, .ref rd, .int (nI na), .int (nI nx), .ref rk, .ref rik, .ref rdk, .ref rre, .ref rle, .ref rhe, .ref rth, .ref rpa, .ref ror, .int bv, .int bo])]
        refine j_if_eq C dX8_cosine_34 (tgt := 39) (by decide) (fun h9 => absurd h9 (by decide +kernel)) (fun _ => ?_)
        refine j_dconst0 C dX8_cosine_37 ?_
        refine j_perm C (w' := [(h8, cO 8 [.int (nI 2), .ref rv, .ref rn, .ref rnw, .ref rt, .ref rd, .int (nI na), .int (nI nx), .ref rk, .ref rik, .ref rdk, .ref rre, .ref rle, .ref rhe, .ref rth, .ref rpa, .ref ror, .int bv, .int bo]), (rv, cI (xT X) 450 cvec), (rnw, cI (xT X) 37 (rowF ac ap ash an aob arq))]) [2, 0, 1] rfl rfl ?_
        refine j_dretM C rw_ hQ (by decide) (by decide) ?_ dX8_cosine_38
        exact ⟨2, _, rfl, rfl, Or.inr (Or.inr (Or.inl ⟨rfl, q5, q12, q23⟩))⟩
    · skip
      have q12 := (kb_nne).mp q12
      refine j_iconst C dX8_cosine_15 (v := (nI 1)) kc_i_1 ?_
      refine j_goto C dX8_cosine_16 (tgt := 31) (by decide) ?_
      refine j_callVM C rw_ (nA := 1) (As := [.int (nI 1)]) (wr := [(rv, cI (xT X) 450 cvec), (rnw, cI (xT X) 37 (rowF ac ap ash an aob arq))]) (c_X8_refused_s (xl X) (xT X) h8 rv rn rnw rt rd rk rik rdk rre rle rhe rth rpa ror na nx rf bv bo 1 (by omega) (by omega)) gX8_cosine_X8_refused rfl (by decide +kernel) rfl (by decide) (by decide) [0] [1, 2] rfl rfl rfl rfl (by decide) 0 rfl rfl (rest := []) rfl (Nat.le_of_ble_eq_true rfl) dX8_cosine_31 ?_
      rintro _ _ ⟨rfl, rfl⟩
      show jj X 0 0 34 [(0, .ref h8), (1, .int x), (2, .int y), (3, .int z)] [.int (bI true)] [(rv, cI (xT X) 450 cvec), (rnw, cI (xT X) 37 (rowF ac ap ash an aob arq)), (h8, cO 8 [.int (nI 1), .ref rv, .ref rn, .ref rnw, .ref rt, .ref rd, .int (nI na), .int (nI nx), .ref rk, .ref rik, .ref rdk, .ref rre, .ref rle, .ref rhe, .ref rth, .ref rpa, .ref ror, .int bv, .int bo])]
      refine j_if_eq C dX8_cosine_34 (tgt := 39) (by decide) (fun h9 => absurd h9 (by decide +kernel)) (fun _ => ?_)
      refine j_dconst0 C dX8_cosine_37 ?_
      refine j_perm C (w' := [(h8, cO 8 [.int (nI 1), .ref rv, .ref rn, .ref rnw, .ref rt, .ref rd, .int (nI na), .int (nI nx), .ref rk, .ref rik, .ref rdk, .ref rre, .ref rle, .ref rhe, .ref rth, .ref rpa, .ref ror, .int bv, .int bo]), (rv, cI (xT X) 450 cvec), (rnw, cI (xT X) 37 (rowF ac ap ash an aob arq))]) [2, 0, 1] rfl rfl ?_
      refine j_dretM C rw_ hQ (by decide) (by decide) ?_ dX8_cosine_38
      exact ⟨1, _, rfl, rfl, Or.inr (Or.inl ⟨rfl, q5, q12⟩)⟩

set_option maxHeartbeats 4000000 in
set_option maxRecDepth 100000 in
/-- cosine(cell, object, time) -/
theorem c_X7_cosine (l : Launch) (T : jj_T) (hlS : l.stackTraces = false) (h7 hS d0 h1 hsl h4 h3 h2 : Nat) (hh hv hq ha : Nat) (a0 ao ar ac ap an : Nat) (ash : Bool) (aob arq : Nat → Int32) (x y z : Int32) (hob : obI aob) : jX l T yX7_cosine wsX7_cosine { frames := 8, cells := 3, slots := 18, locals := 124 } [.ref h7, .int x, .int y, .int z] [(h7, cO 7 [.ref hS, .ref a0, .ref d0, .ref h1, .ref hsl, .ref h4, .ref h3, .ref h2]), (a0, cO 6 [.int (nI ac), .int (nI ap), .int (bI ash), .int (nI an), .ref ao, .ref ar]), (ao, cI T 21 aob), (ar, cI T 12 arq), (hS, cO 5 [.ref hh, .ref hv, .ref hq, .ref ha]), (hv, cI T 450 cvec), (hq, cI T 150 csq)] (fun v w1 => ∃ c : Nat, ∃ o : Nat, ∃ tm : Nat, v = some (.double (cosD aob c o tm)) ∧ w1 = [(h7, cO 7 [.ref hS, .ref a0, .ref d0, .ref h1, .ref hsl, .ref h4, .ref h3, .ref h2]), (a0, cO 6 [.int (nI ac), .int (nI ap), .int (bI ash), .int (nI an), .ref ao, .ref ar]), (ao, cI T 21 aob), (ar, cI T 12 arq), (hS, cO 5 [.ref hh, .ref hv, .ref hq, .ref ha]), (hv, cI T 450 cvec), (hq, cI T 150 csq)] ∧ (x = nI c ∧ y = nI o ∧ z = nI tm ∧ c < 150 ∧ o < 3 ∧ tm ≤ 300)) (fun Ex w1 => w1 = [(h7, cO 7 [.ref hS, .ref a0, .ref d0, .ref h1, .ref hsl, .ref h4, .ref h3, .ref h2]), (a0, cO 6 [.int (nI ac), .int (nI ap), .int (bI ash), .int (nI an), .ref ao, .ref ar]), (ao, cI T 21 aob), (ar, cI T 12 arq), (hS, cO 5 [.ref hh, .ref hv, .ref hq, .ref ha]), (hv, cI T 450 cvec), (hq, cI T 150 csq)] ∧ ((Ex = jE1 ∧ inR x 0 149 = false) ∨ (Ex = jE1 ∧ inR x 0 149 = true ∧ inR y 0 2 = false) ∨ (Ex = jE2 ∧ inR x 0 149 = true ∧ inR y 0 2 = true ∧ inR z 0 300 = false))) := by
  refine jX.of (cc := cX7_cosine) (maxL := 10) (ret := (some .double)) (by decide) rfl (Nat.le_of_ble_eq_true rfl) ?_
  intro X C rw_ hl hT hQ hNT hZ
  subst hl; subst hT
  have hin7 : ∀ w ∈ u_ws RX7 TX7 8, w ∈ wsX7_cosine := by decide +kernel
  have hl10 : Cond.fieldLink RX7 10 (TX7 0).1 (TX7 0).2.1 (TX7 0).2.2.1 ∈ wsX7_cosine := by decide +kernel
  have hl19 : Cond.fieldLink RX7 19 (TX7 1).1 (TX7 1).2.1 (TX7 1).2.2.1 ∈ wsX7_cosine := by decide +kernel
  show jj X 0 0 0 [(0, .ref h7), (1, .int x), (2, .int y), (3, .int z)] [] [(h7, cO 7 [.ref hS, .ref a0, .ref d0, .ref h1, .ref hsl, .ref h4, .ref h3, .ref h2]), (a0, cO 6 [.int (nI ac), .int (nI ap), .int (bI ash), .int (nI an), .ref ao, .ref ar]), (ao, cI (xT X) 21 aob), (ar, cI (xT X) 12 arq), (hS, cO 5 [.ref hh, .ref hv, .ref hq, .ref ha]), (hv, cI (xT X) 450 cvec), (hq, cI (xT X) 150 csq)]
  refine j_iload_n C dX7_cosine_0 1 rfl rfl ?_
  refine j_callSXp C rw_ hZ (nA := 1) (As := [.int x]) (wc := []) (wr := [(h7, cO 7 [.ref hS, .ref a0, .ref d0, .ref h1, .ref hsl, .ref h4, .ref h3, .ref h2]), (a0, cO 6 [.int (nI ac), .int (nI ap), .int (bI ash), .int (nI an), .ref ao, .ref ar]), (ao, cI (xT X) 21 aob), (ar, cI (xT X) 12 arq), (hS, cO 5 [.ref hh, .ref hv, .ref hq, .ref ha]), (hv, cI (xT X) 450 cvec), (hq, cI (xT X) 150 csq)]) (c_X7_requireCell (xl X) (xT X) hlS x ) gX7_cosine_X7_requireCell rfl (by decide +kernel) rfl (by decide) (by decide) (pm_lit2 (l := [(h7, cO 7 [.ref hS, .ref a0, .ref d0, .ref h1, .ref hsl, .ref h4, .ref h3, .ref h2]), (a0, cO 6 [.int (nI ac), .int (nI ap), .int (bI ash), .int (nI an), .ref ao, .ref ar]), (ao, cI (xT X) 21 aob), (ar, cI (xT X) 12 arq), (hS, cO 5 [.ref hh, .ref hv, .ref hq, .ref ha]), (hv, cI (xT X) 450 cvec), (hq, cI (xT X) 150 csq)]) (l' := [] ++ [(h7, cO 7 [.ref hS, .ref a0, .ref d0, .ref h1, .ref hsl, .ref h4, .ref h3, .ref h2]), (a0, cO 6 [.int (nI ac), .int (nI ap), .int (bI ash), .int (nI an), .ref ao, .ref ar]), (ao, cI (xT X) 21 aob), (ar, cI (xT X) 12 arq), (hS, cO 5 [.ref hh, .ref hv, .ref hq, .ref ha]), (hv, cI (xT X) 450 cvec), (hq, cI (xT X) 150 csq)]) [0, 1, 2, 3, 4, 5, 6] 7 rfl rfl (by decide)) (rest := []) rfl (Nat.le_of_ble_eq_true rfl) dX7_cosine_1 (fun E9 w9 hx9 => ?_) ?_
  · obtain ⟨rfl, hx9⟩ := hx9
    show jjT X 1 6 1 [(0, .ref h7), (1, .int x), (2, .int y), (3, .int z)] [(h7, cO 7 [.ref hS, .ref a0, .ref d0, .ref h1, .ref hsl, .ref h4, .ref h3, .ref h2]), (a0, cO 6 [.int (nI ac), .int (nI ap), .int (bI ash), .int (nI an), .ref ao, .ref ar]), (ao, cI (xT X) 21 aob), (ar, cI (xT X) 12 arq), (hS, cO 5 [.ref hh, .ref hv, .ref hq, .ref ha]), (hv, cI (xT X) 450 cvec), (hq, cI (xT X) 150 csq)] _
    refine jT_out C rw_ hQ hNT (by decide) (by decide) ?_
    exact ⟨rfl, Or.inl ⟨hx9.1, hx9.2⟩⟩
  · skip
    rintro _ _ ⟨rfl, rfl, hi1⟩
    show jj X 1 6 4 [(0, .ref h7), (1, .int x), (2, .int y), (3, .int z)] [] [(h7, cO 7 [.ref hS, .ref a0, .ref d0, .ref h1, .ref hsl, .ref h4, .ref h3, .ref h2]), (a0, cO 6 [.int (nI ac), .int (nI ap), .int (bI ash), .int (nI an), .ref ao, .ref ar]), (ao, cI (xT X) 21 aob), (ar, cI (xT X) 12 arq), (hS, cO 5 [.ref hh, .ref hv, .ref hq, .ref ha]), (hv, cI (xT X) 450 cvec), (hq, cI (xT X) 150 csq)]
    obtain ⟨c, rfl, hb_c⟩ := inR_N (b := 149) hi1
    refine j_iload_n C dX7_cosine_4 2 rfl rfl ?_
    refine j_callSXp C rw_ hZ (nA := 1) (As := [.int y]) (wc := []) (wr := [(h7, cO 7 [.ref hS, .ref a0, .ref d0, .ref h1, .ref hsl, .ref h4, .ref h3, .ref h2]), (a0, cO 6 [.int (nI ac), .int (nI ap), .int (bI ash), .int (nI an), .ref ao, .ref ar]), (ao, cI (xT X) 21 aob), (ar, cI (xT X) 12 arq), (hS, cO 5 [.ref hh, .ref hv, .ref hq, .ref ha]), (hv, cI (xT X) 450 cvec), (hq, cI (xT X) 150 csq)]) (c_X7_requireObject (xl X) (xT X) hlS y ) gX7_cosine_X7_requireObject rfl (by decide +kernel) rfl (by decide) (by decide) (pm_lit2 (l := [(h7, cO 7 [.ref hS, .ref a0, .ref d0, .ref h1, .ref hsl, .ref h4, .ref h3, .ref h2]), (a0, cO 6 [.int (nI ac), .int (nI ap), .int (bI ash), .int (nI an), .ref ao, .ref ar]), (ao, cI (xT X) 21 aob), (ar, cI (xT X) 12 arq), (hS, cO 5 [.ref hh, .ref hv, .ref hq, .ref ha]), (hv, cI (xT X) 450 cvec), (hq, cI (xT X) 150 csq)]) (l' := [] ++ [(h7, cO 7 [.ref hS, .ref a0, .ref d0, .ref h1, .ref hsl, .ref h4, .ref h3, .ref h2]), (a0, cO 6 [.int (nI ac), .int (nI ap), .int (bI ash), .int (nI an), .ref ao, .ref ar]), (ao, cI (xT X) 21 aob), (ar, cI (xT X) 12 arq), (hS, cO 5 [.ref hh, .ref hv, .ref hq, .ref ha]), (hv, cI (xT X) 450 cvec), (hq, cI (xT X) 150 csq)]) [0, 1, 2, 3, 4, 5, 6] 7 rfl rfl (by decide)) (rest := []) rfl (Nat.le_of_ble_eq_true rfl) dX7_cosine_5 (fun E9 w9 hx9 => ?_) ?_
    · obtain ⟨rfl, hx9⟩ := hx9
      show jjT X 2 12 5 [(0, .ref h7), (1, .int (nI c)), (2, .int y), (3, .int z)] [(h7, cO 7 [.ref hS, .ref a0, .ref d0, .ref h1, .ref hsl, .ref h4, .ref h3, .ref h2]), (a0, cO 6 [.int (nI ac), .int (nI ap), .int (bI ash), .int (nI an), .ref ao, .ref ar]), (ao, cI (xT X) 21 aob), (ar, cI (xT X) 12 arq), (hS, cO 5 [.ref hh, .ref hv, .ref hq, .ref ha]), (hv, cI (xT X) 450 cvec), (hq, cI (xT X) 150 csq)] _
      refine jT_out C rw_ hQ hNT (by decide) (by decide) ?_
      exact ⟨rfl, Or.inr (Or.inl ⟨hx9.1, hi1, hx9.2⟩)⟩
    · skip
      rintro _ _ ⟨rfl, rfl, hi2⟩
      show jj X 2 12 8 [(0, .ref h7), (1, .int (nI c)), (2, .int y), (3, .int z)] [] [(h7, cO 7 [.ref hS, .ref a0, .ref d0, .ref h1, .ref hsl, .ref h4, .ref h3, .ref h2]), (a0, cO 6 [.int (nI ac), .int (nI ap), .int (bI ash), .int (nI an), .ref ao, .ref ar]), (ao, cI (xT X) 21 aob), (ar, cI (xT X) 12 arq), (hS, cO 5 [.ref hh, .ref hv, .ref hq, .ref ha]), (hv, cI (xT X) 450 cvec), (hq, cI (xT X) 150 csq)]
      obtain ⟨o, rfl, hb_o⟩ := inR_N (b := 2) hi2
      refine j_iload_n C dX7_cosine_8 3 rfl rfl ?_
      refine j_callSXp C rw_ hZ (nA := 1) (As := [.int z]) (wc := []) (wr := [(h7, cO 7 [.ref hS, .ref a0, .ref d0, .ref h1, .ref hsl, .ref h4, .ref h3, .ref h2]), (a0, cO 6 [.int (nI ac), .int (nI ap), .int (bI ash), .int (nI an), .ref ao, .ref ar]), (ao, cI (xT X) 21 aob), (ar, cI (xT X) 12 arq), (hS, cO 5 [.ref hh, .ref hv, .ref hq, .ref ha]), (hv, cI (xT X) 450 cvec), (hq, cI (xT X) 150 csq)]) (c_X7_requireTime (xl X) (xT X) hlS z ) gX7_cosine_X7_requireTime rfl (by decide +kernel) rfl (by decide) (by decide) (pm_lit2 (l := [(h7, cO 7 [.ref hS, .ref a0, .ref d0, .ref h1, .ref hsl, .ref h4, .ref h3, .ref h2]), (a0, cO 6 [.int (nI ac), .int (nI ap), .int (bI ash), .int (nI an), .ref ao, .ref ar]), (ao, cI (xT X) 21 aob), (ar, cI (xT X) 12 arq), (hS, cO 5 [.ref hh, .ref hv, .ref hq, .ref ha]), (hv, cI (xT X) 450 cvec), (hq, cI (xT X) 150 csq)]) (l' := [] ++ [(h7, cO 7 [.ref hS, .ref a0, .ref d0, .ref h1, .ref hsl, .ref h4, .ref h3, .ref h2]), (a0, cO 6 [.int (nI ac), .int (nI ap), .int (bI ash), .int (nI an), .ref ao, .ref ar]), (ao, cI (xT X) 21 aob), (ar, cI (xT X) 12 arq), (hS, cO 5 [.ref hh, .ref hv, .ref hq, .ref ha]), (hv, cI (xT X) 450 cvec), (hq, cI (xT X) 150 csq)]) [0, 1, 2, 3, 4, 5, 6] 7 rfl rfl (by decide)) (rest := []) rfl (Nat.le_of_ble_eq_true rfl) dX7_cosine_9 (fun E9 w9 hx9 => ?_) ?_
      · obtain ⟨rfl, hx9⟩ := hx9
        show jjT X 3 18 9 [(0, .ref h7), (1, .int (nI c)), (2, .int (nI o)), (3, .int z)] [(h7, cO 7 [.ref hS, .ref a0, .ref d0, .ref h1, .ref hsl, .ref h4, .ref h3, .ref h2]), (a0, cO 6 [.int (nI ac), .int (nI ap), .int (bI ash), .int (nI an), .ref ao, .ref ar]), (ao, cI (xT X) 21 aob), (ar, cI (xT X) 12 arq), (hS, cO 5 [.ref hh, .ref hv, .ref hq, .ref ha]), (hv, cI (xT X) 450 cvec), (hq, cI (xT X) 150 csq)] _
        refine jT_out C rw_ hQ hNT (by decide) (by decide) ?_
        exact ⟨rfl, Or.inr (Or.inr (⟨hx9.1, hi1, hi2, hx9.2⟩))⟩
      · skip
        rintro _ _ ⟨rfl, rfl, hi3⟩
        show jj X 3 18 12 [(0, .ref h7), (1, .int (nI c)), (2, .int (nI o)), (3, .int z)] [] [(h7, cO 7 [.ref hS, .ref a0, .ref d0, .ref h1, .ref hsl, .ref h4, .ref h3, .ref h2]), (a0, cO 6 [.int (nI ac), .int (nI ap), .int (bI ash), .int (nI an), .ref ao, .ref ar]), (ao, cI (xT X) 21 aob), (ar, cI (xT X) 12 arq), (hS, cO 5 [.ref hh, .ref hv, .ref hq, .ref ha]), (hv, cI (xT X) 450 cvec), (hq, cI (xT X) 150 csq)]
        obtain ⟨tm, rfl, hb_tm⟩ := inR_N (b := 300) hi3
        refine j_aload_n C dX7_cosine_12 0 rfl rfl ?_
        refine j_get C (hin7) (ci := 7) rfl 1 (by decide) (hl19) 0 rfl (v := .ref a0) rfl dX7_cosine_13 ?_
        refine j_iload_n C dX7_cosine_16 2 rfl rfl ?_
        refine j_iconst C dX7_cosine_17 (v := (nI 0)) kc_i_0 ?_
        refine j_iload_n C dX7_cosine_18 3 rfl rfl ?_
        refine j_callVR C (nA := 3) (As := [.int (nI o), .int (nI 0), .int (nI tm)]) (c_X6_aimOf (xl X) (xT X) a0 ao ar ac ap an o 0 tm ash aob arq (by omega)) gX7_cosine_X6_aimOf rfl (by decide +kernel) rfl ⟨rfl, rfl⟩ (by decide) (by decide) [1, 2, 3] rfl rfl 1 rfl rfl (rest := []) rfl (Nat.le_of_ble_eq_true rfl) dX7_cosine_19 ?_
        rintro _ rfl
        show jj X 3 18 22 [(0, .ref h7), (1, .int (nI c)), (2, .int (nI o)), (3, .int (nI tm))] [.int (st_aim aob o 0 tm)] [(h7, cO 7 [.ref hS, .ref a0, .ref d0, .ref h1, .ref hsl, .ref h4, .ref h3, .ref h2]), (a0, cO 6 [.int (nI ac), .int (nI ap), .int (bI ash), .int (nI an), .ref ao, .ref ar]), (ao, cI (xT X) 21 aob), (ar, cI (xT X) 12 arq), (hS, cO 5 [.ref hh, .ref hv, .ref hq, .ref ha]), (hv, cI (xT X) 450 cvec), (hq, cI (xT X) 150 csq)]
        refine j_istore C dX7_cosine_22 (by decide) (lv' := [(4, .int (st_aim aob o 0 tm)), (0, .ref h7), (1, .int (nI c)), (2, .int (nI o)), (3, .int (nI tm))]) rfl ?_
        refine j_aload_n C dX7_cosine_24 1 rfl rfl ?_
        refine j_get C (hin7) (ci := 7) rfl 1 (by decide) (hl19) 0 rfl (v := .ref a0) rfl dX7_cosine_25 ?_
        refine j_iload_n C dX7_cosine_28 3 rfl rfl ?_
        refine j_iconst C dX7_cosine_29 (v := (nI 1)) kc_i_1 ?_
        refine j_iload_n C dX7_cosine_30 4 rfl rfl ?_
        refine j_callVR C (nA := 3) (As := [.int (nI o), .int (nI 1), .int (nI tm)]) (c_X6_aimOf (xl X) (xT X) a0 ao ar ac ap an o 1 tm ash aob arq (by omega)) gX7_cosine_X6_aimOf rfl (by decide +kernel) rfl ⟨rfl, rfl⟩ (by decide) (by decide) [1, 2, 3] rfl rfl 1 rfl rfl (rest := []) rfl (Nat.le_of_ble_eq_true rfl) dX7_cosine_31 ?_
        rintro _ rfl
        show jj X 3 18 34 [(4, .int (st_aim aob o 0 tm)), (0, .ref h7), (1, .int (nI c)), (2, .int (nI o)), (3, .int (nI tm))] [.int (st_aim aob o 1 tm)] [(h7, cO 7 [.ref hS, .ref a0, .ref d0, .ref h1, .ref hsl, .ref h4, .ref h3, .ref h2]), (a0, cO 6 [.int (nI ac), .int (nI ap), .int (bI ash), .int (nI an), .ref ao, .ref ar]), (ao, cI (xT X) 21 aob), (ar, cI (xT X) 12 arq), (hS, cO 5 [.ref hh, .ref hv, .ref hq, .ref ha]), (hv, cI (xT X) 450 cvec), (hq, cI (xT X) 150 csq)]
        refine j_istore C dX7_cosine_34 (by decide) (lv' := [(5, .int (st_aim aob o 1 tm)), (4, .int (st_aim aob o 0 tm)), (0, .ref h7), (1, .int (nI c)), (2, .int (nI o)), (3, .int (nI tm))]) rfl ?_
        refine j_aload_n C dX7_cosine_36 2 rfl rfl ?_
        refine j_get C (hin7) (ci := 7) rfl 1 (by decide) (hl19) 0 rfl (v := .ref a0) rfl dX7_cosine_37 ?_
        refine j_iload_n C dX7_cosine_40 4 rfl rfl ?_
        refine j_iconst C dX7_cosine_41 (v := (nI 2)) kc_i_2 ?_
        refine j_iload_n C dX7_cosine_42 5 rfl rfl ?_
        refine j_callVR C (nA := 3) (As := [.int (nI o), .int (nI 2), .int (nI tm)]) (c_X6_aimOf (xl X) (xT X) a0 ao ar ac ap an o 2 tm ash aob arq (by omega)) gX7_cosine_X6_aimOf rfl (by decide +kernel) rfl ⟨rfl, rfl⟩ (by decide) (by decide) [1, 2, 3] rfl rfl 1 rfl rfl (rest := []) rfl (Nat.le_of_ble_eq_true rfl) dX7_cosine_43 ?_
        rintro _ rfl
        show jj X 3 18 46 [(5, .int (st_aim aob o 1 tm)), (4, .int (st_aim aob o 0 tm)), (0, .ref h7), (1, .int (nI c)), (2, .int (nI o)), (3, .int (nI tm))] [.int (st_aim aob o 2 tm)] [(h7, cO 7 [.ref hS, .ref a0, .ref d0, .ref h1, .ref hsl, .ref h4, .ref h3, .ref h2]), (a0, cO 6 [.int (nI ac), .int (nI ap), .int (bI ash), .int (nI an), .ref ao, .ref ar]), (ao, cI (xT X) 21 aob), (ar, cI (xT X) 12 arq), (hS, cO 5 [.ref hh, .ref hv, .ref hq, .ref ha]), (hv, cI (xT X) 450 cvec), (hq, cI (xT X) 150 csq)]
        refine j_istore C dX7_cosine_46 (by decide) (lv' := [(6, .int (st_aim aob o 2 tm)), (5, .int (st_aim aob o 1 tm)), (4, .int (st_aim aob o 0 tm)), (0, .ref h7), (1, .int (nI c)), (2, .int (nI o)), (3, .int (nI tm))]) rfl ?_
        refine j_iload C dX7_cosine_48 2 rfl ?_
        refine j_iload C dX7_cosine_50 2 rfl ?_
        refine j_imul C dX7_cosine_52 (v := ((st_aim aob o 0 tm) * (st_aim aob o 0 tm))) rfl ?_
        refine j_iload C dX7_cosine_53 1 rfl ?_
        refine j_iload C dX7_cosine_55 1 rfl ?_
        refine j_imul C dX7_cosine_57 (v := ((st_aim aob o 1 tm) * (st_aim aob o 1 tm))) rfl ?_
        refine j_iadd C dX7_cosine_58 (v := (((st_aim aob o 0 tm) * (st_aim aob o 0 tm)) + ((st_aim aob o 1 tm) * (st_aim aob o 1 tm)))) rfl ?_
        refine j_iload C dX7_cosine_59 0 rfl ?_
        refine j_iload C dX7_cosine_61 0 rfl ?_
        refine j_imul C dX7_cosine_63 (v := ((st_aim aob o 2 tm) * (st_aim aob o 2 tm))) rfl ?_
        refine j_iadd C dX7_cosine_64 (v := ((((st_aim aob o 0 tm) * (st_aim aob o 0 tm)) + ((st_aim aob o 1 tm) * (st_aim aob o 1 tm))) + ((st_aim aob o 2 tm) * (st_aim aob o 2 tm)))) rfl ?_
        obtain ⟨m, hm1, hm2⟩ := sq_nat hob (show o < 3 by omega) (show tm ≤ 300 by omega)
        refine j_ieq (nI m) (by exact hm1) ?_
        refine j_istore C dX7_cosine_65 (by decide) (lv' := [(7, .int (nI m)), (6, .int (st_aim aob o 2 tm)), (5, .int (st_aim aob o 1 tm)), (4, .int (st_aim aob o 0 tm)), (0, .ref h7), (1, .int (nI c)), (2, .int (nI o)), (3, .int (nI tm))]) rfl ?_
        refine j_iload C dX7_cosine_67 0 rfl ?_
        refine j_if_ne C dX7_cosine_69 (tgt := 76) (by decide) (fun q69 => ?_) (fun q69 => ?_)
        · skip
          have q69 := (kz_ne (a := m) (by omega)).mp q69
          refine j_aload_n C dX7_cosine_76 4 rfl rfl ?_
          refine j_get C (hin7) (ci := 7) rfl 0 (by decide) (hl10) 0 rfl (v := .ref hS) rfl dX7_cosine_77 ?_
          refine j_iload_n C dX7_cosine_80 5 rfl rfl ?_
          refine j_iload C dX7_cosine_81 3 rfl ?_
          refine j_iload C dX7_cosine_83 2 rfl ?_
          refine j_iload C dX7_cosine_85 1 rfl ?_
          refine j_callVR C (nA := 4) (As := [.int (nI c), .int (st_aim aob o 0 tm), .int (st_aim aob o 1 tm), .int (st_aim aob o 2 tm)]) (c_X5_scalar (xl X) (xT X) hS hh hv hq ha c (st_aim aob o 0 tm) (st_aim aob o 1 tm) (st_aim aob o 2 tm) cvec (by omega)) gX7_cosine_X5_scalar rfl (by decide +kernel) rfl ⟨rfl, rfl⟩ (by decide) (by decide) [4, 5] rfl rfl 4 rfl rfl (rest := []) rfl (Nat.le_of_ble_eq_true rfl) dX7_cosine_87 ?_
          rintro _ rfl
          show jj X 3 18 90 [(7, .int (nI m)), (6, .int (st_aim aob o 2 tm)), (5, .int (st_aim aob o 1 tm)), (4, .int (st_aim aob o 0 tm)), (0, .ref h7), (1, .int (nI c)), (2, .int (nI o)), (3, .int (nI tm))] [.int (cvec (3 * c) * (st_aim aob o 0 tm) + cvec (3 * c + 1) * (st_aim aob o 1 tm) + cvec (3 * c + 2) * (st_aim aob o 2 tm))] [(h7, cO 7 [.ref hS, .ref a0, .ref d0, .ref h1, .ref hsl, .ref h4, .ref h3, .ref h2]), (a0, cO 6 [.int (nI ac), .int (nI ap), .int (bI ash), .int (nI an), .ref ao, .ref ar]), (ao, cI (xT X) 21 aob), (ar, cI (xT X) 12 arq), (hS, cO 5 [.ref hh, .ref hv, .ref hq, .ref ha]), (hv, cI (xT X) 450 cvec), (hq, cI (xT X) 150 csq)]
          refine j_ieq (dotA aob c o tm) (by rfl) ?_
          refine j_i2d C dX7_cosine_90 (v := FP.i2d (dotA aob c o tm)) rfl ?_
          refine j_dstore C dX7_cosine_91 (by decide) (lv' := [(8, .double (FP.i2d (dotA aob c o tm))), (7, .int (nI m)), (6, .int (st_aim aob o 2 tm)), (5, .int (st_aim aob o 1 tm)), (4, .int (st_aim aob o 0 tm)), (0, .ref h7), (1, .int (nI c)), (2, .int (nI o)), (3, .int (nI tm))]) rfl ?_
          refine j_dload C dX7_cosine_93 0 rfl ?_
          refine j_aload_n C dX7_cosine_95 5 rfl rfl ?_
          refine j_get C (hin7) (ci := 7) rfl 0 (by decide) (hl10) 0 rfl (v := .ref hS) rfl dX7_cosine_96 ?_
          refine j_iload_n C dX7_cosine_99 6 rfl rfl ?_
          refine j_callVR C (nA := 1) (As := [.int (nI c)]) (c_X5_square (xl X) (xT X) hS hh hv hq ha c csq (by omega)) gX7_cosine_X5_square rfl (by decide +kernel) rfl ⟨rfl, rfl⟩ (by decide) (by decide) [4, 6] rfl rfl 4 rfl rfl (rest := [.double (FP.i2d (dotA aob c o tm))]) rfl (Nat.le_of_ble_eq_true rfl) dX7_cosine_100 ?_
          rintro _ rfl
          show jj X 3 18 103 [(8, .double (FP.i2d (dotA aob c o tm))), (7, .int (nI m)), (6, .int (st_aim aob o 2 tm)), (5, .int (st_aim aob o 1 tm)), (4, .int (st_aim aob o 0 tm)), (0, .ref h7), (1, .int (nI c)), (2, .int (nI o)), (3, .int (nI tm))] [.int (csq c), .double (FP.i2d (dotA aob c o tm))] [(h7, cO 7 [.ref hS, .ref a0, .ref d0, .ref h1, .ref hsl, .ref h4, .ref h3, .ref h2]), (a0, cO 6 [.int (nI ac), .int (nI ap), .int (bI ash), .int (nI an), .ref ao, .ref ar]), (ao, cI (xT X) 21 aob), (ar, cI (xT X) 12 arq), (hS, cO 5 [.ref hh, .ref hv, .ref hq, .ref ha]), (hv, cI (xT X) 450 cvec), (hq, cI (xT X) 150 csq)]
          refine j_ieq (nI (nOf (csq c))) (by exact (csq_nat c (by omega)).1) ?_
          refine j_callSR C (nA := 1) (As := [.int (nI (nOf (csq c)))]) (c_X7_rootOf (xl X) (xT X) (nOf (csq c)) (by have := (csq_nat c (by omega)).2; omega) (by have := (csq_nat c (by omega)).2; omega)) gX7_cosine_X7_rootOf rfl (by decide +kernel) rfl ⟨rfl, rfl⟩ (by decide) (by decide) [] rfl rfl (rest := [.double (FP.i2d (dotA aob c o tm))]) rfl (Nat.le_of_ble_eq_true rfl) dX7_cosine_103 ?_
          rintro _ rfl
          show jj X 3 18 106 [(8, .double (FP.i2d (dotA aob c o tm))), (7, .int (nI m)), (6, .int (st_aim aob o 2 tm)), (5, .int (st_aim aob o 1 tm)), (4, .int (st_aim aob o 0 tm)), (0, .ref h7), (1, .int (nI c)), (2, .int (nI o)), (3, .int (nI tm))] [.double (rtM (nOf (csq c))), .double (FP.i2d (dotA aob c o tm))] [(h7, cO 7 [.ref hS, .ref a0, .ref d0, .ref h1, .ref hsl, .ref h4, .ref h3, .ref h2]), (a0, cO 6 [.int (nI ac), .int (nI ap), .int (bI ash), .int (nI an), .ref ao, .ref ar]), (ao, cI (xT X) 21 aob), (ar, cI (xT X) 12 arq), (hS, cO 5 [.ref hh, .ref hv, .ref hq, .ref ha]), (hv, cI (xT X) 450 cvec), (hq, cI (xT X) 150 csq)]
          refine j_iload C dX7_cosine_106 1 rfl ?_
          refine j_callSR C (nA := 1) (As := [.int (nI m)]) (c_X7_rootOf (xl X) (xT X) m (by omega) (by omega)) gX7_cosine_X7_rootOf rfl (by decide +kernel) rfl ⟨rfl, rfl⟩ (by decide) (by decide) [] rfl rfl (rest := [.double (rtM (nOf (csq c))), .double (FP.i2d (dotA aob c o tm))]) rfl (Nat.le_of_ble_eq_true rfl) dX7_cosine_108 ?_
          rintro _ rfl
          show jj X 3 18 111 [(8, .double (FP.i2d (dotA aob c o tm))), (7, .int (nI m)), (6, .int (st_aim aob o 2 tm)), (5, .int (st_aim aob o 1 tm)), (4, .int (st_aim aob o 0 tm)), (0, .ref h7), (1, .int (nI c)), (2, .int (nI o)), (3, .int (nI tm))] [.double (rtM m), .double (rtM (nOf (csq c))), .double (FP.i2d (dotA aob c o tm))] [(h7, cO 7 [.ref hS, .ref a0, .ref d0, .ref h1, .ref hsl, .ref h4, .ref h3, .ref h2]), (a0, cO 6 [.int (nI ac), .int (nI ap), .int (bI ash), .int (nI an), .ref ao, .ref ar]), (ao, cI (xT X) 21 aob), (ar, cI (xT X) 12 arq), (hS, cO 5 [.ref hh, .ref hv, .ref hq, .ref ha]), (hv, cI (xT X) 450 cvec), (hq, cI (xT X) 150 csq)]
          have hcn := cos_num (p := dotA aob c o tm) (m := nOf (csq c)) (n := m) (by have := (csq_nat c (by omega)).2; omega) (by have := (csq_nat c (by omega)).2; omega) (by omega) (by omega)
          refine j_dmul C dX7_cosine_111 (isN_n hcn.1) (v := FP.dmul (rtM (nOf (csq c))) (rtM m)) rfl ?_
          refine j_ddiv C dX7_cosine_112 (isN_n hcn.2) (v := FP.ddiv (FP.i2d (dotA aob c o tm)) (FP.dmul (rtM (nOf (csq c))) (rtM m))) rfl ?_
          refine j_dretX C rw_ hQ (by decide) (by decide) ?_ dX7_cosine_113
          exact ⟨c, o, tm, congrArg (fun z => some (Value.double z)) (cos_val hm1 (by omega) hm2), rfl, rfl, rfl, rfl, by omega, by omega, by omega⟩
        · skip
          have q69 := (kz_nne (a := m) (by omega)).mp q69
          refine j_ldc2d C dX7_cosine_72 (v := 9221120237041090560) (by decide +kernel) ?_
          refine j_dretX C rw_ hQ (by decide) (by decide) ?_ dX7_cosine_75
          exact ⟨c, o, tm, congrArg (fun z => some (Value.double z)) (cos_nan (hm1.trans ((kz_eq (by omega)).mpr q69))), rfl, rfl, rfl, rfl, by omega, by omega, by omega⟩
