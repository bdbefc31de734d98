/-! THE MODEL: parking -/
theorem pa_n {p : Nat → Nat → Bool} (h : pa_is p (-9)) : ∀ s, s ≤ 60 → ∀ c, c < 150 → p s c = false := by
  rcases h with ⟨s, c, h1, h2, e, -⟩ | ⟨-, h⟩
  · exact absurd e.symm (nI_n9 (by omega))
  · exact h
theorem pa_f {ob : Nat → Int32} {t0 p k s c : Nat} (hs : s ≤ 60) (hc : c < 150) (h1 : pk1 ob t0 p k s c = true) (h3 : ∀ s', s' < s → ∀ d, d < 150 → pk1 ob t0 p k s' d = false) {x : Int32} (hx : x = nI s) : ft_is (pk ob t0 p k) 0 60 x :=
  Or.inl ⟨s, by omega, hs, (by unfold pk; rw [List.any_eq_true]; exact ⟨c, List.mem_range.mpr hc, h1⟩), fun d _ hd => pk_f.mpr (h3 d hd), hx⟩
theorem pa_0 {ob : Nat → Int32} {t0 p k : Nat} (h : ∀ s, s ≤ 60 → ∀ c, c < 150 → pk1 ob t0 p k s c = false) : ft_is (pk ob t0 p k) 0 60 (-9) := Or.inr ⟨fun t _ ht => pk_f.mpr (h t ht), rfl⟩
set_option maxHeartbeats 4000000 in
set_option maxRecDepth 100000 in
/-- parkingSteps -/
theorem c_X8_parkingSteps (l : Launch) (T : jj_T) (h8 rv rn rnw rt rd rk rik rdk rre rle rhe rth rpa ror na nx : Nat) (rf bv bo : Int32) (ac ap an : Nat) (ash : Bool) (aob arq : Nat → Int32) (dk re : Nat → Bool) (x : Int32)  (hap : ap < 150) (hac : ac ≤ 200) (hco : coI aob) : jM l T yX8_parkingSteps wsX8_parkingSteps { frames := 5, cells := 0, slots := 0, locals := 124 } [.ref h8, .int x] [(h8, cO 8 [.int rf, .ref rv, .ref rn, .ref rnw, .ref rt, .ref rd, .int (nI na), .int (nI nx), .ref rk, .ref rik, .ref rdk, .ref rre, .ref rle, .ref rhe, .ref rth, .ref rpa, .ref ror, .int bv, .int bo]), (rv, cI T 450 cvec), (rn, cI T 600 (fun j => nI (near4 j))), (rnw, cI T 37 (rowF ac ap ash an aob arq)), (rdk, cZ T 15300 (fun j => bI (dk j))), (rre, cZ T 9150 (fun j => bI (re j)))] (fun v w1 => ∃ (k8 : Nat) (r : Int32), v = some (.int r) ∧ ((w1 = [(h8, cO 8 [.int (nI k8), .ref rv, .ref rn, .ref rnw, .ref rt, .ref rd, .int (nI na), .int (nI nx), .ref rk, .ref rik, .ref rdk, .ref rre, .ref rle, .ref rhe, .ref rth, .ref rpa, .ref ror, .int bv, .int bo]), (rv, cI T 450 cvec), (rn, cI T 600 (fun j => nI (near4 j))), (rnw, cI T 37 (rowF ac ap ash an aob arq)), (rdk, cZ T 15300 (fun j => bI (dk j))), (rre, cZ T 9150 (fun j => bI (re j)))] ∧ ((k8 = 1 ∧ inR x 0 40 = false) ∨ (k8 = 2 ∧ inR x 0 40 = true ∧ ash = true))) ∨ (k8 = 0 ∧ ∃ k : Nat, w1 = [(h8, cO 8 [.int (nI 0), .ref rv, .ref rn, .ref rnw, .ref rt, .ref rd, .int (nI na), .int (nI nx), .ref rk, .ref rik, .ref rdk, .ref rre, .ref rle, .ref rhe, .ref rth, .ref rpa, .ref ror, .int bv, .int bo]), (rv, cI T 450 cvec), (rn, cI T 600 (fun j => nI (near4 j))), (rnw, cI T 37 (rowF ac ap ash an aob arq)), (rdk, cZ T 15300 (fun j => bI (flB (dkP aob ac) dk (150 * ((60 + k) + 1)) j))), (rre, cZ T 9150 (fun j => bI (flB (rcP aob ac ap) re (150 * (60 + 1)) j)))] ∧ x = nI k ∧ k ≤ 40 ∧ ash = false ∧ ft_is (pk aob ac ap k) 0 60 r))) := by
  refine jM.of (cc := cX8_parkingSteps) (maxL := 3) (ret := (some .int)) (by decide) rfl (Nat.le_of_ble_eq_true rfl) ?_
  intro X C rw_ hl hT hQ hnm
  subst hl; subst hT
  have hin8 : ∀ w ∈ u_ws RX8 TX8 19, w ∈ wsX8_parkingSteps := by decide +kernel
  have hl16 : Cond.fieldLink RX8 16 (TX8 3).1 (TX8 3).2.1 (TX8 3).2.2.1 ∈ wsX8_parkingSteps := by decide +kernel
  show jj X 0 0 0 [(0, .ref h8), (1, .int x)] [] [(h8, cO 8 [.int rf, .ref rv, .ref rn, .ref rnw, .ref rt, .ref rd, .int (nI na), .int (nI nx), .ref rk, .ref rik, .ref rdk, .ref rre, .ref rle, .ref rhe, .ref rth, .ref rpa, .ref ror, .int bv, .int bo]), (rv, cI (xT X) 450 cvec), (rn, cI (xT X) 600 (fun j => nI (near4 j))), (rnw, cI (xT X) 37 (rowF ac ap ash an aob arq)), (rdk, cZ (xT X) 15300 (fun j => bI (dk j))), (rre, cZ (xT X) 9150 (fun j => bI (re j)))]
  refine j_aload_n C dX8_parkingSteps_0 0 rfl rfl ?_
  refine j_iload_n C dX8_parkingSteps_1 1 rfl rfl ?_
  refine j_i2l C dX8_parkingSteps_2 (v := x.toInt64) rfl ?_
  refine j_lconst C dX8_parkingSteps_3 (v := lN 0) rfl ?_
  refine j_ldc2l C dX8_parkingSteps_4 (v := lN 40) (by decide +kernel) ?_
  refine j_callSR C (nA := 3) (As := [.long x.toInt64, .long (lN 0), .long (lN 40)]) (c_X8_in (xl X) (xT X) x (lN 0) (lN 40) (0) (40) (by decide +kernel) (by decide +kernel)) gX8_parkingSteps_X8_in rfl (by decide +kernel) rfl ⟨rfl, rfl⟩ (by decide) (by decide) [] rfl rfl (rest := [.ref h8]) rfl (Nat.le_of_ble_eq_true rfl) dX8_parkingSteps_7 ?_
  rintro _ rfl
  show jj X 0 0 10 [(0, .ref h8), (1, .int x)] [.int (bI (inR x (0) (40))), .ref h8] [(h8, cO 8 [.int rf, .ref rv, .ref rn, .ref rnw, .ref rt, .ref rd, .int (nI na), .int (nI nx), .ref rk, .ref rik, .ref rdk, .ref rre, .ref rle, .ref rhe, .ref rth, .ref rpa, .ref ror, .int bv, .int bo]), (rv, cI (xT X) 450 cvec), (rn, cI (xT X) 600 (fun j => nI (near4 j))), (rnw, cI (xT X) 37 (rowF ac ap ash an aob arq)), (rdk, cZ (xT X) 15300 (fun j => bI (dk j))), (rre, cZ (xT X) 9150 (fun j => bI (re j)))]
  refine j_if_ne C dX8_parkingSteps_10 (tgt := 17) (by decide) (fun q10 => ?_) (fun q10 => ?_)
  · skip
    have q10 := (kb_ne).mp q10
    obtain ⟨k, rfl, hb_k⟩ := inR_N (b := 40) q10
    refine j_aload_n C dX8_parkingSteps_17 0 rfl rfl ?_
    refine j_get C (hin8) (ci := 8) rfl 3 (by decide) (hl16) 0 rfl (v := .ref rnw) rfl dX8_parkingSteps_18 ?_
    refine j_bipush C dX8_parkingSteps_21 (v := (nI 23)) kc_b_23 ?_
    refine j_ialoadN C 23 rfl 3 rfl (by omega) (by decide) dX8_parkingSteps_23 ?_
    show jj X 0 0 24 [(0, .ref h8), (1, .int (nI k))] [.int (bI ash), .ref h8] [(h8, cO 8 [.int rf, .ref rv, .ref rn, .ref rnw, .ref rt, .ref rd, .int (nI na), .int (nI nx), .ref rk, .ref rik, .ref rdk, .ref rre, .ref rle, .ref rhe, .ref rth, .ref rpa, .ref ror, .int bv, .int bo]), (rv, cI (xT X) 450 cvec), (rn, cI (xT X) 600 (fun j => nI (near4 j))), (rnw, cI (xT X) 37 (rowF ac ap ash an aob arq)), (rdk, cZ (xT X) 15300 (fun j => bI (dk j))), (rre, cZ (xT X) 9150 (fun j => bI (re j)))]
    refine j_iconst C dX8_parkingSteps_24 (v := (nI 1)) kc_i_1 ?_
    refine j_icmp_ne C dX8_parkingSteps_25 (tgt := 32) (by decide) (fun q25 => ?_) (fun q25 => ?_)
    · skip
      refine j_iconst C dX8_parkingSteps_32 (v := (nI 0)) kc_i_0 ?_
      refine j_callVM C rw_ (nA := 1) (As := [.int (nI 0)]) (wr := [(rv, cI (xT X) 450 cvec), (rn, cI (xT X) 600 (fun j => nI (near4 j))), (rnw, cI (xT X) 37 (rowF ac ap ash an aob arq)), (rdk, cZ (xT X) 15300 (fun j => bI (dk j))), (rre, cZ (xT X) 9150 (fun j => bI (re j)))]) (c_X8_refused_0 (xl X) (xT X) h8 rv rn rnw rt rd rk rik rdk rre rle rhe rth rpa ror na nx rf bv bo ) gX8_parkingSteps_X8_refused rfl (by decide +kernel) rfl (by decide) (by decide) [0] [1, 2, 3, 4, 5] rfl rfl rfl rfl (by decide) 0 rfl rfl (rest := []) rfl (Nat.le_of_ble_eq_true rfl) dX8_parkingSteps_33 ?_
      rintro _ _ ⟨rfl, rfl⟩
      show jj X 0 0 36 [(0, .ref h8), (1, .int (nI k))] [.int (bI false)] [(rv, cI (xT X) 450 cvec), (rn, cI (xT X) 600 (fun j => nI (near4 j))), (rnw, cI (xT X) 37 (rowF ac ap ash an aob arq)), (rdk, cZ (xT X) 15300 (fun j => bI (dk j))), (rre, cZ (xT X) 9150 (fun j => bI (re j))), (h8, cO 8 [.int (nI 0), .ref rv, .ref rn, .ref rnw, .ref rt, .ref rd, .int (nI na), .int (nI nx), .ref rk, .ref rik, .ref rdk, .ref rre, .ref rle, .ref rhe, .ref rth, .ref rpa, .ref ror, .int bv, .int bo])]
      refine j_if_eq C dX8_parkingSteps_36 (tgt := 41) (by decide) (fun _ => ?_) (fun h9 => absurd h9 (by decide +kernel))
      refine j_aload_n C dX8_parkingSteps_41 0 rfl rfl ?_
      refine j_iload_n C dX8_parkingSteps_42 1 rfl rfl ?_
      refine j_callVM C rw_ (nA := 1) (As := [.int (nI k)]) (wr := []) (c_X8_parking (xl X) (xT X) h8 rv rn rnw rt rd rk rik rdk rre rle rhe rth rpa ror na nx (nI 0) bv bo ac ap an ash aob arq dk re k (by exact hap) (by exact hac) (by exact hco) (by omega)) gX8_parkingSteps_X8_parking rfl (by decide +kernel) rfl (by decide) (by decide) [5, 0, 1, 2, 3, 4] [] rfl rfl rfl rfl (by decide) 5 rfl rfl (rest := []) rfl (Nat.le_of_ble_eq_true rfl) dX8_parkingSteps_43 ?_
      rintro _ _ ⟨r_1, rfl, rfl, hr⟩
      show jj X 0 0 46 [(0, .ref h8), (1, .int (nI k))] [.int r_1] [(h8, cO 8 [.int (nI 0), .ref rv, .ref rn, .ref rnw, .ref rt, .ref rd, .int (nI na), .int (nI nx), .ref rk, .ref rik, .ref rdk, .ref rre, .ref rle, .ref rhe, .ref rth, .ref rpa, .ref ror, .int bv, .int bo]), (rv, cI (xT X) 450 cvec), (rn, cI (xT X) 600 (fun j => nI (near4 j))), (rnw, cI (xT X) 37 (rowF ac ap ash an aob arq)), (rdk, cZ (xT X) 15300 (fun j => bI (flB (dkP aob ac) dk (150 * ((60 + k) + 1)) j))), (rre, cZ (xT X) 9150 (fun j => bI (flB (rcP aob ac ap) re (150 * (60 + 1)) j)))]
      refine j_istore_n C dX8_parkingSteps_46 rfl (by decide) (lv' := [(2, .int r_1), (0, .ref h8), (1, .int (nI k))]) rfl ?_
      refine j_iload_n C dX8_parkingSteps_47 0 rfl rfl ?_
      refine j_bipush C dX8_parkingSteps_48 (v := (-9)) kc_b_m9 ?_
      refine j_icmp_ne C dX8_parkingSteps_50 (tgt := 58) (by decide) (fun q50 => ?_) (fun q50 => ?_)
      · skip
        rcases hr with ⟨s, c, hs, hc, rfl, h1, h2, h3⟩ | ⟨e9, -⟩
        rotate_left
        · exact absurd e9 q50
        refine j_iload_n C dX8_parkingSteps_58 0 rfl rfl ?_
        refine j_sipush C dX8_parkingSteps_59 (v := (nI 1000)) kc_s_1000 ?_
        refine j_idiv C dX8_parkingSteps_62 (by decide) (v := (nI ((1000 * s + c) / 1000))) (pk_div (by omega) (by omega) (by omega)) ?_
        refine j_iretM C rw_ hQ (by decide) (by decide) rfl ?_ dX8_parkingSteps_63
        exact ⟨0, _, rfl, Or.inr ⟨rfl, k, rfl, rfl, by omega, bI_ne1 q25, pa_f hs hc h1 h3 (by rw [show (1000 * s + c) / 1000 = s by omega])⟩⟩
      · skip
        refine j_bipush C dX8_parkingSteps_53 (v := (-9)) kc_b_m9 ?_
        refine j_goto C dX8_parkingSteps_55 (tgt := 63) (by decide) ?_
        refine j_iretM C rw_ hQ (by decide) (by decide) rfl ?_ dX8_parkingSteps_63
        exact ⟨0, _, rfl, Or.inr ⟨rfl, k, rfl, rfl, by omega, bI_ne1 q25, pa_0 (pa_n (q50 ▸ hr))⟩⟩
    · skip
      refine j_iconst C dX8_parkingSteps_28 (v := (nI 2)) kc_i_2 ?_
      refine j_goto C dX8_parkingSteps_29 (tgt := 33) (by decide) ?_
      refine j_callVM C rw_ (nA := 1) (As := [.int (nI 2)]) (wr := [(rv, cI (xT X) 450 cvec), (rn, cI (xT X) 600 (fun j => nI (near4 j))), (rnw, cI (xT X) 37 (rowF ac ap ash an aob arq)), (rdk, cZ (xT X) 15300 (fun j => bI (dk j))), (rre, cZ (xT X) 9150 (fun j => bI (re j)))]) (c_X8_refused_s (xl X) (xT X) h8 rv rn rnw rt rd rk rik rdk rre rle rhe rth rpa ror na nx rf bv bo 2 (by omega) (by omega)) gX8_parkingSteps_X8_refused rfl (by decide +kernel) rfl (by decide) (by decide) [0] [1, 2, 3, 4, 5] rfl rfl rfl rfl (by decide) 0 rfl rfl (rest := []) rfl (Nat.le_of_ble_eq_true rfl) dX8_parkingSteps_33 ?_
      rintro _ _ ⟨rfl, rfl⟩
      show jj X 0 0 36 [(0, .ref h8), (1, .int (nI k))] [.int (bI true)] [(rv, cI (xT X) 450 cvec), (rn, cI (xT X) 600 (fun j => nI (near4 j))), (rnw, cI (xT X) 37 (rowF ac ap ash an aob arq)), (rdk, cZ (xT X) 15300 (fun j => bI (dk j))), (rre, cZ (xT X) 9150 (fun j => bI (re j))), (h8, cO 8 [.int (nI 2), .ref rv, .ref rn, .ref rnw, .ref rt, .ref rd, .int (nI na), .int (nI nx), .ref rk, .ref rik, .ref rdk, .ref rre, .ref rle, .ref rhe, .ref rth, .ref rpa, .ref ror, .int bv, .int bo])]
      refine j_if_eq C dX8_parkingSteps_36 (tgt := 41) (by decide) (fun h9 => absurd h9 (by decide +kernel)) (fun _ => ?_)
      refine j_iconst C dX8_parkingSteps_39 (v := (nI 0)) kc_i_0 ?_
      refine j_perm C (w' := [(h8, cO 8 [.int (nI 2), .ref rv, .ref rn, .ref rnw, .ref rt, .ref rd, .int (nI na), .int (nI nx), .ref rk, .ref rik, .ref rdk, .ref rre, .ref rle, .ref rhe, .ref rth, .ref rpa, .ref ror, .int bv, .int bo]), (rv, cI (xT X) 450 cvec), (rn, cI (xT X) 600 (fun j => nI (near4 j))), (rnw, cI (xT X) 37 (rowF ac ap ash an aob arq)), (rdk, cZ (xT X) 15300 (fun j => bI (dk j))), (rre, cZ (xT X) 9150 (fun j => bI (re j)))]) [5, 0, 1, 2, 3, 4] rfl rfl ?_
      refine j_iretM C rw_ hQ (by decide) (by decide) rfl ?_ dX8_parkingSteps_40
      exact ⟨2, _, rfl, Or.inl ⟨rfl, Or.inr (⟨rfl, q10, bI_eq1 q25⟩)⟩⟩
  · skip
    have q10 := (kb_nne).mp q10
    refine j_iconst C dX8_parkingSteps_13 (v := (nI 1)) kc_i_1 ?_
    refine j_goto C dX8_parkingSteps_14 (tgt := 33) (by decide) ?_
    refine j_callVM C rw_ (nA := 1) (As := [.int (nI 1)]) (wr := [(rv, cI (xT X) 450 cvec), (rn, cI (xT X) 600 (fun j => nI (near4 j))), (rnw, cI (xT X) 37 (rowF ac ap ash an aob arq)), (rdk, cZ (xT X) 15300 (fun j => bI (dk j))), (rre, cZ (xT X) 9150 (fun j => bI (re j)))]) (c_X8_refused_s (xl X) (xT X) h8 rv rn rnw rt rd rk rik rdk rre rle rhe rth rpa ror na nx rf bv bo 1 (by omega) (by omega)) gX8_parkingSteps_X8_refused rfl (by decide +kernel) rfl (by decide) (by decide) [0] [1, 2, 3, 4, 5] rfl rfl rfl rfl (by decide) 0 rfl rfl (rest := []) rfl (Nat.le_of_ble_eq_true rfl) dX8_parkingSteps_33 ?_
    rintro _ _ ⟨rfl, rfl⟩
    show jj X 0 0 36 [(0, .ref h8), (1, .int x)] [.int (bI true)] [(rv, cI (xT X) 450 cvec), (rn, cI (xT X) 600 (fun j => nI (near4 j))), (rnw, cI (xT X) 37 (rowF ac ap ash an aob arq)), (rdk, cZ (xT X) 15300 (fun j => bI (dk j))), (rre, cZ (xT X) 9150 (fun j => bI (re j))), (h8, cO 8 [.int (nI 1), .ref rv, .ref rn, .ref rnw, .ref rt, .ref rd, .int (nI na), .int (nI nx), .ref rk, .ref rik, .ref rdk, .ref rre, .ref rle, .ref rhe, .ref rth, .ref rpa, .ref ror, .int bv, .int bo])]
    refine j_if_eq C dX8_parkingSteps_36 (tgt := 41) (by decide) (fun h9 => absurd h9 (by decide +kernel)) (fun _ => ?_)
    refine j_iconst C dX8_parkingSteps_39 (v := (nI 0)) kc_i_0 ?_
    refine j_perm C (w' := [(h8, cO 8 [.int (nI 1), .ref rv, .ref rn, .ref rnw, .ref rt, .ref rd, .int (nI na), .int (nI nx), .ref rk, .ref rik, .ref rdk, .ref rre, .ref rle, .ref rhe, .ref rth, .ref rpa, .ref ror, .int bv, .int bo]), (rv, cI (xT X) 450 cvec), (rn, cI (xT X) 600 (fun j => nI (near4 j))), (rnw, cI (xT X) 37 (rowF ac ap ash an aob arq)), (rdk, cZ (xT X) 15300 (fun j => bI (dk j))), (rre, cZ (xT X) 9150 (fun j => bI (re j)))]) [5, 0, 1, 2, 3, 4] rfl rfl ?_
    refine j_iretM C rw_ hQ (by decide) (by decide) rfl ?_ dX8_parkingSteps_40
    exact ⟨1, _, rfl, Or.inl ⟨rfl, Or.inl ⟨rfl, q10⟩⟩⟩

set_option maxHeartbeats 4000000 in
set_option maxRecDepth 100000 in
/-- parkingCell -/
theorem c_X8_parkingCell (l : Launch) (T : jj_T) (h8 rv rn rnw rt rd rk rik rdk rre rle rhe rth rpa ror na nx : Nat) (rf bv bo : Int32) (ac ap an : Nat) (ash : Bool) (aob arq : Nat → Int32) (dk re : Nat → Bool) (x : Int32)  (hap : ap < 150) (hac : ac ≤ 200) (hco : coI aob) : jM l T yX8_parkingCell wsX8_parkingCell { frames := 5, cells := 0, slots := 0, locals := 124 } [.ref h8, .int x] [(h8, cO 8 [.int rf, .ref rv, .ref rn, .ref rnw, .ref rt, .ref rd, .int (nI na), .int (nI nx), .ref rk, .ref rik, .ref rdk, .ref rre, .ref rle, .ref rhe, .ref rth, .ref rpa, .ref ror, .int bv, .int bo]), (rv, cI T 450 cvec), (rn, cI T 600 (fun j => nI (near4 j))), (rnw, cI T 37 (rowF ac ap ash an aob arq)), (rdk, cZ T 15300 (fun j => bI (dk j))), (rre, cZ T 9150 (fun j => bI (re j)))] (fun v w1 => ∃ (k8 : Nat) (r : Int32), v = some (.int r) ∧ ((w1 = [(h8, cO 8 [.int (nI k8), .ref rv, .ref rn, .ref rnw, .ref rt, .ref rd, .int (nI na), .int (nI nx), .ref rk, .ref rik, .ref rdk, .ref rre, .ref rle, .ref rhe, .ref rth, .ref rpa, .ref ror, .int bv, .int bo]), (rv, cI T 450 cvec), (rn, cI T 600 (fun j => nI (near4 j))), (rnw, cI T 37 (rowF ac ap ash an aob arq)), (rdk, cZ T 15300 (fun j => bI (dk j))), (rre, cZ T 9150 (fun j => bI (re j)))] ∧ ((k8 = 1 ∧ inR x 0 40 = false) ∨ (k8 = 2 ∧ inR x 0 40 = true ∧ ash = true))) ∨ (k8 = 0 ∧ ∃ k : Nat, w1 = [(h8, cO 8 [.int (nI 0), .ref rv, .ref rn, .ref rnw, .ref rt, .ref rd, .int (nI na), .int (nI nx), .ref rk, .ref rik, .ref rdk, .ref rre, .ref rle, .ref rhe, .ref rth, .ref rpa, .ref ror, .int bv, .int bo]), (rv, cI T 450 cvec), (rn, cI T 600 (fun j => nI (near4 j))), (rnw, cI T 37 (rowF ac ap ash an aob arq)), (rdk, cZ T 15300 (fun j => bI (flB (dkP aob ac) dk (150 * ((60 + k) + 1)) j))), (rre, cZ T 9150 (fun j => bI (flB (rcP aob ac ap) re (150 * (60 + 1)) j)))] ∧ x = nI k ∧ k ≤ 40 ∧ ash = false ∧ (∃ r1 : Int32, ft_is (pk aob ac ap k) 0 60 r1 ∧ ((r1 = -9 ∧ r = -9) ∨ ∃ j, r1 = nI j ∧ j ≤ 60 ∧ fs_is (pk1 aob ac ap k j) 150 r))))) := by
  refine jM.of (cc := cX8_parkingCell) (maxL := 3) (ret := (some .int)) (by decide) rfl (Nat.le_of_ble_eq_true rfl) ?_
  intro X C rw_ hl hT hQ hnm
  subst hl; subst hT
  have hin8 : ∀ w ∈ u_ws RX8 TX8 19, w ∈ wsX8_parkingCell := by decide +kernel
  have hl16 : Cond.fieldLink RX8 16 (TX8 3).1 (TX8 3).2.1 (TX8 3).2.2.1 ∈ wsX8_parkingCell := by decide +kernel
  show jj X 0 0 0 [(0, .ref h8), (1, .int x)] [] [(h8, cO 8 [.int rf, .ref rv, .ref rn, .ref rnw, .ref rt, .ref rd, .int (nI na), .int (nI nx), .ref rk, .ref rik, .ref rdk, .ref rre, .ref rle, .ref rhe, .ref rth, .ref rpa, .ref ror, .int bv, .int bo]), (rv, cI (xT X) 450 cvec), (rn, cI (xT X) 600 (fun j => nI (near4 j))), (rnw, cI (xT X) 37 (rowF ac ap ash an aob arq)), (rdk, cZ (xT X) 15300 (fun j => bI (dk j))), (rre, cZ (xT X) 9150 (fun j => bI (re j)))]
  refine j_aload_n C dX8_parkingCell_0 0 rfl rfl ?_
  refine j_iload_n C dX8_parkingCell_1 1 rfl rfl ?_
  refine j_i2l C dX8_parkingCell_2 (v := x.toInt64) rfl ?_
  refine j_lconst C dX8_parkingCell_3 (v := lN 0) rfl ?_
  refine j_ldc2l C dX8_parkingCell_4 (v := lN 40) (by decide +kernel) ?_
  refine j_callSR C (nA := 3) (As := [.long x.toInt64, .long (lN 0), .long (lN 40)]) (c_X8_in (xl X) (xT X) x (lN 0) (lN 40) (0) (40) (by decide +kernel) (by decide +kernel)) gX8_parkingCell_X8_in rfl (by decide +kernel) rfl ⟨rfl, rfl⟩ (by decide) (by decide) [] rfl rfl (rest := [.ref h8]) rfl (Nat.le_of_ble_eq_true rfl) dX8_parkingCell_7 ?_
  rintro _ rfl
  show jj X 0 0 10 [(0, .ref h8), (1, .int x)] [.int (bI (inR x (0) (40))), .ref h8] [(h8, cO 8 [.int rf, .ref rv, .ref rn, .ref rnw, .ref rt, .ref rd, .int (nI na), .int (nI nx), .ref rk, .ref rik, .ref rdk, .ref rre, .ref rle, .ref rhe, .ref rth, .ref rpa, .ref ror, .int bv, .int bo]), (rv, cI (xT X) 450 cvec), (rn, cI (xT X) 600 (fun j => nI (near4 j))), (rnw, cI (xT X) 37 (rowF ac ap ash an aob arq)), (rdk, cZ (xT X) 15300 (fun j => bI (dk j))), (rre, cZ (xT X) 9150 (fun j => bI (re j)))]
  refine j_if_ne C dX8_parkingCell_10 (tgt := 17) (by decide) (fun q10 => ?_) (fun q10 => ?_)
  · skip
    have q10 := (kb_ne).mp q10
    obtain ⟨k, rfl, hb_k⟩ := inR_N (b := 40) q10
    refine j_aload_n C dX8_parkingCell_17 0 rfl rfl ?_
    refine j_get C (hin8) (ci := 8) rfl 3 (by decide) (hl16) 0 rfl (v := .ref rnw) rfl dX8_parkingCell_18 ?_
    refine j_bipush C dX8_parkingCell_21 (v := (nI 23)) kc_b_23 ?_
    refine j_ialoadN C 23 rfl 3 rfl (by omega) (by decide) dX8_parkingCell_23 ?_
    show jj X 0 0 24 [(0, .ref h8), (1, .int (nI k))] [.int (bI ash), .ref h8] [(h8, cO 8 [.int rf, .ref rv, .ref rn, .ref rnw, .ref rt, .ref rd, .int (nI na), .int (nI nx), .ref rk, .ref rik, .ref rdk, .ref rre, .ref rle, .ref rhe, .ref rth, .ref rpa, .ref ror, .int bv, .int bo]), (rv, cI (xT X) 450 cvec), (rn, cI (xT X) 600 (fun j => nI (near4 j))), (rnw, cI (xT X) 37 (rowF ac ap ash an aob arq)), (rdk, cZ (xT X) 15300 (fun j => bI (dk j))), (rre, cZ (xT X) 9150 (fun j => bI (re j)))]
    refine j_iconst C dX8_parkingCell_24 (v := (nI 1)) kc_i_1 ?_
    refine j_icmp_ne C dX8_parkingCell_25 (tgt := 32) (by decide) (fun q25 => ?_) (fun q25 => ?_)
    · skip
      refine j_iconst C dX8_parkingCell_32 (v := (nI 0)) kc_i_0 ?_
      refine j_callVM C rw_ (nA := 1) (As := [.int (nI 0)]) (wr := [(rv, cI (xT X) 450 cvec), (rn, cI (xT X) 600 (fun j => nI (near4 j))), (rnw, cI (xT X) 37 (rowF ac ap ash an aob arq)), (rdk, cZ (xT X) 15300 (fun j => bI (dk j))), (rre, cZ (xT X) 9150 (fun j => bI (re j)))]) (c_X8_refused_0 (xl X) (xT X) h8 rv rn rnw rt rd rk rik rdk rre rle rhe rth rpa ror na nx rf bv bo ) gX8_parkingCell_X8_refused rfl (by decide +kernel) rfl (by decide) (by decide) [0] [1, 2, 3, 4, 5] rfl rfl rfl rfl (by decide) 0 rfl rfl (rest := []) rfl (Nat.le_of_ble_eq_true rfl) dX8_parkingCell_33 ?_
      rintro _ _ ⟨rfl, rfl⟩
      show jj X 0 0 36 [(0, .ref h8), (1, .int (nI k))] [.int (bI false)] [(rv, cI (xT X) 450 cvec), (rn, cI (xT X) 600 (fun j => nI (near4 j))), (rnw, cI (xT X) 37 (rowF ac ap ash an aob arq)), (rdk, cZ (xT X) 15300 (fun j => bI (dk j))), (rre, cZ (xT X) 9150 (fun j => bI (re j))), (h8, cO 8 [.int (nI 0), .ref rv, .ref rn, .ref rnw, .ref rt, .ref rd, .int (nI na), .int (nI nx), .ref rk, .ref rik, .ref rdk, .ref rre, .ref rle, .ref rhe, .ref rth, .ref rpa, .ref ror, .int bv, .int bo])]
      refine j_if_eq C dX8_parkingCell_36 (tgt := 41) (by decide) (fun _ => ?_) (fun h9 => absurd h9 (by decide +kernel))
      refine j_aload_n C dX8_parkingCell_41 0 rfl rfl ?_
      refine j_iload_n C dX8_parkingCell_42 1 rfl rfl ?_
      refine j_callVM C rw_ (nA := 1) (As := [.int (nI k)]) (wr := []) (c_X8_parking (xl X) (xT X) h8 rv rn rnw rt rd rk rik rdk rre rle rhe rth rpa ror na nx (nI 0) bv bo ac ap an ash aob arq dk re k (by exact hap) (by exact hac) (by exact hco) (by omega)) gX8_parkingCell_X8_parking rfl (by decide +kernel) rfl (by decide) (by decide) [5, 0, 1, 2, 3, 4] [] rfl rfl rfl rfl (by decide) 5 rfl rfl (rest := []) rfl (Nat.le_of_ble_eq_true rfl) dX8_parkingCell_43 ?_
      rintro _ _ ⟨r_1, rfl, rfl, hr⟩
      show jj X 0 0 46 [(0, .ref h8), (1, .int (nI k))] [.int r_1] [(h8, cO 8 [.int (nI 0), .ref rv, .ref rn, .ref rnw, .ref rt, .ref rd, .int (nI na), .int (nI nx), .ref rk, .ref rik, .ref rdk, .ref rre, .ref rle, .ref rhe, .ref rth, .ref rpa, .ref ror, .int bv, .int bo]), (rv, cI (xT X) 450 cvec), (rn, cI (xT X) 600 (fun j => nI (near4 j))), (rnw, cI (xT X) 37 (rowF ac ap ash an aob arq)), (rdk, cZ (xT X) 15300 (fun j => bI (flB (dkP aob ac) dk (150 * ((60 + k) + 1)) j))), (rre, cZ (xT X) 9150 (fun j => bI (flB (rcP aob ac ap) re (150 * (60 + 1)) j)))]
      refine j_istore_n C dX8_parkingCell_46 rfl (by decide) (lv' := [(2, .int r_1), (0, .ref h8), (1, .int (nI k))]) rfl ?_
      refine j_iload_n C dX8_parkingCell_47 0 rfl rfl ?_
      refine j_bipush C dX8_parkingCell_48 (v := (-9)) kc_b_m9 ?_
      refine j_icmp_ne C dX8_parkingCell_50 (tgt := 58) (by decide) (fun q50 => ?_) (fun q50 => ?_)
      · skip
        rcases hr with ⟨s, c, hs, hc, rfl, h1, h2, h3⟩ | ⟨e9, -⟩
        rotate_left
        · exact absurd e9 q50
        refine j_iload_n C dX8_parkingCell_58 0 rfl rfl ?_
        refine j_sipush C dX8_parkingCell_59 (v := (nI 1000)) kc_s_1000 ?_
        refine j_irem C dX8_parkingCell_62 (by decide) (v := (nI ((1000 * s + c) % 1000))) (pk_rem (by omega) (by omega) (by omega)) ?_
        refine j_iretM C rw_ hQ (by decide) (by decide) rfl ?_ dX8_parkingCell_63
        exact ⟨0, _, rfl, Or.inr ⟨rfl, k, rfl, rfl, by omega, bI_ne1 q25, nI s, pa_f hs hc h1 h3 rfl, Or.inr ⟨s, rfl, hs, Or.inl ⟨c, hc, h1, h2, by rw [show (1000 * s + c) % 1000 = c by omega]⟩⟩⟩⟩
      · skip
        refine j_bipush C dX8_parkingCell_53 (v := (-9)) kc_b_m9 ?_
        refine j_goto C dX8_parkingCell_55 (tgt := 63) (by decide) ?_
        refine j_iretM C rw_ hQ (by decide) (by decide) rfl ?_ dX8_parkingCell_63
        exact ⟨0, _, rfl, Or.inr ⟨rfl, k, rfl, rfl, by omega, bI_ne1 q25, -9, pa_0 (pa_n (q50 ▸ hr)), Or.inl ⟨rfl, rfl⟩⟩⟩
    · skip
      refine j_iconst C dX8_parkingCell_28 (v := (nI 2)) kc_i_2 ?_
      refine j_goto C dX8_parkingCell_29 (tgt := 33) (by decide) ?_
      refine j_callVM C rw_ (nA := 1) (As := [.int (nI 2)]) (wr := [(rv, cI (xT X) 450 cvec), (rn, cI (xT X) 600 (fun j => nI (near4 j))), (rnw, cI (xT X) 37 (rowF ac ap ash an aob arq)), (rdk, cZ (xT X) 15300 (fun j => bI (dk j))), (rre, cZ (xT X) 9150 (fun j => bI (re j)))]) (c_X8_refused_s (xl X) (xT X) h8 rv rn rnw rt rd rk rik rdk rre rle rhe rth rpa ror na nx rf bv bo 2 (by omega) (by omega)) gX8_parkingCell_X8_refused rfl (by decide +kernel) rfl (by decide) (by decide) [0] [1, 2, 3, 4, 5] rfl rfl rfl rfl (by decide) 0 rfl rfl (rest := []) rfl (Nat.le_of_ble_eq_true rfl) dX8_parkingCell_33 ?_
      rintro _ _ ⟨rfl, rfl⟩
      show jj X 0 0 36 [(0, .ref h8), (1, .int (nI k))] [.int (bI true)] [(rv, cI (xT X) 450 cvec), (rn, cI (xT X) 600 (fun j => nI (near4 j))), (rnw, cI (xT X) 37 (rowF ac ap ash an aob arq)), (rdk, cZ (xT X) 15300 (fun j => bI (dk j))), (rre, cZ (xT X) 9150 (fun j => bI (re j))), (h8, cO 8 [.int (nI 2), .ref rv, .ref rn, .ref rnw, .ref rt, .ref rd, .int (nI na), .int (nI nx), .ref rk, .ref rik, .ref rdk, .ref rre, .ref rle, .ref rhe, .ref rth, .ref rpa, .ref ror, .int bv, .int bo])]
      refine j_if_eq C dX8_parkingCell_36 (tgt := 41) (by decide) (fun h9 => absurd h9 (by decide +kernel)) (fun _ => ?_)
      refine j_iconst C dX8_parkingCell_39 (v := (nI 0)) kc_i_0 ?_
      refine j_perm C (w' := [(h8, cO 8 [.int (nI 2), .ref rv, .ref rn, .ref rnw, .ref rt, .ref rd, .int (nI na), .int (nI nx), .ref rk, .ref rik, .ref rdk, .ref rre, .ref rle, .ref rhe, .ref rth, .ref rpa, .ref ror, .int bv, .int bo]), (rv, cI (xT X) 450 cvec), (rn, cI (xT X) 600 (fun j => nI (near4 j))), (rnw, cI (xT X) 37 (rowF ac ap ash an aob arq)), (rdk, cZ (xT X) 15300 (fun j => bI (dk j))), (rre, cZ (xT X) 9150 (fun j => bI (re j)))]) [5, 0, 1, 2, 3, 4] rfl rfl ?_
      refine j_iretM C rw_ hQ (by decide) (by decide) rfl ?_ dX8_parkingCell_40
      exact ⟨2, _, rfl, Or.inl ⟨rfl, Or.inr (⟨rfl, q10, bI_eq1 q25⟩)⟩⟩
  · skip
    have q10 := (kb_nne).mp q10
    refine j_iconst C dX8_parkingCell_13 (v := (nI 1)) kc_i_1 ?_
    refine j_goto C dX8_parkingCell_14 (tgt := 33) (by decide) ?_
    refine j_callVM C rw_ (nA := 1) (As := [.int (nI 1)]) (wr := [(rv, cI (xT X) 450 cvec), (rn, cI (xT X) 600 (fun j => nI (near4 j))), (rnw, cI (xT X) 37 (rowF ac ap ash an aob arq)), (rdk, cZ (xT X) 15300 (fun j => bI (dk j))), (rre, cZ (xT X) 9150 (fun j => bI (re j)))]) (c_X8_refused_s (xl X) (xT X) h8 rv rn rnw rt rd rk rik rdk rre rle rhe rth rpa ror na nx rf bv bo 1 (by omega) (by omega)) gX8_parkingCell_X8_refused rfl (by decide +kernel) rfl (by decide) (by decide) [0] [1, 2, 3, 4, 5] rfl rfl rfl rfl (by decide) 0 rfl rfl (rest := []) rfl (Nat.le_of_ble_eq_true rfl) dX8_parkingCell_33 ?_
    rintro _ _ ⟨rfl, rfl⟩
    show jj X 0 0 36 [(0, .ref h8), (1, .int x)] [.int (bI true)] [(rv, cI (xT X) 450 cvec), (rn, cI (xT X) 600 (fun j => nI (near4 j))), (rnw, cI (xT X) 37 (rowF ac ap ash an aob arq)), (rdk, cZ (xT X) 15300 (fun j => bI (dk j))), (rre, cZ (xT X) 9150 (fun j => bI (re j))), (h8, cO 8 [.int (nI 1), .ref rv, .ref rn, .ref rnw, .ref rt, .ref rd, .int (nI na), .int (nI nx), .ref rk, .ref rik, .ref rdk, .ref rre, .ref rle, .ref rhe, .ref rth, .ref rpa, .ref ror, .int bv, .int bo])]
    refine j_if_eq C dX8_parkingCell_36 (tgt := 41) (by decide) (fun h9 => absurd h9 (by decide +kernel)) (fun _ => ?_)
    refine j_iconst C dX8_parkingCell_39 (v := (nI 0)) kc_i_0 ?_
    refine j_perm C (w' := [(h8, cO 8 [.int (nI 1), .ref rv, .ref rn, .ref rnw, .ref rt, .ref rd, .int (nI na), .int (nI nx), .ref rk, .ref rik, .ref rdk, .ref rre, .ref rle, .ref rhe, .ref rth, .ref rpa, .ref ror, .int bv, .int bo]), (rv, cI (xT X) 450 cvec), (rn, cI (xT X) 600 (fun j => nI (near4 j))), (rnw, cI (xT X) 37 (rowF ac ap ash an aob arq)), (rdk, cZ (xT X) 15300 (fun j => bI (dk j))), (rre, cZ (xT X) 9150 (fun j => bI (re j)))]) [5, 0, 1, 2, 3, 4] rfl rfl ?_
    refine j_iretM C rw_ hQ (by decide) (by decide) rfl ?_ dX8_parkingCell_40
    exact ⟨1, _, rfl, Or.inl ⟨rfl, Or.inl ⟨rfl, q10⟩⟩⟩
