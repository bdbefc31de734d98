/-! THE MODEL: arrivals, parking -/
theorem sd_rel {ob : Nat → Int32} {c k a b : Nat} : sd ob c (k + a) (k + b) = true ↔ ∀ d, a ≤ d → d ≤ b → br ob c (k + d) = false := by
  rw [sd_iff]
  constructor
  · intro h d h1 h2; exact h (k + d) (by omega) (by omega)
  · intro h t h1 h2
    have := h (t - k) (by omega) (by omega)
    rwa [show k + (t - k) = t by omega] at this
/-- the first s, and then the first c, of what p allows, as 1000 s + c; or NONE -/
def pa_is (p : Nat → Nat → Bool) (x : Int32) : Prop := (∃ s c, s ≤ 60 ∧ c < 150 ∧ x = nI (1000 * s + c) ∧ p s c = true ∧ (∀ d, d < c → p s d = false) ∧ ∀ s', s' < s → ∀ d, d < 150 → p s' d = false) ∨ (x = -9 ∧ ∀ s, s ≤ 60 → ∀ c, c < 150 → p s c = false)
set_option maxHeartbeats 4000000 in
set_option maxRecDepth 100000 in
/-- layPlans() -/
theorem c_X8_layPlans (l : Launch) (T : jj_T) (h8 rv rn rnw rt rd rk rik rdk rre rle rhe rth rpa ror na nx : Nat) (rf bv bo : Int32) (ac ap an : Nat) (ash : Bool) (aob arq : Nat → Int32) (dk re : Nat → Bool) (hap : ap < 150) (hac : ac ≤ 200) (hco : coI aob) : jM l T yX8_layPlans wsX8_layPlans { frames := 4, cells := 0, slots := 0, locals := 101 } [.ref h8] [(h8, cO 8 [.int rf, .ref rv, .ref rn, .ref rnw, .ref rt, .ref rd, .int (nI na), .int (nI nx), .ref rk, .ref rik, .ref rdk, .ref rre, .ref rle, .ref rhe, .ref rth, .ref rpa, .ref ror, .int bv, .int bo]), (rv, cI T 450 cvec), (rn, cI T 600 (fun j => nI (near4 j))), (rnw, cI T 37 (rowF ac ap ash an aob arq)), (rdk, cZ T 15300 (fun j => bI (dk j))), (rre, cZ T 9150 (fun j => bI (re j)))] (fun v w1 => v = none ∧ w1 = [(h8, cO 8 [.int rf, .ref rv, .ref rn, .ref rnw, .ref rt, .ref rd, .int (nI na), .int (nI nx), .ref rk, .ref rik, .ref rdk, .ref rre, .ref rle, .ref rhe, .ref rth, .ref rpa, .ref ror, .int bv, .int bo]), (rv, cI T 450 cvec), (rn, cI T 600 (fun j => nI (near4 j))), (rnw, cI T 37 (rowF ac ap ash an aob arq)), (rdk, cZ T 15300 (fun j => bI (flB (dkP aob ac) dk (150 * (60 + 1)) j))), (rre, cZ T 9150 (fun j => bI (flB (rcP aob ac ap) re (150 * (60 + 1)) j)))]) := by
  refine jM.of (cc := cX8_layPlans) (maxL := 1) (ret := none) (by decide) rfl (Nat.le_of_ble_eq_true rfl) ?_
  intro X C rw_ hl hT hQ hnm
  subst hl; subst hT
  show jj X 0 0 0 [(0, .ref h8)] [] [(h8, cO 8 [.int rf, .ref rv, .ref rn, .ref rnw, .ref rt, .ref rd, .int (nI na), .int (nI nx), .ref rk, .ref rik, .ref rdk, .ref rre, .ref rle, .ref rhe, .ref rth, .ref rpa, .ref ror, .int bv, .int bo]), (rv, cI (xT X) 450 cvec), (rn, cI (xT X) 600 (fun j => nI (near4 j))), (rnw, cI (xT X) 37 (rowF ac ap ash an aob arq)), (rdk, cZ (xT X) 15300 (fun j => bI (dk j))), (rre, cZ (xT X) 9150 (fun j => bI (re j)))]
  refine j_aload_n C dX8_layPlans_0 0 rfl rfl ?_
  refine j_bipush C dX8_layPlans_1 (v := (nI 60)) kc_b_60 ?_
  refine j_callVM C rw_ (nA := 1) (As := [.int (nI 60)]) (wr := [(rn, cI (xT X) 600 (fun j => nI (near4 j))), (rre, cZ (xT X) 9150 (fun j => bI (re j)))]) (c_X8_layDark (xl X) (xT X) h8 rv rn rnw rt rd rk rik rdk rre rle rhe rth rpa ror na nx rf bv bo ac ap an ash aob arq 60 dk (by omega) (by omega) (by exact hco)) gX8_layPlans_X8_layDark rfl (by decide +kernel) rfl (by decide) (by decide) [0, 1, 3, 4] [2, 5] rfl rfl rfl rfl (by decide) 0 rfl rfl (rest := []) rfl (Nat.le_of_ble_eq_true rfl) dX8_layPlans_3 ?_
  rintro _ _ ⟨rfl, rfl⟩
  show jj X 0 0 6 [(0, .ref h8)] [] [(rn, cI (xT X) 600 (fun j => nI (near4 j))), (rre, cZ (xT X) 9150 (fun j => bI (re j))), (h8, cO 8 [.int rf, .ref rv, .ref rn, .ref rnw, .ref rt, .ref rd, .int (nI na), .int (nI nx), .ref rk, .ref rik, .ref rdk, .ref rre, .ref rle, .ref rhe, .ref rth, .ref rpa, .ref ror, .int bv, .int bo]), (rv, cI (xT X) 450 cvec), (rnw, cI (xT X) 37 (rowF ac ap ash an aob arq)), (rdk, cZ (xT X) 15300 (fun j => bI (flB (dkP aob ac) dk (150 * (60 + 1)) j)))]
  refine j_aload_n C dX8_layPlans_6 0 rfl rfl ?_
  refine j_bipush C dX8_layPlans_7 (v := (nI 60)) kc_b_60 ?_
  refine j_callVM C rw_ (nA := 1) (As := [.int (nI 60)]) (wr := [(rv, cI (xT X) 450 cvec)]) (c_X8_layReached (xl X) (xT X) h8 rv rn rnw rt rd rk rik rdk rre rle rhe rth rpa ror na nx rf bv bo ac ap an ash aob arq 60 (flB (dkP aob ac) dk (150 * (60 + 1))) re (by omega) (by exact hap) (by intro t ht c hc; rw [flB_v (by omega), dkP_v hc])) gX8_layPlans_X8_layReached rfl (by decide +kernel) rfl (by decide) (by decide) [2, 0, 4, 5, 1] [3] rfl rfl rfl rfl (by decide) 2 rfl rfl (rest := []) rfl (Nat.le_of_ble_eq_true rfl) dX8_layPlans_9 ?_
  rintro _ _ ⟨rfl, rfl⟩
  show jj X 0 0 12 [(0, .ref h8)] [] [(rv, cI (xT X) 450 cvec), (h8, cO 8 [.int rf, .ref rv, .ref rn, .ref rnw, .ref rt, .ref rd, .int (nI na), .int (nI nx), .ref rk, .ref rik, .ref rdk, .ref rre, .ref rle, .ref rhe, .ref rth, .ref rpa, .ref ror, .int bv, .int bo]), (rn, cI (xT X) 600 (fun j => nI (near4 j))), (rnw, cI (xT X) 37 (rowF ac ap ash an aob arq)), (rdk, cZ (xT X) 15300 (fun j => bI ((flB (dkP aob ac) dk (150 * (60 + 1))) j))), (rre, cZ (xT X) 9150 (fun j => bI (flB (rcP aob ac ap) re (150 * (60 + 1)) j)))]
  refine j_perm C (w' := [(h8, cO 8 [.int rf, .ref rv, .ref rn, .ref rnw, .ref rt, .ref rd, .int (nI na), .int (nI nx), .ref rk, .ref rik, .ref rdk, .ref rre, .ref rle, .ref rhe, .ref rth, .ref rpa, .ref ror, .int bv, .int bo]), (rv, cI (xT X) 450 cvec), (rn, cI (xT X) 600 (fun j => nI (near4 j))), (rnw, cI (xT X) 37 (rowF ac ap ash an aob arq)), (rdk, cZ (xT X) 15300 (fun j => bI ((flB (dkP aob ac) dk (150 * (60 + 1))) j))), (rre, cZ (xT X) 9150 (fun j => bI (flB (rcP aob ac ap) re (150 * (60 + 1)) j)))]) [1, 0, 2, 3, 4, 5] rfl rfl ?_
  refine j_vretM C rw_ hQ (by decide) (by decide) ?_ dX8_layPlans_12
  exact ⟨rfl, rfl⟩

set_option maxHeartbeats 4000000 in
set_option maxRecDepth 100000 in
/-- arrivalOf(cell) -/
theorem c_X8_arrivalOf (l : Launch) (T : jj_T) (h8 rv rn rnw rt rd rk rik rdk rre rle rhe rth rpa ror na nx : Nat) (rf bv bo : Int32) (ac ap an : Nat) (ash : Bool) (aob arq : Nat → Int32) (dk re : Nat → Bool) (c : Nat) (hap : ap < 150) (hac : ac ≤ 200) (hco : coI aob) (hc : c < 150) : jM l T yX8_arrivalOf wsX8_arrivalOf { frames := 5, cells := 0, slots := 0, locals := 121 } [.ref h8, .int (nI c)] [(h8, cO 8 [.int rf, .ref rv, .ref rn, .ref rnw, .ref rt, .ref rd, .int (nI na), .int (nI nx), .ref rk, .ref rik, .ref rdk, .ref rre, .ref rle, .ref rhe, .ref rth, .ref rpa, .ref ror, .int bv, .int bo]), (rv, cI T 450 cvec), (rn, cI T 600 (fun j => nI (near4 j))), (rnw, cI T 37 (rowF ac ap ash an aob arq)), (rdk, cZ T 15300 (fun j => bI (dk j))), (rre, cZ T 9150 (fun j => bI (re j)))] (fun v w1 => ∃ r : Int32, v = some (.int r) ∧ w1 = [(h8, cO 8 [.int rf, .ref rv, .ref rn, .ref rnw, .ref rt, .ref rd, .int (nI na), .int (nI nx), .ref rk, .ref rik, .ref rdk, .ref rre, .ref rle, .ref rhe, .ref rth, .ref rpa, .ref ror, .int bv, .int bo]), (rv, cI T 450 cvec), (rn, cI T 600 (fun j => nI (near4 j))), (rnw, cI T 37 (rowF ac ap ash an aob arq)), (rdk, cZ T 15300 (fun j => bI (flB (dkP aob ac) dk (150 * (60 + 1)) j))), (rre, cZ T 9150 (fun j => bI (flB (rcP aob ac ap) re (150 * (60 + 1)) j)))] ∧ (ft_is (fun s => rc aob ac ap s c) 0 60 r)) := by
  refine jM.of (cc := cX8_arrivalOf) (maxL := 3) (ret := (some .int)) (by decide) rfl (Nat.le_of_ble_eq_true rfl) ?_
  intro X C rw_ hl hT hQ hnm
  subst hl; subst hT
  have hin8 : ∀ w ∈ u_ws RX8 TX8 19, w ∈ wsX8_arrivalOf := by decide +kernel
  have hl35 : Cond.fieldLink RX8 35 (TX8 11).1 (TX8 11).2.1 (TX8 11).2.2.1 ∈ wsX8_arrivalOf := by decide +kernel
  show jj X 0 0 0 [(0, .ref h8), (1, .int (nI c))] [] [(h8, cO 8 [.int rf, .ref rv, .ref rn, .ref rnw, .ref rt, .ref rd, .int (nI na), .int (nI nx), .ref rk, .ref rik, .ref rdk, .ref rre, .ref rle, .ref rhe, .ref rth, .ref rpa, .ref ror, .int bv, .int bo]), (rv, cI (xT X) 450 cvec), (rn, cI (xT X) 600 (fun j => nI (near4 j))), (rnw, cI (xT X) 37 (rowF ac ap ash an aob arq)), (rdk, cZ (xT X) 15300 (fun j => bI (dk j))), (rre, cZ (xT X) 9150 (fun j => bI (re j)))]
  refine j_aload_n C dX8_arrivalOf_0 0 rfl rfl ?_
  refine j_callVM C rw_ (nA := 0) (As := []) (wr := []) (c_X8_layPlans (xl X) (xT X) h8 rv rn rnw rt rd rk rik rdk rre rle rhe rth rpa ror na nx rf bv bo ac ap an ash aob arq dk re (by exact hap) (by exact hac) (by exact hco)) gX8_arrivalOf_X8_layPlans rfl (by decide +kernel) rfl (by decide) (by decide) [0, 1, 2, 3, 4, 5] [] rfl rfl rfl rfl (by decide) 0 rfl rfl (rest := []) rfl (Nat.le_of_ble_eq_true rfl) dX8_arrivalOf_1 ?_
  rintro _ _ ⟨rfl, rfl⟩
  show jj X 0 0 4 [(0, .ref h8), (1, .int (nI c))] [] [(h8, cO 8 [.int rf, .ref rv, .ref rn, .ref rnw, .ref rt, .ref rd, .int (nI na), .int (nI nx), .ref rk, .ref rik, .ref rdk, .ref rre, .ref rle, .ref rhe, .ref rth, .ref rpa, .ref ror, .int bv, .int bo]), (rv, cI (xT X) 450 cvec), (rn, cI (xT X) 600 (fun j => nI (near4 j))), (rnw, cI (xT X) 37 (rowF ac ap ash an aob arq)), (rdk, cZ (xT X) 15300 (fun j => bI (flB (dkP aob ac) dk (150 * (60 + 1)) j))), (rre, cZ (xT X) 9150 (fun j => bI (flB (rcP aob ac ap) re (150 * (60 + 1)) j)))]
  refine j_iconst C dX8_arrivalOf_4 (v := (nI 0)) kc_i_0 ?_
  refine j_istore_n C dX8_arrivalOf_5 rfl (by decide) (lv' := [(2, .int (nI 0)), (0, .ref h8), (1, .int (nI c))]) rfl ?_
  refine j_lv [1, 2, 0] rfl ?_
  suffices hc6 : ∀ (mm : Nat) (s : Nat), 61 - s < mm → (s ≤ 61) → (∀ d, d < s → rc aob ac ap d c = false) → jj X 0 0 6 [(0, .ref h8), (1, .int (nI c)), (2, .int (nI s))] [] [(h8, cO 8 [.int rf, .ref rv, .ref rn, .ref rnw, .ref rt, .ref rd, .int (nI na), .int (nI nx), .ref rk, .ref rik, .ref rdk, .ref rre, .ref rle, .ref rhe, .ref rth, .ref rpa, .ref ror, .int bv, .int bo]), (rv, cI (xT X) 450 cvec), (rn, cI (xT X) 600 (fun j => nI (near4 j))), (rnw, cI (xT X) 37 (rowF ac ap ash an aob arq)), (rdk, cZ (xT X) 15300 (fun j => bI (flB (dkP aob ac) dk (150 * (60 + 1)) j))), (rre, cZ (xT X) 9150 (fun j => bI (flB (rcP aob ac ap) re (150 * (60 + 1)) j)))] by
    refine hc6 _ _ (Nat.lt_succ_self _) ?_ ?_
    · omega
    · intro d hd; omega
  intro mm
  induction mm with
  | zero => intro s hm; exact absurd hm (Nat.not_lt_zero _)
  | succ mm ih6 =>
    intro s hm6 hs hf
    refine j_iload_n C dX8_arrivalOf_6 2 rfl rfl ?_
    refine j_bipush C dX8_arrivalOf_7 (v := (nI 60)) kc_b_60 ?_
    refine j_icmp_gt C dX8_arrivalOf_9 (tgt := 35) (by decide) (fun q9 => ?_) (fun q9 => ?_)
    · skip
      have q9 := (kn_gt (a := s) (b := 60) (by omega) (by omega)).mp q9
      refine j_bipush C dX8_arrivalOf_35 (v := (-9)) kc_b_m9 ?_
      refine j_iretM C rw_ hQ (by decide) (by decide) rfl ?_ dX8_arrivalOf_37
      exact ⟨_, rfl, rfl, Or.inr ⟨fun t _ h => hf t (by omega), rfl⟩⟩
    · skip
      have q9 := (kn_ngt (a := s) (b := 60) (by omega) (by omega)).mp q9
      refine j_aload_n C dX8_arrivalOf_12 0 rfl rfl ?_
      refine j_get C (hin8) (ci := 8) rfl 11 (by decide) (hl35) 0 rfl (v := .ref rre) rfl dX8_arrivalOf_13 ?_
      refine j_sipush C dX8_arrivalOf_16 (v := (nI 150)) kc_s_150 ?_
      refine j_iload_n C dX8_arrivalOf_19 2 rfl rfl ?_
      refine j_imul C dX8_arrivalOf_20 (v := (nI (150 * s))) (pk_mul _ _) ?_
      refine j_iload_n C dX8_arrivalOf_21 1 rfl rfl ?_
      refine j_iadd C dX8_arrivalOf_22 (v := (nI (150 * s + c))) (nI_add _ _) ?_
      refine j_zaloadN C (150 * s + c) rfl 5 rfl (by omega) (by decide) dX8_arrivalOf_23 ?_
      rw [show ((flB (rcP aob ac ap) re (150 * (60 + 1))) (150 * s + c)) = rc aob ac ap s c from by rw [flB_v (by omega), rcP_v (by omega)]]
      show jj X 0 0 24 [(0, .ref h8), (1, .int (nI c)), (2, .int (nI s))] [.int (bI (rc aob ac ap s c))] [(h8, cO 8 [.int rf, .ref rv, .ref rn, .ref rnw, .ref rt, .ref rd, .int (nI na), .int (nI nx), .ref rk, .ref rik, .ref rdk, .ref rre, .ref rle, .ref rhe, .ref rth, .ref rpa, .ref ror, .int bv, .int bo]), (rv, cI (xT X) 450 cvec), (rn, cI (xT X) 600 (fun j => nI (near4 j))), (rnw, cI (xT X) 37 (rowF ac ap ash an aob arq)), (rdk, cZ (xT X) 15300 (fun j => bI (flB (dkP aob ac) dk (150 * (60 + 1)) j))), (rre, cZ (xT X) 9150 (fun j => bI (flB (rcP aob ac ap) re (150 * (60 + 1)) j)))]
      refine j_if_eq C dX8_arrivalOf_24 (tgt := 29) (by decide) (fun q24 => ?_) (fun q24 => ?_)
      · skip
        have q24 := (kb_eq).mp q24
        refine j_iinc C dX8_arrivalOf_29 (q := 2) (v := (nI (s + 1))) rfl (kc_inc s) (by decide) (lv' := [(2, .int (nI (s + 1))), (0, .ref h8), (1, .int (nI c))]) rfl ?_
        refine j_goto C dX8_arrivalOf_32 (tgt := 6) (by decide) ?_
        refine j_lv [1, 2, 0] rfl ?_
        refine ih6 _ (by omega) ?_ ?_
        · omega
        · intro d hd
          by_cases h : d = s
          · rw [h]; exact q24
          · exact hf d (by omega)
      · skip
        have q24 := (kb_neq).mp q24
        refine j_iload_n C dX8_arrivalOf_27 2 rfl rfl ?_
        refine j_iretM C rw_ hQ (by decide) (by decide) rfl ?_ dX8_arrivalOf_28
        exact ⟨_, rfl, rfl, Or.inl ⟨s, by omega, by omega, q24, fun d _ h => hf d h, rfl⟩⟩

set_option maxHeartbeats 4000000 in
set_option maxRecDepth 100000 in
/-- arrival -/
theorem c_X8_arrival (l : Launch) (T : jj_T) (h8 rv rn rnw rt rd rk rik rdk rre rle rhe rth rpa ror na nx : Nat) (rf bv bo : Int32) (ac ap an : Nat) (ash : Bool) (aob arq : Nat → Int32) (dk re : Nat → Bool) (x : Int32)  (hap : ap < 150) (hac : ac ≤ 200) (hco : coI aob) : jM l T yX8_arrival wsX8_arrival { frames := 6, cells := 0, slots := 0, locals := 143 } [.ref h8, .int x] [(h8, cO 8 [.int rf, .ref rv, .ref rn, .ref rnw, .ref rt, .ref rd, .int (nI na), .int (nI nx), .ref rk, .ref rik, .ref rdk, .ref rre, .ref rle, .ref rhe, .ref rth, .ref rpa, .ref ror, .int bv, .int bo]), (rv, cI T 450 cvec), (rn, cI T 600 (fun j => nI (near4 j))), (rnw, cI T 37 (rowF ac ap ash an aob arq)), (rdk, cZ T 15300 (fun j => bI (dk j))), (rre, cZ T 9150 (fun j => bI (re j)))] (fun v w1 => ∃ (k8 : Nat) (r : Int32), v = some (.int r) ∧ ((w1 = [(h8, cO 8 [.int (nI k8), .ref rv, .ref rn, .ref rnw, .ref rt, .ref rd, .int (nI na), .int (nI nx), .ref rk, .ref rik, .ref rdk, .ref rre, .ref rle, .ref rhe, .ref rth, .ref rpa, .ref ror, .int bv, .int bo]), (rv, cI T 450 cvec), (rn, cI T 600 (fun j => nI (near4 j))), (rnw, cI T 37 (rowF ac ap ash an aob arq)), (rdk, cZ T 15300 (fun j => bI (dk j))), (rre, cZ T 9150 (fun j => bI (re j)))] ∧ ((k8 = 1 ∧ inR x 0 149 = false) ∨ (k8 = 2 ∧ inR x 0 149 = true ∧ ash = true))) ∨ (k8 = 0 ∧ ∃ c : Nat, w1 = [(h8, cO 8 [.int (nI 0), .ref rv, .ref rn, .ref rnw, .ref rt, .ref rd, .int (nI na), .int (nI nx), .ref rk, .ref rik, .ref rdk, .ref rre, .ref rle, .ref rhe, .ref rth, .ref rpa, .ref ror, .int bv, .int bo]), (rv, cI T 450 cvec), (rn, cI T 600 (fun j => nI (near4 j))), (rnw, cI T 37 (rowF ac ap ash an aob arq)), (rdk, cZ T 15300 (fun j => bI (flB (dkP aob ac) dk (150 * (60 + 1)) j))), (rre, cZ T 9150 (fun j => bI (flB (rcP aob ac ap) re (150 * (60 + 1)) j)))] ∧ x = nI c ∧ c < 150 ∧ ash = false ∧ ft_is (fun s => rc aob ac ap s c) 0 60 r))) := by
  refine jM.of (cc := cX8_arrival) (maxL := 2) (ret := (some .int)) (by decide) rfl (Nat.le_of_ble_eq_true rfl) ?_
  intro X C rw_ hl hT hQ hnm
  subst hl; subst hT
  have hin8 : ∀ w ∈ u_ws RX8 TX8 19, w ∈ wsX8_arrival := by decide +kernel
  have hl16 : Cond.fieldLink RX8 16 (TX8 3).1 (TX8 3).2.1 (TX8 3).2.2.1 ∈ wsX8_arrival := by decide +kernel
  show jj X 0 0 0 [(0, .ref h8), (1, .int x)] [] [(h8, cO 8 [.int rf, .ref rv, .ref rn, .ref rnw, .ref rt, .ref rd, .int (nI na), .int (nI nx), .ref rk, .ref rik, .ref rdk, .ref rre, .ref rle, .ref rhe, .ref rth, .ref rpa, .ref ror, .int bv, .int bo]), (rv, cI (xT X) 450 cvec), (rn, cI (xT X) 600 (fun j => nI (near4 j))), (rnw, cI (xT X) 37 (rowF ac ap ash an aob arq)), (rdk, cZ (xT X) 15300 (fun j => bI (dk j))), (rre, cZ (xT X) 9150 (fun j => bI (re j)))]
  refine j_aload_n C dX8_arrival_0 0 rfl rfl ?_
  refine j_iload_n C dX8_arrival_1 1 rfl rfl ?_
  refine j_callSR C (nA := 1) (As := [.int x]) (c_X8_isCell (xl X) (xT X) x ) gX8_arrival_X8_isCell rfl (by decide +kernel) rfl ⟨rfl, rfl⟩ (by decide) (by decide) [] rfl rfl (rest := [.ref h8]) rfl (Nat.le_of_ble_eq_true rfl) dX8_arrival_2 ?_
  rintro _ rfl
  show jj X 0 0 5 [(0, .ref h8), (1, .int x)] [.int (bI (inR x 0 149)), .ref h8] [(h8, cO 8 [.int rf, .ref rv, .ref rn, .ref rnw, .ref rt, .ref rd, .int (nI na), .int (nI nx), .ref rk, .ref rik, .ref rdk, .ref rre, .ref rle, .ref rhe, .ref rth, .ref rpa, .ref ror, .int bv, .int bo]), (rv, cI (xT X) 450 cvec), (rn, cI (xT X) 600 (fun j => nI (near4 j))), (rnw, cI (xT X) 37 (rowF ac ap ash an aob arq)), (rdk, cZ (xT X) 15300 (fun j => bI (dk j))), (rre, cZ (xT X) 9150 (fun j => bI (re j)))]
  refine j_if_ne C dX8_arrival_5 (tgt := 12) (by decide) (fun q5 => ?_) (fun q5 => ?_)
  · skip
    have q5 := (kb_ne).mp q5
    obtain ⟨c, rfl, hb_c⟩ := inR_N (b := 149) q5
    refine j_aload_n C dX8_arrival_12 0 rfl rfl ?_
    refine j_get C (hin8) (ci := 8) rfl 3 (by decide) (hl16) 0 rfl (v := .ref rnw) rfl dX8_arrival_13 ?_
    refine j_bipush C dX8_arrival_16 (v := (nI 23)) kc_b_23 ?_
    refine j_ialoadN C 23 rfl 3 rfl (by omega) (by decide) dX8_arrival_18 ?_
    show jj X 0 0 19 [(0, .ref h8), (1, .int (nI c))] [.int (bI ash), .ref h8] [(h8, cO 8 [.int rf, .ref rv, .ref rn, .ref rnw, .ref rt, .ref rd, .int (nI na), .int (nI nx), .ref rk, .ref rik, .ref rdk, .ref rre, .ref rle, .ref rhe, .ref rth, .ref rpa, .ref ror, .int bv, .int bo]), (rv, cI (xT X) 450 cvec), (rn, cI (xT X) 600 (fun j => nI (near4 j))), (rnw, cI (xT X) 37 (rowF ac ap ash an aob arq)), (rdk, cZ (xT X) 15300 (fun j => bI (dk j))), (rre, cZ (xT X) 9150 (fun j => bI (re j)))]
    refine j_iconst C dX8_arrival_19 (v := (nI 1)) kc_i_1 ?_
    refine j_icmp_ne C dX8_arrival_20 (tgt := 27) (by decide) (fun q20 => ?_) (fun q20 => ?_)
    · skip
      refine j_iconst C dX8_arrival_27 (v := (nI 0)) kc_i_0 ?_
      refine j_callVM C rw_ (nA := 1) (As := [.int (nI 0)]) (wr := [(rv, cI (xT X) 450 cvec), (rn, cI (xT X) 600 (fun j => nI (near4 j))), (rnw, cI (xT X) 37 (rowF ac ap ash an aob arq)), (rdk, cZ (xT X) 15300 (fun j => bI (dk j))), (rre, cZ (xT X) 9150 (fun j => bI (re j)))]) (c_X8_refused_0 (xl X) (xT X) h8 rv rn rnw rt rd rk rik rdk rre rle rhe rth rpa ror na nx rf bv bo ) gX8_arrival_X8_refused rfl (by decide +kernel) rfl (by decide) (by decide) [0] [1, 2, 3, 4, 5] rfl rfl rfl rfl (by decide) 0 rfl rfl (rest := []) rfl (Nat.le_of_ble_eq_true rfl) dX8_arrival_28 ?_
      rintro _ _ ⟨rfl, rfl⟩
      show jj X 0 0 31 [(0, .ref h8), (1, .int (nI c))] [.int (bI false)] [(rv, cI (xT X) 450 cvec), (rn, cI (xT X) 600 (fun j => nI (near4 j))), (rnw, cI (xT X) 37 (rowF ac ap ash an aob arq)), (rdk, cZ (xT X) 15300 (fun j => bI (dk j))), (rre, cZ (xT X) 9150 (fun j => bI (re j))), (h8, cO 8 [.int (nI 0), .ref rv, .ref rn, .ref rnw, .ref rt, .ref rd, .int (nI na), .int (nI nx), .ref rk, .ref rik, .ref rdk, .ref rre, .ref rle, .ref rhe, .ref rth, .ref rpa, .ref ror, .int bv, .int bo])]
      refine j_if_eq C dX8_arrival_31 (tgt := 36) (by decide) (fun _ => ?_) (fun h9 => absurd h9 (by decide +kernel))
      refine j_aload_n C dX8_arrival_36 0 rfl rfl ?_
      refine j_iload_n C dX8_arrival_37 1 rfl rfl ?_
      refine j_callVM C rw_ (nA := 1) (As := [.int (nI c)]) (wr := []) (c_X8_arrivalOf (xl X) (xT X) h8 rv rn rnw rt rd rk rik rdk rre rle rhe rth rpa ror na nx (nI 0) bv bo ac ap an ash aob arq dk re c (by exact hap) (by exact hac) (by exact hco) (by omega)) gX8_arrival_X8_arrivalOf rfl (by decide +kernel) rfl (by decide) (by decide) [5, 0, 1, 2, 3, 4] [] rfl rfl rfl rfl (by decide) 5 rfl rfl (rest := []) rfl (Nat.le_of_ble_eq_true rfl) dX8_arrival_38 ?_
      rintro _ _ ⟨r_1, rfl, rfl, hr⟩
      show jj X 0 0 41 [(0, .ref h8), (1, .int (nI c))] [.int r_1] [(h8, cO 8 [.int (nI 0), .ref rv, .ref rn, .ref rnw, .ref rt, .ref rd, .int (nI na), .int (nI nx), .ref rk, .ref rik, .ref rdk, .ref rre, .ref rle, .ref rhe, .ref rth, .ref rpa, .ref ror, .int bv, .int bo]), (rv, cI (xT X) 450 cvec), (rn, cI (xT X) 600 (fun j => nI (near4 j))), (rnw, cI (xT X) 37 (rowF ac ap ash an aob arq)), (rdk, cZ (xT X) 15300 (fun j => bI (flB (dkP aob ac) dk (150 * (60 + 1)) j))), (rre, cZ (xT X) 9150 (fun j => bI (flB (rcP aob ac ap) re (150 * (60 + 1)) j)))]
      refine j_iretM C rw_ hQ (by decide) (by decide) rfl ?_ dX8_arrival_41
      exact ⟨0, _, rfl, Or.inr ⟨rfl, c, rfl, rfl, by omega, bI_ne1 q20, hr⟩⟩
    · skip
      refine j_iconst C dX8_arrival_23 (v := (nI 2)) kc_i_2 ?_
      refine j_goto C dX8_arrival_24 (tgt := 28) (by decide) ?_
      refine j_callVM C rw_ (nA := 1) (As := [.int (nI 2)]) (wr := [(rv, cI (xT X) 450 cvec), (rn, cI (xT X) 600 (fun j => nI (near4 j))), (rnw, cI (xT X) 37 (rowF ac ap ash an aob arq)), (rdk, cZ (xT X) 15300 (fun j => bI (dk j))), (rre, cZ (xT X) 9150 (fun j => bI (re j)))]) (c_X8_refused_s (xl X) (xT X) h8 rv rn rnw rt rd rk rik rdk rre rle rhe rth rpa ror na nx rf bv bo 2 (by omega) (by omega)) gX8_arrival_X8_refused rfl (by decide +kernel) rfl (by decide) (by decide) [0] [1, 2, 3, 4, 5] rfl rfl rfl rfl (by decide) 0 rfl rfl (rest := []) rfl (Nat.le_of_ble_eq_true rfl) dX8_arrival_28 ?_
      rintro _ _ ⟨rfl, rfl⟩
      show jj X 0 0 31 [(0, .ref h8), (1, .int (nI c))] [.int (bI true)] [(rv, cI (xT X) 450 cvec), (rn, cI (xT X) 600 (fun j => nI (near4 j))), (rnw, cI (xT X) 37 (rowF ac ap ash an aob arq)), (rdk, cZ (xT X) 15300 (fun j => bI (dk j))), (rre, cZ (xT X) 9150 (fun j => bI (re j))), (h8, cO 8 [.int (nI 2), .ref rv, .ref rn, .ref rnw, .ref rt, .ref rd, .int (nI na), .int (nI nx), .ref rk, .ref rik, .ref rdk, .ref rre, .ref rle, .ref rhe, .ref rth, .ref rpa, .ref ror, .int bv, .int bo])]
      refine j_if_eq C dX8_arrival_31 (tgt := 36) (by decide) (fun h9 => absurd h9 (by decide +kernel)) (fun _ => ?_)
      refine j_iconst C dX8_arrival_34 (v := (nI 0)) kc_i_0 ?_
      refine j_perm C (w' := [(h8, cO 8 [.int (nI 2), .ref rv, .ref rn, .ref rnw, .ref rt, .ref rd, .int (nI na), .int (nI nx), .ref rk, .ref rik, .ref rdk, .ref rre, .ref rle, .ref rhe, .ref rth, .ref rpa, .ref ror, .int bv, .int bo]), (rv, cI (xT X) 450 cvec), (rn, cI (xT X) 600 (fun j => nI (near4 j))), (rnw, cI (xT X) 37 (rowF ac ap ash an aob arq)), (rdk, cZ (xT X) 15300 (fun j => bI (dk j))), (rre, cZ (xT X) 9150 (fun j => bI (re j)))]) [5, 0, 1, 2, 3, 4] rfl rfl ?_
      refine j_iretM C rw_ hQ (by decide) (by decide) rfl ?_ dX8_arrival_35
      exact ⟨2, _, rfl, Or.inl ⟨rfl, Or.inr (⟨rfl, q5, bI_eq1 q20⟩)⟩⟩
  · skip
    have q5 := (kb_nne).mp q5
    refine j_iconst C dX8_arrival_8 (v := (nI 1)) kc_i_1 ?_
    refine j_goto C dX8_arrival_9 (tgt := 28) (by decide) ?_
    refine j_callVM C rw_ (nA := 1) (As := [.int (nI 1)]) (wr := [(rv, cI (xT X) 450 cvec), (rn, cI (xT X) 600 (fun j => nI (near4 j))), (rnw, cI (xT X) 37 (rowF ac ap ash an aob arq)), (rdk, cZ (xT X) 15300 (fun j => bI (dk j))), (rre, cZ (xT X) 9150 (fun j => bI (re j)))]) (c_X8_refused_s (xl X) (xT X) h8 rv rn rnw rt rd rk rik rdk rre rle rhe rth rpa ror na nx rf bv bo 1 (by omega) (by omega)) gX8_arrival_X8_refused rfl (by decide +kernel) rfl (by decide) (by decide) [0] [1, 2, 3, 4, 5] rfl rfl rfl rfl (by decide) 0 rfl rfl (rest := []) rfl (Nat.le_of_ble_eq_true rfl) dX8_arrival_28 ?_
    rintro _ _ ⟨rfl, rfl⟩
    show jj X 0 0 31 [(0, .ref h8), (1, .int x)] [.int (bI true)] [(rv, cI (xT X) 450 cvec), (rn, cI (xT X) 600 (fun j => nI (near4 j))), (rnw, cI (xT X) 37 (rowF ac ap ash an aob arq)), (rdk, cZ (xT X) 15300 (fun j => bI (dk j))), (rre, cZ (xT X) 9150 (fun j => bI (re j))), (h8, cO 8 [.int (nI 1), .ref rv, .ref rn, .ref rnw, .ref rt, .ref rd, .int (nI na), .int (nI nx), .ref rk, .ref rik, .ref rdk, .ref rre, .ref rle, .ref rhe, .ref rth, .ref rpa, .ref ror, .int bv, .int bo])]
    refine j_if_eq C dX8_arrival_31 (tgt := 36) (by decide) (fun h9 => absurd h9 (by decide +kernel)) (fun _ => ?_)
    refine j_iconst C dX8_arrival_34 (v := (nI 0)) kc_i_0 ?_
    refine j_perm C (w' := [(h8, cO 8 [.int (nI 1), .ref rv, .ref rn, .ref rnw, .ref rt, .ref rd, .int (nI na), .int (nI nx), .ref rk, .ref rik, .ref rdk, .ref rre, .ref rle, .ref rhe, .ref rth, .ref rpa, .ref ror, .int bv, .int bo]), (rv, cI (xT X) 450 cvec), (rn, cI (xT X) 600 (fun j => nI (near4 j))), (rnw, cI (xT X) 37 (rowF ac ap ash an aob arq)), (rdk, cZ (xT X) 15300 (fun j => bI (dk j))), (rre, cZ (xT X) 9150 (fun j => bI (re j)))]) [5, 0, 1, 2, 3, 4] rfl rfl ?_
    refine j_iretM C rw_ hQ (by decide) (by decide) rfl ?_ dX8_arrival_35
    exact ⟨1, _, rfl, Or.inl ⟨rfl, Or.inl ⟨rfl, q5⟩⟩⟩

set_option maxHeartbeats 4000000 in
set_option maxRecDepth 100000 in
/-- reachableCells -/
theorem c_X8_reachableCells (l : Launch) (T : jj_T) (h8 rv rn rnw rt rd rk rik rdk rre rle rhe rth rpa ror na nx : Nat) (rf bv bo : Int32) (ac ap an : Nat) (ash : Bool) (aob arq : Nat → Int32) (dk re : Nat → Bool) (x : Int32)  (hap : ap < 150) (hac : ac ≤ 200) (hco : coI aob) : jM l T yX8_reachableCells wsX8_reachableCells { frames := 5, cells := 0, slots := 0, locals := 121 } [.ref h8, .int x] [(h8, cO 8 [.int rf, .ref rv, .ref rn, .ref rnw, .ref rt, .ref rd, .int (nI na), .int (nI nx), .ref rk, .ref rik, .ref rdk, .ref rre, .ref rle, .ref rhe, .ref rth, .ref rpa, .ref ror, .int bv, .int bo]), (rv, cI T 450 cvec), (rn, cI T 600 (fun j => nI (near4 j))), (rnw, cI T 37 (rowF ac ap ash an aob arq)), (rdk, cZ T 15300 (fun j => bI (dk j))), (rre, cZ T 9150 (fun j => bI (re j)))] (fun v w1 => ∃ (k8 : Nat) (r : Int32), v = some (.int r) ∧ ((w1 = [(h8, cO 8 [.int (nI k8), .ref rv, .ref rn, .ref rnw, .ref rt, .ref rd, .int (nI na), .int (nI nx), .ref rk, .ref rik, .ref rdk, .ref rre, .ref rle, .ref rhe, .ref rth, .ref rpa, .ref ror, .int bv, .int bo]), (rv, cI T 450 cvec), (rn, cI T 600 (fun j => nI (near4 j))), (rnw, cI T 37 (rowF ac ap ash an aob arq)), (rdk, cZ T 15300 (fun j => bI (dk j))), (rre, cZ T 9150 (fun j => bI (re j)))] ∧ ((k8 = 1 ∧ inR x 0 60 = false) ∨ (k8 = 2 ∧ inR x 0 60 = true ∧ ash = true))) ∨ (k8 = 0 ∧ ∃ k : Nat, w1 = [(h8, cO 8 [.int (nI 0), .ref rv, .ref rn, .ref rnw, .ref rt, .ref rd, .int (nI na), .int (nI nx), .ref rk, .ref rik, .ref rdk, .ref rre, .ref rle, .ref rhe, .ref rth, .ref rpa, .ref ror, .int bv, .int bo]), (rv, cI T 450 cvec), (rn, cI T 600 (fun j => nI (near4 j))), (rnw, cI T 37 (rowF ac ap ash an aob arq)), (rdk, cZ T 15300 (fun j => bI (flB (dkP aob ac) dk (150 * (60 + 1)) j))), (rre, cZ T 9150 (fun j => bI (flB (rcP aob ac ap) re (150 * (60 + 1)) j)))] ∧ x = nI k ∧ k ≤ 60 ∧ ash = false ∧ r = nI (fb_ct (rc aob ac ap k) 150)))) := by
  refine jM.of (cc := cX8_reachableCells) (maxL := 4) (ret := (some .int)) (by decide) rfl (Nat.le_of_ble_eq_true rfl) ?_
  intro X C rw_ hl hT hQ hnm
  subst hl; subst hT
  have hin8 : ∀ w ∈ u_ws RX8 TX8 19, w ∈ wsX8_reachableCells := by decide +kernel
  have hl16 : Cond.fieldLink RX8 16 (TX8 3).1 (TX8 3).2.1 (TX8 3).2.2.1 ∈ wsX8_reachableCells := by decide +kernel
  have hl35 : Cond.fieldLink RX8 35 (TX8 11).1 (TX8 11).2.1 (TX8 11).2.2.1 ∈ wsX8_reachableCells := by decide +kernel
  show jj X 0 0 0 [(0, .ref h8), (1, .int x)] [] [(h8, cO 8 [.int rf, .ref rv, .ref rn, .ref rnw, .ref rt, .ref rd, .int (nI na), .int (nI nx), .ref rk, .ref rik, .ref rdk, .ref rre, .ref rle, .ref rhe, .ref rth, .ref rpa, .ref ror, .int bv, .int bo]), (rv, cI (xT X) 450 cvec), (rn, cI (xT X) 600 (fun j => nI (near4 j))), (rnw, cI (xT X) 37 (rowF ac ap ash an aob arq)), (rdk, cZ (xT X) 15300 (fun j => bI (dk j))), (rre, cZ (xT X) 9150 (fun j => bI (re j)))]
  refine j_aload_n C dX8_reachableCells_0 0 rfl rfl ?_
  refine j_iload_n C dX8_reachableCells_1 1 rfl rfl ?_
  refine j_i2l C dX8_reachableCells_2 (v := x.toInt64) rfl ?_
  refine j_lconst C dX8_reachableCells_3 (v := lN 0) rfl ?_
  refine j_ldc2l C dX8_reachableCells_4 (v := lN 60) (by decide +kernel) ?_
  refine j_callSR C (nA := 3) (As := [.long x.toInt64, .long (lN 0), .long (lN 60)]) (c_X8_in (xl X) (xT X) x (lN 0) (lN 60) (0) (60) (by decide +kernel) (by decide +kernel)) gX8_reachableCells_X8_in rfl (by decide +kernel) rfl ⟨rfl, rfl⟩ (by decide) (by decide) [] rfl rfl (rest := [.ref h8]) rfl (Nat.le_of_ble_eq_true rfl) dX8_reachableCells_7 ?_
  rintro _ rfl
  show jj X 0 0 10 [(0, .ref h8), (1, .int x)] [.int (bI (inR x (0) (60))), .ref h8] [(h8, cO 8 [.int rf, .ref rv, .ref rn, .ref rnw, .ref rt, .ref rd, .int (nI na), .int (nI nx), .ref rk, .ref rik, .ref rdk, .ref rre, .ref rle, .ref rhe, .ref rth, .ref rpa, .ref ror, .int bv, .int bo]), (rv, cI (xT X) 450 cvec), (rn, cI (xT X) 600 (fun j => nI (near4 j))), (rnw, cI (xT X) 37 (rowF ac ap ash an aob arq)), (rdk, cZ (xT X) 15300 (fun j => bI (dk j))), (rre, cZ (xT X) 9150 (fun j => bI (re j)))]
  refine j_if_ne C dX8_reachableCells_10 (tgt := 17) (by decide) (fun q10 => ?_) (fun q10 => ?_)
  · skip
    have q10 := (kb_ne).mp q10
    obtain ⟨k, rfl, hb_k⟩ := inR_N (b := 60) q10
    refine j_aload_n C dX8_reachableCells_17 0 rfl rfl ?_
    refine j_get C (hin8) (ci := 8) rfl 3 (by decide) (hl16) 0 rfl (v := .ref rnw) rfl dX8_reachableCells_18 ?_
    refine j_bipush C dX8_reachableCells_21 (v := (nI 23)) kc_b_23 ?_
    refine j_ialoadN C 23 rfl 3 rfl (by omega) (by decide) dX8_reachableCells_23 ?_
    show jj X 0 0 24 [(0, .ref h8), (1, .int (nI k))] [.int (bI ash), .ref h8] [(h8, cO 8 [.int rf, .ref rv, .ref rn, .ref rnw, .ref rt, .ref rd, .int (nI na), .int (nI nx), .ref rk, .ref rik, .ref rdk, .ref rre, .ref rle, .ref rhe, .ref rth, .ref rpa, .ref ror, .int bv, .int bo]), (rv, cI (xT X) 450 cvec), (rn, cI (xT X) 600 (fun j => nI (near4 j))), (rnw, cI (xT X) 37 (rowF ac ap ash an aob arq)), (rdk, cZ (xT X) 15300 (fun j => bI (dk j))), (rre, cZ (xT X) 9150 (fun j => bI (re j)))]
    refine j_iconst C dX8_reachableCells_24 (v := (nI 1)) kc_i_1 ?_
    refine j_icmp_ne C dX8_reachableCells_25 (tgt := 32) (by decide) (fun q25 => ?_) (fun q25 => ?_)
    · skip
      refine j_iconst C dX8_reachableCells_32 (v := (nI 0)) kc_i_0 ?_
      refine j_callVM C rw_ (nA := 1) (As := [.int (nI 0)]) (wr := [(rv, cI (xT X) 450 cvec), (rn, cI (xT X) 600 (fun j => nI (near4 j))), (rnw, cI (xT X) 37 (rowF ac ap ash an aob arq)), (rdk, cZ (xT X) 15300 (fun j => bI (dk j))), (rre, cZ (xT X) 9150 (fun j => bI (re j)))]) (c_X8_refused_0 (xl X) (xT X) h8 rv rn rnw rt rd rk rik rdk rre rle rhe rth rpa ror na nx rf bv bo ) gX8_reachableCells_X8_refused rfl (by decide +kernel) rfl (by decide) (by decide) [0] [1, 2, 3, 4, 5] rfl rfl rfl rfl (by decide) 0 rfl rfl (rest := []) rfl (Nat.le_of_ble_eq_true rfl) dX8_reachableCells_33 ?_
      rintro _ _ ⟨rfl, rfl⟩
      show jj X 0 0 36 [(0, .ref h8), (1, .int (nI k))] [.int (bI false)] [(rv, cI (xT X) 450 cvec), (rn, cI (xT X) 600 (fun j => nI (near4 j))), (rnw, cI (xT X) 37 (rowF ac ap ash an aob arq)), (rdk, cZ (xT X) 15300 (fun j => bI (dk j))), (rre, cZ (xT X) 9150 (fun j => bI (re j))), (h8, cO 8 [.int (nI 0), .ref rv, .ref rn, .ref rnw, .ref rt, .ref rd, .int (nI na), .int (nI nx), .ref rk, .ref rik, .ref rdk, .ref rre, .ref rle, .ref rhe, .ref rth, .ref rpa, .ref ror, .int bv, .int bo])]
      refine j_if_eq C dX8_reachableCells_36 (tgt := 41) (by decide) (fun _ => ?_) (fun h9 => absurd h9 (by decide +kernel))
      refine j_aload_n C dX8_reachableCells_41 0 rfl rfl ?_
      refine j_callVM C rw_ (nA := 0) (As := []) (wr := []) (c_X8_layPlans (xl X) (xT X) h8 rv rn rnw rt rd rk rik rdk rre rle rhe rth rpa ror na nx (nI 0) bv bo ac ap an ash aob arq dk re (by exact hap) (by exact hac) (by exact hco)) gX8_reachableCells_X8_layPlans rfl (by decide +kernel) rfl (by decide) (by decide) [5, 0, 1, 2, 3, 4] [] rfl rfl rfl rfl (by decide) 5 rfl rfl (rest := []) rfl (Nat.le_of_ble_eq_true rfl) dX8_reachableCells_42 ?_
      rintro _ _ ⟨rfl, rfl⟩
      show jj X 0 0 45 [(0, .ref h8), (1, .int (nI k))] [] [(h8, cO 8 [.int (nI 0), .ref rv, .ref rn, .ref rnw, .ref rt, .ref rd, .int (nI na), .int (nI nx), .ref rk, .ref rik, .ref rdk, .ref rre, .ref rle, .ref rhe, .ref rth, .ref rpa, .ref ror, .int bv, .int bo]), (rv, cI (xT X) 450 cvec), (rn, cI (xT X) 600 (fun j => nI (near4 j))), (rnw, cI (xT X) 37 (rowF ac ap ash an aob arq)), (rdk, cZ (xT X) 15300 (fun j => bI (flB (dkP aob ac) dk (150 * (60 + 1)) j))), (rre, cZ (xT X) 9150 (fun j => bI (flB (rcP aob ac ap) re (150 * (60 + 1)) j)))]
      refine j_iconst C dX8_reachableCells_45 (v := (nI 0)) kc_i_0 ?_
      refine j_istore_n C dX8_reachableCells_46 rfl (by decide) (lv' := [(2, .int (nI 0)), (0, .ref h8), (1, .int (nI k))]) rfl ?_
      refine j_iconst C dX8_reachableCells_47 (v := (nI 0)) kc_i_0 ?_
      refine j_istore_n C dX8_reachableCells_48 rfl (by decide) (lv' := [(3, .int (nI 0)), (2, .int (nI 0)), (0, .ref h8), (1, .int (nI k))]) rfl ?_
      refine j_lv [2, 3, 1, 0] rfl ?_
      suffices hc49 : ∀ (mm : Nat) (c n : Nat), 150 - c < mm → (c ≤ 150) → (n = fb_ct (rc aob ac ap k) c) → jj X 0 0 49 [(0, .ref h8), (1, .int (nI k)), (2, .int (nI n)), (3, .int (nI c))] [] [(h8, cO 8 [.int (nI 0), .ref rv, .ref rn, .ref rnw, .ref rt, .ref rd, .int (nI na), .int (nI nx), .ref rk, .ref rik, .ref rdk, .ref rre, .ref rle, .ref rhe, .ref rth, .ref rpa, .ref ror, .int bv, .int bo]), (rv, cI (xT X) 450 cvec), (rn, cI (xT X) 600 (fun j => nI (near4 j))), (rnw, cI (xT X) 37 (rowF ac ap ash an aob arq)), (rdk, cZ (xT X) 15300 (fun j => bI (flB (dkP aob ac) dk (150 * (60 + 1)) j))), (rre, cZ (xT X) 9150 (fun j => bI (flB (rcP aob ac ap) re (150 * (60 + 1)) j)))] by
        refine hc49 _ _ _ (Nat.lt_succ_self _) ?_ ?_
        · omega
        · rfl
      intro mm
      induction mm with
      | zero => intro c n hm; exact absurd hm (Nat.not_lt_zero _)
      | succ mm ih49 =>
        intro c n hm49 hc hn
        refine j_iload_n C dX8_reachableCells_49 3 rfl rfl ?_
        refine j_sipush C dX8_reachableCells_50 (v := (nI 150)) kc_s_150 ?_
        refine j_icmp_ge C dX8_reachableCells_53 (tgt := 85) (by decide) (fun q53 => ?_) (fun q53 => ?_)
        · skip
          have q53 := (kn_ge (a := c) (b := 150) (by omega) (by omega)).mp q53
          refine j_iload_n C dX8_reachableCells_85 2 rfl rfl ?_
          refine j_iretM C rw_ hQ (by decide) (by decide) rfl ?_ dX8_reachableCells_86
          exact ⟨0, _, rfl, Or.inr ⟨rfl, k, rfl, rfl, by omega, bI_ne1 q25, by rw [hn, show c = 150 by omega]⟩⟩
        · skip
          have q53 := (kn_nge (a := c) (b := 150) (by omega) (by omega)).mp q53
          refine j_iload_n C dX8_reachableCells_56 2 rfl rfl ?_
          refine j_aload_n C dX8_reachableCells_57 0 rfl rfl ?_
          refine j_get C (hin8) (ci := 8) rfl 11 (by decide) (hl35) 0 rfl (v := .ref rre) rfl dX8_reachableCells_58 ?_
          refine j_sipush C dX8_reachableCells_61 (v := (nI 150)) kc_s_150 ?_
          refine j_iload_n C dX8_reachableCells_64 1 rfl rfl ?_
          refine j_imul C dX8_reachableCells_65 (v := (nI (150 * k))) (pk_mul _ _) ?_
          refine j_iload_n C dX8_reachableCells_66 3 rfl rfl ?_
          refine j_iadd C dX8_reachableCells_67 (v := (nI (150 * k + c))) (nI_add _ _) ?_
          refine j_zaloadN C (150 * k + c) rfl 5 rfl (by omega) (by decide) dX8_reachableCells_68 ?_
          rw [show ((flB (rcP aob ac ap) re (150 * (60 + 1))) (150 * k + c)) = rc aob ac ap k c from by rw [flB_v (by omega), rcP_v (by omega)]]
          show jj X 0 0 69 [(0, .ref h8), (1, .int (nI k)), (2, .int (nI n)), (3, .int (nI c))] [.int (bI (rc aob ac ap k c)), .int (nI n)] [(h8, cO 8 [.int (nI 0), .ref rv, .ref rn, .ref rnw, .ref rt, .ref rd, .int (nI na), .int (nI nx), .ref rk, .ref rik, .ref rdk, .ref rre, .ref rle, .ref rhe, .ref rth, .ref rpa, .ref ror, .int bv, .int bo]), (rv, cI (xT X) 450 cvec), (rn, cI (xT X) 600 (fun j => nI (near4 j))), (rnw, cI (xT X) 37 (rowF ac ap ash an aob arq)), (rdk, cZ (xT X) 15300 (fun j => bI (flB (dkP aob ac) dk (150 * (60 + 1)) j))), (rre, cZ (xT X) 9150 (fun j => bI (flB (rcP aob ac ap) re (150 * (60 + 1)) j)))]
          refine j_if_eq C dX8_reachableCells_69 (tgt := 76) (by decide) (fun q69 => ?_) (fun q69 => ?_)
          · skip
            have q69 := (kb_eq).mp q69
            refine j_iconst C dX8_reachableCells_76 (v := (nI 0)) kc_i_0 ?_
            refine j_iadd C dX8_reachableCells_77 (v := (nI (n + 0))) (nI_add _ _) ?_
            refine j_istore_n C dX8_reachableCells_78 rfl (by decide) (lv' := [(2, .int (nI (n + 0))), (0, .ref h8), (1, .int (nI k)), (3, .int (nI c))]) rfl ?_
            refine j_iinc C dX8_reachableCells_79 (q := 3) (v := (nI (c + 1))) rfl (kc_inc c) (by decide) (lv' := [(3, .int (nI (c + 1))), (2, .int (nI (n + 0))), (0, .ref h8), (1, .int (nI k))]) rfl ?_
            refine j_goto C dX8_reachableCells_82 (tgt := 49) (by decide) ?_
            refine j_lv [2, 3, 1, 0] rfl ?_
            refine ih49 _ _ (by omega) ?_ ?_
            · omega
            · rw [hn, fb_ct, q69]; rfl
          · skip
            have q69 := (kb_neq).mp q69
            refine j_iconst C dX8_reachableCells_72 (v := (nI 1)) kc_i_1 ?_
            refine j_goto C dX8_reachableCells_73 (tgt := 77) (by decide) ?_
            refine j_iadd C dX8_reachableCells_77 (v := (nI (n + 1))) (nI_add _ _) ?_
            refine j_istore_n C dX8_reachableCells_78 rfl (by decide) (lv' := [(2, .int (nI (n + 1))), (0, .ref h8), (1, .int (nI k)), (3, .int (nI c))]) rfl ?_
            refine j_iinc C dX8_reachableCells_79 (q := 3) (v := (nI (c + 1))) rfl (kc_inc c) (by decide) (lv' := [(3, .int (nI (c + 1))), (2, .int (nI (n + 1))), (0, .ref h8), (1, .int (nI k))]) rfl ?_
            refine j_goto C dX8_reachableCells_82 (tgt := 49) (by decide) ?_
            refine j_lv [2, 3, 1, 0] rfl ?_
            refine ih49 _ _ (by omega) ?_ ?_
            · omega
            · rw [hn, fb_ct, q69]; rfl
    · skip
      refine j_iconst C dX8_reachableCells_28 (v := (nI 2)) kc_i_2 ?_
      refine j_goto C dX8_reachableCells_29 (tgt := 33) (by decide) ?_
      refine j_callVM C rw_ (nA := 1) (As := [.int (nI 2)]) (wr := [(rv, cI (xT X) 450 cvec), (rn, cI (xT X) 600 (fun j => nI (near4 j))), (rnw, cI (xT X) 37 (rowF ac ap ash an aob arq)), (rdk, cZ (xT X) 15300 (fun j => bI (dk j))), (rre, cZ (xT X) 9150 (fun j => bI (re j)))]) (c_X8_refused_s (xl X) (xT X) h8 rv rn rnw rt rd rk rik rdk rre rle rhe rth rpa ror na nx rf bv bo 2 (by omega) (by omega)) gX8_reachableCells_X8_refused rfl (by decide +kernel) rfl (by decide) (by decide) [0] [1, 2, 3, 4, 5] rfl rfl rfl rfl (by decide) 0 rfl rfl (rest := []) rfl (Nat.le_of_ble_eq_true rfl) dX8_reachableCells_33 ?_
      rintro _ _ ⟨rfl, rfl⟩
      show jj X 0 0 36 [(0, .ref h8), (1, .int (nI k))] [.int (bI true)] [(rv, cI (xT X) 450 cvec), (rn, cI (xT X) 600 (fun j => nI (near4 j))), (rnw, cI (xT X) 37 (rowF ac ap ash an aob arq)), (rdk, cZ (xT X) 15300 (fun j => bI (dk j))), (rre, cZ (xT X) 9150 (fun j => bI (re j))), (h8, cO 8 [.int (nI 2), .ref rv, .ref rn, .ref rnw, .ref rt, .ref rd, .int (nI na), .int (nI nx), .ref rk, .ref rik, .ref rdk, .ref rre, .ref rle, .ref rhe, .ref rth, .ref rpa, .ref ror, .int bv, .int bo])]
      refine j_if_eq C dX8_reachableCells_36 (tgt := 41) (by decide) (fun h9 => absurd h9 (by decide +kernel)) (fun _ => ?_)
      refine j_iconst C dX8_reachableCells_39 (v := (nI 0)) kc_i_0 ?_
      refine j_perm C (w' := [(h8, cO 8 [.int (nI 2), .ref rv, .ref rn, .ref rnw, .ref rt, .ref rd, .int (nI na), .int (nI nx), .ref rk, .ref rik, .ref rdk, .ref rre, .ref rle, .ref rhe, .ref rth, .ref rpa, .ref ror, .int bv, .int bo]), (rv, cI (xT X) 450 cvec), (rn, cI (xT X) 600 (fun j => nI (near4 j))), (rnw, cI (xT X) 37 (rowF ac ap ash an aob arq)), (rdk, cZ (xT X) 15300 (fun j => bI (dk j))), (rre, cZ (xT X) 9150 (fun j => bI (re j)))]) [5, 0, 1, 2, 3, 4] rfl rfl ?_
      refine j_iretM C rw_ hQ (by decide) (by decide) rfl ?_ dX8_reachableCells_40
      exact ⟨2, _, rfl, Or.inl ⟨rfl, Or.inr (⟨rfl, q10, bI_eq1 q25⟩)⟩⟩
  · skip
    have q10 := (kb_nne).mp q10
    refine j_iconst C dX8_reachableCells_13 (v := (nI 1)) kc_i_1 ?_
    refine j_goto C dX8_reachableCells_14 (tgt := 33) (by decide) ?_
    refine j_callVM C rw_ (nA := 1) (As := [.int (nI 1)]) (wr := [(rv, cI (xT X) 450 cvec), (rn, cI (xT X) 600 (fun j => nI (near4 j))), (rnw, cI (xT X) 37 (rowF ac ap ash an aob arq)), (rdk, cZ (xT X) 15300 (fun j => bI (dk j))), (rre, cZ (xT X) 9150 (fun j => bI (re j)))]) (c_X8_refused_s (xl X) (xT X) h8 rv rn rnw rt rd rk rik rdk rre rle rhe rth rpa ror na nx rf bv bo 1 (by omega) (by omega)) gX8_reachableCells_X8_refused rfl (by decide +kernel) rfl (by decide) (by decide) [0] [1, 2, 3, 4, 5] rfl rfl rfl rfl (by decide) 0 rfl rfl (rest := []) rfl (Nat.le_of_ble_eq_true rfl) dX8_reachableCells_33 ?_
    rintro _ _ ⟨rfl, rfl⟩
    show jj X 0 0 36 [(0, .ref h8), (1, .int x)] [.int (bI true)] [(rv, cI (xT X) 450 cvec), (rn, cI (xT X) 600 (fun j => nI (near4 j))), (rnw, cI (xT X) 37 (rowF ac ap ash an aob arq)), (rdk, cZ (xT X) 15300 (fun j => bI (dk j))), (rre, cZ (xT X) 9150 (fun j => bI (re j))), (h8, cO 8 [.int (nI 1), .ref rv, .ref rn, .ref rnw, .ref rt, .ref rd, .int (nI na), .int (nI nx), .ref rk, .ref rik, .ref rdk, .ref rre, .ref rle, .ref rhe, .ref rth, .ref rpa, .ref ror, .int bv, .int bo])]
    refine j_if_eq C dX8_reachableCells_36 (tgt := 41) (by decide) (fun h9 => absurd h9 (by decide +kernel)) (fun _ => ?_)
    refine j_iconst C dX8_reachableCells_39 (v := (nI 0)) kc_i_0 ?_
    refine j_perm C (w' := [(h8, cO 8 [.int (nI 1), .ref rv, .ref rn, .ref rnw, .ref rt, .ref rd, .int (nI na), .int (nI nx), .ref rk, .ref rik, .ref rdk, .ref rre, .ref rle, .ref rhe, .ref rth, .ref rpa, .ref ror, .int bv, .int bo]), (rv, cI (xT X) 450 cvec), (rn, cI (xT X) 600 (fun j => nI (near4 j))), (rnw, cI (xT X) 37 (rowF ac ap ash an aob arq)), (rdk, cZ (xT X) 15300 (fun j => bI (dk j))), (rre, cZ (xT X) 9150 (fun j => bI (re j)))]) [5, 0, 1, 2, 3, 4] rfl rfl ?_
    refine j_iretM C rw_ hQ (by decide) (by decide) rfl ?_ dX8_reachableCells_40
    exact ⟨1, _, rfl, Or.inl ⟨rfl, Or.inl ⟨rfl, q10⟩⟩⟩

set_option maxHeartbeats 4000000 in
set_option maxRecDepth 100000 in
/-- staysDark(cell, from, until) -/
theorem c_X8_staysDark (l : Launch) (T : jj_T) (h8 rv rn rnw rt rd rk rik rdk rre rle rhe rth rpa ror na nx : Nat) (rf bv bo : Int32) (ac c fr un : Nat) (aob : Nat → Int32) (dk : Nat → Bool) (hc : c < 150) (hun : un ≤ 101) (hfr : fr ≤ un) (hdk : ∀ t, t ≤ un → ∀ c, c < 150 → dk (150 * t + c) = !br aob c (ac + t)) : jR l T yX8_staysDark wsX8_staysDark { frames := 0, cells := 0, slots := 0, locals := 0 } [.ref h8, .int (nI c), .int (nI fr), .int (nI un)] [(h8, cO 8 [.int rf, .ref rv, .ref rn, .ref rnw, .ref rt, .ref rd, .int (nI na), .int (nI nx), .ref rk, .ref rik, .ref rdk, .ref rre, .ref rle, .ref rhe, .ref rth, .ref rpa, .ref ror, .int bv, .int bo]), (rdk, cZ T 15300 (fun j => bI (dk j)))] (fun v => v = some (.int (bI (sd aob c (ac + fr) (ac + un))))) := by
  refine jR.of (cc := cX8_staysDark) (maxL := 6) (ret := (some .boolean)) (by decide) rfl (Nat.le_of_ble_eq_true rfl) ?_
  intro X C ro hl hT hQ
  subst hl; subst hT
  have hin8 : ∀ w ∈ u_ws RX8 TX8 19, w ∈ wsX8_staysDark := by decide +kernel
  have hl32 : Cond.fieldLink RX8 32 (TX8 10).1 (TX8 10).2.1 (TX8 10).2.2.1 ∈ wsX8_staysDark := by decide +kernel
  show jj X 0 0 0 [(0, .ref h8), (1, .int (nI c)), (2, .int (nI fr)), (3, .int (nI un))] [] [(h8, cO 8 [.int rf, .ref rv, .ref rn, .ref rnw, .ref rt, .ref rd, .int (nI na), .int (nI nx), .ref rk, .ref rik, .ref rdk, .ref rre, .ref rle, .ref rhe, .ref rth, .ref rpa, .ref ror, .int bv, .int bo]), (rdk, cZ (xT X) 15300 (fun j => bI (dk j)))]
  refine j_iconst C dX8_staysDark_0 (v := (nI 1)) kc_i_1 ?_
  show jj X 0 0 1 [(0, .ref h8), (1, .int (nI c)), (2, .int (nI fr)), (3, .int (nI un))] [.int (bI true)] [(h8, cO 8 [.int rf, .ref rv, .ref rn, .ref rnw, .ref rt, .ref rd, .int (nI na), .int (nI nx), .ref rk, .ref rik, .ref rdk, .ref rre, .ref rle, .ref rhe, .ref rth, .ref rpa, .ref ror, .int bv, .int bo]), (rdk, cZ (xT X) 15300 (fun j => bI (dk j)))]
  refine j_istore C dX8_staysDark_1 (by decide) (lv' := [(4, .int (bI true)), (0, .ref h8), (1, .int (nI c)), (2, .int (nI fr)), (3, .int (nI un))]) rfl ?_
  refine j_iload_n C dX8_staysDark_3 3 rfl rfl ?_
  refine j_istore C dX8_staysDark_4 (by decide) (lv' := [(5, .int (nI fr)), (4, .int (bI true)), (0, .ref h8), (1, .int (nI c)), (2, .int (nI fr)), (3, .int (nI un))]) rfl ?_
  refine j_lv [2, 3, 4, 5, 1, 0] rfl ?_
  suffices hc6 : ∀ (mm : Nat) (t : Nat) (is : Bool), un + 1 - t < mm → (fr ≤ t) → (t ≤ un + 1) → (is = true ↔ ∀ d, fr ≤ d → d < t → br aob c (ac + d) = false) → jj X 0 0 6 [(0, .ref h8), (1, .int (nI c)), (2, .int (nI fr)), (3, .int (nI un)), (4, .int (bI is)), (5, .int (nI t))] [] [(h8, cO 8 [.int rf, .ref rv, .ref rn, .ref rnw, .ref rt, .ref rd, .int (nI na), .int (nI nx), .ref rk, .ref rik, .ref rdk, .ref rre, .ref rle, .ref rhe, .ref rth, .ref rpa, .ref ror, .int bv, .int bo]), (rdk, cZ (xT X) 15300 (fun j => bI (dk j)))] by
    refine hc6 _ _ _ (Nat.lt_succ_self _) ?_ ?_ ?_
    · omega
    · omega
    · exact ⟨fun _ d h1 h2 => by omega, fun _ => rfl⟩
  intro mm
  induction mm with
  | zero => intro t is hm; exact absurd hm (Nat.not_lt_zero _)
  | succ mm ih6 =>
    intro t is hm6 ht1 ht2 hb
    refine j_iload C dX8_staysDark_6 5 rfl ?_
    refine j_iload_n C dX8_staysDark_8 3 rfl rfl ?_
    refine j_icmp_gt C dX8_staysDark_9 (tgt := 38) (by decide) (fun q9 => ?_) (fun q9 => ?_)
    · skip
      have q9 := (kn_gt (a := t) (b := un) (by omega) (by omega)).mp q9
      refine j_iload C dX8_staysDark_38 4 rfl ?_
      refine j_iretR C ro hQ (bI_nar _) ?_ dX8_staysDark_40
      exact kb_e (Bool.eq_iff_iff.mpr (hb.trans (Iff.trans ⟨fun h d h1 h2 => h d h1 (by omega), fun h d h1 h2 => h d h1 (by omega)⟩ sd_rel.symm)))
    · skip
      have q9 := (kn_ngt (a := t) (b := un) (by omega) (by omega)).mp q9
      refine j_iload C dX8_staysDark_12 4 rfl ?_
      refine j_if_eq C dX8_staysDark_14 (tgt := 38) (by decide) (fun q14 => ?_) (fun q14 => ?_)
      · skip
        have q14 := (kb_eq).mp q14
        refine j_iload C dX8_staysDark_38 4 rfl ?_
        refine j_iretR C ro hQ (bI_nar _) ?_ dX8_staysDark_40
        exact kb_e ((Bool.eq_false_iff.mpr (fun h => by
          have h4 : ∀ d, fr ≤ d → d ≤ un → br aob c (ac + d) = false := sd_rel.mp h
          have h3 := hb.mpr (fun d h1 h2 => h4 d h1 (by omega))
          rw [q14] at h3; cases h3)).symm ▸ q14)
      · skip
        have q14 := (kb_neq).mp q14
        refine j_aload_n C dX8_staysDark_17 0 rfl rfl ?_
        refine j_get C (hin8) (ci := 8) rfl 10 (by decide) (hl32) 0 rfl (v := .ref rdk) rfl dX8_staysDark_18 ?_
        refine j_sipush C dX8_staysDark_21 (v := (nI 150)) kc_s_150 ?_
        refine j_iload C dX8_staysDark_24 5 rfl ?_
        refine j_imul C dX8_staysDark_26 (v := (nI (150 * t))) (pk_mul _ _) ?_
        refine j_iload_n C dX8_staysDark_27 1 rfl rfl ?_
        refine j_iadd C dX8_staysDark_28 (v := (nI (150 * t + c))) (nI_add _ _) ?_
        refine j_zaloadN C (150 * t + c) rfl 1 rfl (by omega) (by decide) dX8_staysDark_29 ?_
        rw [show (dk (150 * t + c)) = (!br aob c (ac + t)) from by exact hdk t (by omega) c hc]
        show jj X 0 0 30 [(0, .ref h8), (1, .int (nI c)), (2, .int (nI fr)), (3, .int (nI un)), (4, .int (bI is)), (5, .int (nI t))] [.int (bI (!br aob c (ac + t)))] [(h8, cO 8 [.int rf, .ref rv, .ref rn, .ref rnw, .ref rt, .ref rd, .int (nI na), .int (nI nx), .ref rk, .ref rik, .ref rdk, .ref rre, .ref rle, .ref rhe, .ref rth, .ref rpa, .ref ror, .int bv, .int bo]), (rdk, cZ (xT X) 15300 (fun j => bI (dk j)))]
        refine j_istore C dX8_staysDark_30 (by decide) (lv' := [(4, .int (bI (!br aob c (ac + t)))), (0, .ref h8), (1, .int (nI c)), (2, .int (nI fr)), (3, .int (nI un)), (5, .int (nI t))]) rfl ?_
        refine j_iinc C dX8_staysDark_32 (q := 5) (v := (nI (t + 1))) rfl (kc_inc t) (by decide) (lv' := [(5, .int (nI (t + 1))), (4, .int (bI (!br aob c (ac + t)))), (0, .ref h8), (1, .int (nI c)), (2, .int (nI fr)), (3, .int (nI un))]) rfl ?_
        refine j_goto C dX8_staysDark_35 (tgt := 6) (by decide) ?_
        refine j_lv [2, 3, 4, 5, 1, 0] rfl ?_
        refine ih6 _ _ (by omega) ?_ ?_ ?_
        · omega
        · omega
        · have hh := hb.mp q14
          constructor
          · intro h d h1 h2
            by_cases e : d = t
            · rw [e]; simpa using h
            · exact hh d h1 (by omega)
          · intro h; rw [h t (by omega) (by omega)]; rfl

set_option maxHeartbeats 4000000 in
set_option maxRecDepth 100000 in
/-- parking(k) -/
theorem c_X8_parking (l : Launch) (T : jj_T) (h8 rv rn rnw rt rd rk rik rdk rre rle rhe rth rpa ror na nx : Nat) (rf bv bo : Int32) (ac ap an : Nat) (ash : Bool) (aob arq : Nat → Int32) (dk re : Nat → Bool) (k : Nat) (hap : ap < 150) (hac : ac ≤ 200) (hco : coI aob) (hk : k ≤ 40) : jM l T yX8_parking wsX8_parking { frames := 4, cells := 0, slots := 0, locals := 101 } [.ref h8, .int (nI k)] [(h8, cO 8 [.int rf, .ref rv, .ref rn, .ref rnw, .ref rt, .ref rd, .int (nI na), .int (nI nx), .ref rk, .ref rik, .ref rdk, .ref rre, .ref rle, .ref rhe, .ref rth, .ref rpa, .ref ror, .int bv, .int bo]), (rv, cI T 450 cvec), (rn, cI T 600 (fun j => nI (near4 j))), (rnw, cI T 37 (rowF ac ap ash an aob arq)), (rdk, cZ T 15300 (fun j => bI (dk j))), (rre, cZ T 9150 (fun j => bI (re j)))] (fun v w1 => ∃ r : Int32, v = some (.int r) ∧ w1 = [(h8, cO 8 [.int rf, .ref rv, .ref rn, .ref rnw, .ref rt, .ref rd, .int (nI na), .int (nI nx), .ref rk, .ref rik, .ref rdk, .ref rre, .ref rle, .ref rhe, .ref rth, .ref rpa, .ref ror, .int bv, .int bo]), (rv, cI T 450 cvec), (rn, cI T 600 (fun j => nI (near4 j))), (rnw, cI T 37 (rowF ac ap ash an aob arq)), (rdk, cZ T 15300 (fun j => bI (flB (dkP aob ac) dk (150 * ((60 + k) + 1)) j))), (rre, cZ T 9150 (fun j => bI (flB (rcP aob ac ap) re (150 * (60 + 1)) j)))] ∧ (pa_is (pk1 aob ac ap k) r)) := by
  refine jM.of (cc := cX8_parking) (maxL := 4) (ret := (some .int)) (by decide) rfl (Nat.le_of_ble_eq_true rfl) ?_
  intro X C rw_ hl hT hQ hnm
  subst hl; subst hT
  have hin8 : ∀ w ∈ u_ws RX8 TX8 19, w ∈ wsX8_parking := by decide +kernel
  have hl35 : Cond.fieldLink RX8 35 (TX8 11).1 (TX8 11).2.1 (TX8 11).2.2.1 ∈ wsX8_parking := by decide +kernel
  show jj X 0 0 0 [(0, .ref h8), (1, .int (nI k))] [] [(h8, cO 8 [.int rf, .ref rv, .ref rn, .ref rnw, .ref rt, .ref rd, .int (nI na), .int (nI nx), .ref rk, .ref rik, .ref rdk, .ref rre, .ref rle, .ref rhe, .ref rth, .ref rpa, .ref ror, .int bv, .int bo]), (rv, cI (xT X) 450 cvec), (rn, cI (xT X) 600 (fun j => nI (near4 j))), (rnw, cI (xT X) 37 (rowF ac ap ash an aob arq)), (rdk, cZ (xT X) 15300 (fun j => bI (dk j))), (rre, cZ (xT X) 9150 (fun j => bI (re j)))]
  refine j_aload_n C dX8_parking_0 0 rfl rfl ?_
  refine j_bipush C dX8_parking_1 (v := (nI 60)) kc_b_60 ?_
  refine j_iload_n C dX8_parking_3 1 rfl rfl ?_
  refine j_iadd C dX8_parking_4 (v := (nI (60 + k))) (nI_add _ _) ?_
  refine j_callVM C rw_ (nA := 1) (As := [.int (nI (60 + k))]) (wr := [(rn, cI (xT X) 600 (fun j => nI (near4 j))), (rre, cZ (xT X) 9150 (fun j => bI (re j)))]) (c_X8_layDark (xl X) (xT X) h8 rv rn rnw rt rd rk rik rdk rre rle rhe rth rpa ror na nx rf bv bo ac ap an ash aob arq (60 + k) dk (by omega) (by omega) (by exact hco)) gX8_parking_X8_layDark rfl (by decide +kernel) rfl (by decide) (by decide) [0, 1, 3, 4] [2, 5] rfl rfl rfl rfl (by decide) 0 rfl rfl (rest := []) rfl (Nat.le_of_ble_eq_true rfl) dX8_parking_5 ?_
  rintro _ _ ⟨rfl, rfl⟩
  show jj X 0 0 8 [(0, .ref h8), (1, .int (nI k))] [] [(rn, cI (xT X) 600 (fun j => nI (near4 j))), (rre, cZ (xT X) 9150 (fun j => bI (re j))), (h8, cO 8 [.int rf, .ref rv, .ref rn, .ref rnw, .ref rt, .ref rd, .int (nI na), .int (nI nx), .ref rk, .ref rik, .ref rdk, .ref rre, .ref rle, .ref rhe, .ref rth, .ref rpa, .ref ror, .int bv, .int bo]), (rv, cI (xT X) 450 cvec), (rnw, cI (xT X) 37 (rowF ac ap ash an aob arq)), (rdk, cZ (xT X) 15300 (fun j => bI (flB (dkP aob ac) dk (150 * ((60 + k) + 1)) j)))]
  refine j_aload_n C dX8_parking_8 0 rfl rfl ?_
  refine j_bipush C dX8_parking_9 (v := (nI 60)) kc_b_60 ?_
  refine j_callVM C rw_ (nA := 1) (As := [.int (nI 60)]) (wr := [(rv, cI (xT X) 450 cvec)]) (c_X8_layReached (xl X) (xT X) h8 rv rn rnw rt rd rk rik rdk rre rle rhe rth rpa ror na nx rf bv bo ac ap an ash aob arq 60 (flB (dkP aob ac) dk (150 * ((60 + k) + 1))) re (by omega) (by exact hap) (by intro t ht c hc; rw [flB_v (by omega), dkP_v hc])) gX8_parking_X8_layReached rfl (by decide +kernel) rfl (by decide) (by decide) [2, 0, 4, 5, 1] [3] rfl rfl rfl rfl (by decide) 2 rfl rfl (rest := []) rfl (Nat.le_of_ble_eq_true rfl) dX8_parking_11 ?_
  rintro _ _ ⟨rfl, rfl⟩
  show jj X 0 0 14 [(0, .ref h8), (1, .int (nI k))] [] [(rv, cI (xT X) 450 cvec), (h8, cO 8 [.int rf, .ref rv, .ref rn, .ref rnw, .ref rt, .ref rd, .int (nI na), .int (nI nx), .ref rk, .ref rik, .ref rdk, .ref rre, .ref rle, .ref rhe, .ref rth, .ref rpa, .ref ror, .int bv, .int bo]), (rn, cI (xT X) 600 (fun j => nI (near4 j))), (rnw, cI (xT X) 37 (rowF ac ap ash an aob arq)), (rdk, cZ (xT X) 15300 (fun j => bI ((flB (dkP aob ac) dk (150 * ((60 + k) + 1))) j))), (rre, cZ (xT X) 9150 (fun j => bI (flB (rcP aob ac ap) re (150 * (60 + 1)) j)))]
  refine j_iconst C dX8_parking_14 (v := (nI 0)) kc_i_0 ?_
  refine j_istore_n C dX8_parking_15 rfl (by decide) (lv' := [(2, .int (nI 0)), (0, .ref h8), (1, .int (nI k))]) rfl ?_
  refine j_lv [1, 2, 0] rfl ?_
  suffices hc16 : ∀ (mm : Nat) (s : Nat), 61 - s < mm → (s ≤ 61) → (∀ s', s' < s → ∀ d, d < 150 → pk1 aob ac ap k s' d = false) → jj X 0 0 16 [(0, .ref h8), (1, .int (nI k)), (2, .int (nI s))] [] [(rv, cI (xT X) 450 cvec), (h8, cO 8 [.int rf, .ref rv, .ref rn, .ref rnw, .ref rt, .ref rd, .int (nI na), .int (nI nx), .ref rk, .ref rik, .ref rdk, .ref rre, .ref rle, .ref rhe, .ref rth, .ref rpa, .ref ror, .int bv, .int bo]), (rn, cI (xT X) 600 (fun j => nI (near4 j))), (rnw, cI (xT X) 37 (rowF ac ap ash an aob arq)), (rdk, cZ (xT X) 15300 (fun j => bI ((flB (dkP aob ac) dk (150 * ((60 + k) + 1))) j))), (rre, cZ (xT X) 9150 (fun j => bI (flB (rcP aob ac ap) re (150 * (60 + 1)) j)))] by
    refine hc16 _ _ (Nat.lt_succ_self _) ?_ ?_
    · omega
    · intro d hd; omega
  intro mm
  induction mm with
  | zero => intro s hm; exact absurd hm (Nat.not_lt_zero _)
  | succ mm ih16 =>
    intro s hm16 hs hf
    refine j_iload_n C dX8_parking_16 2 rfl rfl ?_
    refine j_bipush C dX8_parking_17 (v := (nI 60)) kc_b_60 ?_
    refine j_icmp_gt C dX8_parking_19 (tgt := 78) (by decide) (fun q19 => ?_) (fun q19 => ?_)
    · skip
      have q19 := (kn_gt (a := s) (b := 60) (by omega) (by omega)).mp q19
      refine j_bipush C dX8_parking_78 (v := (-9)) kc_b_m9 ?_
      refine j_perm C (w' := [(h8, cO 8 [.int rf, .ref rv, .ref rn, .ref rnw, .ref rt, .ref rd, .int (nI na), .int (nI nx), .ref rk, .ref rik, .ref rdk, .ref rre, .ref rle, .ref rhe, .ref rth, .ref rpa, .ref ror, .int bv, .int bo]), (rv, cI (xT X) 450 cvec), (rn, cI (xT X) 600 (fun j => nI (near4 j))), (rnw, cI (xT X) 37 (rowF ac ap ash an aob arq)), (rdk, cZ (xT X) 15300 (fun j => bI ((flB (dkP aob ac) dk (150 * ((60 + k) + 1))) j))), (rre, cZ (xT X) 9150 (fun j => bI (flB (rcP aob ac ap) re (150 * (60 + 1)) j)))]) [1, 0, 2, 3, 4, 5] rfl rfl ?_
      refine j_iretM C rw_ hQ (by decide) (by decide) rfl ?_ dX8_parking_80
      exact ⟨_, rfl, rfl, Or.inr ⟨rfl, fun s h1 c h2 => hf s (by omega) c h2⟩⟩
    · skip
      have q19 := (kn_ngt (a := s) (b := 60) (by omega) (by omega)).mp q19
      refine j_iconst C dX8_parking_22 (v := (nI 0)) kc_i_0 ?_
      refine j_istore_n C dX8_parking_23 rfl (by decide) (lv' := [(3, .int (nI 0)), (0, .ref h8), (1, .int (nI k)), (2, .int (nI s))]) rfl ?_
      refine j_lv [1, 2, 3, 0] rfl ?_
      suffices hc24 : ∀ (mm : Nat) (c : Nat), 150 - c < mm → (c ≤ 150) → (∀ d, d < c → pk1 aob ac ap k s d = false) → jj X 0 0 24 [(0, .ref h8), (1, .int (nI k)), (2, .int (nI s)), (3, .int (nI c))] [] [(rv, cI (xT X) 450 cvec), (h8, cO 8 [.int rf, .ref rv, .ref rn, .ref rnw, .ref rt, .ref rd, .int (nI na), .int (nI nx), .ref rk, .ref rik, .ref rdk, .ref rre, .ref rle, .ref rhe, .ref rth, .ref rpa, .ref ror, .int bv, .int bo]), (rn, cI (xT X) 600 (fun j => nI (near4 j))), (rnw, cI (xT X) 37 (rowF ac ap ash an aob arq)), (rdk, cZ (xT X) 15300 (fun j => bI ((flB (dkP aob ac) dk (150 * ((60 + k) + 1))) j))), (rre, cZ (xT X) 9150 (fun j => bI (flB (rcP aob ac ap) re (150 * (60 + 1)) j)))] by
        refine hc24 _ _ (Nat.lt_succ_self _) ?_ ?_
        · omega
        · intro d hd; omega
      intro mm
      induction mm with
      | zero => intro c hm; exact absurd hm (Nat.not_lt_zero _)
      | succ mm ih24 =>
        intro c hm24 hc hg
        refine j_iload_n C dX8_parking_24 3 rfl rfl ?_
        refine j_sipush C dX8_parking_25 (v := (nI 150)) kc_s_150 ?_
        refine j_icmp_ge C dX8_parking_28 (tgt := 72) (by decide) (fun q28 => ?_) (fun q28 => ?_)
        · skip
          have q28 := (kn_ge (a := c) (b := 150) (by omega) (by omega)).mp q28
          refine j_iinc C dX8_parking_72 (q := 2) (v := (nI (s + 1))) rfl (kc_inc s) (by decide) (lv' := [(2, .int (nI (s + 1))), (0, .ref h8), (1, .int (nI k)), (3, .int (nI c))]) rfl ?_
          refine j_goto C dX8_parking_75 (tgt := 16) (by decide) ?_
          refine j_lv [1, 2, 0] rfl ?_
          refine ih16 _ (by omega) ?_ ?_
          · omega
          · intro s' h1 d h2
            by_cases h : s' = s
            · rw [h]; exact hg d (by omega)
            · exact hf s' (by omega) d h2
        · skip
          have q28 := (kn_nge (a := c) (b := 150) (by omega) (by omega)).mp q28
          refine j_aload_n C dX8_parking_31 0 rfl rfl ?_
          refine j_get C (hin8) (ci := 8) rfl 11 (by decide) (hl35) 1 rfl (v := .ref rre) rfl dX8_parking_32 ?_
          refine j_sipush C dX8_parking_35 (v := (nI 150)) kc_s_150 ?_
          refine j_iload_n C dX8_parking_38 2 rfl rfl ?_
          refine j_imul C dX8_parking_39 (v := (nI (150 * s))) (pk_mul _ _) ?_
          refine j_iload_n C dX8_parking_40 3 rfl rfl ?_
          refine j_iadd C dX8_parking_41 (v := (nI (150 * s + c))) (nI_add _ _) ?_
          refine j_zaloadN C (150 * s + c) rfl 5 rfl (by omega) (by decide) dX8_parking_42 ?_
          rw [show ((flB (rcP aob ac ap) re (150 * (60 + 1))) (150 * s + c)) = rc aob ac ap s c from by rw [flB_v (by omega), rcP_v (by omega)]]
          show jj X 0 0 43 [(0, .ref h8), (1, .int (nI k)), (2, .int (nI s)), (3, .int (nI c))] [.int (bI (rc aob ac ap s c))] [(rv, cI (xT X) 450 cvec), (h8, cO 8 [.int rf, .ref rv, .ref rn, .ref rnw, .ref rt, .ref rd, .int (nI na), .int (nI nx), .ref rk, .ref rik, .ref rdk, .ref rre, .ref rle, .ref rhe, .ref rth, .ref rpa, .ref ror, .int bv, .int bo]), (rn, cI (xT X) 600 (fun j => nI (near4 j))), (rnw, cI (xT X) 37 (rowF ac ap ash an aob arq)), (rdk, cZ (xT X) 15300 (fun j => bI ((flB (dkP aob ac) dk (150 * ((60 + k) + 1))) j))), (rre, cZ (xT X) 9150 (fun j => bI (flB (rcP aob ac ap) re (150 * (60 + 1)) j)))]
          refine j_if_eq C dX8_parking_43 (tgt := 66) (by decide) (fun q43 => ?_) (fun q43 => ?_)
          · skip
            have q43 := (kb_eq).mp q43
            refine j_iinc C dX8_parking_66 (q := 3) (v := (nI (c + 1))) rfl (kc_inc c) (by decide) (lv' := [(3, .int (nI (c + 1))), (0, .ref h8), (1, .int (nI k)), (2, .int (nI s))]) rfl ?_
            refine j_goto C dX8_parking_69 (tgt := 24) (by decide) ?_
            refine j_lv [1, 2, 3, 0] rfl ?_
            refine ih24 _ (by omega) ?_ ?_
            · omega
            · intro d hd
              by_cases h : d = c
              · rw [h]; unfold pk1; rw [q43]; rfl
              · exact hg d (by omega)
          · skip
            have q43 := (kb_neq).mp q43
            refine j_aload_n C dX8_parking_46 0 rfl rfl ?_
            refine j_iload_n C dX8_parking_47 3 rfl rfl ?_
            refine j_iload_n C dX8_parking_48 2 rfl rfl ?_
            refine j_iload_n C dX8_parking_49 2 rfl rfl ?_
            refine j_iload_n C dX8_parking_50 1 rfl rfl ?_
            refine j_iadd C dX8_parking_51 (v := (nI (s + k))) (nI_add _ _) ?_
            refine j_callVR C (nA := 3) (As := [.int (nI c), .int (nI s), .int (nI (s + k))]) (c_X8_staysDark (xl X) (xT X) h8 rv rn rnw rt rd rk rik rdk rre rle rhe rth rpa ror na nx rf bv bo ac c s (s + k) aob (flB (dkP aob ac) dk (150 * ((60 + k) + 1))) (by omega) (by omega) (by omega) (by intro t ht c hc; rw [flB_v (by omega), dkP_v hc])) gX8_parking_X8_staysDark rfl (by decide +kernel) rfl ⟨rfl, rfl⟩ (by decide) (by decide) [1, 4] rfl rfl 1 rfl rfl (rest := []) rfl (Nat.le_of_ble_eq_true rfl) dX8_parking_52 ?_
            rintro _ rfl
            show jj X 0 0 55 [(0, .ref h8), (1, .int (nI k)), (2, .int (nI s)), (3, .int (nI c))] [.int (bI (sd aob c (ac + s) (ac + (s + k))))] [(rv, cI (xT X) 450 cvec), (h8, cO 8 [.int rf, .ref rv, .ref rn, .ref rnw, .ref rt, .ref rd, .int (nI na), .int (nI nx), .ref rk, .ref rik, .ref rdk, .ref rre, .ref rle, .ref rhe, .ref rth, .ref rpa, .ref ror, .int bv, .int bo]), (rn, cI (xT X) 600 (fun j => nI (near4 j))), (rnw, cI (xT X) 37 (rowF ac ap ash an aob arq)), (rdk, cZ (xT X) 15300 (fun j => bI ((flB (dkP aob ac) dk (150 * ((60 + k) + 1))) j))), (rre, cZ (xT X) 9150 (fun j => bI (flB (rcP aob ac ap) re (150 * (60 + 1)) j)))]
            refine j_if_eq C dX8_parking_55 (tgt := 66) (by decide) (fun q55 => ?_) (fun q55 => ?_)
            · skip
              have q55 := (kb_eq).mp q55
              refine j_iinc C dX8_parking_66 (q := 3) (v := (nI (c + 1))) rfl (kc_inc c) (by decide) (lv' := [(3, .int (nI (c + 1))), (0, .ref h8), (1, .int (nI k)), (2, .int (nI s))]) rfl ?_
              refine j_goto C dX8_parking_69 (tgt := 24) (by decide) ?_
              refine j_lv [1, 2, 3, 0] rfl ?_
              refine ih24 _ (by omega) ?_ ?_
              · omega
              · intro d hd
                by_cases h : d = c
                · rw [h]; unfold pk1; rw [Nat.add_assoc ac s k, q55, Bool.and_false]
                · exact hg d (by omega)
            · skip
              have q55 := (kb_neq).mp q55
              refine j_sipush C dX8_parking_58 (v := (nI 1000)) kc_s_1000 ?_
              refine j_iload_n C dX8_parking_61 2 rfl rfl ?_
              refine j_imul C dX8_parking_62 (v := (nI (1000 * s))) (pk_mul _ _) ?_
              refine j_iload_n C dX8_parking_63 3 rfl rfl ?_
              refine j_iadd C dX8_parking_64 (v := (nI (1000 * s + c))) (nI_add _ _) ?_
              refine j_perm C (w' := [(h8, cO 8 [.int rf, .ref rv, .ref rn, .ref rnw, .ref rt, .ref rd, .int (nI na), .int (nI nx), .ref rk, .ref rik, .ref rdk, .ref rre, .ref rle, .ref rhe, .ref rth, .ref rpa, .ref ror, .int bv, .int bo]), (rv, cI (xT X) 450 cvec), (rn, cI (xT X) 600 (fun j => nI (near4 j))), (rnw, cI (xT X) 37 (rowF ac ap ash an aob arq)), (rdk, cZ (xT X) 15300 (fun j => bI ((flB (dkP aob ac) dk (150 * ((60 + k) + 1))) j))), (rre, cZ (xT X) 9150 (fun j => bI (flB (rcP aob ac ap) re (150 * (60 + 1)) j)))]) [1, 0, 2, 3, 4, 5] rfl rfl ?_
              refine j_iretM C rw_ hQ (by decide) (by decide) rfl ?_ dX8_parking_65
              exact ⟨_, rfl, rfl, Or.inl ⟨s, c, by omega, by omega, rfl, by unfold pk1; rw [q43, Nat.add_assoc ac s k, q55]; rfl, hg, hf⟩⟩
