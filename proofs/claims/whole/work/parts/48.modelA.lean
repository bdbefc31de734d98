/-! THE MODEL: what is dark, what is reached -/
def flB (P Q : Nat → Bool) (m j : Nat) : Bool := if j < m then P j else Q j
theorem flB_0 (P Q : Nat → Bool) : flB P Q 0 = Q := funext fun j => if_neg (by omega)
theorem flB_s {P Q : Nat → Bool} {m : Nat} {x : Int32} (hx : x = bI (P m)) (j : Nat) : upd (fun j => bI (flB P Q m j)) m x j = bI (flB P Q (m + 1) j) := by
  unfold upd flB
  by_cases h : j = m
  · rw [if_pos h, if_pos (by omega), h, hx]
  · rw [if_neg h]
    show bI (if j < m then P j else Q j) = _
    by_cases h2 : j < m
    · rw [if_pos h2, if_pos (by omega)]
    · rw [if_neg h2, if_neg (by omega)]
theorem flB_v {P Q : Nat → Bool} {m j : Nat} (h : j < m) : flB P Q m j = P j := if_pos h
def dkP (ob : Nat → Int32) (ck j : Nat) : Bool := !br ob (j % 150) (ck + j / 150)
theorem dkP_v {ob : Nat → Int32} {ck t c : Nat} (hc : c < 150) : dkP ob ck (150 * t + c) = !br ob c (ck + t) := by
  unfold dkP; rw [show (150 * t + c) % 150 = c by omega, show (150 * t + c) / 150 = t by omega]
def rcP (ob : Nat → Int32) (t0 p j : Nat) : Bool := rc ob t0 p (j / 150) (j % 150)
theorem rcP_v {ob : Nat → Int32} {t0 p s c : Nat} (hc : c < 150) : rcP ob t0 p (150 * s + c) = rc ob t0 p s c := by
  unfold rcP; rw [show (150 * s + c) % 150 = c by omega, show (150 * s + c) / 150 = s by omega]
theorem rcP_0 {ob : Nat → Int32} {t0 p c : Nat} (hc : c < 150) : rcP ob t0 p c = decide (c = p) := by
  have := rcP_v (ob := ob) (t0 := t0) (p := p) (s := 0) hc
  rw [show 150 * 0 + c = c by omega] at this
  rw [this]; rfl
set_option maxHeartbeats 4000000 in
set_option maxRecDepth 100000 in
/-- layDark(units) -/
theorem c_X8_layDark (l : Launch) (T : jj_T) (h8 rv rn rnw rt rd rk rik rdk rre rle rhe rth rpa ror na nx : Nat) (rf bv bo : Int32) (ac ap an : Nat) (ash : Bool) (aob arq : Nat → Int32) (u : Nat) (dk : Nat → Bool) (hu : u ≤ 100) (hac : ac ≤ 200) (hco : coI aob) : jM l T yX8_layDark wsX8_layDark { frames := 3, cells := 0, slots := 0, locals := 78 } [.ref h8, .int (nI u)] [(h8, cO 8 [.int rf, .ref rv, .ref rn, .ref rnw, .ref rt, .ref rd, .int (nI na), .int (nI nx), .ref rk, .ref rik, .ref rdk, .ref rre, .ref rle, .ref rhe, .ref rth, .ref rpa, .ref ror, .int bv, .int bo]), (rv, cI T 450 cvec), (rnw, cI T 37 (rowF ac ap ash an aob arq)), (rdk, cZ T 15300 (fun j => bI (dk j)))] (fun v w1 => v = none ∧ w1 = [(h8, cO 8 [.int rf, .ref rv, .ref rn, .ref rnw, .ref rt, .ref rd, .int (nI na), .int (nI nx), .ref rk, .ref rik, .ref rdk, .ref rre, .ref rle, .ref rhe, .ref rth, .ref rpa, .ref ror, .int bv, .int bo]), (rv, cI T 450 cvec), (rnw, cI T 37 (rowF ac ap ash an aob arq)), (rdk, cZ T 15300 (fun j => bI (flB (dkP aob ac) dk (150 * (u + 1)) j)))]) := by
  refine jM.of (cc := cX8_layDark) (maxL := 4) (ret := none) (by decide) rfl (Nat.le_of_ble_eq_true rfl) ?_
  intro X C rw_ hl hT hQ hnm
  subst hl; subst hT
  have hin8 : ∀ w ∈ u_ws RX8 TX8 19, w ∈ wsX8_layDark := by decide +kernel
  have hl16 : Cond.fieldLink RX8 16 (TX8 3).1 (TX8 3).2.1 (TX8 3).2.2.1 ∈ wsX8_layDark := by decide +kernel
  have hl32 : Cond.fieldLink RX8 32 (TX8 10).1 (TX8 10).2.1 (TX8 10).2.2.1 ∈ wsX8_layDark := by decide +kernel
  show jj X 0 0 0 [(0, .ref h8), (1, .int (nI u))] [] [(h8, cO 8 [.int rf, .ref rv, .ref rn, .ref rnw, .ref rt, .ref rd, .int (nI na), .int (nI nx), .ref rk, .ref rik, .ref rdk, .ref rre, .ref rle, .ref rhe, .ref rth, .ref rpa, .ref ror, .int bv, .int bo]), (rv, cI (xT X) 450 cvec), (rnw, cI (xT X) 37 (rowF ac ap ash an aob arq)), (rdk, cZ (xT X) 15300 (fun j => bI (dk j)))]
  refine j_iconst C dX8_layDark_0 (v := (nI 0)) kc_i_0 ?_
  rw [show cZ (xT X) 15300 (fun j => bI (dk j)) = cZ (xT X) 15300 (fun j => bI (flB (dkP aob ac) dk (150 * 0) j)) from by rw [flB_0]]
  show jj X 0 0 1 [(0, .ref h8), (1, .int (nI u))] [.int (nI 0)] [(h8, cO 8 [.int rf, .ref rv, .ref rn, .ref rnw, .ref rt, .ref rd, .int (nI na), .int (nI nx), .ref rk, .ref rik, .ref rdk, .ref rre, .ref rle, .ref rhe, .ref rth, .ref rpa, .ref ror, .int bv, .int bo]), (rv, cI (xT X) 450 cvec), (rnw, cI (xT X) 37 (rowF ac ap ash an aob arq)), (rdk, cZ (xT X) 15300 (fun j => bI (flB (dkP aob ac) dk (150 * 0) j)))]
  refine j_istore_n C dX8_layDark_1 rfl (by decide) (lv' := [(2, .int (nI 0)), (0, .ref h8), (1, .int (nI u))]) rfl ?_
  refine j_lv [1, 2, 0] rfl ?_
  suffices hc2 : ∀ (mm : Nat) (t : Nat), u + 1 - t < mm → (t ≤ u + 1) → jj X 0 0 2 [(0, .ref h8), (1, .int (nI u)), (2, .int (nI t))] [] [(h8, cO 8 [.int rf, .ref rv, .ref rn, .ref rnw, .ref rt, .ref rd, .int (nI na), .int (nI nx), .ref rk, .ref rik, .ref rdk, .ref rre, .ref rle, .ref rhe, .ref rth, .ref rpa, .ref ror, .int bv, .int bo]), (rv, cI (xT X) 450 cvec), (rnw, cI (xT X) 37 (rowF ac ap ash an aob arq)), (rdk, cZ (xT X) 15300 (fun j => bI (flB (dkP aob ac) dk (150 * t) j)))] by
    refine hc2 _ _ (Nat.lt_succ_self _) ?_
    · omega
  intro mm
  induction mm with
  | zero => intro t hm; exact absurd hm (Nat.not_lt_zero _)
  | succ mm ih2 =>
    intro t hm2 ht
    refine j_iload_n C dX8_layDark_2 2 rfl rfl ?_
    refine j_iload_n C dX8_layDark_3 1 rfl rfl ?_
    refine j_icmp_gt C dX8_layDark_4 (tgt := 66) (by decide) (fun q4 => ?_) (fun q4 => ?_)
    · skip
      have q4 := (kn_gt (a := t) (b := u) (by omega) (by omega)).mp q4
      have e9 : flB (dkP aob ac) dk (150 * t) = flB (dkP aob ac) dk (150 * (u + 1)) := by rw [show t = u + 1 by omega]
      rw [e9]
      show jj X 0 0 66 [(0, .ref h8), (1, .int (nI u)), (2, .int (nI t))] [] [(h8, cO 8 [.int rf, .ref rv, .ref rn, .ref rnw, .ref rt, .ref rd, .int (nI na), .int (nI nx), .ref rk, .ref rik, .ref rdk, .ref rre, .ref rle, .ref rhe, .ref rth, .ref rpa, .ref ror, .int bv, .int bo]), (rv, cI (xT X) 450 cvec), (rnw, cI (xT X) 37 (rowF ac ap ash an aob arq)), (rdk, cZ (xT X) 15300 (fun j => bI (flB (dkP aob ac) dk (150 * (u + 1)) j)))]
      refine j_vretM C rw_ hQ (by decide) (by decide) ?_ dX8_layDark_66
      exact ⟨rfl, rfl⟩
    · skip
      have q4 := (kn_ngt (a := t) (b := u) (by omega) (by omega)).mp q4
      refine j_iconst C dX8_layDark_7 (v := (nI 0)) kc_i_0 ?_
      refine j_istore_n C dX8_layDark_8 rfl (by decide) (lv' := [(3, .int (nI 0)), (0, .ref h8), (1, .int (nI u)), (2, .int (nI t))]) rfl ?_
      refine j_lv [1, 2, 3, 0] rfl ?_
      suffices hc9 : ∀ (mm : Nat) (c : Nat), 150 - c < mm → (c ≤ 150) → jj X 0 0 9 [(0, .ref h8), (1, .int (nI u)), (2, .int (nI t)), (3, .int (nI c))] [] [(h8, cO 8 [.int rf, .ref rv, .ref rn, .ref rnw, .ref rt, .ref rd, .int (nI na), .int (nI nx), .ref rk, .ref rik, .ref rdk, .ref rre, .ref rle, .ref rhe, .ref rth, .ref rpa, .ref ror, .int bv, .int bo]), (rv, cI (xT X) 450 cvec), (rnw, cI (xT X) 37 (rowF ac ap ash an aob arq)), (rdk, cZ (xT X) 15300 (fun j => bI (flB (dkP aob ac) dk (150 * t + c) j)))] by
        refine hc9 _ _ (Nat.lt_succ_self _) ?_
        · omega
      intro mm
      induction mm with
      | zero => intro c hm; exact absurd hm (Nat.not_lt_zero _)
      | succ mm ih9 =>
        intro c hm9 hc
        refine j_iload_n C dX8_layDark_9 3 rfl rfl ?_
        refine j_sipush C dX8_layDark_10 (v := (nI 150)) kc_s_150 ?_
        refine j_icmp_ge C dX8_layDark_13 (tgt := 60) (by decide) (fun q13 => ?_) (fun q13 => ?_)
        · skip
          have q13 := (kn_ge (a := c) (b := 150) (by omega) (by omega)).mp q13
          rw [show 150 * t + c = 150 * (t + 1) by omega]
          show jj X 0 0 60 [(0, .ref h8), (1, .int (nI u)), (2, .int (nI t)), (3, .int (nI c))] [] [(h8, cO 8 [.int rf, .ref rv, .ref rn, .ref rnw, .ref rt, .ref rd, .int (nI na), .int (nI nx), .ref rk, .ref rik, .ref rdk, .ref rre, .ref rle, .ref rhe, .ref rth, .ref rpa, .ref ror, .int bv, .int bo]), (rv, cI (xT X) 450 cvec), (rnw, cI (xT X) 37 (rowF ac ap ash an aob arq)), (rdk, cZ (xT X) 15300 (fun j => bI (flB (dkP aob ac) dk (150 * (t + 1)) j)))]
          refine j_iinc C dX8_layDark_60 (q := 2) (v := (nI (t + 1))) rfl (kc_inc t) (by decide) (lv' := [(2, .int (nI (t + 1))), (0, .ref h8), (1, .int (nI u)), (3, .int (nI c))]) rfl ?_
          refine j_goto C dX8_layDark_63 (tgt := 2) (by decide) ?_
          refine j_lv [1, 2, 0] rfl ?_
          refine ih2 _ (by omega) ?_
          · omega
        · skip
          have q13 := (kn_nge (a := c) (b := 150) (by omega) (by omega)).mp q13
          refine j_aload_n C dX8_layDark_16 0 rfl rfl ?_
          refine j_get C (hin8) (ci := 8) rfl 10 (by decide) (hl32) 0 rfl (v := .ref rdk) rfl dX8_layDark_17 ?_
          refine j_sipush C dX8_layDark_20 (v := (nI 150)) kc_s_150 ?_
          refine j_iload_n C dX8_layDark_23 2 rfl rfl ?_
          refine j_imul C dX8_layDark_24 (v := (nI (150 * t))) (pk_mul _ _) ?_
          refine j_iload_n C dX8_layDark_25 3 rfl rfl ?_
          refine j_iadd C dX8_layDark_26 (v := (nI (150 * t + c))) (nI_add _ _) ?_
          refine j_aload_n C dX8_layDark_27 0 rfl rfl ?_
          refine j_aload_n C dX8_layDark_28 0 rfl rfl ?_
          refine j_get C (hin8) (ci := 8) rfl 3 (by decide) (hl16) 0 rfl (v := .ref rnw) rfl dX8_layDark_29 ?_
          refine j_iload_n C dX8_layDark_32 3 rfl rfl ?_
          refine j_aload_n C dX8_layDark_33 0 rfl rfl ?_
          refine j_get C (hin8) (ci := 8) rfl 3 (by decide) (hl16) 0 rfl (v := .ref rnw) rfl dX8_layDark_34 ?_
          refine j_bipush C dX8_layDark_37 (v := (nI 21)) kc_b_21 ?_
          refine j_ialoadN C 21 rfl 2 rfl (by omega) (by decide) dX8_layDark_39 ?_
          show jj X 0 0 40 [(0, .ref h8), (1, .int (nI u)), (2, .int (nI t)), (3, .int (nI c))] [.int (nI ac), .int (nI c), .ref rnw, .ref h8, .int (nI (150 * t + c)), .ref rdk] [(h8, cO 8 [.int rf, .ref rv, .ref rn, .ref rnw, .ref rt, .ref rd, .int (nI na), .int (nI nx), .ref rk, .ref rik, .ref rdk, .ref rre, .ref rle, .ref rhe, .ref rth, .ref rpa, .ref ror, .int bv, .int bo]), (rv, cI (xT X) 450 cvec), (rnw, cI (xT X) 37 (rowF ac ap ash an aob arq)), (rdk, cZ (xT X) 15300 (fun j => bI (flB (dkP aob ac) dk (150 * t + c) j)))]
          refine j_iload_n C dX8_layDark_40 2 rfl rfl ?_
          refine j_iadd C dX8_layDark_41 (v := (nI (ac + t))) (nI_add _ _) ?_
          refine j_callVR C (nA := 3) (As := [.ref rnw, .int (nI c), .int (nI (ac + t))]) (c_X8_isBrightIn (xl X) (xT X) h8 rv rn rnw rt rd rk rik rdk rre rle rhe rth rpa ror na nx rf bv bo rnw c (ac + t) (rowF ac ap ash an aob arq) (by omega) (by exact row_co hco)) gX8_layDark_X8_isBrightIn rfl (by decide +kernel) rfl ⟨rfl, rfl⟩ (by decide) (by decide) [0, 1, 2] rfl rfl 0 rfl rfl (rest := [.int (nI (150 * t + c)), .ref rdk]) rfl (Nat.le_of_ble_eq_true rfl) dX8_layDark_42 ?_
          rintro _ rfl
          show jj X 0 0 45 [(0, .ref h8), (1, .int (nI u)), (2, .int (nI t)), (3, .int (nI c))] [.int (bI (br (rowF ac ap ash an aob arq) c (ac + t))), .int (nI (150 * t + c)), .ref rdk] [(h8, cO 8 [.int rf, .ref rv, .ref rn, .ref rnw, .ref rt, .ref rd, .int (nI na), .int (nI nx), .ref rk, .ref rik, .ref rdk, .ref rre, .ref rle, .ref rhe, .ref rth, .ref rpa, .ref ror, .int bv, .int bo]), (rv, cI (xT X) 450 cvec), (rnw, cI (xT X) 37 (rowF ac ap ash an aob arq)), (rdk, cZ (xT X) 15300 (fun j => bI (flB (dkP aob ac) dk (150 * t + c) j)))]
          refine j_if_ne C dX8_layDark_45 (tgt := 52) (by decide) (fun q45 => ?_) (fun q45 => ?_)
          · skip
            have q45 := (kb_ne).mp q45
            refine j_iconst C dX8_layDark_52 (v := (nI 0)) kc_i_0 ?_
            refine j_zastoreN C rw_ (150 * t + c) rfl 3 rfl (by omega) (by decide) (w' := [(h8, cO 8 [.int rf, .ref rv, .ref rn, .ref rnw, .ref rt, .ref rd, .int (nI na), .int (nI nx), .ref rk, .ref rik, .ref rdk, .ref rre, .ref rle, .ref rhe, .ref rth, .ref rpa, .ref ror, .int bv, .int bo]), (rv, cI (xT X) 450 cvec), (rnw, cI (xT X) 37 (rowF ac ap ash an aob arq)), (rdk, cZ (xT X) 15300 (upd (fun j => bI (flB (dkP aob ac) dk (150 * t + c) j)) (150 * t + c) (vp_nar .boolean (nI 0))))]) rfl dX8_layDark_53 ?_
            refine j_extZ C (fun j => bI (flB (dkP aob ac) dk (150 * t + c + 1) j)) 3 rfl (fun j hj => ?_) (w' := [(h8, cO 8 [.int rf, .ref rv, .ref rn, .ref rnw, .ref rt, .ref rd, .int (nI na), .int (nI nx), .ref rk, .ref rik, .ref rdk, .ref rre, .ref rle, .ref rhe, .ref rth, .ref rpa, .ref ror, .int bv, .int bo]), (rv, cI (xT X) 450 cvec), (rnw, cI (xT X) 37 (rowF ac ap ash an aob arq)), (rdk, cZ (xT X) 15300 (fun j => bI (flB (dkP aob ac) dk (150 * t + c + 1) j)))]) rfl ?_
            · exact flB_s (by rw [dkP_v (by omega)]; rw [row_br] at q45; rw [q45]; first | exact bI_n1 | exact bI_n0) j
            refine j_iinc C dX8_layDark_54 (q := 3) (v := (nI (c + 1))) rfl (kc_inc c) (by decide) (lv' := [(3, .int (nI (c + 1))), (0, .ref h8), (1, .int (nI u)), (2, .int (nI t))]) rfl ?_
            refine j_goto C dX8_layDark_57 (tgt := 9) (by decide) ?_
            refine j_lv [1, 2, 3, 0] rfl ?_
            refine ih9 _ (by omega) ?_
            · omega
          · skip
            have q45 := (kb_nne).mp q45
            refine j_iconst C dX8_layDark_48 (v := (nI 1)) kc_i_1 ?_
            refine j_goto C dX8_layDark_49 (tgt := 53) (by decide) ?_
            refine j_zastoreN C rw_ (150 * t + c) rfl 3 rfl (by omega) (by decide) (w' := [(h8, cO 8 [.int rf, .ref rv, .ref rn, .ref rnw, .ref rt, .ref rd, .int (nI na), .int (nI nx), .ref rk, .ref rik, .ref rdk, .ref rre, .ref rle, .ref rhe, .ref rth, .ref rpa, .ref ror, .int bv, .int bo]), (rv, cI (xT X) 450 cvec), (rnw, cI (xT X) 37 (rowF ac ap ash an aob arq)), (rdk, cZ (xT X) 15300 (upd (fun j => bI (flB (dkP aob ac) dk (150 * t + c) j)) (150 * t + c) (vp_nar .boolean (nI 1))))]) rfl dX8_layDark_53 ?_
            refine j_extZ C (fun j => bI (flB (dkP aob ac) dk (150 * t + c + 1) j)) 3 rfl (fun j hj => ?_) (w' := [(h8, cO 8 [.int rf, .ref rv, .ref rn, .ref rnw, .ref rt, .ref rd, .int (nI na), .int (nI nx), .ref rk, .ref rik, .ref rdk, .ref rre, .ref rle, .ref rhe, .ref rth, .ref rpa, .ref ror, .int bv, .int bo]), (rv, cI (xT X) 450 cvec), (rnw, cI (xT X) 37 (rowF ac ap ash an aob arq)), (rdk, cZ (xT X) 15300 (fun j => bI (flB (dkP aob ac) dk (150 * t + c + 1) j)))]) rfl ?_
            · exact flB_s (by rw [dkP_v (by omega)]; rw [row_br] at q45; rw [q45]; first | exact bI_n1 | exact bI_n0) j
            refine j_iinc C dX8_layDark_54 (q := 3) (v := (nI (c + 1))) rfl (kc_inc c) (by decide) (lv' := [(3, .int (nI (c + 1))), (0, .ref h8), (1, .int (nI u)), (2, .int (nI t))]) rfl ?_
            refine j_goto C dX8_layDark_57 (tgt := 9) (by decide) ?_
            refine j_lv [1, 2, 3, 0] rfl ?_
            refine ih9 _ (by omega) ?_
            · omega

set_option maxHeartbeats 4000000 in
set_option maxRecDepth 100000 in
/-- layReached(steps) -/
theorem c_X8_layReached (l : Launch) (T : jj_T) (h8 rv rn rnw rt rd rk rik rdk rre rle rhe rth rpa ror na nx : Nat) (rf bv bo : Int32) (ac ap an : Nat) (ash : Bool) (aob arq : Nat → Int32) (u : Nat) (dk re : Nat → Bool) (hu : u ≤ 60) (hap : ap < 150) (hdk : ∀ t, t ≤ u → ∀ c, c < 150 → dk (150 * t + c) = !br aob c (ac + t)) : jM l T yX8_layReached wsX8_layReached { frames := 0, cells := 0, slots := 0, locals := 0 } [.ref h8, .int (nI u)] [(h8, cO 8 [.int rf, .ref rv, .ref rn, .ref rnw, .ref rt, .ref rd, .int (nI na), .int (nI nx), .ref rk, .ref rik, .ref rdk, .ref rre, .ref rle, .ref rhe, .ref rth, .ref rpa, .ref ror, .int bv, .int bo]), (rn, cI T 600 (fun j => nI (near4 j))), (rnw, cI T 37 (rowF ac ap ash an aob arq)), (rdk, cZ T 15300 (fun j => bI (dk j))), (rre, cZ T 9150 (fun j => bI (re j)))] (fun v w1 => v = none ∧ w1 = [(h8, cO 8 [.int rf, .ref rv, .ref rn, .ref rnw, .ref rt, .ref rd, .int (nI na), .int (nI nx), .ref rk, .ref rik, .ref rdk, .ref rre, .ref rle, .ref rhe, .ref rth, .ref rpa, .ref ror, .int bv, .int bo]), (rn, cI T 600 (fun j => nI (near4 j))), (rnw, cI T 37 (rowF ac ap ash an aob arq)), (rdk, cZ T 15300 (fun j => bI (dk j))), (rre, cZ T 9150 (fun j => bI (flB (rcP aob ac ap) re (150 * (u + 1)) j)))]) := by
  refine jM.of (cc := cX8_layReached) (maxL := 6) (ret := none) (by decide) rfl (Nat.le_of_ble_eq_true rfl) ?_
  intro X C rw_ hl hT hQ hnm
  subst hl; subst hT
  have hin8 : ∀ w ∈ u_ws RX8 TX8 19, w ∈ wsX8_layReached := by decide +kernel
  have hl13 : Cond.fieldLink RX8 13 (TX8 2).1 (TX8 2).2.1 (TX8 2).2.2.1 ∈ wsX8_layReached := by decide +kernel
  have hl16 : Cond.fieldLink RX8 16 (TX8 3).1 (TX8 3).2.1 (TX8 3).2.2.1 ∈ wsX8_layReached := by decide +kernel
  have hl32 : Cond.fieldLink RX8 32 (TX8 10).1 (TX8 10).2.1 (TX8 10).2.2.1 ∈ wsX8_layReached := by decide +kernel
  have hl35 : Cond.fieldLink RX8 35 (TX8 11).1 (TX8 11).2.1 (TX8 11).2.2.1 ∈ wsX8_layReached := by decide +kernel
  show jj X 0 0 0 [(0, .ref h8), (1, .int (nI u))] [] [(h8, cO 8 [.int rf, .ref rv, .ref rn, .ref rnw, .ref rt, .ref rd, .int (nI na), .int (nI nx), .ref rk, .ref rik, .ref rdk, .ref rre, .ref rle, .ref rhe, .ref rth, .ref rpa, .ref ror, .int bv, .int bo]), (rn, cI (xT X) 600 (fun j => nI (near4 j))), (rnw, cI (xT X) 37 (rowF ac ap ash an aob arq)), (rdk, cZ (xT X) 15300 (fun j => bI (dk j))), (rre, cZ (xT X) 9150 (fun j => bI (re j)))]
  refine j_iconst C dX8_layReached_0 (v := (nI 0)) kc_i_0 ?_
  rw [show cZ (xT X) 9150 (fun j => bI (re j)) = cZ (xT X) 9150 (fun j => bI (flB (rcP aob ac ap) re (0) j)) from by rw [flB_0]]
  show jj X 0 0 1 [(0, .ref h8), (1, .int (nI u))] [.int (nI 0)] [(h8, cO 8 [.int rf, .ref rv, .ref rn, .ref rnw, .ref rt, .ref rd, .int (nI na), .int (nI nx), .ref rk, .ref rik, .ref rdk, .ref rre, .ref rle, .ref rhe, .ref rth, .ref rpa, .ref ror, .int bv, .int bo]), (rn, cI (xT X) 600 (fun j => nI (near4 j))), (rnw, cI (xT X) 37 (rowF ac ap ash an aob arq)), (rdk, cZ (xT X) 15300 (fun j => bI (dk j))), (rre, cZ (xT X) 9150 (fun j => bI (flB (rcP aob ac ap) re (0) j)))]
  refine j_istore_n C dX8_layReached_1 rfl (by decide) (lv' := [(2, .int (nI 0)), (0, .ref h8), (1, .int (nI u))]) rfl ?_
  refine j_lv [1, 2, 0] rfl ?_
  suffices hc2 : ∀ (mm : Nat) (c : Nat), 150 - c < mm → (c ≤ 150) → jj X 0 0 2 [(0, .ref h8), (1, .int (nI u)), (2, .int (nI c))] [] [(h8, cO 8 [.int rf, .ref rv, .ref rn, .ref rnw, .ref rt, .ref rd, .int (nI na), .int (nI nx), .ref rk, .ref rik, .ref rdk, .ref rre, .ref rle, .ref rhe, .ref rth, .ref rpa, .ref ror, .int bv, .int bo]), (rn, cI (xT X) 600 (fun j => nI (near4 j))), (rnw, cI (xT X) 37 (rowF ac ap ash an aob arq)), (rdk, cZ (xT X) 15300 (fun j => bI (dk j))), (rre, cZ (xT X) 9150 (fun j => bI (flB (rcP aob ac ap) re (c) j)))] by
    refine hc2 _ _ (Nat.lt_succ_self _) ?_
    · omega
  intro mm
  induction mm with
  | zero => intro c hm; exact absurd hm (Nat.not_lt_zero _)
  | succ mm ih2 =>
    intro c hm2 hc
    refine j_iload_n C dX8_layReached_2 2 rfl rfl ?_
    refine j_sipush C dX8_layReached_3 (v := (nI 150)) kc_s_150 ?_
    refine j_icmp_ge C dX8_layReached_6 (tgt := 37) (by decide) (fun q6 => ?_) (fun q6 => ?_)
    · skip
      have q6 := (kn_ge (a := c) (b := 150) (by omega) (by omega)).mp q6
      have e9 : flB (rcP aob ac ap) re (c) = flB (rcP aob ac ap) re (150 * (0 + 1)) := by rw [show c = 150 by omega]
      rw [e9]
      show jj X 0 0 37 [(0, .ref h8), (1, .int (nI u)), (2, .int (nI c))] [] [(h8, cO 8 [.int rf, .ref rv, .ref rn, .ref rnw, .ref rt, .ref rd, .int (nI na), .int (nI nx), .ref rk, .ref rik, .ref rdk, .ref rre, .ref rle, .ref rhe, .ref rth, .ref rpa, .ref ror, .int bv, .int bo]), (rn, cI (xT X) 600 (fun j => nI (near4 j))), (rnw, cI (xT X) 37 (rowF ac ap ash an aob arq)), (rdk, cZ (xT X) 15300 (fun j => bI (dk j))), (rre, cZ (xT X) 9150 (fun j => bI (flB (rcP aob ac ap) re (150 * (0 + 1)) j)))]
      refine j_iconst C dX8_layReached_37 (v := (nI 1)) kc_i_1 ?_
      refine j_istore_n C dX8_layReached_38 rfl (by decide) (lv' := [(2, .int (nI 1)), (0, .ref h8), (1, .int (nI u))]) rfl ?_
      refine j_lv [1, 2, 0] rfl ?_
      suffices hc39 : ∀ (mm : Nat) (s : Nat), u + 1 - s < mm → (s ≤ u) → jj X 0 0 39 [(0, .ref h8), (1, .int (nI u)), (2, .int (nI (s + 1)))] [] [(h8, cO 8 [.int rf, .ref rv, .ref rn, .ref rnw, .ref rt, .ref rd, .int (nI na), .int (nI nx), .ref rk, .ref rik, .ref rdk, .ref rre, .ref rle, .ref rhe, .ref rth, .ref rpa, .ref ror, .int bv, .int bo]), (rn, cI (xT X) 600 (fun j => nI (near4 j))), (rnw, cI (xT X) 37 (rowF ac ap ash an aob arq)), (rdk, cZ (xT X) 15300 (fun j => bI (dk j))), (rre, cZ (xT X) 9150 (fun j => bI (flB (rcP aob ac ap) re (150 * (s + 1)) j)))] by
        refine hc39 _ 0 (Nat.lt_succ_self _) ?_
        · omega
      intro mm
      induction mm with
      | zero => intro s hm; exact absurd hm (Nat.not_lt_zero _)
      | succ mm ih39 =>
        intro s hm39 hs
        refine j_iload_n C dX8_layReached_39 2 rfl rfl ?_
        refine j_iload_n C dX8_layReached_40 1 rfl rfl ?_
        refine j_icmp_gt C dX8_layReached_41 (tgt := 172) (by decide) (fun q41 => ?_) (fun q41 => ?_)
        · skip
          have q41 := (kn_gt (a := s + 1) (b := u) (by omega) (by omega)).mp q41
          have e9 : flB (rcP aob ac ap) re (150 * (s + 1)) = flB (rcP aob ac ap) re (150 * (u + 1)) := by rw [show s = u by omega]
          rw [e9]
          show jj X 0 0 172 [(0, .ref h8), (1, .int (nI u)), (2, .int (nI (s + 1)))] [] [(h8, cO 8 [.int rf, .ref rv, .ref rn, .ref rnw, .ref rt, .ref rd, .int (nI na), .int (nI nx), .ref rk, .ref rik, .ref rdk, .ref rre, .ref rle, .ref rhe, .ref rth, .ref rpa, .ref ror, .int bv, .int bo]), (rn, cI (xT X) 600 (fun j => nI (near4 j))), (rnw, cI (xT X) 37 (rowF ac ap ash an aob arq)), (rdk, cZ (xT X) 15300 (fun j => bI (dk j))), (rre, cZ (xT X) 9150 (fun j => bI (flB (rcP aob ac ap) re (150 * (u + 1)) j)))]
          refine j_vretM C rw_ hQ (by decide) (by decide) ?_ dX8_layReached_172
          exact ⟨rfl, rfl⟩
        · skip
          have q41 := (kn_ngt (a := s + 1) (b := u) (by omega) (by omega)).mp q41
          refine j_iconst C dX8_layReached_44 (v := (nI 0)) kc_i_0 ?_
          refine j_istore_n C dX8_layReached_45 rfl (by decide) (lv' := [(3, .int (nI 0)), (0, .ref h8), (1, .int (nI u)), (2, .int (nI (s + 1)))]) rfl ?_
          refine j_lv [1, 2, 3, 0] rfl ?_
          suffices hc46 : ∀ (mm : Nat) (c : Nat), 150 - c < mm → (c ≤ 150) → jj X 0 0 46 [(0, .ref h8), (1, .int (nI u)), (2, .int (nI (s + 1))), (3, .int (nI c))] [] [(h8, cO 8 [.int rf, .ref rv, .ref rn, .ref rnw, .ref rt, .ref rd, .int (nI na), .int (nI nx), .ref rk, .ref rik, .ref rdk, .ref rre, .ref rle, .ref rhe, .ref rth, .ref rpa, .ref ror, .int bv, .int bo]), (rn, cI (xT X) 600 (fun j => nI (near4 j))), (rnw, cI (xT X) 37 (rowF ac ap ash an aob arq)), (rdk, cZ (xT X) 15300 (fun j => bI (dk j))), (rre, cZ (xT X) 9150 (fun j => bI (flB (rcP aob ac ap) re (150 * (s + 1) + c) j)))] by
            refine hc46 _ _ (Nat.lt_succ_self _) ?_
            · omega
          intro mm
          induction mm with
          | zero => intro c hm; exact absurd hm (Nat.not_lt_zero _)
          | succ mm ih46 =>
            intro c hm46 hc
            refine j_iload_n C dX8_layReached_46 3 rfl rfl ?_
            refine j_sipush C dX8_layReached_47 (v := (nI 150)) kc_s_150 ?_
            refine j_icmp_ge C dX8_layReached_50 (tgt := 166) (by decide) (fun q50 => ?_) (fun q50 => ?_)
            · skip
              have q50 := (kn_ge (a := c) (b := 150) (by omega) (by omega)).mp q50
              rw [show 150 * (s + 1) + c = 150 * (s + 1 + 1) by omega]
              show jj X 0 0 166 [(0, .ref h8), (1, .int (nI u)), (2, .int (nI (s + 1))), (3, .int (nI c))] [] [(h8, cO 8 [.int rf, .ref rv, .ref rn, .ref rnw, .ref rt, .ref rd, .int (nI na), .int (nI nx), .ref rk, .ref rik, .ref rdk, .ref rre, .ref rle, .ref rhe, .ref rth, .ref rpa, .ref ror, .int bv, .int bo]), (rn, cI (xT X) 600 (fun j => nI (near4 j))), (rnw, cI (xT X) 37 (rowF ac ap ash an aob arq)), (rdk, cZ (xT X) 15300 (fun j => bI (dk j))), (rre, cZ (xT X) 9150 (fun j => bI (flB (rcP aob ac ap) re (150 * (s + 1 + 1)) j)))]
              refine j_iinc C dX8_layReached_166 (q := 2) (v := (nI (s + 1 + 1))) rfl (kc_inc (s + 1)) (by decide) (lv' := [(2, .int (nI (s + 1 + 1))), (0, .ref h8), (1, .int (nI u)), (3, .int (nI c))]) rfl ?_
              refine j_goto C dX8_layReached_169 (tgt := 39) (by decide) ?_
              refine j_lv [1, 2, 0] rfl ?_
              refine ih39 (s + 1) (by omega) ?_
              · omega
            · skip
              have q50 := (kn_nge (a := c) (b := 150) (by omega) (by omega)).mp q50
              refine j_aload_n C dX8_layReached_53 0 rfl rfl ?_
              refine j_get C (hin8) (ci := 8) rfl 11 (by decide) (hl35) 0 rfl (v := .ref rre) rfl dX8_layReached_54 ?_
              refine j_sipush C dX8_layReached_57 (v := (nI 150)) kc_s_150 ?_
              refine j_iload_n C dX8_layReached_60 2 rfl rfl ?_
              refine j_iconst C dX8_layReached_61 (v := (nI 1)) kc_i_1 ?_
              refine j_isub C dX8_layReached_62 (v := (nI s)) (by rw [show s = (s + 1) - 1 from rfl]; exact pk_sub (by omega)) ?_
              refine j_imul C dX8_layReached_63 (v := (nI (150 * s))) (pk_mul _ _) ?_
              refine j_iload_n C dX8_layReached_64 3 rfl rfl ?_
              refine j_iadd C dX8_layReached_65 (v := (nI (150 * s + c))) (nI_add _ _) ?_
              refine j_zaloadN C (150 * s + c) rfl 4 rfl (by omega) (by decide) dX8_layReached_66 ?_
              rw [show ((flB (rcP aob ac ap) re (150 * (s + 1) + c)) (150 * s + c)) = rc aob ac ap s c from by rw [flB_v (by omega), rcP_v (by omega)]]
              show jj X 0 0 67 [(0, .ref h8), (1, .int (nI u)), (2, .int (nI (s + 1))), (3, .int (nI c))] [.int (bI (rc aob ac ap s c))] [(h8, cO 8 [.int rf, .ref rv, .ref rn, .ref rnw, .ref rt, .ref rd, .int (nI na), .int (nI nx), .ref rk, .ref rik, .ref rdk, .ref rre, .ref rle, .ref rhe, .ref rth, .ref rpa, .ref ror, .int bv, .int bo]), (rn, cI (xT X) 600 (fun j => nI (near4 j))), (rnw, cI (xT X) 37 (rowF ac ap ash an aob arq)), (rdk, cZ (xT X) 15300 (fun j => bI (dk j))), (rre, cZ (xT X) 9150 (fun j => bI (flB (rcP aob ac ap) re (150 * (s + 1) + c) j)))]
              refine j_istore C dX8_layReached_67 (by decide) (lv' := [(4, .int (bI (rc aob ac ap s c))), (0, .ref h8), (1, .int (nI u)), (2, .int (nI (s + 1))), (3, .int (nI c))]) rfl ?_
              refine j_iconst C dX8_layReached_69 (v := (nI 0)) kc_i_0 ?_
              refine j_istore C dX8_layReached_70 (by decide) (lv' := [(5, .int (nI 0)), (4, .int (bI (rc aob ac ap s c))), (0, .ref h8), (1, .int (nI u)), (2, .int (nI (s + 1))), (3, .int (nI c))]) rfl ?_
              refine j_lv [2, 3, 4, 5, 1, 0] rfl ?_
              suffices hc72 : ∀ (mm : Nat) (k : Nat) (is : Bool), 4 - k < mm → (k ≤ 4) → (nborN (rc aob ac ap s) c k = is) → jj X 0 0 72 [(0, .ref h8), (1, .int (nI u)), (2, .int (nI (s + 1))), (3, .int (nI c)), (4, .int (bI is)), (5, .int (nI k))] [] [(h8, cO 8 [.int rf, .ref rv, .ref rn, .ref rnw, .ref rt, .ref rd, .int (nI na), .int (nI nx), .ref rk, .ref rik, .ref rdk, .ref rre, .ref rle, .ref rhe, .ref rth, .ref rpa, .ref ror, .int bv, .int bo]), (rn, cI (xT X) 600 (fun j => nI (near4 j))), (rnw, cI (xT X) 37 (rowF ac ap ash an aob arq)), (rdk, cZ (xT X) 15300 (fun j => bI (dk j))), (rre, cZ (xT X) 9150 (fun j => bI (flB (rcP aob ac ap) re (150 * (s + 1) + c) j)))] by
                refine hc72 _ _ _ (Nat.lt_succ_self _) ?_ ?_
                · omega
                · rfl
              intro mm
              induction mm with
              | zero => intro k is hm; exact absurd hm (Nat.not_lt_zero _)
              | succ mm ih72 =>
                intro k is hm72 hk hb
                refine j_iload C dX8_layReached_72 5 rfl ?_
                refine j_iconst C dX8_layReached_74 (v := (nI 4)) kc_i_4 ?_
                refine j_icmp_ge C dX8_layReached_75 (tgt := 123) (by decide) (fun q75 => ?_) (fun q75 => ?_)
                · skip
                  have q75 := (kn_ge (a := k) (b := 4) (by omega) (by omega)).mp q75
                  have hbe : nbor (rc aob ac ap s) c = is := by unfold nbor; rw [← hb, show k = 4 by omega]
                  have hd := hdk (s + 1) (by omega) c (by omega)
                  refine j_aload_n C dX8_layReached_123 0 rfl rfl ?_
                  refine j_get C (hin8) (ci := 8) rfl 11 (by decide) (hl35) 0 rfl (v := .ref rre) rfl dX8_layReached_124 ?_
                  refine j_sipush C dX8_layReached_127 (v := (nI 150)) kc_s_150 ?_
                  refine j_iload_n C dX8_layReached_130 2 rfl rfl ?_
                  refine j_imul C dX8_layReached_131 (v := (nI (150 * (s + 1)))) (pk_mul _ _) ?_
                  refine j_iload_n C dX8_layReached_132 3 rfl rfl ?_
                  refine j_iadd C dX8_layReached_133 (v := (nI (150 * (s + 1) + c))) (nI_add _ _) ?_
                  refine j_iload C dX8_layReached_134 4 rfl ?_
                  refine j_if_eq C dX8_layReached_136 (tgt := 158) (by decide) (fun q136 => ?_) (fun q136 => ?_)
                  · skip
                    have q136 := (kb_eq).mp q136
                    refine j_iconst C dX8_layReached_158 (v := (nI 0)) kc_i_0 ?_
                    refine j_zastoreN C rw_ (150 * (s + 1) + c) rfl 4 rfl (by omega) (by decide) (w' := [(h8, cO 8 [.int rf, .ref rv, .ref rn, .ref rnw, .ref rt, .ref rd, .int (nI na), .int (nI nx), .ref rk, .ref rik, .ref rdk, .ref rre, .ref rle, .ref rhe, .ref rth, .ref rpa, .ref ror, .int bv, .int bo]), (rn, cI (xT X) 600 (fun j => nI (near4 j))), (rnw, cI (xT X) 37 (rowF ac ap ash an aob arq)), (rdk, cZ (xT X) 15300 (fun j => bI (dk j))), (rre, cZ (xT X) 9150 (upd (fun j => bI (flB (rcP aob ac ap) re (150 * (s + 1) + c) j)) (150 * (s + 1) + c) (vp_nar .boolean (nI 0))))]) rfl dX8_layReached_159 ?_
                    refine j_extZ C (fun j => bI (flB (rcP aob ac ap) re (150 * (s + 1) + c + 1) j)) 4 rfl (fun j hj => ?_) (w' := [(h8, cO 8 [.int rf, .ref rv, .ref rn, .ref rnw, .ref rt, .ref rd, .int (nI na), .int (nI nx), .ref rk, .ref rik, .ref rdk, .ref rre, .ref rle, .ref rhe, .ref rth, .ref rpa, .ref ror, .int bv, .int bo]), (rn, cI (xT X) 600 (fun j => nI (near4 j))), (rnw, cI (xT X) 37 (rowF ac ap ash an aob arq)), (rdk, cZ (xT X) 15300 (fun j => bI (dk j))), (rre, cZ (xT X) 9150 (fun j => bI (flB (rcP aob ac ap) re (150 * (s + 1) + c + 1) j)))]) rfl ?_
                    · exact flB_s (by rw [rcP_v (by omega), rc, hbe, ← hd]; first | (rw [q136]; exact bI_n0) | (rw [q136, q151]; exact bI_n0) | (rw [q136, q151]; exact bI_n1)) j
                    refine j_iinc C dX8_layReached_160 (q := 3) (v := (nI (c + 1))) rfl (kc_inc c) (by decide) (lv' := [(3, .int (nI (c + 1))), (0, .ref h8), (1, .int (nI u)), (2, .int (nI (s + 1))), (4, .int (bI is)), (5, .int (nI k))]) rfl ?_
                    refine j_goto C dX8_layReached_163 (tgt := 46) (by decide) ?_
                    refine j_lv [1, 2, 3, 0] rfl ?_
                    refine ih46 _ (by omega) ?_
                    · omega
                  · skip
                    have q136 := (kb_neq).mp q136
                    refine j_aload_n C dX8_layReached_139 0 rfl rfl ?_
                    refine j_get C (hin8) (ci := 8) rfl 10 (by decide) (hl32) 0 rfl (v := .ref rdk) rfl dX8_layReached_140 ?_
                    refine j_sipush C dX8_layReached_143 (v := (nI 150)) kc_s_150 ?_
                    refine j_iload_n C dX8_layReached_146 2 rfl rfl ?_
                    refine j_imul C dX8_layReached_147 (v := (nI (150 * (s + 1)))) (pk_mul _ _) ?_
                    refine j_iload_n C dX8_layReached_148 3 rfl rfl ?_
                    refine j_iadd C dX8_layReached_149 (v := (nI (150 * (s + 1) + c))) (nI_add _ _) ?_
                    refine j_zaloadN C (150 * (s + 1) + c) rfl 3 rfl (by omega) (by decide) dX8_layReached_150 ?_
                    refine j_if_eq C dX8_layReached_151 (tgt := 158) (by decide) (fun q151 => ?_) (fun q151 => ?_)
                    · skip
                      have q151 := (kb_eq).mp q151
                      refine j_iconst C dX8_layReached_158 (v := (nI 0)) kc_i_0 ?_
                      refine j_zastoreN C rw_ (150 * (s + 1) + c) rfl 4 rfl (by omega) (by decide) (w' := [(h8, cO 8 [.int rf, .ref rv, .ref rn, .ref rnw, .ref rt, .ref rd, .int (nI na), .int (nI nx), .ref rk, .ref rik, .ref rdk, .ref rre, .ref rle, .ref rhe, .ref rth, .ref rpa, .ref ror, .int bv, .int bo]), (rn, cI (xT X) 600 (fun j => nI (near4 j))), (rnw, cI (xT X) 37 (rowF ac ap ash an aob arq)), (rdk, cZ (xT X) 15300 (fun j => bI (dk j))), (rre, cZ (xT X) 9150 (upd (fun j => bI (flB (rcP aob ac ap) re (150 * (s + 1) + c) j)) (150 * (s + 1) + c) (vp_nar .boolean (nI 0))))]) rfl dX8_layReached_159 ?_
                      refine j_extZ C (fun j => bI (flB (rcP aob ac ap) re (150 * (s + 1) + c + 1) j)) 4 rfl (fun j hj => ?_) (w' := [(h8, cO 8 [.int rf, .ref rv, .ref rn, .ref rnw, .ref rt, .ref rd, .int (nI na), .int (nI nx), .ref rk, .ref rik, .ref rdk, .ref rre, .ref rle, .ref rhe, .ref rth, .ref rpa, .ref ror, .int bv, .int bo]), (rn, cI (xT X) 600 (fun j => nI (near4 j))), (rnw, cI (xT X) 37 (rowF ac ap ash an aob arq)), (rdk, cZ (xT X) 15300 (fun j => bI (dk j))), (rre, cZ (xT X) 9150 (fun j => bI (flB (rcP aob ac ap) re (150 * (s + 1) + c + 1) j)))]) rfl ?_
                      · exact flB_s (by rw [rcP_v (by omega), rc, hbe, ← hd]; first | (rw [q136]; exact bI_n0) | (rw [q136, q151]; exact bI_n0) | (rw [q136, q151]; exact bI_n1)) j
                      refine j_iinc C dX8_layReached_160 (q := 3) (v := (nI (c + 1))) rfl (kc_inc c) (by decide) (lv' := [(3, .int (nI (c + 1))), (0, .ref h8), (1, .int (nI u)), (2, .int (nI (s + 1))), (4, .int (bI is)), (5, .int (nI k))]) rfl ?_
                      refine j_goto C dX8_layReached_163 (tgt := 46) (by decide) ?_
                      refine j_lv [1, 2, 3, 0] rfl ?_
                      refine ih46 _ (by omega) ?_
                      · omega
                    · skip
                      have q151 := (kb_neq).mp q151
                      refine j_iconst C dX8_layReached_154 (v := (nI 1)) kc_i_1 ?_
                      refine j_goto C dX8_layReached_155 (tgt := 159) (by decide) ?_
                      refine j_zastoreN C rw_ (150 * (s + 1) + c) rfl 4 rfl (by omega) (by decide) (w' := [(h8, cO 8 [.int rf, .ref rv, .ref rn, .ref rnw, .ref rt, .ref rd, .int (nI na), .int (nI nx), .ref rk, .ref rik, .ref rdk, .ref rre, .ref rle, .ref rhe, .ref rth, .ref rpa, .ref ror, .int bv, .int bo]), (rn, cI (xT X) 600 (fun j => nI (near4 j))), (rnw, cI (xT X) 37 (rowF ac ap ash an aob arq)), (rdk, cZ (xT X) 15300 (fun j => bI (dk j))), (rre, cZ (xT X) 9150 (upd (fun j => bI (flB (rcP aob ac ap) re (150 * (s + 1) + c) j)) (150 * (s + 1) + c) (vp_nar .boolean (nI 1))))]) rfl dX8_layReached_159 ?_
                      refine j_extZ C (fun j => bI (flB (rcP aob ac ap) re (150 * (s + 1) + c + 1) j)) 4 rfl (fun j hj => ?_) (w' := [(h8, cO 8 [.int rf, .ref rv, .ref rn, .ref rnw, .ref rt, .ref rd, .int (nI na), .int (nI nx), .ref rk, .ref rik, .ref rdk, .ref rre, .ref rle, .ref rhe, .ref rth, .ref rpa, .ref ror, .int bv, .int bo]), (rn, cI (xT X) 600 (fun j => nI (near4 j))), (rnw, cI (xT X) 37 (rowF ac ap ash an aob arq)), (rdk, cZ (xT X) 15300 (fun j => bI (dk j))), (rre, cZ (xT X) 9150 (fun j => bI (flB (rcP aob ac ap) re (150 * (s + 1) + c + 1) j)))]) rfl ?_
                      · exact flB_s (by rw [rcP_v (by omega), rc, hbe, ← hd]; first | (rw [q136]; exact bI_n0) | (rw [q136, q151]; exact bI_n0) | (rw [q136, q151]; exact bI_n1)) j
                      refine j_iinc C dX8_layReached_160 (q := 3) (v := (nI (c + 1))) rfl (kc_inc c) (by decide) (lv' := [(3, .int (nI (c + 1))), (0, .ref h8), (1, .int (nI u)), (2, .int (nI (s + 1))), (4, .int (bI is)), (5, .int (nI k))]) rfl ?_
                      refine j_goto C dX8_layReached_163 (tgt := 46) (by decide) ?_
                      refine j_lv [1, 2, 3, 0] rfl ?_
                      refine ih46 _ (by omega) ?_
                      · omega
                · skip
                  have q75 := (kn_nge (a := k) (b := 4) (by omega) (by omega)).mp q75
                  have hnk := (tb_near c (by omega) k (by omega)).1
                  refine j_iload C dX8_layReached_78 4 rfl ?_
                  refine j_if_ne C dX8_layReached_80 (tgt := 110) (by decide) (fun q80 => ?_) (fun q80 => ?_)
                  · skip
                    have q80 := (kb_ne).mp q80
                    refine j_iconst C dX8_layReached_110 (v := (nI 1)) kc_i_1 ?_
                    refine j_goto C dX8_layReached_111 (tgt := 115) (by decide) ?_
                    show jj X 0 0 115 [(0, .ref h8), (1, .int (nI u)), (2, .int (nI (s + 1))), (3, .int (nI c)), (4, .int (bI is)), (5, .int (nI k))] [.int (bI true)] [(h8, cO 8 [.int rf, .ref rv, .ref rn, .ref rnw, .ref rt, .ref rd, .int (nI na), .int (nI nx), .ref rk, .ref rik, .ref rdk, .ref rre, .ref rle, .ref rhe, .ref rth, .ref rpa, .ref ror, .int bv, .int bo]), (rn, cI (xT X) 600 (fun j => nI (near4 j))), (rnw, cI (xT X) 37 (rowF ac ap ash an aob arq)), (rdk, cZ (xT X) 15300 (fun j => bI (dk j))), (rre, cZ (xT X) 9150 (fun j => bI (flB (rcP aob ac ap) re (150 * (s + 1) + c) j)))]
                    refine j_istore C dX8_layReached_115 (by decide) (lv' := [(4, .int (bI true)), (0, .ref h8), (1, .int (nI u)), (2, .int (nI (s + 1))), (3, .int (nI c)), (5, .int (nI k))]) rfl ?_
                    refine j_iinc C dX8_layReached_117 (q := 5) (v := (nI (k + 1))) rfl (kc_inc k) (by decide) (lv' := [(5, .int (nI (k + 1))), (4, .int (bI true)), (0, .ref h8), (1, .int (nI u)), (2, .int (nI (s + 1))), (3, .int (nI c))]) rfl ?_
                    refine j_goto C dX8_layReached_120 (tgt := 72) (by decide) ?_
                    refine j_lv [2, 3, 4, 5, 1, 0] rfl ?_
                    refine ih72 _ _ (by omega) ?_ ?_
                    · omega
                    · rw [nborN, hb]; first | (rw [q80]; rfl) | (rw [q80, q107]; rfl)
                  · skip
                    have q80 := (kb_nne).mp q80
                    refine j_aload_n C dX8_layReached_83 0 rfl rfl ?_
                    refine j_get C (hin8) (ci := 8) rfl 11 (by decide) (hl35) 0 rfl (v := .ref rre) rfl dX8_layReached_84 ?_
                    refine j_sipush C dX8_layReached_87 (v := (nI 150)) kc_s_150 ?_
                    refine j_iload_n C dX8_layReached_90 2 rfl rfl ?_
                    refine j_iconst C dX8_layReached_91 (v := (nI 1)) kc_i_1 ?_
                    refine j_isub C dX8_layReached_92 (v := (nI s)) (by rw [show s = (s + 1) - 1 from rfl]; exact pk_sub (by omega)) ?_
                    refine j_imul C dX8_layReached_93 (v := (nI (150 * s))) (pk_mul _ _) ?_
                    refine j_aload_n C dX8_layReached_94 0 rfl rfl ?_
                    refine j_get C (hin8) (ci := 8) rfl 2 (by decide) (hl13) 0 rfl (v := .ref rn) rfl dX8_layReached_95 ?_
                    refine j_iconst C dX8_layReached_98 (v := (nI 4)) kc_i_4 ?_
                    refine j_iload_n C dX8_layReached_99 3 rfl rfl ?_
                    refine j_imul C dX8_layReached_100 (v := (nI (4 * c))) (pk_mul _ _) ?_
                    refine j_iload C dX8_layReached_101 5 rfl ?_
                    refine j_iadd C dX8_layReached_103 (v := (nI (4 * c + k))) (nI_add _ _) ?_
                    refine j_ialoadN C (4 * c + k) rfl 1 rfl (by omega) (by decide) dX8_layReached_104 ?_
                    refine j_iadd C dX8_layReached_105 (v := (nI (150 * s + (near4 (4 * c + k))))) (nI_add _ _) ?_
                    refine j_zaloadN C (150 * s + (near4 (4 * c + k))) rfl 4 rfl (by omega) (by decide) dX8_layReached_106 ?_
                    rw [show ((flB (rcP aob ac ap) re (150 * (s + 1) + c)) (150 * s + (near4 (4 * c + k)))) = rc aob ac ap s (near4 (4 * c + k)) from by rw [flB_v (by omega), rcP_v hnk]]
                    show jj X 0 0 107 [(0, .ref h8), (1, .int (nI u)), (2, .int (nI (s + 1))), (3, .int (nI c)), (4, .int (bI is)), (5, .int (nI k))] [.int (bI (rc aob ac ap s (near4 (4 * c + k))))] [(h8, cO 8 [.int rf, .ref rv, .ref rn, .ref rnw, .ref rt, .ref rd, .int (nI na), .int (nI nx), .ref rk, .ref rik, .ref rdk, .ref rre, .ref rle, .ref rhe, .ref rth, .ref rpa, .ref ror, .int bv, .int bo]), (rn, cI (xT X) 600 (fun j => nI (near4 j))), (rnw, cI (xT X) 37 (rowF ac ap ash an aob arq)), (rdk, cZ (xT X) 15300 (fun j => bI (dk j))), (rre, cZ (xT X) 9150 (fun j => bI (flB (rcP aob ac ap) re (150 * (s + 1) + c) j)))]
                    refine j_if_eq C dX8_layReached_107 (tgt := 114) (by decide) (fun q107 => ?_) (fun q107 => ?_)
                    · skip
                      have q107 := (kb_eq).mp q107
                      refine j_iconst C dX8_layReached_114 (v := (nI 0)) kc_i_0 ?_
                      show jj X 0 0 115 [(0, .ref h8), (1, .int (nI u)), (2, .int (nI (s + 1))), (3, .int (nI c)), (4, .int (bI is)), (5, .int (nI k))] [.int (bI false)] [(h8, cO 8 [.int rf, .ref rv, .ref rn, .ref rnw, .ref rt, .ref rd, .int (nI na), .int (nI nx), .ref rk, .ref rik, .ref rdk, .ref rre, .ref rle, .ref rhe, .ref rth, .ref rpa, .ref ror, .int bv, .int bo]), (rn, cI (xT X) 600 (fun j => nI (near4 j))), (rnw, cI (xT X) 37 (rowF ac ap ash an aob arq)), (rdk, cZ (xT X) 15300 (fun j => bI (dk j))), (rre, cZ (xT X) 9150 (fun j => bI (flB (rcP aob ac ap) re (150 * (s + 1) + c) j)))]
                      refine j_istore C dX8_layReached_115 (by decide) (lv' := [(4, .int (bI false)), (0, .ref h8), (1, .int (nI u)), (2, .int (nI (s + 1))), (3, .int (nI c)), (5, .int (nI k))]) rfl ?_
                      refine j_iinc C dX8_layReached_117 (q := 5) (v := (nI (k + 1))) rfl (kc_inc k) (by decide) (lv' := [(5, .int (nI (k + 1))), (4, .int (bI false)), (0, .ref h8), (1, .int (nI u)), (2, .int (nI (s + 1))), (3, .int (nI c))]) rfl ?_
                      refine j_goto C dX8_layReached_120 (tgt := 72) (by decide) ?_
                      refine j_lv [2, 3, 4, 5, 1, 0] rfl ?_
                      refine ih72 _ _ (by omega) ?_ ?_
                      · omega
                      · rw [nborN, hb]; first | (rw [q80]; rfl) | (rw [q80, q107]; rfl)
                    · skip
                      have q107 := (kb_neq).mp q107
                      refine j_iconst C dX8_layReached_110 (v := (nI 1)) kc_i_1 ?_
                      refine j_goto C dX8_layReached_111 (tgt := 115) (by decide) ?_
                      show jj X 0 0 115 [(0, .ref h8), (1, .int (nI u)), (2, .int (nI (s + 1))), (3, .int (nI c)), (4, .int (bI is)), (5, .int (nI k))] [.int (bI true)] [(h8, cO 8 [.int rf, .ref rv, .ref rn, .ref rnw, .ref rt, .ref rd, .int (nI na), .int (nI nx), .ref rk, .ref rik, .ref rdk, .ref rre, .ref rle, .ref rhe, .ref rth, .ref rpa, .ref ror, .int bv, .int bo]), (rn, cI (xT X) 600 (fun j => nI (near4 j))), (rnw, cI (xT X) 37 (rowF ac ap ash an aob arq)), (rdk, cZ (xT X) 15300 (fun j => bI (dk j))), (rre, cZ (xT X) 9150 (fun j => bI (flB (rcP aob ac ap) re (150 * (s + 1) + c) j)))]
                      refine j_istore C dX8_layReached_115 (by decide) (lv' := [(4, .int (bI true)), (0, .ref h8), (1, .int (nI u)), (2, .int (nI (s + 1))), (3, .int (nI c)), (5, .int (nI k))]) rfl ?_
                      refine j_iinc C dX8_layReached_117 (q := 5) (v := (nI (k + 1))) rfl (kc_inc k) (by decide) (lv' := [(5, .int (nI (k + 1))), (4, .int (bI true)), (0, .ref h8), (1, .int (nI u)), (2, .int (nI (s + 1))), (3, .int (nI c))]) rfl ?_
                      refine j_goto C dX8_layReached_120 (tgt := 72) (by decide) ?_
                      refine j_lv [2, 3, 4, 5, 1, 0] rfl ?_
                      refine ih72 _ _ (by omega) ?_ ?_
                      · omega
                      · rw [nborN, hb]; first | (rw [q80]; rfl) | (rw [q80, q107]; rfl)
    · skip
      have q6 := (kn_nge (a := c) (b := 150) (by omega) (by omega)).mp q6
      refine j_aload_n C dX8_layReached_9 0 rfl rfl ?_
      refine j_get C (hin8) (ci := 8) rfl 11 (by decide) (hl35) 0 rfl (v := .ref rre) rfl dX8_layReached_10 ?_
      refine j_iload_n C dX8_layReached_13 2 rfl rfl ?_
      refine j_iload_n C dX8_layReached_14 2 rfl rfl ?_
      refine j_aload_n C dX8_layReached_15 0 rfl rfl ?_
      refine j_get C (hin8) (ci := 8) rfl 3 (by decide) (hl16) 0 rfl (v := .ref rnw) rfl dX8_layReached_16 ?_
      refine j_bipush C dX8_layReached_19 (v := (nI 22)) kc_b_22 ?_
      refine j_ialoadN C 22 rfl 2 rfl (by omega) (by decide) dX8_layReached_21 ?_
      show jj X 0 0 22 [(0, .ref h8), (1, .int (nI u)), (2, .int (nI c))] [.int (nI ap), .int (nI c), .int (nI c), .ref rre] [(h8, cO 8 [.int rf, .ref rv, .ref rn, .ref rnw, .ref rt, .ref rd, .int (nI na), .int (nI nx), .ref rk, .ref rik, .ref rdk, .ref rre, .ref rle, .ref rhe, .ref rth, .ref rpa, .ref ror, .int bv, .int bo]), (rn, cI (xT X) 600 (fun j => nI (near4 j))), (rnw, cI (xT X) 37 (rowF ac ap ash an aob arq)), (rdk, cZ (xT X) 15300 (fun j => bI (dk j))), (rre, cZ (xT X) 9150 (fun j => bI (flB (rcP aob ac ap) re (c) j)))]
      refine j_icmp_ne C dX8_layReached_22 (tgt := 29) (by decide) (fun q22 => ?_) (fun q22 => ?_)
      · skip
        have q22 := (kn_ne (a := c) (b := ap) (by omega) (by omega)).mp q22
        refine j_iconst C dX8_layReached_29 (v := (nI 0)) kc_i_0 ?_
        refine j_zastoreN C rw_ c rfl 4 rfl (by omega) (by decide) (w' := [(h8, cO 8 [.int rf, .ref rv, .ref rn, .ref rnw, .ref rt, .ref rd, .int (nI na), .int (nI nx), .ref rk, .ref rik, .ref rdk, .ref rre, .ref rle, .ref rhe, .ref rth, .ref rpa, .ref ror, .int bv, .int bo]), (rn, cI (xT X) 600 (fun j => nI (near4 j))), (rnw, cI (xT X) 37 (rowF ac ap ash an aob arq)), (rdk, cZ (xT X) 15300 (fun j => bI (dk j))), (rre, cZ (xT X) 9150 (upd (fun j => bI (flB (rcP aob ac ap) re (c) j)) c (vp_nar .boolean (nI 0))))]) rfl dX8_layReached_30 ?_
        refine j_extZ C (fun j => bI (flB (rcP aob ac ap) re (c + 1) j)) 4 rfl (fun j hj => ?_) (w' := [(h8, cO 8 [.int rf, .ref rv, .ref rn, .ref rnw, .ref rt, .ref rd, .int (nI na), .int (nI nx), .ref rk, .ref rik, .ref rdk, .ref rre, .ref rle, .ref rhe, .ref rth, .ref rpa, .ref ror, .int bv, .int bo]), (rn, cI (xT X) 600 (fun j => nI (near4 j))), (rnw, cI (xT X) 37 (rowF ac ap ash an aob arq)), (rdk, cZ (xT X) 15300 (fun j => bI (dk j))), (rre, cZ (xT X) 9150 (fun j => bI (flB (rcP aob ac ap) re (c + 1) j)))]) rfl ?_
        · exact flB_s (by rw [rcP_0 (by omega)]; first | (rw [decide_eq_true q22]; exact bI_n1) | (rw [decide_eq_false q22]; exact bI_n0)) j
        refine j_iinc C dX8_layReached_31 (q := 2) (v := (nI (c + 1))) rfl (kc_inc c) (by decide) (lv' := [(2, .int (nI (c + 1))), (0, .ref h8), (1, .int (nI u))]) rfl ?_
        refine j_goto C dX8_layReached_34 (tgt := 2) (by decide) ?_
        refine j_lv [1, 2, 0] rfl ?_
        refine ih2 _ (by omega) ?_
        · omega
      · skip
        have q22 := (kn_nne (a := c) (b := ap) (by omega) (by omega)).mp q22
        refine j_iconst C dX8_layReached_25 (v := (nI 1)) kc_i_1 ?_
        refine j_goto C dX8_layReached_26 (tgt := 30) (by decide) ?_
        refine j_zastoreN C rw_ c rfl 4 rfl (by omega) (by decide) (w' := [(h8, cO 8 [.int rf, .ref rv, .ref rn, .ref rnw, .ref rt, .ref rd, .int (nI na), .int (nI nx), .ref rk, .ref rik, .ref rdk, .ref rre, .ref rle, .ref rhe, .ref rth, .ref rpa, .ref ror, .int bv, .int bo]), (rn, cI (xT X) 600 (fun j => nI (near4 j))), (rnw, cI (xT X) 37 (rowF ac ap ash an aob arq)), (rdk, cZ (xT X) 15300 (fun j => bI (dk j))), (rre, cZ (xT X) 9150 (upd (fun j => bI (flB (rcP aob ac ap) re (c) j)) c (vp_nar .boolean (nI 1))))]) rfl dX8_layReached_30 ?_
        refine j_extZ C (fun j => bI (flB (rcP aob ac ap) re (c + 1) j)) 4 rfl (fun j hj => ?_) (w' := [(h8, cO 8 [.int rf, .ref rv, .ref rn, .ref rnw, .ref rt, .ref rd, .int (nI na), .int (nI nx), .ref rk, .ref rik, .ref rdk, .ref rre, .ref rle, .ref rhe, .ref rth, .ref rpa, .ref ror, .int bv, .int bo]), (rn, cI (xT X) 600 (fun j => nI (near4 j))), (rnw, cI (xT X) 37 (rowF ac ap ash an aob arq)), (rdk, cZ (xT X) 15300 (fun j => bI (dk j))), (rre, cZ (xT X) 9150 (fun j => bI (flB (rcP aob ac ap) re (c + 1) j)))]) rfl ?_
        · exact flB_s (by rw [rcP_0 (by omega)]; first | (rw [decide_eq_true q22]; exact bI_n1) | (rw [decide_eq_false q22]; exact bI_n0)) j
        refine j_iinc C dX8_layReached_31 (q := 2) (v := (nI (c + 1))) rfl (kc_inc c) (by decide) (lv' := [(2, .int (nI (c + 1))), (0, .ref h8), (1, .int (nI u))]) rfl ?_
        refine j_goto C dX8_layReached_34 (tgt := 2) (by decide) ?_
        refine j_lv [1, 2, 0] rfl ?_
        refine ih2 _ (by omega) ?_
        · omega
