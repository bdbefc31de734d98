/-! THE MODEL: when a request is finished -/
theorem bI_vp (b : Bool) : vp_nar .boolean (bI b) = bI b := by cases b <;> decide +kernel
set_option maxHeartbeats 4000000 in
set_option maxRecDepth 100000 in
/-- finish(cell, from, i) -/
theorem c_X8_finish (l : Launch) (T : jj_T) (h8 rv rn rnw rt rd rk rik rdk rre rle rhe rth rpa ror na nx : Nat) (rf bv bo : Int32) (ac ap an : Nat) (ash : Bool) (aob arq : Nat → Int32) (ce fr i tg e : Nat) (dk he th : Nat → Bool) (hce : ce < 150) (hfr : fr ≤ 60) (hi : i < 4) (htg : arq (3 * i) = nI tg ∧ tg < 150) (hex : arq (3 * i + 1) = nI e ∧ 1 ≤ e ∧ e ≤ 20) (hdk : ∀ t, t ≤ 60 → ∀ c, c < 150 → dk (150 * t + c) = !br aob c (ac + t)) : jM l T yX8_finish wsX8_finish { frames := 1, cells := 0, slots := 0, locals := 25 } [.ref h8, .int (nI ce), .int (nI fr), .int (nI i)] [(h8, cO 8 [.int rf, .ref rv, .ref rn, .ref rnw, .ref rt, .ref rd, .int (nI na), .int (nI nx), .ref rk, .ref rik, .ref rdk, .ref rre, .ref rle, .ref rhe, .ref rth, .ref rpa, .ref ror, .int bv, .int bo]), (rn, cI T 600 (fun j => nI (near4 j))), (rnw, cI T 37 (rowF ac ap ash an aob arq)), (rdk, cZ T 15300 (fun j => bI (dk j))), (rhe, cZ T 150 (fun j => bI (he j))), (rth, cZ T 150 (fun j => bI (th j)))] (fun v w1 => ∃ he' : Nat → Bool, ∃ th' : Nat → Bool, ∃ r : Int32, v = some (.int r) ∧ w1 = [(h8, cO 8 [.int rf, .ref rv, .ref rn, .ref rnw, .ref rt, .ref rd, .int (nI na), .int (nI nx), .ref rk, .ref rik, .ref rdk, .ref rre, .ref rle, .ref rhe, .ref rth, .ref rpa, .ref ror, .int bv, .int bo]), (rn, cI T 600 (fun j => nI (near4 j))), (rnw, cI T 37 (rowF ac ap ash an aob arq)), (rdk, cZ T 15300 (fun j => bI (dk j))), (rhe, cZ T 150 (fun j => bI (he' j))), (rth, cZ T 150 (fun j => bI (th' j)))] ∧ ((∃ f, r = nI f ∧ fr ≤ f ∧ f ≤ 60 ∧ fin_is aob (ac + fr) ce tg e (ac + 60) (nI (ac + f))) ∨ (r = -9 ∧ fin_is aob (ac + fr) ce tg e (ac + 60) (-9)))) := by
  refine jM.of (cc := cX8_finish) (maxL := 10) (ret := (some .int)) (by decide) rfl (Nat.le_of_ble_eq_true rfl) ?_
  intro X C rw_ hl hT hQ hnm
  subst hl; subst hT
  have hin8 : ∀ w ∈ u_ws RX8 TX8 19, w ∈ wsX8_finish := by decide +kernel
  have hl13 : Cond.fieldLink RX8 13 (TX8 2).1 (TX8 2).2.1 (TX8 2).2.2.1 ∈ wsX8_finish := by decide +kernel
  have hl16 : Cond.fieldLink RX8 16 (TX8 3).1 (TX8 3).2.1 (TX8 3).2.2.1 ∈ wsX8_finish := by decide +kernel
  have hl32 : Cond.fieldLink RX8 32 (TX8 10).1 (TX8 10).2.1 (TX8 10).2.2.1 ∈ wsX8_finish := by decide +kernel
  have hl41 : Cond.fieldLink RX8 41 (TX8 13).1 (TX8 13).2.1 (TX8 13).2.2.1 ∈ wsX8_finish := by decide +kernel
  have hl44 : Cond.fieldLink RX8 44 (TX8 14).1 (TX8 14).2.1 (TX8 14).2.2.1 ∈ wsX8_finish := by decide +kernel
  show jj X 0 0 0 [(0, .ref h8), (1, .int (nI ce)), (2, .int (nI fr)), (3, .int (nI i))] [] [(h8, cO 8 [.int rf, .ref rv, .ref rn, .ref rnw, .ref rt, .ref rd, .int (nI na), .int (nI nx), .ref rk, .ref rik, .ref rdk, .ref rre, .ref rle, .ref rhe, .ref rth, .ref rpa, .ref ror, .int bv, .int bo]), (rn, cI (xT X) 600 (fun j => nI (near4 j))), (rnw, cI (xT X) 37 (rowF ac ap ash an aob arq)), (rdk, cZ (xT X) 15300 (fun j => bI (dk j))), (rhe, cZ (xT X) 150 (fun j => bI (he j))), (rth, cZ (xT X) 150 (fun j => bI (th j)))]
  refine j_aload_n C dX8_finish_0 0 rfl rfl ?_
  refine j_get C (hin8) (ci := 8) rfl 3 (by decide) (hl16) 0 rfl (v := .ref rnw) rfl dX8_finish_1 ?_
  refine j_bipush C dX8_finish_4 (v := (nI 25)) kc_b_25 ?_
  refine j_iconst C dX8_finish_6 (v := (nI 3)) kc_i_3 ?_
  refine j_iload_n C dX8_finish_7 3 rfl rfl ?_
  refine j_imul C dX8_finish_8 (v := (nI (3 * i))) (pk_mul _ _) ?_
  refine j_iadd C dX8_finish_9 (v := (nI (25 + 3 * i))) (nI_add _ _) ?_
  refine j_ialoadN C (25 + 3 * i) rfl 2 rfl (by omega) (by decide) dX8_finish_10 ?_
  refine j_ieq (nI tg) (by rw [row_rq]; exact htg.1) ?_
  refine j_istore C dX8_finish_11 (by decide) (lv' := [(4, .int (nI tg)), (0, .ref h8), (1, .int (nI ce)), (2, .int (nI fr)), (3, .int (nI i))]) rfl ?_
  refine j_aload_n C dX8_finish_13 1 rfl rfl ?_
  refine j_get C (hin8) (ci := 8) rfl 3 (by decide) (hl16) 0 rfl (v := .ref rnw) rfl dX8_finish_14 ?_
  refine j_bipush C dX8_finish_17 (v := (nI 25)) kc_b_25 ?_
  refine j_iconst C dX8_finish_19 (v := (nI 3)) kc_i_3 ?_
  refine j_iload_n C dX8_finish_20 4 rfl rfl ?_
  refine j_imul C dX8_finish_21 (v := (nI (3 * i))) (pk_mul _ _) ?_
  refine j_iadd C dX8_finish_22 (v := (nI (25 + 3 * i))) (nI_add _ _) ?_
  refine j_iconst C dX8_finish_23 (v := (nI 1)) kc_i_1 ?_
  refine j_iadd C dX8_finish_24 (v := (nI (25 + 3 * i + 1))) (nI_add _ _) ?_
  refine j_ialoadN C (25 + 3 * i + 1) rfl 2 rfl (by omega) (by decide) dX8_finish_25 ?_
  refine j_ieq (nI e) (by rw [show 25 + 3 * i + 1 = 25 + (3 * i + 1) by omega, row_rq]; exact hex.1) ?_
  refine j_istore C dX8_finish_26 (by decide) (lv' := [(5, .int (nI e)), (4, .int (nI tg)), (0, .ref h8), (1, .int (nI ce)), (2, .int (nI fr)), (3, .int (nI i))]) rfl ?_
  rw [show cZ (xT X) 150 (fun j => bI (he j)) = cZ (xT X) 150 (fun j => bI (flB (fun c => decide (c = ce)) he 0 j)) from by rw [flB_0]]
  show jj X 0 0 28 [(5, .int (nI e)), (4, .int (nI tg)), (0, .ref h8), (1, .int (nI ce)), (2, .int (nI fr)), (3, .int (nI i))] [] [(h8, cO 8 [.int rf, .ref rv, .ref rn, .ref rnw, .ref rt, .ref rd, .int (nI na), .int (nI nx), .ref rk, .ref rik, .ref rdk, .ref rre, .ref rle, .ref rhe, .ref rth, .ref rpa, .ref ror, .int bv, .int bo]), (rn, cI (xT X) 600 (fun j => nI (near4 j))), (rnw, cI (xT X) 37 (rowF ac ap ash an aob arq)), (rdk, cZ (xT X) 15300 (fun j => bI (dk j))), (rhe, cZ (xT X) 150 (fun j => bI (flB (fun c => decide (c = ce)) he 0 j))), (rth, cZ (xT X) 150 (fun j => bI (th j)))]
  refine j_iconst C dX8_finish_28 (v := (nI 0)) kc_i_0 ?_
  refine j_istore C dX8_finish_29 (by decide) (lv' := [(6, .int (nI 0)), (5, .int (nI e)), (4, .int (nI tg)), (0, .ref h8), (1, .int (nI ce)), (2, .int (nI fr)), (3, .int (nI i))]) rfl ?_
  refine j_lv [3, 4, 5, 6, 2, 1, 0] rfl ?_
  suffices hc31 : ∀ (mm : Nat) (c : Nat), 150 - c < mm → (c ≤ 150) → jj X 0 0 31 [(0, .ref h8), (1, .int (nI ce)), (2, .int (nI fr)), (3, .int (nI i)), (4, .int (nI tg)), (5, .int (nI e)), (6, .int (nI c))] [] [(h8, cO 8 [.int rf, .ref rv, .ref rn, .ref rnw, .ref rt, .ref rd, .int (nI na), .int (nI nx), .ref rk, .ref rik, .ref rdk, .ref rre, .ref rle, .ref rhe, .ref rth, .ref rpa, .ref ror, .int bv, .int bo]), (rn, cI (xT X) 600 (fun j => nI (near4 j))), (rnw, cI (xT X) 37 (rowF ac ap ash an aob arq)), (rdk, cZ (xT X) 15300 (fun j => bI (dk j))), (rhe, cZ (xT X) 150 (fun j => bI (flB (fun c => decide (c = ce)) he c j))), (rth, cZ (xT X) 150 (fun j => bI (th j)))] by
    refine hc31 _ _ (Nat.lt_succ_self _) ?_
    · omega
  intro mm
  induction mm with
  | zero => intro c hm; exact absurd hm (Nat.not_lt_zero _)
  | succ mm ih31 =>
    intro c hm31 hc
    refine j_iload C dX8_finish_31 6 rfl ?_
    refine j_sipush C dX8_finish_33 (v := (nI 150)) kc_s_150 ?_
    refine j_icmp_ge C dX8_finish_36 (tgt := 63) (by decide) (fun q36 => ?_) (fun q36 => ?_)
    · skip
      have q36 := (kn_ge (a := c) (b := 150) (by omega) (by omega)).mp q36
      refine j_extZ C (fun j => bI (rc aob (ac + fr) ce (0) j)) 4 rfl (fun j hj => ?_) (w' := [(h8, cO 8 [.int rf, .ref rv, .ref rn, .ref rnw, .ref rt, .ref rd, .int (nI na), .int (nI nx), .ref rk, .ref rik, .ref rdk, .ref rre, .ref rle, .ref rhe, .ref rth, .ref rpa, .ref ror, .int bv, .int bo]), (rn, cI (xT X) 600 (fun j => nI (near4 j))), (rnw, cI (xT X) 37 (rowF ac ap ash an aob arq)), (rdk, cZ (xT X) 15300 (fun j => bI (dk j))), (rhe, cZ (xT X) 150 (fun j => bI (rc aob (ac + fr) ce (0) j))), (rth, cZ (xT X) 150 (fun j => bI (th j)))]) rfl ?_
      · show bI (flB (fun c => decide (c = ce)) he c j) = bI (decide (j = ce)); rw [flB_v (by omega)]
      refine j_iload_n C dX8_finish_63 2 rfl rfl ?_
      refine j_istore C dX8_finish_64 (by decide) (lv' := [(6, .int (nI fr)), (0, .ref h8), (1, .int (nI ce)), (2, .int (nI fr)), (3, .int (nI i)), (4, .int (nI tg)), (5, .int (nI e))]) rfl ?_
      refine j_lv [1, 2, 3, 4, 5, 6, 0] rfl ?_
      suffices hc66 : ∀ (mm : Nat) (k : Nat) (th : Nat → Bool), 61 - k < mm → (fr + k ≤ 61) → (∀ j, j < k → fok aob (ac + fr) ce tg e j = false) → jj X 0 0 66 [(0, .ref h8), (1, .int (nI ce)), (2, .int (nI fr)), (3, .int (nI i)), (4, .int (nI tg)), (5, .int (nI e)), (6, .int (nI (fr + k)))] [] [(h8, cO 8 [.int rf, .ref rv, .ref rn, .ref rnw, .ref rt, .ref rd, .int (nI na), .int (nI nx), .ref rk, .ref rik, .ref rdk, .ref rre, .ref rle, .ref rhe, .ref rth, .ref rpa, .ref ror, .int bv, .int bo]), (rn, cI (xT X) 600 (fun j => nI (near4 j))), (rnw, cI (xT X) 37 (rowF ac ap ash an aob arq)), (rdk, cZ (xT X) 15300 (fun j => bI (dk j))), (rhe, cZ (xT X) 150 (fun j => bI (rc aob (ac + fr) ce (k) j))), (rth, cZ (xT X) 150 (fun j => bI (th j)))] by
        refine hc66 _ 0 th (Nat.lt_succ_self _) ?_ ?_
        · omega
        · intro j hj; omega
      intro mm
      induction mm with
      | zero => intro k th hm; exact absurd hm (Nat.not_lt_zero _)
      | succ mm ih66 =>
        intro k th hm66 hk hf
        refine j_iload C dX8_finish_66 6 rfl ?_
        refine j_iload C dX8_finish_68 5 rfl ?_
        refine j_iadd C dX8_finish_70 (v := (nI (fr + k + e))) (nI_add _ _) ?_
        refine j_bipush C dX8_finish_71 (v := (nI 60)) kc_b_60 ?_
        refine j_icmp_gt C dX8_finish_73 (tgt := 254) (by decide) (fun q73 => ?_) (fun q73 => ?_)
        · skip
          have q73 := (kn_gt (a := fr + k + e) (b := 60) (by omega) (by omega)).mp q73
          refine j_bipush C dX8_finish_254 (v := (-9)) kc_b_m9 ?_
          refine j_iretM C rw_ hQ (by decide) (by decide) rfl ?_ dX8_finish_256
          exact ⟨_, _, _, rfl, rfl, Or.inr ⟨rfl, Or.inr ⟨fun j h1 h2 => hf j (by omega), rfl⟩⟩⟩
        · skip
          have q73 := (kn_ngt (a := fr + k + e) (b := 60) (by omega) (by omega)).mp q73
          have hc108 : (fok aob (ac + fr) ce tg e k = false) → jj X 0 0 108 [(0, .ref h8), (1, .int (nI ce)), (2, .int (nI fr)), (3, .int (nI i)), (4, .int (nI tg)), (5, .int (nI e)), (6, .int (nI (fr + k)))] [] [(h8, cO 8 [.int rf, .ref rv, .ref rn, .ref rnw, .ref rt, .ref rd, .int (nI na), .int (nI nx), .ref rk, .ref rik, .ref rdk, .ref rre, .ref rle, .ref rhe, .ref rth, .ref rpa, .ref ror, .int bv, .int bo]), (rn, cI (xT X) 600 (fun j => nI (near4 j))), (rnw, cI (xT X) 37 (rowF ac ap ash an aob arq)), (rdk, cZ (xT X) 15300 (fun j => bI (dk j))), (rhe, cZ (xT X) 150 (fun j => bI (rc aob (ac + fr) ce (k) j))), (rth, cZ (xT X) 150 (fun j => bI (th j)))] := by
            intro hfk
            refine j_iconst C dX8_finish_108 (v := (nI 0)) kc_i_0 ?_
            rw [show cZ (xT X) 150 (fun j => bI (th j)) = cZ (xT X) 150 (fun j => bI (flB (rc aob (ac + fr) ce (k + 1)) th 0 j)) from by rw [flB_0]]
            show jj X 0 0 109 [(0, .ref h8), (1, .int (nI ce)), (2, .int (nI fr)), (3, .int (nI i)), (4, .int (nI tg)), (5, .int (nI e)), (6, .int (nI (fr + k)))] [.int (nI 0)] [(h8, cO 8 [.int rf, .ref rv, .ref rn, .ref rnw, .ref rt, .ref rd, .int (nI na), .int (nI nx), .ref rk, .ref rik, .ref rdk, .ref rre, .ref rle, .ref rhe, .ref rth, .ref rpa, .ref ror, .int bv, .int bo]), (rn, cI (xT X) 600 (fun j => nI (near4 j))), (rnw, cI (xT X) 37 (rowF ac ap ash an aob arq)), (rdk, cZ (xT X) 15300 (fun j => bI (dk j))), (rhe, cZ (xT X) 150 (fun j => bI (rc aob (ac + fr) ce (k) j))), (rth, cZ (xT X) 150 (fun j => bI (flB (rc aob (ac + fr) ce (k + 1)) th 0 j)))]
            refine j_istore C dX8_finish_109 (by decide) (lv' := [(7, .int (nI 0)), (0, .ref h8), (1, .int (nI ce)), (2, .int (nI fr)), (3, .int (nI i)), (4, .int (nI tg)), (5, .int (nI e)), (6, .int (nI (fr + k)))]) rfl ?_
            refine j_lv [1, 2, 3, 4, 5, 6, 7, 0] rfl ?_
            suffices hc111 : ∀ (mm : Nat) (c : Nat), 150 - c < mm → (c ≤ 150) → jj X 0 0 111 [(0, .ref h8), (1, .int (nI ce)), (2, .int (nI fr)), (3, .int (nI i)), (4, .int (nI tg)), (5, .int (nI e)), (6, .int (nI (fr + k))), (7, .int (nI c))] [] [(h8, cO 8 [.int rf, .ref rv, .ref rn, .ref rnw, .ref rt, .ref rd, .int (nI na), .int (nI nx), .ref rk, .ref rik, .ref rdk, .ref rre, .ref rle, .ref rhe, .ref rth, .ref rpa, .ref ror, .int bv, .int bo]), (rn, cI (xT X) 600 (fun j => nI (near4 j))), (rnw, cI (xT X) 37 (rowF ac ap ash an aob arq)), (rdk, cZ (xT X) 15300 (fun j => bI (dk j))), (rhe, cZ (xT X) 150 (fun j => bI (rc aob (ac + fr) ce (k) j))), (rth, cZ (xT X) 150 (fun j => bI (flB (rc aob (ac + fr) ce (k + 1)) th c j)))] by
              refine hc111 _ _ (Nat.lt_succ_self _) ?_
              · omega
            intro mm
            induction mm with
            | zero => intro c hm; exact absurd hm (Nat.not_lt_zero _)
            | succ mm ih111 =>
              intro c hm111 hc
              refine j_iload C dX8_finish_111 7 rfl ?_
              refine j_sipush C dX8_finish_113 (v := (nI 150)) kc_s_150 ?_
              refine j_icmp_ge C dX8_finish_116 (tgt := 217) (by decide) (fun q116 => ?_) (fun q116 => ?_)
              · skip
                have q116 := (kn_ge (a := c) (b := 150) (by omega) (by omega)).mp q116
                have e9 : flB (rc aob (ac + fr) ce (k + 1)) th c = flB (rc aob (ac + fr) ce (k + 1)) th 150 := by rw [show c = 150 by omega]
                rw [e9]
                show jj X 0 0 217 [(0, .ref h8), (1, .int (nI ce)), (2, .int (nI fr)), (3, .int (nI i)), (4, .int (nI tg)), (5, .int (nI e)), (6, .int (nI (fr + k))), (7, .int (nI c))] [] [(h8, cO 8 [.int rf, .ref rv, .ref rn, .ref rnw, .ref rt, .ref rd, .int (nI na), .int (nI nx), .ref rk, .ref rik, .ref rdk, .ref rre, .ref rle, .ref rhe, .ref rth, .ref rpa, .ref ror, .int bv, .int bo]), (rn, cI (xT X) 600 (fun j => nI (near4 j))), (rnw, cI (xT X) 37 (rowF ac ap ash an aob arq)), (rdk, cZ (xT X) 15300 (fun j => bI (dk j))), (rhe, cZ (xT X) 150 (fun j => bI (rc aob (ac + fr) ce (k) j))), (rth, cZ (xT X) 150 (fun j => bI (flB (rc aob (ac + fr) ce (k + 1)) th 150 j)))]
                refine j_iconst C dX8_finish_217 (v := (nI 0)) kc_i_0 ?_
                rw [show cZ (xT X) 150 (fun j => bI (rc aob (ac + fr) ce (k) j)) = cZ (xT X) 150 (fun j => bI (flB (rc aob (ac + fr) ce (k + 1)) (rc aob (ac + fr) ce (k)) 0 j)) from by rw [flB_0]]
                show jj X 0 0 218 [(0, .ref h8), (1, .int (nI ce)), (2, .int (nI fr)), (3, .int (nI i)), (4, .int (nI tg)), (5, .int (nI e)), (6, .int (nI (fr + k))), (7, .int (nI c))] [.int (nI 0)] [(h8, cO 8 [.int rf, .ref rv, .ref rn, .ref rnw, .ref rt, .ref rd, .int (nI na), .int (nI nx), .ref rk, .ref rik, .ref rdk, .ref rre, .ref rle, .ref rhe, .ref rth, .ref rpa, .ref ror, .int bv, .int bo]), (rn, cI (xT X) 600 (fun j => nI (near4 j))), (rnw, cI (xT X) 37 (rowF ac ap ash an aob arq)), (rdk, cZ (xT X) 15300 (fun j => bI (dk j))), (rhe, cZ (xT X) 150 (fun j => bI (flB (rc aob (ac + fr) ce (k + 1)) (rc aob (ac + fr) ce (k)) 0 j))), (rth, cZ (xT X) 150 (fun j => bI (flB (rc aob (ac + fr) ce (k + 1)) th 150 j)))]
                refine j_istore C dX8_finish_218 (by decide) (lv' := [(7, .int (nI 0)), (0, .ref h8), (1, .int (nI ce)), (2, .int (nI fr)), (3, .int (nI i)), (4, .int (nI tg)), (5, .int (nI e)), (6, .int (nI (fr + k)))]) rfl ?_
                refine j_lv [1, 2, 3, 4, 5, 6, 7, 0] rfl ?_
                suffices hc220 : ∀ (mm : Nat) (c : Nat), 150 - c < mm → (c ≤ 150) → jj X 0 0 220 [(0, .ref h8), (1, .int (nI ce)), (2, .int (nI fr)), (3, .int (nI i)), (4, .int (nI tg)), (5, .int (nI e)), (6, .int (nI (fr + k))), (7, .int (nI c))] [] [(h8, cO 8 [.int rf, .ref rv, .ref rn, .ref rnw, .ref rt, .ref rd, .int (nI na), .int (nI nx), .ref rk, .ref rik, .ref rdk, .ref rre, .ref rle, .ref rhe, .ref rth, .ref rpa, .ref ror, .int bv, .int bo]), (rn, cI (xT X) 600 (fun j => nI (near4 j))), (rnw, cI (xT X) 37 (rowF ac ap ash an aob arq)), (rdk, cZ (xT X) 15300 (fun j => bI (dk j))), (rhe, cZ (xT X) 150 (fun j => bI (flB (rc aob (ac + fr) ce (k + 1)) (rc aob (ac + fr) ce (k)) c j))), (rth, cZ (xT X) 150 (fun j => bI (flB (rc aob (ac + fr) ce (k + 1)) th 150 j)))] by
                  refine hc220 _ _ (Nat.lt_succ_self _) ?_
                  · omega
                intro mm
                induction mm with
                | zero => intro c hm; exact absurd hm (Nat.not_lt_zero _)
                | succ mm ih220 =>
                  intro c hm220 hc
                  refine j_iload C dX8_finish_220 7 rfl ?_
                  refine j_sipush C dX8_finish_222 (v := (nI 150)) kc_s_150 ?_
                  refine j_icmp_ge C dX8_finish_225 (tgt := 248) (by decide) (fun q225 => ?_) (fun q225 => ?_)
                  · skip
                    have q225 := (kn_ge (a := c) (b := 150) (by omega) (by omega)).mp q225
                    refine j_extZ C (fun j => bI (rc aob (ac + fr) ce (k + 1) j)) 4 rfl (fun j hj => ?_) (w' := [(h8, cO 8 [.int rf, .ref rv, .ref rn, .ref rnw, .ref rt, .ref rd, .int (nI na), .int (nI nx), .ref rk, .ref rik, .ref rdk, .ref rre, .ref rle, .ref rhe, .ref rth, .ref rpa, .ref ror, .int bv, .int bo]), (rn, cI (xT X) 600 (fun j => nI (near4 j))), (rnw, cI (xT X) 37 (rowF ac ap ash an aob arq)), (rdk, cZ (xT X) 15300 (fun j => bI (dk j))), (rhe, cZ (xT X) 150 (fun j => bI (rc aob (ac + fr) ce (k + 1) j))), (rth, cZ (xT X) 150 (fun j => bI (flB (rc aob (ac + fr) ce (k + 1)) th 150 j)))]) rfl ?_
                    · rw [flB_v (by omega)]
                    refine j_iinc C dX8_finish_248 (q := 6) (v := (nI (fr + k + 1))) rfl (kc_inc (fr + k)) (by decide) (lv' := [(6, .int (nI (fr + k + 1))), (0, .ref h8), (1, .int (nI ce)), (2, .int (nI fr)), (3, .int (nI i)), (4, .int (nI tg)), (5, .int (nI e)), (7, .int (nI c))]) rfl ?_
                    refine j_goto C dX8_finish_251 (tgt := 66) (by decide) ?_
                    refine j_lv [1, 2, 3, 4, 5, 6, 0] rfl ?_
                    refine ih66 (k + 1) (flB (rc aob (ac + fr) ce (k + 1)) th 150) (by omega) ?_ ?_
                    · omega
                    · intro j hj
                      by_cases h : j = k
                      · rw [h]; exact hfk
                      · exact hf j (by omega)
                  · skip
                    have q225 := (kn_nge (a := c) (b := 150) (by omega) (by omega)).mp q225
                    refine j_aload_n C dX8_finish_228 0 rfl rfl ?_
                    refine j_get C (hin8) (ci := 8) rfl 13 (by decide) (hl41) 0 rfl (v := .ref rhe) rfl dX8_finish_229 ?_
                    refine j_iload C dX8_finish_232 7 rfl ?_
                    refine j_aload_n C dX8_finish_234 0 rfl rfl ?_
                    refine j_get C (hin8) (ci := 8) rfl 14 (by decide) (hl44) 0 rfl (v := .ref rth) rfl dX8_finish_235 ?_
                    refine j_iload C dX8_finish_238 7 rfl ?_
                    refine j_zaloadN C c rfl 5 rfl (by omega) (by decide) dX8_finish_240 ?_
                    rw [show ((flB (rc aob (ac + fr) ce (k + 1)) th 150) c) = rc aob (ac + fr) ce (k + 1) c from by rw [flB_v (by omega)]]
                    show jj X 0 0 241 [(0, .ref h8), (1, .int (nI ce)), (2, .int (nI fr)), (3, .int (nI i)), (4, .int (nI tg)), (5, .int (nI e)), (6, .int (nI (fr + k))), (7, .int (nI c))] [.int (bI (rc aob (ac + fr) ce (k + 1) c)), .int (nI c), .ref rhe] [(h8, cO 8 [.int rf, .ref rv, .ref rn, .ref rnw, .ref rt, .ref rd, .int (nI na), .int (nI nx), .ref rk, .ref rik, .ref rdk, .ref rre, .ref rle, .ref rhe, .ref rth, .ref rpa, .ref ror, .int bv, .int bo]), (rn, cI (xT X) 600 (fun j => nI (near4 j))), (rnw, cI (xT X) 37 (rowF ac ap ash an aob arq)), (rdk, cZ (xT X) 15300 (fun j => bI (dk j))), (rhe, cZ (xT X) 150 (fun j => bI (flB (rc aob (ac + fr) ce (k + 1)) (rc aob (ac + fr) ce (k)) c j))), (rth, cZ (xT X) 150 (fun j => bI (flB (rc aob (ac + fr) ce (k + 1)) th 150 j)))]
                    refine j_zastoreN C rw_ c rfl 4 rfl (by omega) (by decide) (w' := [(h8, cO 8 [.int rf, .ref rv, .ref rn, .ref rnw, .ref rt, .ref rd, .int (nI na), .int (nI nx), .ref rk, .ref rik, .ref rdk, .ref rre, .ref rle, .ref rhe, .ref rth, .ref rpa, .ref ror, .int bv, .int bo]), (rn, cI (xT X) 600 (fun j => nI (near4 j))), (rnw, cI (xT X) 37 (rowF ac ap ash an aob arq)), (rdk, cZ (xT X) 15300 (fun j => bI (dk j))), (rhe, cZ (xT X) 150 (upd (fun j => bI (flB (rc aob (ac + fr) ce (k + 1)) (rc aob (ac + fr) ce (k)) c j)) c (vp_nar .boolean (bI (rc aob (ac + fr) ce (k + 1) c))))), (rth, cZ (xT X) 150 (fun j => bI (flB (rc aob (ac + fr) ce (k + 1)) th 150 j)))]) rfl dX8_finish_241 ?_
                    refine j_extZ C (fun j => bI (flB (rc aob (ac + fr) ce (k + 1)) (rc aob (ac + fr) ce (k)) (c + 1) j)) 4 rfl (fun j hj => ?_) (w' := [(h8, cO 8 [.int rf, .ref rv, .ref rn, .ref rnw, .ref rt, .ref rd, .int (nI na), .int (nI nx), .ref rk, .ref rik, .ref rdk, .ref rre, .ref rle, .ref rhe, .ref rth, .ref rpa, .ref ror, .int bv, .int bo]), (rn, cI (xT X) 600 (fun j => nI (near4 j))), (rnw, cI (xT X) 37 (rowF ac ap ash an aob arq)), (rdk, cZ (xT X) 15300 (fun j => bI (dk j))), (rhe, cZ (xT X) 150 (fun j => bI (flB (rc aob (ac + fr) ce (k + 1)) (rc aob (ac + fr) ce (k)) (c + 1) j))), (rth, cZ (xT X) 150 (fun j => bI (flB (rc aob (ac + fr) ce (k + 1)) th 150 j)))]) rfl ?_
                    · exact flB_s (bI_vp _) j
                    refine j_iinc C dX8_finish_242 (q := 7) (v := (nI (c + 1))) rfl (kc_inc c) (by decide) (lv' := [(7, .int (nI (c + 1))), (0, .ref h8), (1, .int (nI ce)), (2, .int (nI fr)), (3, .int (nI i)), (4, .int (nI tg)), (5, .int (nI e)), (6, .int (nI (fr + k)))]) rfl ?_
                    refine j_goto C dX8_finish_245 (tgt := 220) (by decide) ?_
                    refine j_lv [1, 2, 3, 4, 5, 6, 7, 0] rfl ?_
                    refine ih220 _ (by omega) ?_
                    · omega
              · skip
                have q116 := (kn_nge (a := c) (b := 150) (by omega) (by omega)).mp q116
                refine j_aload_n C dX8_finish_119 0 rfl rfl ?_
                refine j_get C (hin8) (ci := 8) rfl 13 (by decide) (hl41) 0 rfl (v := .ref rhe) rfl dX8_finish_120 ?_
                refine j_iload C dX8_finish_123 7 rfl ?_
                refine j_zaloadN C c rfl 4 rfl (by omega) (by decide) dX8_finish_125 ?_
                refine j_istore C dX8_finish_126 (by decide) (lv' := [(8, .int (bI ((rc aob (ac + fr) ce (k)) c))), (0, .ref h8), (1, .int (nI ce)), (2, .int (nI fr)), (3, .int (nI i)), (4, .int (nI tg)), (5, .int (nI e)), (6, .int (nI (fr + k))), (7, .int (nI c))]) rfl ?_
                refine j_iconst C dX8_finish_128 (v := (nI 0)) kc_i_0 ?_
                refine j_istore C dX8_finish_129 (by decide) (lv' := [(9, .int (nI 0)), (8, .int (bI ((rc aob (ac + fr) ce (k)) c))), (0, .ref h8), (1, .int (nI ce)), (2, .int (nI fr)), (3, .int (nI i)), (4, .int (nI tg)), (5, .int (nI e)), (6, .int (nI (fr + k))), (7, .int (nI c))]) rfl ?_
                refine j_lv [2, 3, 4, 5, 6, 7, 8, 9, 1, 0] rfl ?_
                suffices hc131 : ∀ (mm : Nat) (kk : Nat) (is : Bool), 4 - kk < mm → (kk ≤ 4) → (nborN (rc aob (ac + fr) ce (k)) c kk = is) → jj X 0 0 131 [(0, .ref h8), (1, .int (nI ce)), (2, .int (nI fr)), (3, .int (nI i)), (4, .int (nI tg)), (5, .int (nI e)), (6, .int (nI (fr + k))), (7, .int (nI c)), (8, .int (bI is)), (9, .int (nI kk))] [] [(h8, cO 8 [.int rf, .ref rv, .ref rn, .ref rnw, .ref rt, .ref rd, .int (nI na), .int (nI nx), .ref rk, .ref rik, .ref rdk, .ref rre, .ref rle, .ref rhe, .ref rth, .ref rpa, .ref ror, .int bv, .int bo]), (rn, cI (xT X) 600 (fun j => nI (near4 j))), (rnw, cI (xT X) 37 (rowF ac ap ash an aob arq)), (rdk, cZ (xT X) 15300 (fun j => bI (dk j))), (rhe, cZ (xT X) 150 (fun j => bI (rc aob (ac + fr) ce (k) j))), (rth, cZ (xT X) 150 (fun j => bI (flB (rc aob (ac + fr) ce (k + 1)) th c j)))] by
                  refine hc131 _ _ _ (Nat.lt_succ_self _) ?_ ?_
                  · omega
                  · rfl
                intro mm
                induction mm with
                | zero => intro kk is hm; exact absurd hm (Nat.not_lt_zero _)
                | succ mm ih131 =>
                  intro kk is hm131 hkk hb
                  refine j_iload C dX8_finish_131 9 rfl ?_
                  refine j_iconst C dX8_finish_133 (v := (nI 4)) kc_i_4 ?_
                  refine j_icmp_ge C dX8_finish_134 (tgt := 175) (by decide) (fun q134 => ?_) (fun q134 => ?_)
                  · skip
                    have q134 := (kn_ge (a := kk) (b := 4) (by omega) (by omega)).mp q134
                    have hbe : nbor (rc aob (ac + fr) ce (k)) c = is := by unfold nbor; rw [← hb, show kk = 4 by omega]
                    refine j_aload_n C dX8_finish_175 0 rfl rfl ?_
                    refine j_get C (hin8) (ci := 8) rfl 14 (by decide) (hl44) 0 rfl (v := .ref rth) rfl dX8_finish_176 ?_
                    refine j_iload C dX8_finish_179 7 rfl ?_
                    refine j_iload C dX8_finish_181 8 rfl ?_
                    refine j_if_eq C dX8_finish_183 (tgt := 209) (by decide) (fun q183 => ?_) (fun q183 => ?_)
                    · skip
                      have q183 := (kb_eq).mp q183
                      refine j_iconst C dX8_finish_209 (v := (nI 0)) kc_i_0 ?_
                      refine j_zastoreN C rw_ c rfl 5 rfl (by omega) (by decide) (w' := [(h8, cO 8 [.int rf, .ref rv, .ref rn, .ref rnw, .ref rt, .ref rd, .int (nI na), .int (nI nx), .ref rk, .ref rik, .ref rdk, .ref rre, .ref rle, .ref rhe, .ref rth, .ref rpa, .ref ror, .int bv, .int bo]), (rn, cI (xT X) 600 (fun j => nI (near4 j))), (rnw, cI (xT X) 37 (rowF ac ap ash an aob arq)), (rdk, cZ (xT X) 15300 (fun j => bI (dk j))), (rhe, cZ (xT X) 150 (fun j => bI (rc aob (ac + fr) ce (k) j))), (rth, cZ (xT X) 150 (upd (fun j => bI (flB (rc aob (ac + fr) ce (k + 1)) th c j)) c (vp_nar .boolean (nI 0))))]) rfl dX8_finish_210 ?_
                      refine j_extZ C (fun j => bI (flB (rc aob (ac + fr) ce (k + 1)) th (c + 1) j)) 5 rfl (fun j hj => ?_) (w' := [(h8, cO 8 [.int rf, .ref rv, .ref rn, .ref rnw, .ref rt, .ref rd, .int (nI na), .int (nI nx), .ref rk, .ref rik, .ref rdk, .ref rre, .ref rle, .ref rhe, .ref rth, .ref rpa, .ref ror, .int bv, .int bo]), (rn, cI (xT X) 600 (fun j => nI (near4 j))), (rnw, cI (xT X) 37 (rowF ac ap ash an aob arq)), (rdk, cZ (xT X) 15300 (fun j => bI (dk j))), (rhe, cZ (xT X) 150 (fun j => bI (rc aob (ac + fr) ce (k) j))), (rth, cZ (xT X) 150 (fun j => bI (flB (rc aob (ac + fr) ce (k + 1)) th (c + 1) j)))]) rfl ?_
                      · exact flB_s (by rw [rc, hbe, show ac + fr + (k + 1) = ac + (fr + k + 1) by omega]; first | (rw [q183]; exact bI_n0) | (rw [q183, q202]; exact bI_n0) | (rw [q183, q202]; exact bI_n1)) j
                      refine j_iinc C dX8_finish_211 (q := 7) (v := (nI (c + 1))) rfl (kc_inc c) (by decide) (lv' := [(7, .int (nI (c + 1))), (0, .ref h8), (1, .int (nI ce)), (2, .int (nI fr)), (3, .int (nI i)), (4, .int (nI tg)), (5, .int (nI e)), (6, .int (nI (fr + k))), (8, .int (bI is)), (9, .int (nI kk))]) rfl ?_
                      refine j_goto C dX8_finish_214 (tgt := 111) (by decide) ?_
                      refine j_lv [1, 2, 3, 4, 5, 6, 7, 0] rfl ?_
                      refine ih111 _ (by omega) ?_
                      · omega
                    · skip
                      have q183 := (kb_neq).mp q183
                      refine j_aload_n C dX8_finish_186 0 rfl rfl ?_
                      refine j_get C (hin8) (ci := 8) rfl 10 (by decide) (hl32) 0 rfl (v := .ref rdk) rfl dX8_finish_187 ?_
                      refine j_sipush C dX8_finish_190 (v := (nI 150)) kc_s_150 ?_
                      refine j_iload C dX8_finish_193 6 rfl ?_
                      refine j_iconst C dX8_finish_195 (v := (nI 1)) kc_i_1 ?_
                      refine j_iadd C dX8_finish_196 (v := (nI (fr + k + 1))) (nI_add _ _) ?_
                      refine j_imul C dX8_finish_197 (v := (nI (150 * (fr + k + 1)))) (pk_mul _ _) ?_
                      refine j_iload C dX8_finish_198 7 rfl ?_
                      refine j_iadd C dX8_finish_200 (v := (nI (150 * (fr + k + 1) + c))) (nI_add _ _) ?_
                      refine j_zaloadN C (150 * (fr + k + 1) + c) rfl 3 rfl (by omega) (by decide) dX8_finish_201 ?_
                      rw [show (dk (150 * (fr + k + 1) + c)) = (!br aob c (ac + (fr + k + 1))) from by exact hdk (fr + k + 1) (by omega) c (by omega)]
                      show jj X 0 0 202 [(0, .ref h8), (1, .int (nI ce)), (2, .int (nI fr)), (3, .int (nI i)), (4, .int (nI tg)), (5, .int (nI e)), (6, .int (nI (fr + k))), (7, .int (nI c)), (8, .int (bI is)), (9, .int (nI kk))] [.int (bI (!br aob c (ac + (fr + k + 1)))), .int (nI c), .ref rth] [(h8, cO 8 [.int rf, .ref rv, .ref rn, .ref rnw, .ref rt, .ref rd, .int (nI na), .int (nI nx), .ref rk, .ref rik, .ref rdk, .ref rre, .ref rle, .ref rhe, .ref rth, .ref rpa, .ref ror, .int bv, .int bo]), (rn, cI (xT X) 600 (fun j => nI (near4 j))), (rnw, cI (xT X) 37 (rowF ac ap ash an aob arq)), (rdk, cZ (xT X) 15300 (fun j => bI (dk j))), (rhe, cZ (xT X) 150 (fun j => bI (rc aob (ac + fr) ce (k) j))), (rth, cZ (xT X) 150 (fun j => bI (flB (rc aob (ac + fr) ce (k + 1)) th c j)))]
                      refine j_if_eq C dX8_finish_202 (tgt := 209) (by decide) (fun q202 => ?_) (fun q202 => ?_)
                      · skip
                        have q202 := (kb_eq).mp q202
                        refine j_iconst C dX8_finish_209 (v := (nI 0)) kc_i_0 ?_
                        refine j_zastoreN C rw_ c rfl 5 rfl (by omega) (by decide) (w' := [(h8, cO 8 [.int rf, .ref rv, .ref rn, .ref rnw, .ref rt, .ref rd, .int (nI na), .int (nI nx), .ref rk, .ref rik, .ref rdk, .ref rre, .ref rle, .ref rhe, .ref rth, .ref rpa, .ref ror, .int bv, .int bo]), (rn, cI (xT X) 600 (fun j => nI (near4 j))), (rnw, cI (xT X) 37 (rowF ac ap ash an aob arq)), (rdk, cZ (xT X) 15300 (fun j => bI (dk j))), (rhe, cZ (xT X) 150 (fun j => bI (rc aob (ac + fr) ce (k) j))), (rth, cZ (xT X) 150 (upd (fun j => bI (flB (rc aob (ac + fr) ce (k + 1)) th c j)) c (vp_nar .boolean (nI 0))))]) rfl dX8_finish_210 ?_
                        refine j_extZ C (fun j => bI (flB (rc aob (ac + fr) ce (k + 1)) th (c + 1) j)) 5 rfl (fun j hj => ?_) (w' := [(h8, cO 8 [.int rf, .ref rv, .ref rn, .ref rnw, .ref rt, .ref rd, .int (nI na), .int (nI nx), .ref rk, .ref rik, .ref rdk, .ref rre, .ref rle, .ref rhe, .ref rth, .ref rpa, .ref ror, .int bv, .int bo]), (rn, cI (xT X) 600 (fun j => nI (near4 j))), (rnw, cI (xT X) 37 (rowF ac ap ash an aob arq)), (rdk, cZ (xT X) 15300 (fun j => bI (dk j))), (rhe, cZ (xT X) 150 (fun j => bI (rc aob (ac + fr) ce (k) j))), (rth, cZ (xT X) 150 (fun j => bI (flB (rc aob (ac + fr) ce (k + 1)) th (c + 1) j)))]) rfl ?_
                        · exact flB_s (by rw [rc, hbe, show ac + fr + (k + 1) = ac + (fr + k + 1) by omega]; first | (rw [q183]; exact bI_n0) | (rw [q183, q202]; exact bI_n0) | (rw [q183, q202]; exact bI_n1)) j
                        refine j_iinc C dX8_finish_211 (q := 7) (v := (nI (c + 1))) rfl (kc_inc c) (by decide) (lv' := [(7, .int (nI (c + 1))), (0, .ref h8), (1, .int (nI ce)), (2, .int (nI fr)), (3, .int (nI i)), (4, .int (nI tg)), (5, .int (nI e)), (6, .int (nI (fr + k))), (8, .int (bI is)), (9, .int (nI kk))]) rfl ?_
                        refine j_goto C dX8_finish_214 (tgt := 111) (by decide) ?_
                        refine j_lv [1, 2, 3, 4, 5, 6, 7, 0] rfl ?_
                        refine ih111 _ (by omega) ?_
                        · omega
                      · skip
                        have q202 := (kb_neq).mp q202
                        refine j_iconst C dX8_finish_205 (v := (nI 1)) kc_i_1 ?_
                        refine j_goto C dX8_finish_206 (tgt := 210) (by decide) ?_
                        refine j_zastoreN C rw_ c rfl 5 rfl (by omega) (by decide) (w' := [(h8, cO 8 [.int rf, .ref rv, .ref rn, .ref rnw, .ref rt, .ref rd, .int (nI na), .int (nI nx), .ref rk, .ref rik, .ref rdk, .ref rre, .ref rle, .ref rhe, .ref rth, .ref rpa, .ref ror, .int bv, .int bo]), (rn, cI (xT X) 600 (fun j => nI (near4 j))), (rnw, cI (xT X) 37 (rowF ac ap ash an aob arq)), (rdk, cZ (xT X) 15300 (fun j => bI (dk j))), (rhe, cZ (xT X) 150 (fun j => bI (rc aob (ac + fr) ce (k) j))), (rth, cZ (xT X) 150 (upd (fun j => bI (flB (rc aob (ac + fr) ce (k + 1)) th c j)) c (vp_nar .boolean (nI 1))))]) rfl dX8_finish_210 ?_
                        refine j_extZ C (fun j => bI (flB (rc aob (ac + fr) ce (k + 1)) th (c + 1) j)) 5 rfl (fun j hj => ?_) (w' := [(h8, cO 8 [.int rf, .ref rv, .ref rn, .ref rnw, .ref rt, .ref rd, .int (nI na), .int (nI nx), .ref rk, .ref rik, .ref rdk, .ref rre, .ref rle, .ref rhe, .ref rth, .ref rpa, .ref ror, .int bv, .int bo]), (rn, cI (xT X) 600 (fun j => nI (near4 j))), (rnw, cI (xT X) 37 (rowF ac ap ash an aob arq)), (rdk, cZ (xT X) 15300 (fun j => bI (dk j))), (rhe, cZ (xT X) 150 (fun j => bI (rc aob (ac + fr) ce (k) j))), (rth, cZ (xT X) 150 (fun j => bI (flB (rc aob (ac + fr) ce (k + 1)) th (c + 1) j)))]) rfl ?_
                        · exact flB_s (by rw [rc, hbe, show ac + fr + (k + 1) = ac + (fr + k + 1) by omega]; first | (rw [q183]; exact bI_n0) | (rw [q183, q202]; exact bI_n0) | (rw [q183, q202]; exact bI_n1)) j
                        refine j_iinc C dX8_finish_211 (q := 7) (v := (nI (c + 1))) rfl (kc_inc c) (by decide) (lv' := [(7, .int (nI (c + 1))), (0, .ref h8), (1, .int (nI ce)), (2, .int (nI fr)), (3, .int (nI i)), (4, .int (nI tg)), (5, .int (nI e)), (6, .int (nI (fr + k))), (8, .int (bI is)), (9, .int (nI kk))]) rfl ?_
                        refine j_goto C dX8_finish_214 (tgt := 111) (by decide) ?_
                        refine j_lv [1, 2, 3, 4, 5, 6, 7, 0] rfl ?_
                        refine ih111 _ (by omega) ?_
                        · omega
                  · skip
                    have q134 := (kn_nge (a := kk) (b := 4) (by omega) (by omega)).mp q134
                    have hnk := (tb_near c (by omega) kk (by omega)).1
                    refine j_iload C dX8_finish_137 8 rfl ?_
                    refine j_if_ne C dX8_finish_139 (tgt := 162) (by decide) (fun q139 => ?_) (fun q139 => ?_)
                    · skip
                      have q139 := (kb_ne).mp q139
                      refine j_iconst C dX8_finish_162 (v := (nI 1)) kc_i_1 ?_
                      refine j_goto C dX8_finish_163 (tgt := 167) (by decide) ?_
                      show jj X 0 0 167 [(0, .ref h8), (1, .int (nI ce)), (2, .int (nI fr)), (3, .int (nI i)), (4, .int (nI tg)), (5, .int (nI e)), (6, .int (nI (fr + k))), (7, .int (nI c)), (8, .int (bI is)), (9, .int (nI kk))] [.int (bI true)] [(h8, cO 8 [.int rf, .ref rv, .ref rn, .ref rnw, .ref rt, .ref rd, .int (nI na), .int (nI nx), .ref rk, .ref rik, .ref rdk, .ref rre, .ref rle, .ref rhe, .ref rth, .ref rpa, .ref ror, .int bv, .int bo]), (rn, cI (xT X) 600 (fun j => nI (near4 j))), (rnw, cI (xT X) 37 (rowF ac ap ash an aob arq)), (rdk, cZ (xT X) 15300 (fun j => bI (dk j))), (rhe, cZ (xT X) 150 (fun j => bI (rc aob (ac + fr) ce (k) j))), (rth, cZ (xT X) 150 (fun j => bI (flB (rc aob (ac + fr) ce (k + 1)) th c j)))]
                      refine j_istore C dX8_finish_167 (by decide) (lv' := [(8, .int (bI true)), (0, .ref h8), (1, .int (nI ce)), (2, .int (nI fr)), (3, .int (nI i)), (4, .int (nI tg)), (5, .int (nI e)), (6, .int (nI (fr + k))), (7, .int (nI c)), (9, .int (nI kk))]) rfl ?_
                      refine j_iinc C dX8_finish_169 (q := 9) (v := (nI (kk + 1))) rfl (kc_inc kk) (by decide) (lv' := [(9, .int (nI (kk + 1))), (8, .int (bI true)), (0, .ref h8), (1, .int (nI ce)), (2, .int (nI fr)), (3, .int (nI i)), (4, .int (nI tg)), (5, .int (nI e)), (6, .int (nI (fr + k))), (7, .int (nI c))]) rfl ?_
                      refine j_goto C dX8_finish_172 (tgt := 131) (by decide) ?_
                      refine j_lv [2, 3, 4, 5, 6, 7, 8, 9, 1, 0] rfl ?_
                      refine ih131 _ _ (by omega) ?_ ?_
                      · omega
                      · rw [nborN, hb]; first | (rw [q139]; rfl) | (rw [q139, q159]; rfl)
                    · skip
                      have q139 := (kb_nne).mp q139
                      refine j_aload_n C dX8_finish_142 0 rfl rfl ?_
                      refine j_get C (hin8) (ci := 8) rfl 13 (by decide) (hl41) 0 rfl (v := .ref rhe) rfl dX8_finish_143 ?_
                      refine j_aload_n C dX8_finish_146 0 rfl rfl ?_
                      refine j_get C (hin8) (ci := 8) rfl 2 (by decide) (hl13) 0 rfl (v := .ref rn) rfl dX8_finish_147 ?_
                      refine j_iconst C dX8_finish_150 (v := (nI 4)) kc_i_4 ?_
                      refine j_iload C dX8_finish_151 7 rfl ?_
                      refine j_imul C dX8_finish_153 (v := (nI (4 * c))) (pk_mul _ _) ?_
                      refine j_iload C dX8_finish_154 9 rfl ?_
                      refine j_iadd C dX8_finish_156 (v := (nI (4 * c + kk))) (nI_add _ _) ?_
                      refine j_ialoadN C (4 * c + kk) rfl 1 rfl (by omega) (by decide) dX8_finish_157 ?_
                      refine j_zaloadN C (near4 (4 * c + kk)) rfl 4 rfl (by omega) (by decide) dX8_finish_158 ?_
                      refine j_if_eq C dX8_finish_159 (tgt := 166) (by decide) (fun q159 => ?_) (fun q159 => ?_)
                      · skip
                        have q159 := (kb_eq).mp q159
                        refine j_iconst C dX8_finish_166 (v := (nI 0)) kc_i_0 ?_
                        show jj X 0 0 167 [(0, .ref h8), (1, .int (nI ce)), (2, .int (nI fr)), (3, .int (nI i)), (4, .int (nI tg)), (5, .int (nI e)), (6, .int (nI (fr + k))), (7, .int (nI c)), (8, .int (bI is)), (9, .int (nI kk))] [.int (bI false)] [(h8, cO 8 [.int rf, .ref rv, .ref rn, .ref rnw, .ref rt, .ref rd, .int (nI na), .int (nI nx), .ref rk, .ref rik, .ref rdk, .ref rre, .ref rle, .ref rhe, .ref rth, .ref rpa, .ref ror, .int bv, .int bo]), (rn, cI (xT X) 600 (fun j => nI (near4 j))), (rnw, cI (xT X) 37 (rowF ac ap ash an aob arq)), (rdk, cZ (xT X) 15300 (fun j => bI (dk j))), (rhe, cZ (xT X) 150 (fun j => bI (rc aob (ac + fr) ce (k) j))), (rth, cZ (xT X) 150 (fun j => bI (flB (rc aob (ac + fr) ce (k + 1)) th c j)))]
                        refine j_istore C dX8_finish_167 (by decide) (lv' := [(8, .int (bI false)), (0, .ref h8), (1, .int (nI ce)), (2, .int (nI fr)), (3, .int (nI i)), (4, .int (nI tg)), (5, .int (nI e)), (6, .int (nI (fr + k))), (7, .int (nI c)), (9, .int (nI kk))]) rfl ?_
                        refine j_iinc C dX8_finish_169 (q := 9) (v := (nI (kk + 1))) rfl (kc_inc kk) (by decide) (lv' := [(9, .int (nI (kk + 1))), (8, .int (bI false)), (0, .ref h8), (1, .int (nI ce)), (2, .int (nI fr)), (3, .int (nI i)), (4, .int (nI tg)), (5, .int (nI e)), (6, .int (nI (fr + k))), (7, .int (nI c))]) rfl ?_
                        refine j_goto C dX8_finish_172 (tgt := 131) (by decide) ?_
                        refine j_lv [2, 3, 4, 5, 6, 7, 8, 9, 1, 0] rfl ?_
                        refine ih131 _ _ (by omega) ?_ ?_
                        · omega
                        · rw [nborN, hb]; first | (rw [q139]; rfl) | (rw [q139, q159]; rfl)
                      · skip
                        have q159 := (kb_neq).mp q159
                        refine j_iconst C dX8_finish_162 (v := (nI 1)) kc_i_1 ?_
                        refine j_goto C dX8_finish_163 (tgt := 167) (by decide) ?_
                        show jj X 0 0 167 [(0, .ref h8), (1, .int (nI ce)), (2, .int (nI fr)), (3, .int (nI i)), (4, .int (nI tg)), (5, .int (nI e)), (6, .int (nI (fr + k))), (7, .int (nI c)), (8, .int (bI is)), (9, .int (nI kk))] [.int (bI true)] [(h8, cO 8 [.int rf, .ref rv, .ref rn, .ref rnw, .ref rt, .ref rd, .int (nI na), .int (nI nx), .ref rk, .ref rik, .ref rdk, .ref rre, .ref rle, .ref rhe, .ref rth, .ref rpa, .ref ror, .int bv, .int bo]), (rn, cI (xT X) 600 (fun j => nI (near4 j))), (rnw, cI (xT X) 37 (rowF ac ap ash an aob arq)), (rdk, cZ (xT X) 15300 (fun j => bI (dk j))), (rhe, cZ (xT X) 150 (fun j => bI (rc aob (ac + fr) ce (k) j))), (rth, cZ (xT X) 150 (fun j => bI (flB (rc aob (ac + fr) ce (k + 1)) th c j)))]
                        refine j_istore C dX8_finish_167 (by decide) (lv' := [(8, .int (bI true)), (0, .ref h8), (1, .int (nI ce)), (2, .int (nI fr)), (3, .int (nI i)), (4, .int (nI tg)), (5, .int (nI e)), (6, .int (nI (fr + k))), (7, .int (nI c)), (9, .int (nI kk))]) rfl ?_
                        refine j_iinc C dX8_finish_169 (q := 9) (v := (nI (kk + 1))) rfl (kc_inc kk) (by decide) (lv' := [(9, .int (nI (kk + 1))), (8, .int (bI true)), (0, .ref h8), (1, .int (nI ce)), (2, .int (nI fr)), (3, .int (nI i)), (4, .int (nI tg)), (5, .int (nI e)), (6, .int (nI (fr + k))), (7, .int (nI c))]) rfl ?_
                        refine j_goto C dX8_finish_172 (tgt := 131) (by decide) ?_
                        refine j_lv [2, 3, 4, 5, 6, 7, 8, 9, 1, 0] rfl ?_
                        refine ih131 _ _ (by omega) ?_ ?_
                        · omega
                        · rw [nborN, hb]; first | (rw [q139]; rfl) | (rw [q139, q159]; rfl)
          refine j_aload_n C dX8_finish_76 0 rfl rfl ?_
          refine j_get C (hin8) (ci := 8) rfl 13 (by decide) (hl41) 0 rfl (v := .ref rhe) rfl dX8_finish_77 ?_
          refine j_iload C dX8_finish_80 4 rfl ?_
          refine j_zaloadN C tg rfl 4 rfl (by omega) (by decide) dX8_finish_82 ?_
          refine j_if_eq C dX8_finish_83 (tgt := 108) (by decide) (fun q83 => ?_) (fun q83 => ?_)
          · skip
            have q83 := (kb_eq).mp q83
            refine hc108  ?_
            · unfold fok; rw [q83, Bool.and_false]
          · skip
            have q83 := (kb_neq).mp q83
            refine j_aload_n C dX8_finish_86 0 rfl rfl ?_
            refine j_iload C dX8_finish_87 4 rfl ?_
            refine j_iload C dX8_finish_89 6 rfl ?_
            refine j_iload C dX8_finish_91 6 rfl ?_
            refine j_iload C dX8_finish_93 5 rfl ?_
            refine j_iadd C dX8_finish_95 (v := (nI (fr + k + e))) (nI_add _ _) ?_
            refine j_callVR C (nA := 3) (As := [.int (nI tg), .int (nI (fr + k)), .int (nI (fr + k + e))]) (c_X8_staysDark (xl X) (xT X) h8 rv rn rnw rt rd rk rik rdk rre rle rhe rth rpa ror na nx rf bv bo ac tg (fr + k) (fr + k + e) aob dk (by omega) (by omega) (by omega) (by exact fun t ht c hc => hdk t (by omega) c hc)) gX8_finish_X8_staysDark rfl (by decide +kernel) rfl ⟨rfl, rfl⟩ (by decide) (by decide) [0, 3] rfl rfl 0 rfl rfl (rest := []) rfl (Nat.le_of_ble_eq_true rfl) dX8_finish_96 ?_
            rintro _ rfl
            show jj X 0 0 99 [(0, .ref h8), (1, .int (nI ce)), (2, .int (nI fr)), (3, .int (nI i)), (4, .int (nI tg)), (5, .int (nI e)), (6, .int (nI (fr + k)))] [.int (bI (sd aob tg (ac + (fr + k)) (ac + (fr + k + e))))] [(h8, cO 8 [.int rf, .ref rv, .ref rn, .ref rnw, .ref rt, .ref rd, .int (nI na), .int (nI nx), .ref rk, .ref rik, .ref rdk, .ref rre, .ref rle, .ref rhe, .ref rth, .ref rpa, .ref ror, .int bv, .int bo]), (rn, cI (xT X) 600 (fun j => nI (near4 j))), (rnw, cI (xT X) 37 (rowF ac ap ash an aob arq)), (rdk, cZ (xT X) 15300 (fun j => bI (dk j))), (rhe, cZ (xT X) 150 (fun j => bI (rc aob (ac + fr) ce (k) j))), (rth, cZ (xT X) 150 (fun j => bI (th j)))]
            refine j_if_eq C dX8_finish_99 (tgt := 108) (by decide) (fun q99 => ?_) (fun q99 => ?_)
            · skip
              have q99 := (kb_eq).mp q99
              refine hc108  ?_
              · unfold fok; rw [show ac + fr + k = ac + (fr + k) by omega, show ac + (fr + k) + e = ac + (fr + k + e) by omega, q99]; rfl
            · skip
              have q99 := (kb_neq).mp q99
              refine j_iload C dX8_finish_102 6 rfl ?_
              refine j_iload C dX8_finish_104 5 rfl ?_
              refine j_iadd C dX8_finish_106 (v := (nI (fr + k + e))) (nI_add _ _) ?_
              refine j_iretM C rw_ hQ (by decide) (by decide) rfl ?_ dX8_finish_107
              refine ⟨_, _, _, rfl, rfl, Or.inl ⟨fr + k + e, rfl, by omega, by omega, Or.inl ⟨k, by omega, by omega, ?_, hf, by rw [show ac + (fr + k + e) = ac + fr + k + e by omega]⟩⟩⟩
              unfold fok; rw [show ac + fr + k = ac + (fr + k) by omega, show ac + (fr + k) + e = ac + (fr + k + e) by omega, q99, q83]; rfl
    · skip
      have q36 := (kn_nge (a := c) (b := 150) (by omega) (by omega)).mp q36
      refine j_aload_n C dX8_finish_39 0 rfl rfl ?_
      refine j_get C (hin8) (ci := 8) rfl 13 (by decide) (hl41) 0 rfl (v := .ref rhe) rfl dX8_finish_40 ?_
      refine j_iload C dX8_finish_43 6 rfl ?_
      refine j_iload C dX8_finish_45 6 rfl ?_
      refine j_iload_n C dX8_finish_47 1 rfl rfl ?_
      refine j_icmp_ne C dX8_finish_48 (tgt := 55) (by decide) (fun q48 => ?_) (fun q48 => ?_)
      · skip
        have q48 := (kn_ne (a := c) (b := ce) (by omega) (by omega)).mp q48
        refine j_iconst C dX8_finish_55 (v := (nI 0)) kc_i_0 ?_
        refine j_zastoreN C rw_ c rfl 4 rfl (by omega) (by decide) (w' := [(h8, cO 8 [.int rf, .ref rv, .ref rn, .ref rnw, .ref rt, .ref rd, .int (nI na), .int (nI nx), .ref rk, .ref rik, .ref rdk, .ref rre, .ref rle, .ref rhe, .ref rth, .ref rpa, .ref ror, .int bv, .int bo]), (rn, cI (xT X) 600 (fun j => nI (near4 j))), (rnw, cI (xT X) 37 (rowF ac ap ash an aob arq)), (rdk, cZ (xT X) 15300 (fun j => bI (dk j))), (rhe, cZ (xT X) 150 (upd (fun j => bI (flB (fun c => decide (c = ce)) he c j)) c (vp_nar .boolean (nI 0)))), (rth, cZ (xT X) 150 (fun j => bI (th j)))]) rfl dX8_finish_56 ?_
        refine j_extZ C (fun j => bI (flB (fun c => decide (c = ce)) he (c + 1) j)) 4 rfl (fun j hj => ?_) (w' := [(h8, cO 8 [.int rf, .ref rv, .ref rn, .ref rnw, .ref rt, .ref rd, .int (nI na), .int (nI nx), .ref rk, .ref rik, .ref rdk, .ref rre, .ref rle, .ref rhe, .ref rth, .ref rpa, .ref ror, .int bv, .int bo]), (rn, cI (xT X) 600 (fun j => nI (near4 j))), (rnw, cI (xT X) 37 (rowF ac ap ash an aob arq)), (rdk, cZ (xT X) 15300 (fun j => bI (dk j))), (rhe, cZ (xT X) 150 (fun j => bI (flB (fun c => decide (c = ce)) he (c + 1) j))), (rth, cZ (xT X) 150 (fun j => bI (th j)))]) rfl ?_
        · exact flB_s (by first | (rw [decide_eq_true q48]; exact bI_n1) | (rw [decide_eq_false q48]; exact bI_n0)) j
        refine j_iinc C dX8_finish_57 (q := 6) (v := (nI (c + 1))) rfl (kc_inc c) (by decide) (lv' := [(6, .int (nI (c + 1))), (0, .ref h8), (1, .int (nI ce)), (2, .int (nI fr)), (3, .int (nI i)), (4, .int (nI tg)), (5, .int (nI e))]) rfl ?_
        refine j_goto C dX8_finish_60 (tgt := 31) (by decide) ?_
        refine j_lv [1, 2, 3, 4, 5, 6, 0] rfl ?_
        refine ih31 _ (by omega) ?_
        · omega
      · skip
        have q48 := (kn_nne (a := c) (b := ce) (by omega) (by omega)).mp q48
        refine j_iconst C dX8_finish_51 (v := (nI 1)) kc_i_1 ?_
        refine j_goto C dX8_finish_52 (tgt := 56) (by decide) ?_
        refine j_zastoreN C rw_ c rfl 4 rfl (by omega) (by decide) (w' := [(h8, cO 8 [.int rf, .ref rv, .ref rn, .ref rnw, .ref rt, .ref rd, .int (nI na), .int (nI nx), .ref rk, .ref rik, .ref rdk, .ref rre, .ref rle, .ref rhe, .ref rth, .ref rpa, .ref ror, .int bv, .int bo]), (rn, cI (xT X) 600 (fun j => nI (near4 j))), (rnw, cI (xT X) 37 (rowF ac ap ash an aob arq)), (rdk, cZ (xT X) 15300 (fun j => bI (dk j))), (rhe, cZ (xT X) 150 (upd (fun j => bI (flB (fun c => decide (c = ce)) he c j)) c (vp_nar .boolean (nI 1)))), (rth, cZ (xT X) 150 (fun j => bI (th j)))]) rfl dX8_finish_56 ?_
        refine j_extZ C (fun j => bI (flB (fun c => decide (c = ce)) he (c + 1) j)) 4 rfl (fun j hj => ?_) (w' := [(h8, cO 8 [.int rf, .ref rv, .ref rn, .ref rnw, .ref rt, .ref rd, .int (nI na), .int (nI nx), .ref rk, .ref rik, .ref rdk, .ref rre, .ref rle, .ref rhe, .ref rth, .ref rpa, .ref ror, .int bv, .int bo]), (rn, cI (xT X) 600 (fun j => nI (near4 j))), (rnw, cI (xT X) 37 (rowF ac ap ash an aob arq)), (rdk, cZ (xT X) 15300 (fun j => bI (dk j))), (rhe, cZ (xT X) 150 (fun j => bI (flB (fun c => decide (c = ce)) he (c + 1) j))), (rth, cZ (xT X) 150 (fun j => bI (th j)))]) rfl ?_
        · exact flB_s (by first | (rw [decide_eq_true q48]; exact bI_n1) | (rw [decide_eq_false q48]; exact bI_n0)) j
        refine j_iinc C dX8_finish_57 (q := 6) (v := (nI (c + 1))) rfl (kc_inc c) (by decide) (lv' := [(6, .int (nI (c + 1))), (0, .ref h8), (1, .int (nI ce)), (2, .int (nI fr)), (3, .int (nI i)), (4, .int (nI tg)), (5, .int (nI e))]) rfl ?_
        refine j_goto C dX8_finish_60 (tgt := 31) (by decide) ?_
        refine j_lv [1, 2, 3, 4, 5, 6, 0] rfl ?_
        refine ih31 _ (by omega) ?_
        · omega

set_option maxHeartbeats 4000000 in
set_option maxRecDepth 100000 in
/-- requestFinish(i) -/
theorem c_X8_requestFinish (l : Launch) (T : jj_T) (h8 rv rn rnw rt rd rk rik rdk rre rle rhe rth rpa ror na nx : Nat) (rf bv bo : Int32) (ac ap an : Nat) (ash : Bool) (aob arq : Nat → Int32) (dk he th : Nat → Bool) (x : Int32) (hap : ap < 150) (hac : ac ≤ 200) (hco : coI aob) (han : an ≤ 4) (hrq : rqI arq an) : jM l T yX8_requestFinish wsX8_requestFinish { frames := 4, cells := 0, slots := 0, locals := 101 } [.ref h8, .int x] [(h8, cO 8 [.int rf, .ref rv, .ref rn, .ref rnw, .ref rt, .ref rd, .int (nI na), .int (nI nx), .ref rk, .ref rik, .ref rdk, .ref rre, .ref rle, .ref rhe, .ref rth, .ref rpa, .ref ror, .int bv, .int bo]), (rv, cI T 450 cvec), (rn, cI T 600 (fun j => nI (near4 j))), (rnw, cI T 37 (rowF ac ap ash an aob arq)), (rdk, cZ T 15300 (fun j => bI (dk j))), (rhe, cZ T 150 (fun j => bI (he j))), (rth, cZ T 150 (fun j => bI (th j)))] (fun v w1 => ∃ (k8 : Nat) (r : Int32), v = some (.int r) ∧ ((w1 = [(h8, cO 8 [.int (nI k8), .ref rv, .ref rn, .ref rnw, .ref rt, .ref rd, .int (nI na), .int (nI nx), .ref rk, .ref rik, .ref rdk, .ref rre, .ref rle, .ref rhe, .ref rth, .ref rpa, .ref ror, .int bv, .int bo]), (rv, cI T 450 cvec), (rn, cI T 600 (fun j => nI (near4 j))), (rnw, cI T 37 (rowF ac ap ash an aob arq)), (rdk, cZ T 15300 (fun j => bI (dk j))), (rhe, cZ T 150 (fun j => bI (he j))), (rth, cZ T 150 (fun j => bI (th j)))] ∧ ((k8 = 1 ∧ inR x 0 ((an : Int) - 1) = false) ∨ (k8 = 2 ∧ inR x 0 ((an : Int) - 1) = true ∧ ash = true))) ∨ (k8 = 0 ∧ ∃ (i : Nat) (he' th' : Nat → Bool), w1 = [(h8, cO 8 [.int (nI 0), .ref rv, .ref rn, .ref rnw, .ref rt, .ref rd, .int (nI na), .int (nI nx), .ref rk, .ref rik, .ref rdk, .ref rre, .ref rle, .ref rhe, .ref rth, .ref rpa, .ref ror, .int bv, .int bo]), (rv, cI T 450 cvec), (rn, cI T 600 (fun j => nI (near4 j))), (rnw, cI T 37 (rowF ac ap ash an aob arq)), (rdk, cZ T 15300 (fun j => bI (flB (dkP aob ac) dk (150 * (60 + 1)) j))), (rhe, cZ T 150 (fun j => bI (he' j))), (rth, cZ T 150 (fun j => bI (th' j)))] ∧ x = nI i ∧ i < an ∧ ash = false ∧ fin_is aob ac ap (rqN arq (3 * i)) (rqN arq (3 * i + 1)) (ac + 60) r))) := by
  refine jM.of (cc := cX8_requestFinish) (maxL := 3) (ret := (some .int)) (by decide) rfl (Nat.le_of_ble_eq_true rfl) ?_
  intro X C rw_ hl hT hQ hnm
  subst hl; subst hT
  have hin8 : ∀ w ∈ u_ws RX8 TX8 19, w ∈ wsX8_requestFinish := by decide +kernel
  have hl16 : Cond.fieldLink RX8 16 (TX8 3).1 (TX8 3).2.1 (TX8 3).2.2.1 ∈ wsX8_requestFinish := by decide +kernel
  show jj X 0 0 0 [(0, .ref h8), (1, .int x)] [] [(h8, cO 8 [.int rf, .ref rv, .ref rn, .ref rnw, .ref rt, .ref rd, .int (nI na), .int (nI nx), .ref rk, .ref rik, .ref rdk, .ref rre, .ref rle, .ref rhe, .ref rth, .ref rpa, .ref ror, .int bv, .int bo]), (rv, cI (xT X) 450 cvec), (rn, cI (xT X) 600 (fun j => nI (near4 j))), (rnw, cI (xT X) 37 (rowF ac ap ash an aob arq)), (rdk, cZ (xT X) 15300 (fun j => bI (dk j))), (rhe, cZ (xT X) 150 (fun j => bI (he j))), (rth, cZ (xT X) 150 (fun j => bI (th j)))]
  refine j_aload_n C dX8_requestFinish_0 0 rfl rfl ?_
  refine j_aload_n C dX8_requestFinish_1 0 rfl rfl ?_
  refine j_iload_n C dX8_requestFinish_2 1 rfl rfl ?_
  refine j_callVR C (nA := 1) (As := [.int x]) (c_X8_isRequest (xl X) (xT X) h8 rv rn rnw rt rd rk rik rdk rre rle rhe rth rpa ror na nx rf bv bo ac ap an ash aob arq x (by omega)) gX8_requestFinish_X8_isRequest rfl (by decide +kernel) rfl ⟨rfl, rfl⟩ (by decide) (by decide) [0, 3] rfl rfl 0 rfl rfl (rest := [.ref h8]) rfl (Nat.le_of_ble_eq_true rfl) dX8_requestFinish_3 ?_
  rintro _ rfl
  show jj X 0 0 6 [(0, .ref h8), (1, .int x)] [.int (bI (inR x 0 ((an : Int) - 1))), .ref h8] [(h8, cO 8 [.int rf, .ref rv, .ref rn, .ref rnw, .ref rt, .ref rd, .int (nI na), .int (nI nx), .ref rk, .ref rik, .ref rdk, .ref rre, .ref rle, .ref rhe, .ref rth, .ref rpa, .ref ror, .int bv, .int bo]), (rv, cI (xT X) 450 cvec), (rn, cI (xT X) 600 (fun j => nI (near4 j))), (rnw, cI (xT X) 37 (rowF ac ap ash an aob arq)), (rdk, cZ (xT X) 15300 (fun j => bI (dk j))), (rhe, cZ (xT X) 150 (fun j => bI (he j))), (rth, cZ (xT X) 150 (fun j => bI (th j)))]
  refine j_if_ne C dX8_requestFinish_6 (tgt := 13) (by decide) (fun q6 => ?_) (fun q6 => ?_)
  · skip
    have q6 := (kb_ne).mp q6
    obtain ⟨i, rfl, hb_i⟩ := inR_M q6
    have hqi := hrq i hb_i
    refine j_aload_n C dX8_requestFinish_13 0 rfl rfl ?_
    refine j_get C (hin8) (ci := 8) rfl 3 (by decide) (hl16) 0 rfl (v := .ref rnw) rfl dX8_requestFinish_14 ?_
    refine j_bipush C dX8_requestFinish_17 (v := (nI 23)) kc_b_23 ?_
    refine j_ialoadN C 23 rfl 3 rfl (by omega) (by decide) dX8_requestFinish_19 ?_
    show jj X 0 0 20 [(0, .ref h8), (1, .int (nI i))] [.int (bI ash), .ref h8] [(h8, cO 8 [.int rf, .ref rv, .ref rn, .ref rnw, .ref rt, .ref rd, .int (nI na), .int (nI nx), .ref rk, .ref rik, .ref rdk, .ref rre, .ref rle, .ref rhe, .ref rth, .ref rpa, .ref ror, .int bv, .int bo]), (rv, cI (xT X) 450 cvec), (rn, cI (xT X) 600 (fun j => nI (near4 j))), (rnw, cI (xT X) 37 (rowF ac ap ash an aob arq)), (rdk, cZ (xT X) 15300 (fun j => bI (dk j))), (rhe, cZ (xT X) 150 (fun j => bI (he j))), (rth, cZ (xT X) 150 (fun j => bI (th j)))]
    refine j_iconst C dX8_requestFinish_20 (v := (nI 1)) kc_i_1 ?_
    refine j_icmp_ne C dX8_requestFinish_21 (tgt := 28) (by decide) (fun q21 => ?_) (fun q21 => ?_)
    · skip
      refine j_iconst C dX8_requestFinish_28 (v := (nI 0)) kc_i_0 ?_
      refine j_callVM C rw_ (nA := 1) (As := [.int (nI 0)]) (wr := [(rv, cI (xT X) 450 cvec), (rn, cI (xT X) 600 (fun j => nI (near4 j))), (rnw, cI (xT X) 37 (rowF ac ap ash an aob arq)), (rdk, cZ (xT X) 15300 (fun j => bI (dk j))), (rhe, cZ (xT X) 150 (fun j => bI (he j))), (rth, cZ (xT X) 150 (fun j => bI (th j)))]) (c_X8_refused_0 (xl X) (xT X) h8 rv rn rnw rt rd rk rik rdk rre rle rhe rth rpa ror na nx rf bv bo ) gX8_requestFinish_X8_refused rfl (by decide +kernel) rfl (by decide) (by decide) [0] [1, 2, 3, 4, 5, 6] rfl rfl rfl rfl (by decide) 0 rfl rfl (rest := []) rfl (Nat.le_of_ble_eq_true rfl) dX8_requestFinish_29 ?_
      rintro _ _ ⟨rfl, rfl⟩
      show jj X 0 0 32 [(0, .ref h8), (1, .int (nI i))] [.int (bI false)] [(rv, cI (xT X) 450 cvec), (rn, cI (xT X) 600 (fun j => nI (near4 j))), (rnw, cI (xT X) 37 (rowF ac ap ash an aob arq)), (rdk, cZ (xT X) 15300 (fun j => bI (dk j))), (rhe, cZ (xT X) 150 (fun j => bI (he j))), (rth, cZ (xT X) 150 (fun j => bI (th j))), (h8, cO 8 [.int (nI 0), .ref rv, .ref rn, .ref rnw, .ref rt, .ref rd, .int (nI na), .int (nI nx), .ref rk, .ref rik, .ref rdk, .ref rre, .ref rle, .ref rhe, .ref rth, .ref rpa, .ref ror, .int bv, .int bo])]
      refine j_if_eq C dX8_requestFinish_32 (tgt := 37) (by decide) (fun _ => ?_) (fun h9 => absurd h9 (by decide +kernel))
      refine j_aload_n C dX8_requestFinish_37 0 rfl rfl ?_
      refine j_bipush C dX8_requestFinish_38 (v := (nI 60)) kc_b_60 ?_
      refine j_callVM C rw_ (nA := 1) (As := [.int (nI 60)]) (wr := [(rn, cI (xT X) 600 (fun j => nI (near4 j))), (rhe, cZ (xT X) 150 (fun j => bI (he j))), (rth, cZ (xT X) 150 (fun j => bI (th j)))]) (c_X8_layDark (xl X) (xT X) h8 rv rn rnw rt rd rk rik rdk rre rle rhe rth rpa ror na nx (nI 0) bv bo ac ap an ash aob arq 60 dk (by omega) (by exact hac) (by exact hco)) gX8_requestFinish_X8_layDark rfl (by decide +kernel) rfl (by decide) (by decide) [6, 0, 2, 3] [1, 4, 5] rfl rfl rfl rfl (by decide) 6 rfl rfl (rest := []) rfl (Nat.le_of_ble_eq_true rfl) dX8_requestFinish_40 ?_
      rintro _ _ ⟨rfl, rfl⟩
      show jj X 0 0 43 [(0, .ref h8), (1, .int (nI i))] [] [(rn, cI (xT X) 600 (fun j => nI (near4 j))), (rhe, cZ (xT X) 150 (fun j => bI (he j))), (rth, cZ (xT X) 150 (fun j => bI (th j))), (h8, cO 8 [.int (nI 0), .ref rv, .ref rn, .ref rnw, .ref rt, .ref rd, .int (nI na), .int (nI nx), .ref rk, .ref rik, .ref rdk, .ref rre, .ref rle, .ref rhe, .ref rth, .ref rpa, .ref ror, .int bv, .int bo]), (rv, cI (xT X) 450 cvec), (rnw, cI (xT X) 37 (rowF ac ap ash an aob arq)), (rdk, cZ (xT X) 15300 (fun j => bI (flB (dkP aob ac) dk (150 * (60 + 1)) j)))]
      refine j_aload_n C dX8_requestFinish_43 0 rfl rfl ?_
      refine j_aload_n C dX8_requestFinish_44 0 rfl rfl ?_
      refine j_get C (hin8) (ci := 8) rfl 3 (by decide) (hl16) 3 rfl (v := .ref rnw) rfl dX8_requestFinish_45 ?_
      refine j_bipush C dX8_requestFinish_48 (v := (nI 22)) kc_b_22 ?_
      refine j_ialoadN C 22 rfl 5 rfl (by omega) (by decide) dX8_requestFinish_50 ?_
      show jj X 0 0 51 [(0, .ref h8), (1, .int (nI i))] [.int (nI ap), .ref h8] [(rn, cI (xT X) 600 (fun j => nI (near4 j))), (rhe, cZ (xT X) 150 (fun j => bI (he j))), (rth, cZ (xT X) 150 (fun j => bI (th j))), (h8, cO 8 [.int (nI 0), .ref rv, .ref rn, .ref rnw, .ref rt, .ref rd, .int (nI na), .int (nI nx), .ref rk, .ref rik, .ref rdk, .ref rre, .ref rle, .ref rhe, .ref rth, .ref rpa, .ref ror, .int bv, .int bo]), (rv, cI (xT X) 450 cvec), (rnw, cI (xT X) 37 (rowF ac ap ash an aob arq)), (rdk, cZ (xT X) 15300 (fun j => bI (flB (dkP aob ac) dk (150 * (60 + 1)) j)))]
      refine j_iconst C dX8_requestFinish_51 (v := (nI 0)) kc_i_0 ?_
      refine j_iload_n C dX8_requestFinish_52 1 rfl rfl ?_
      refine j_callVM C rw_ (nA := 3) (As := [.int (nI ap), .int (nI 0), .int (nI i)]) (wr := [(rv, cI (xT X) 450 cvec)]) (c_X8_finish (xl X) (xT X) h8 rv rn rnw rt rd rk rik rdk rre rle rhe rth rpa ror na nx (nI 0) bv bo ac ap an ash aob arq ap 0 i (rqN arq (3 * i)) (rqN arq (3 * i + 1)) (flB (dkP aob ac) dk (150 * (60 + 1))) he th (by exact hap) (by omega) (by omega) (by exact hqi.1) (by exact hqi.2.1) (by intro t ht c hc; rw [flB_v (by omega), dkP_v hc])) gX8_requestFinish_X8_finish rfl (by decide +kernel) rfl (by decide) (by decide) [3, 0, 5, 6, 1, 2] [4] rfl rfl rfl rfl (by decide) 3 rfl rfl (rest := []) rfl (Nat.le_of_ble_eq_true rfl) dX8_requestFinish_53 ?_
      rintro _ _ ⟨he'_1, th'_2, r_3, rfl, rfl, hr⟩
      show jj X 0 0 56 [(0, .ref h8), (1, .int (nI i))] [.int r_3] [(rv, cI (xT X) 450 cvec), (h8, cO 8 [.int (nI 0), .ref rv, .ref rn, .ref rnw, .ref rt, .ref rd, .int (nI na), .int (nI nx), .ref rk, .ref rik, .ref rdk, .ref rre, .ref rle, .ref rhe, .ref rth, .ref rpa, .ref ror, .int bv, .int bo]), (rn, cI (xT X) 600 (fun j => nI (near4 j))), (rnw, cI (xT X) 37 (rowF ac ap ash an aob arq)), (rdk, cZ (xT X) 15300 (fun j => bI ((flB (dkP aob ac) dk (150 * (60 + 1))) j))), (rhe, cZ (xT X) 150 (fun j => bI (he'_1 j))), (rth, cZ (xT X) 150 (fun j => bI (th'_2 j)))]
      refine j_istore_n C dX8_requestFinish_56 rfl (by decide) (lv' := [(2, .int r_3), (0, .ref h8), (1, .int (nI i))]) rfl ?_
      refine j_iload_n C dX8_requestFinish_57 0 rfl rfl ?_
      refine j_bipush C dX8_requestFinish_58 (v := (-9)) kc_b_m9 ?_
      refine j_icmp_ne C dX8_requestFinish_60 (tgt := 68) (by decide) (fun q60 => ?_) (fun q60 => ?_)
      · skip
        rcases hr with ⟨f, rfl, hf1, hf2, hf3⟩ | ⟨e9, -⟩
        rotate_left
        · exact absurd e9 q60
        refine j_aload_n C dX8_requestFinish_68 1 rfl rfl ?_
        refine j_get C (hin8) (ci := 8) rfl 3 (by decide) (hl16) 1 rfl (v := .ref rnw) rfl dX8_requestFinish_69 ?_
        refine j_bipush C dX8_requestFinish_72 (v := (nI 21)) kc_b_21 ?_
        refine j_ialoadN C 21 rfl 3 rfl (by omega) (by decide) dX8_requestFinish_74 ?_
        show jj X 0 0 75 [(2, .int (nI f)), (0, .ref h8), (1, .int (nI i))] [.int (nI ac)] [(rv, cI (xT X) 450 cvec), (h8, cO 8 [.int (nI 0), .ref rv, .ref rn, .ref rnw, .ref rt, .ref rd, .int (nI na), .int (nI nx), .ref rk, .ref rik, .ref rdk, .ref rre, .ref rle, .ref rhe, .ref rth, .ref rpa, .ref ror, .int bv, .int bo]), (rn, cI (xT X) 600 (fun j => nI (near4 j))), (rnw, cI (xT X) 37 (rowF ac ap ash an aob arq)), (rdk, cZ (xT X) 15300 (fun j => bI ((flB (dkP aob ac) dk (150 * (60 + 1))) j))), (rhe, cZ (xT X) 150 (fun j => bI (he'_1 j))), (rth, cZ (xT X) 150 (fun j => bI (th'_2 j)))]
        refine j_iload_n C dX8_requestFinish_75 0 rfl rfl ?_
        refine j_iadd C dX8_requestFinish_76 (v := (nI (ac + f))) (nI_add _ _) ?_
        refine j_perm C (w' := [(h8, cO 8 [.int (nI 0), .ref rv, .ref rn, .ref rnw, .ref rt, .ref rd, .int (nI na), .int (nI nx), .ref rk, .ref rik, .ref rdk, .ref rre, .ref rle, .ref rhe, .ref rth, .ref rpa, .ref ror, .int bv, .int bo]), (rv, cI (xT X) 450 cvec), (rn, cI (xT X) 600 (fun j => nI (near4 j))), (rnw, cI (xT X) 37 (rowF ac ap ash an aob arq)), (rdk, cZ (xT X) 15300 (fun j => bI ((flB (dkP aob ac) dk (150 * (60 + 1))) j))), (rhe, cZ (xT X) 150 (fun j => bI (he'_1 j))), (rth, cZ (xT X) 150 (fun j => bI (th'_2 j)))]) [1, 0, 2, 3, 4, 5, 6] rfl rfl ?_
        refine j_iretM C rw_ hQ (by decide) (by decide) rfl ?_ dX8_requestFinish_77
        exact ⟨0, _, rfl, Or.inr ⟨rfl, i, _, _, rfl, rfl, hb_i, bI_ne1 q21, hf3⟩⟩
      · skip
        refine j_bipush C dX8_requestFinish_63 (v := (-9)) kc_b_m9 ?_
        refine j_goto C dX8_requestFinish_65 (tgt := 77) (by decide) ?_
        refine j_perm C (w' := [(h8, cO 8 [.int (nI 0), .ref rv, .ref rn, .ref rnw, .ref rt, .ref rd, .int (nI na), .int (nI nx), .ref rk, .ref rik, .ref rdk, .ref rre, .ref rle, .ref rhe, .ref rth, .ref rpa, .ref ror, .int bv, .int bo]), (rv, cI (xT X) 450 cvec), (rn, cI (xT X) 600 (fun j => nI (near4 j))), (rnw, cI (xT X) 37 (rowF ac ap ash an aob arq)), (rdk, cZ (xT X) 15300 (fun j => bI ((flB (dkP aob ac) dk (150 * (60 + 1))) j))), (rhe, cZ (xT X) 150 (fun j => bI (he'_1 j))), (rth, cZ (xT X) 150 (fun j => bI (th'_2 j)))]) [1, 0, 2, 3, 4, 5, 6] rfl rfl ?_
        refine j_iretM C rw_ hQ (by decide) (by decide) rfl ?_ dX8_requestFinish_77
        rcases hr with ⟨f, e9, hf1, hf2, hf3⟩ | ⟨-, hf3⟩
        · exact absurd (e9.symm.trans q60) (nI_n9 (by omega))
        · exact ⟨0, _, rfl, Or.inr ⟨rfl, i, _, _, rfl, rfl, hb_i, bI_ne1 q21, hf3⟩⟩
    · skip
      refine j_iconst C dX8_requestFinish_24 (v := (nI 2)) kc_i_2 ?_
      refine j_goto C dX8_requestFinish_25 (tgt := 29) (by decide) ?_
      refine j_callVM C rw_ (nA := 1) (As := [.int (nI 2)]) (wr := [(rv, cI (xT X) 450 cvec), (rn, cI (xT X) 600 (fun j => nI (near4 j))), (rnw, cI (xT X) 37 (rowF ac ap ash an aob arq)), (rdk, cZ (xT X) 15300 (fun j => bI (dk j))), (rhe, cZ (xT X) 150 (fun j => bI (he j))), (rth, cZ (xT X) 150 (fun j => bI (th j)))]) (c_X8_refused_s (xl X) (xT X) h8 rv rn rnw rt rd rk rik rdk rre rle rhe rth rpa ror na nx rf bv bo 2 (by omega) (by omega)) gX8_requestFinish_X8_refused rfl (by decide +kernel) rfl (by decide) (by decide) [0] [1, 2, 3, 4, 5, 6] rfl rfl rfl rfl (by decide) 0 rfl rfl (rest := []) rfl (Nat.le_of_ble_eq_true rfl) dX8_requestFinish_29 ?_
      rintro _ _ ⟨rfl, rfl⟩
      show jj X 0 0 32 [(0, .ref h8), (1, .int (nI i))] [.int (bI true)] [(rv, cI (xT X) 450 cvec), (rn, cI (xT X) 600 (fun j => nI (near4 j))), (rnw, cI (xT X) 37 (rowF ac ap ash an aob arq)), (rdk, cZ (xT X) 15300 (fun j => bI (dk j))), (rhe, cZ (xT X) 150 (fun j => bI (he j))), (rth, cZ (xT X) 150 (fun j => bI (th j))), (h8, cO 8 [.int (nI 2), .ref rv, .ref rn, .ref rnw, .ref rt, .ref rd, .int (nI na), .int (nI nx), .ref rk, .ref rik, .ref rdk, .ref rre, .ref rle, .ref rhe, .ref rth, .ref rpa, .ref ror, .int bv, .int bo])]
      refine j_if_eq C dX8_requestFinish_32 (tgt := 37) (by decide) (fun h9 => absurd h9 (by decide +kernel)) (fun _ => ?_)
      refine j_iconst C dX8_requestFinish_35 (v := (nI 0)) kc_i_0 ?_
      refine j_perm C (w' := [(h8, cO 8 [.int (nI 2), .ref rv, .ref rn, .ref rnw, .ref rt, .ref rd, .int (nI na), .int (nI nx), .ref rk, .ref rik, .ref rdk, .ref rre, .ref rle, .ref rhe, .ref rth, .ref rpa, .ref ror, .int bv, .int bo]), (rv, cI (xT X) 450 cvec), (rn, cI (xT X) 600 (fun j => nI (near4 j))), (rnw, cI (xT X) 37 (rowF ac ap ash an aob arq)), (rdk, cZ (xT X) 15300 (fun j => bI (dk j))), (rhe, cZ (xT X) 150 (fun j => bI (he j))), (rth, cZ (xT X) 150 (fun j => bI (th j)))]) [6, 0, 1, 2, 3, 4, 5] rfl rfl ?_
      refine j_iretM C rw_ hQ (by decide) (by decide) rfl ?_ dX8_requestFinish_36
      exact ⟨2, _, rfl, Or.inl ⟨rfl, Or.inr ⟨rfl, q6, bI_eq1 q21⟩⟩⟩
  · skip
    have q6 := (kb_nne).mp q6
    refine j_iconst C dX8_requestFinish_9 (v := (nI 1)) kc_i_1 ?_
    refine j_goto C dX8_requestFinish_10 (tgt := 29) (by decide) ?_
    refine j_callVM C rw_ (nA := 1) (As := [.int (nI 1)]) (wr := [(rv, cI (xT X) 450 cvec), (rn, cI (xT X) 600 (fun j => nI (near4 j))), (rnw, cI (xT X) 37 (rowF ac ap ash an aob arq)), (rdk, cZ (xT X) 15300 (fun j => bI (dk j))), (rhe, cZ (xT X) 150 (fun j => bI (he j))), (rth, cZ (xT X) 150 (fun j => bI (th j)))]) (c_X8_refused_s (xl X) (xT X) h8 rv rn rnw rt rd rk rik rdk rre rle rhe rth rpa ror na nx rf bv bo 1 (by omega) (by omega)) gX8_requestFinish_X8_refused rfl (by decide +kernel) rfl (by decide) (by decide) [0] [1, 2, 3, 4, 5, 6] rfl rfl rfl rfl (by decide) 0 rfl rfl (rest := []) rfl (Nat.le_of_ble_eq_true rfl) dX8_requestFinish_29 ?_
    rintro _ _ ⟨rfl, rfl⟩
    show jj X 0 0 32 [(0, .ref h8), (1, .int x)] [.int (bI true)] [(rv, cI (xT X) 450 cvec), (rn, cI (xT X) 600 (fun j => nI (near4 j))), (rnw, cI (xT X) 37 (rowF ac ap ash an aob arq)), (rdk, cZ (xT X) 15300 (fun j => bI (dk j))), (rhe, cZ (xT X) 150 (fun j => bI (he j))), (rth, cZ (xT X) 150 (fun j => bI (th j))), (h8, cO 8 [.int (nI 1), .ref rv, .ref rn, .ref rnw, .ref rt, .ref rd, .int (nI na), .int (nI nx), .ref rk, .ref rik, .ref rdk, .ref rre, .ref rle, .ref rhe, .ref rth, .ref rpa, .ref ror, .int bv, .int bo])]
    refine j_if_eq C dX8_requestFinish_32 (tgt := 37) (by decide) (fun h9 => absurd h9 (by decide +kernel)) (fun _ => ?_)
    refine j_iconst C dX8_requestFinish_35 (v := (nI 0)) kc_i_0 ?_
    refine j_perm C (w' := [(h8, cO 8 [.int (nI 1), .ref rv, .ref rn, .ref rnw, .ref rt, .ref rd, .int (nI na), .int (nI nx), .ref rk, .ref rik, .ref rdk, .ref rre, .ref rle, .ref rhe, .ref rth, .ref rpa, .ref ror, .int bv, .int bo]), (rv, cI (xT X) 450 cvec), (rn, cI (xT X) 600 (fun j => nI (near4 j))), (rnw, cI (xT X) 37 (rowF ac ap ash an aob arq)), (rdk, cZ (xT X) 15300 (fun j => bI (dk j))), (rhe, cZ (xT X) 150 (fun j => bI (he j))), (rth, cZ (xT X) 150 (fun j => bI (th j)))]) [6, 0, 1, 2, 3, 4, 5] rfl rfl ?_
    refine j_iretM C rw_ hQ (by decide) (by decide) rfl ?_ dX8_requestFinish_36
    exact ⟨1, _, rfl, Or.inl ⟨rfl, Or.inl ⟨rfl, q6⟩⟩⟩
