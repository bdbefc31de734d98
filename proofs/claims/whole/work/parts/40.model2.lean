/-! THE MODEL: cells and brightness (2) -/
theorem bi_on {g : Nat → Int32} {o : Nat} (h : inR (g (7 * o + 6)) 0 99 = true) (q : (g (7 * o + 6)).toInt64 ≤ lN 0) : br_on g o = false := by
  unfold br_on
  refine decide_eq_false (fun hne => hne ?_)
  apply Int64.toInt_inj.mp
  rw [Int64.le_iff_toInt_le, i2l_toInt] at q
  have e0 : (lN 0).toInt = 0 := by decide +kernel
  have := inR_iff.mp h
  rw [i2l_toInt, e0]; rw [e0] at q
  omega
theorem bi_on2 {g : Nat → Int32} {o : Nat} (q : ¬ (g (7 * o + 6)).toInt64 ≤ lN 0) : br_on g o = true := by
  unfold br_on
  exact decide_eq_true (fun e => q (by rw [e]; exact Int64.le_refl _))
theorem bi_lim {g : Nat → Int32} {c o t : Nat} : br_lim g o t * (csq c).toInt64 = (g (7 * o + 6)).toInt64 * (g (7 * o + 6)).toInt64 * (csq c).toInt64 * (sqA g o t).toInt64 := by
  unfold br_lim sqA
  rw [Int64.mul_assoc, Int64.mul_assoc ((g (7 * o + 6)).toInt64 * (g (7 * o + 6)).toInt64), Int64.mul_comm (csq c).toInt64]
theorem br_oe {g : Nat → Int32} {c o t : Nat} : br_o g c t o = (br_on g o && (decide (lN 0 < (dotA g c o t).toInt64) && decide (br_lim g o t * (csq c).toInt64 < lN 10000 * (dotA g c o t).toInt64 * (dotA g c o t).toInt64))) := rfl
theorem bi_f2 {g : Nat → Int32} {c o t : Nat} (q : (dotA g c o t).toInt64 ≤ lN 0) : br_o g c t o = false := by
  rw [br_oe, decide_eq_false (Int64.not_lt.mpr q), Bool.false_and, Bool.and_false]
theorem bi_f3 {g : Nat → Int32} {c o t : Nat} (q : lN 10000 * (dotA g c o t).toInt64 * (dotA g c o t).toInt64 ≤ (g (7 * o + 6)).toInt64 * (g (7 * o + 6)).toInt64 * (csq c).toInt64 * (sqA g o t).toInt64) : br_o g c t o = false := by
  rw [br_oe, bi_lim, decide_eq_false (Int64.not_lt.mpr q), Bool.and_false, Bool.and_false]
theorem bi_t {g : Nat → Int32} {c o t : Nat} (q1 : ¬ (g (7 * o + 6)).toInt64 ≤ lN 0) (q2 : ¬ (dotA g c o t).toInt64 ≤ lN 0) (q : ¬ lN 10000 * (dotA g c o t).toInt64 * (dotA g c o t).toInt64 ≤ (g (7 * o + 6)).toInt64 * (g (7 * o + 6)).toInt64 * (csq c).toInt64 * (sqA g o t).toInt64) : br_o g c t o = true := by
  rw [br_oe, bi_on2 q1, bi_lim, decide_eq_true (Int64.not_le.mp q), decide_eq_true (Int64.not_le.mp q2)]
  rfl
/-- the cones are sound -/
def coI (g : Nat → Int32) : Prop := ∀ o, o < 3 → inR (g (7 * o + 6)) 0 99 = true
def rowOf (c p : Nat) (s : Bool) (n : Nat) (ob rq : Nat → Int32) : Nat → Int32 := rowF c p s n ob rq
theorem row_ob {c p n : Nat} {s : Bool} {ob rq : Nat → Int32} {j : Nat} (h : j < 21) : rowF c p s n ob rq j = ob j := if_pos h
theorem row_rq {c p n : Nat} {s : Bool} {ob rq : Nat → Int32} {j : Nat} : rowF c p s n ob rq (25 + j) = rq j := by
  unfold rowF
  rw [if_neg (by omega), if_neg (by omega), if_neg (by omega), if_neg (by omega), if_neg (by omega), show 25 + j - 25 = j by omega]
theorem row_br {c p n : Nat} {s : Bool} {ob rq : Nat → Int32} {d t : Nat} : br (rowF c p s n ob rq) d t = br ob d t := br_cong (fun j h => row_ob h) d t
theorem row_brf {c p n : Nat} {s : Bool} {ob rq : Nat → Int32} : br (rowF c p s n ob rq) = br ob := funext fun d => funext fun t => row_br
theorem row_co {c p n : Nat} {s : Bool} {ob rq : Nat → Int32} (h : coI ob) : coI (rowF c p s n ob rq) := fun o ho => by rw [row_ob (by omega)]; exact h o ho
theorem row_aim {c p n : Nat} {s : Bool} {ob rq : Nat → Int32} {o k t : Nat} (ho : o < 3) (hk : k < 3) : st_aim (rowF c p s n ob rq) o k t = st_aim ob o k t := by
  unfold st_aim; rw [row_ob (by omega), row_ob (by omega)]
theorem lN_toI {m : Nat} (h : m < 1000000) : (lN m).toInt = m := by rw [lN_ti (by omega), if_pos (by omega)]
theorem kb_e {a b : Bool} (h : a = b) : some (Value.int (bI a)) = some (.int (bI b)) := by rw [h]
set_option maxHeartbeats 4000000 in
set_option maxRecDepth 100000 in
/-- isBrightIn(row, c, t) -/
theorem c_X8_isBrightIn (l : Launch) (T : jj_T) (h8 rv rn rnw rt rd rk rik rdk rre rle rhe rth rpa ror na nx : Nat) (rf bv bo : Int32) (r0 c tm : Nat) (g : Nat → Int32) (hc : c < 150) (hco : coI g) : jR l T yX8_isBrightIn wsX8_isBrightIn { frames := 2, cells := 0, slots := 0, locals := 49 } [.ref h8, .ref r0, .int (nI c), .int (nI tm)] [(h8, cO 8 [.int rf, .ref rv, .ref rn, .ref rnw, .ref rt, .ref rd, .int (nI na), .int (nI nx), .ref rk, .ref rik, .ref rdk, .ref rre, .ref rle, .ref rhe, .ref rth, .ref rpa, .ref ror, .int bv, .int bo]), (rv, cI T 450 cvec), (r0, cI T 37 g)] (fun v => v = some (.int (bI (br g c tm)))) := by
  refine jR.of (cc := cX8_isBrightIn) (maxL := 10) (ret := (some .boolean)) (by decide) rfl (Nat.le_of_ble_eq_true rfl) ?_
  intro X C ro hl hT hQ
  subst hl; subst hT
  show jj X 0 0 0 [(0, .ref h8), (1, .ref r0), (2, .int (nI c)), (3, .int (nI tm))] [] [(h8, cO 8 [.int rf, .ref rv, .ref rn, .ref rnw, .ref rt, .ref rd, .int (nI na), .int (nI nx), .ref rk, .ref rik, .ref rdk, .ref rre, .ref rle, .ref rhe, .ref rth, .ref rpa, .ref ror, .int bv, .int bo]), (rv, cI (xT X) 450 cvec), (r0, cI (xT X) 37 g)]
  refine j_iconst C dX8_isBrightIn_0 (v := (nI 0)) kc_i_0 ?_
  show jj X 0 0 1 [(0, .ref h8), (1, .ref r0), (2, .int (nI c)), (3, .int (nI tm))] [.int (bI false)] [(h8, cO 8 [.int rf, .ref rv, .ref rn, .ref rnw, .ref rt, .ref rd, .int (nI na), .int (nI nx), .ref rk, .ref rik, .ref rdk, .ref rre, .ref rle, .ref rhe, .ref rth, .ref rpa, .ref ror, .int bv, .int bo]), (rv, cI (xT X) 450 cvec), (r0, cI (xT X) 37 g)]
  refine j_istore C dX8_isBrightIn_1 (by decide) (lv' := [(4, .int (bI false)), (0, .ref h8), (1, .ref r0), (2, .int (nI c)), (3, .int (nI tm))]) rfl ?_
  refine j_iconst C dX8_isBrightIn_3 (v := (nI 0)) kc_i_0 ?_
  refine j_istore C dX8_isBrightIn_4 (by decide) (lv' := [(5, .int (nI 0)), (4, .int (bI false)), (0, .ref h8), (1, .ref r0), (2, .int (nI c)), (3, .int (nI tm))]) rfl ?_
  refine j_lv [2, 3, 4, 5, 1, 0] rfl ?_
  suffices hc6 : ∀ (mm : Nat) (o : Nat) (is : Bool), 3 - o < mm → (o ≤ 3) → (brn g c tm o = is) → jj X 0 0 6 [(0, .ref h8), (1, .ref r0), (2, .int (nI c)), (3, .int (nI tm)), (4, .int (bI is)), (5, .int (nI o))] [] [(h8, cO 8 [.int rf, .ref rv, .ref rn, .ref rnw, .ref rt, .ref rd, .int (nI na), .int (nI nx), .ref rk, .ref rik, .ref rdk, .ref rre, .ref rle, .ref rhe, .ref rth, .ref rpa, .ref ror, .int bv, .int bo]), (rv, cI (xT X) 450 cvec), (r0, cI (xT X) 37 g)] by
    refine hc6 _ _ _ (Nat.lt_succ_self _) ?_ ?_
    · omega
    · rfl
  intro mm
  induction mm with
  | zero => intro o is hm; exact absurd hm (Nat.not_lt_zero _)
  | succ mm ih6 =>
    intro o is hm6 ho hb
    refine j_iload C dX8_isBrightIn_6 5 rfl ?_
    refine j_iconst C dX8_isBrightIn_8 (v := (nI 3)) kc_i_3 ?_
    refine j_icmp_ge C dX8_isBrightIn_9 (tgt := 103) (by decide) (fun q9 => ?_) (fun q9 => ?_)
    · skip
      have q9 := (kn_ge (a := o) (b := 3) (by omega) (by omega)).mp q9
      refine j_iload C dX8_isBrightIn_103 4 rfl ?_
      refine j_iretR C ro hQ (bI_nar _) ?_ dX8_isBrightIn_105
      unfold br; rw [show 3 = o by omega, hb]
    · skip
      have q9 := (kn_nge (a := o) (b := 3) (by omega) (by omega)).mp q9
      refine j_aload_n C dX8_isBrightIn_12 1 rfl rfl ?_
      refine j_bipush C dX8_isBrightIn_13 (v := (nI 7)) kc_b_7 ?_
      refine j_iload C dX8_isBrightIn_15 5 rfl ?_
      refine j_imul C dX8_isBrightIn_17 (v := (nI (7 * o))) (pk_mul _ _) ?_
      refine j_bipush C dX8_isBrightIn_18 (v := (nI 6)) kc_b_6 ?_
      refine j_iadd C dX8_isBrightIn_20 (v := (nI (7 * o + 6))) (nI_add _ _) ?_
      refine j_ialoadN C (7 * o + 6) rfl 2 rfl (by omega) (by decide) dX8_isBrightIn_21 ?_
      refine j_i2l C dX8_isBrightIn_22 (v := ((g (7 * o + 6)).toInt64)) rfl ?_
      refine j_lstore C dX8_isBrightIn_23 (by decide) (lv' := [(6, .long ((g (7 * o + 6)).toInt64)), (0, .ref h8), (1, .ref r0), (2, .int (nI c)), (3, .int (nI tm)), (4, .int (bI is)), (5, .int (nI o))]) rfl ?_
      refine j_lload C dX8_isBrightIn_25 0 rfl ?_
      refine j_lconst C dX8_isBrightIn_27 (v := lN 0) rfl ?_
      refine j_lcmp C dX8_isBrightIn_28 ?_
      refine j_if_le C dX8_isBrightIn_29 (tgt := 97) (by decide) (fun q29 => ?_) (fun q29 => ?_)
      · skip
        have q29 := (kl_le).mp q29
        refine j_iinc C dX8_isBrightIn_97 (q := 6) (v := (nI (o + 1))) rfl (kc_inc o) (by decide) (lv' := [(5, .int (nI (o + 1))), (6, .long ((g (7 * o + 6)).toInt64)), (0, .ref h8), (1, .ref r0), (2, .int (nI c)), (3, .int (nI tm)), (4, .int (bI is))]) rfl ?_
        refine j_goto C dX8_isBrightIn_100 (tgt := 6) (by decide) ?_
        refine j_lv [2, 3, 4, 5, 6, 0] rfl ?_
        refine ih6 _ _ (by omega) ?_ ?_
        · omega
        · rw [brn, hb]; unfold br_o; rw [bi_on (hco o (by omega)) q29]; simp
      · skip
        have q29 := (kl_nle).mp q29
        refine j_iload C dX8_isBrightIn_32 5 rfl ?_
        refine j_if_ne C dX8_isBrightIn_34 (tgt := 97) (by decide) (fun q34 => ?_) (fun q34 => ?_)
        · skip
          have q34 := (kb_ne).mp q34
          refine j_iinc C dX8_isBrightIn_97 (q := 6) (v := (nI (o + 1))) rfl (kc_inc o) (by decide) (lv' := [(5, .int (nI (o + 1))), (6, .long ((g (7 * o + 6)).toInt64)), (0, .ref h8), (1, .ref r0), (2, .int (nI c)), (3, .int (nI tm)), (4, .int (bI is))]) rfl ?_
          refine j_goto C dX8_isBrightIn_100 (tgt := 6) (by decide) ?_
          refine j_lv [2, 3, 4, 5, 6, 0] rfl ?_
          refine ih6 _ _ (by omega) ?_ ?_
          · omega
          · rw [brn, hb, q34]; rfl
        · skip
          have q34 := (kb_nne).mp q34
          refine j_aload_n C dX8_isBrightIn_37 1 rfl rfl ?_
          refine j_aload_n C dX8_isBrightIn_38 2 rfl rfl ?_
          refine j_iload_n C dX8_isBrightIn_39 3 rfl rfl ?_
          refine j_iload C dX8_isBrightIn_40 6 rfl ?_
          refine j_iload_n C dX8_isBrightIn_42 4 rfl rfl ?_
          refine j_callVR C (nA := 4) (As := [.ref r0, .int (nI c), .int (nI o), .int (nI tm)]) (c_X8_productOf (xl X) (xT X) h8 rv rn rnw rt rd rk rik rdk rre rle rhe rth rpa ror na nx rf bv bo r0 c o tm g (by omega) (by omega)) gX8_isBrightIn_X8_productOf rfl (by decide +kernel) rfl ⟨rfl, rfl⟩ (by decide) (by decide) [0, 1, 2] rfl rfl 0 rfl rfl (rest := []) rfl (Nat.le_of_ble_eq_true rfl) dX8_isBrightIn_43 ?_
          rintro _ rfl
          show jj X 0 0 46 [(6, .long ((g (7 * o + 6)).toInt64)), (0, .ref h8), (1, .ref r0), (2, .int (nI c)), (3, .int (nI tm)), (4, .int (bI is)), (5, .int (nI o))] [.int (dotA g c o tm)] [(h8, cO 8 [.int rf, .ref rv, .ref rn, .ref rnw, .ref rt, .ref rd, .int (nI na), .int (nI nx), .ref rk, .ref rik, .ref rdk, .ref rre, .ref rle, .ref rhe, .ref rth, .ref rpa, .ref ror, .int bv, .int bo]), (rv, cI (xT X) 450 cvec), (r0, cI (xT X) 37 g)]
          refine j_i2l C dX8_isBrightIn_46 (v := ((dotA g c o tm).toInt64)) rfl ?_
          refine j_lstore C dX8_isBrightIn_47 (by decide) (lv' := [(8, .long ((dotA g c o tm).toInt64)), (6, .long ((g (7 * o + 6)).toInt64)), (0, .ref h8), (1, .ref r0), (2, .int (nI c)), (3, .int (nI tm)), (4, .int (bI is)), (5, .int (nI o))]) rfl ?_
          refine j_lload C dX8_isBrightIn_49 0 rfl ?_
          refine j_lconst C dX8_isBrightIn_51 (v := lN 0) rfl ?_
          refine j_lcmp C dX8_isBrightIn_52 ?_
          refine j_if_le C dX8_isBrightIn_53 (tgt := 94) (by decide) (fun q53 => ?_) (fun q53 => ?_)
          · skip
            have q53 := (kl_le).mp q53
            refine j_iconst C dX8_isBrightIn_94 (v := (nI 0)) kc_i_0 ?_
            show jj X 0 0 95 [(8, .long ((dotA g c o tm).toInt64)), (6, .long ((g (7 * o + 6)).toInt64)), (0, .ref h8), (1, .ref r0), (2, .int (nI c)), (3, .int (nI tm)), (4, .int (bI is)), (5, .int (nI o))] [.int (bI false)] [(h8, cO 8 [.int rf, .ref rv, .ref rn, .ref rnw, .ref rt, .ref rd, .int (nI na), .int (nI nx), .ref rk, .ref rik, .ref rdk, .ref rre, .ref rle, .ref rhe, .ref rth, .ref rpa, .ref ror, .int bv, .int bo]), (rv, cI (xT X) 450 cvec), (r0, cI (xT X) 37 g)]
            refine j_istore C dX8_isBrightIn_95 (by decide) (lv' := [(4, .int (bI false)), (8, .long ((dotA g c o tm).toInt64)), (6, .long ((g (7 * o + 6)).toInt64)), (0, .ref h8), (1, .ref r0), (2, .int (nI c)), (3, .int (nI tm)), (5, .int (nI o))]) rfl ?_
            refine j_iinc C dX8_isBrightIn_97 (q := 7) (v := (nI (o + 1))) rfl (kc_inc o) (by decide) (lv' := [(5, .int (nI (o + 1))), (4, .int (bI false)), (8, .long ((dotA g c o tm).toInt64)), (6, .long ((g (7 * o + 6)).toInt64)), (0, .ref h8), (1, .ref r0), (2, .int (nI c)), (3, .int (nI tm))]) rfl ?_
            refine j_goto C dX8_isBrightIn_100 (tgt := 6) (by decide) ?_
            refine j_lv [4, 5, 6, 7, 1, 0] rfl ?_
            refine ih6 _ _ (by omega) ?_ ?_
            · omega
            · rw [brn, hb, q34, bi_f2 q53]; rfl
          · skip
            have q53 := (kl_nle).mp q53
            refine j_ldc2l C dX8_isBrightIn_56 (v := lN 10000) (by decide +kernel) ?_
            refine j_lload C dX8_isBrightIn_59 0 rfl ?_
            refine j_lmul C dX8_isBrightIn_61 (v := ((lN 10000) * ((dotA g c o tm).toInt64))) rfl ?_
            refine j_lload C dX8_isBrightIn_62 0 rfl ?_
            refine j_lmul C dX8_isBrightIn_64 (v := (((lN 10000) * ((dotA g c o tm).toInt64)) * ((dotA g c o tm).toInt64))) rfl ?_
            refine j_lload C dX8_isBrightIn_65 1 rfl ?_
            refine j_lload C dX8_isBrightIn_67 1 rfl ?_
            refine j_lmul C dX8_isBrightIn_69 (v := (((g (7 * o + 6)).toInt64) * ((g (7 * o + 6)).toInt64))) rfl ?_
            refine j_aload_n C dX8_isBrightIn_70 2 rfl rfl ?_
            refine j_iload_n C dX8_isBrightIn_71 4 rfl rfl ?_
            refine j_callVR C (nA := 1) (As := [.int (nI c)]) (c_X8_squareOfCell (xl X) (xT X) h8 rv rn rnw rt rd rk rik rdk rre rle rhe rth rpa ror na nx rf bv bo c (by omega)) gX8_isBrightIn_X8_squareOfCell rfl (by decide +kernel) rfl ⟨rfl, rfl⟩ (by decide) (by decide) [0, 1] rfl rfl 0 rfl rfl (rest := [.long (((g (7 * o + 6)).toInt64) * ((g (7 * o + 6)).toInt64)), .long (((lN 10000) * ((dotA g c o tm).toInt64)) * ((dotA g c o tm).toInt64))]) rfl (Nat.le_of_ble_eq_true rfl) dX8_isBrightIn_72 ?_
            rintro _ rfl
            show jj X 0 0 75 [(8, .long ((dotA g c o tm).toInt64)), (6, .long ((g (7 * o + 6)).toInt64)), (0, .ref h8), (1, .ref r0), (2, .int (nI c)), (3, .int (nI tm)), (4, .int (bI is)), (5, .int (nI o))] [.int (csq c), .long (((g (7 * o + 6)).toInt64) * ((g (7 * o + 6)).toInt64)), .long (((lN 10000) * ((dotA g c o tm).toInt64)) * ((dotA g c o tm).toInt64))] [(h8, cO 8 [.int rf, .ref rv, .ref rn, .ref rnw, .ref rt, .ref rd, .int (nI na), .int (nI nx), .ref rk, .ref rik, .ref rdk, .ref rre, .ref rle, .ref rhe, .ref rth, .ref rpa, .ref ror, .int bv, .int bo]), (rv, cI (xT X) 450 cvec), (r0, cI (xT X) 37 g)]
            refine j_i2l C dX8_isBrightIn_75 (v := ((csq c).toInt64)) rfl ?_
            refine j_lmul C dX8_isBrightIn_76 (v := ((((g (7 * o + 6)).toInt64) * ((g (7 * o + 6)).toInt64)) * ((csq c).toInt64))) rfl ?_
            refine j_aload_n C dX8_isBrightIn_77 3 rfl rfl ?_
            refine j_iload C dX8_isBrightIn_78 7 rfl ?_
            refine j_iload_n C dX8_isBrightIn_80 5 rfl rfl ?_
            refine j_callSR C (nA := 3) (As := [.ref r0, .int (nI o), .int (nI tm)]) (c_X8_squareOf (xl X) (xT X) r0 o tm g (by omega)) gX8_isBrightIn_X8_squareOf rfl (by decide +kernel) rfl ⟨rfl, rfl⟩ (by decide) (by decide) [2] rfl rfl (rest := [.long ((((g (7 * o + 6)).toInt64) * ((g (7 * o + 6)).toInt64)) * ((csq c).toInt64)), .long (((lN 10000) * ((dotA g c o tm).toInt64)) * ((dotA g c o tm).toInt64))]) rfl (Nat.le_of_ble_eq_true rfl) dX8_isBrightIn_81 ?_
            rintro _ rfl
            show jj X 0 0 84 [(8, .long ((dotA g c o tm).toInt64)), (6, .long ((g (7 * o + 6)).toInt64)), (0, .ref h8), (1, .ref r0), (2, .int (nI c)), (3, .int (nI tm)), (4, .int (bI is)), (5, .int (nI o))] [.int (sqA g o tm), .long ((((g (7 * o + 6)).toInt64) * ((g (7 * o + 6)).toInt64)) * ((csq c).toInt64)), .long (((lN 10000) * ((dotA g c o tm).toInt64)) * ((dotA g c o tm).toInt64))] [(h8, cO 8 [.int rf, .ref rv, .ref rn, .ref rnw, .ref rt, .ref rd, .int (nI na), .int (nI nx), .ref rk, .ref rik, .ref rdk, .ref rre, .ref rle, .ref rhe, .ref rth, .ref rpa, .ref ror, .int bv, .int bo]), (rv, cI (xT X) 450 cvec), (r0, cI (xT X) 37 g)]
            refine j_i2l C dX8_isBrightIn_84 (v := ((sqA g o tm).toInt64)) rfl ?_
            refine j_lmul C dX8_isBrightIn_85 (v := (((((g (7 * o + 6)).toInt64) * ((g (7 * o + 6)).toInt64)) * ((csq c).toInt64)) * ((sqA g o tm).toInt64))) rfl ?_
            refine j_lcmp C dX8_isBrightIn_86 ?_
            refine j_if_le C dX8_isBrightIn_87 (tgt := 94) (by decide) (fun q87 => ?_) (fun q87 => ?_)
            · skip
              have q87 := (kl_le).mp q87
              refine j_iconst C dX8_isBrightIn_94 (v := (nI 0)) kc_i_0 ?_
              show jj X 0 0 95 [(8, .long ((dotA g c o tm).toInt64)), (6, .long ((g (7 * o + 6)).toInt64)), (0, .ref h8), (1, .ref r0), (2, .int (nI c)), (3, .int (nI tm)), (4, .int (bI is)), (5, .int (nI o))] [.int (bI false)] [(h8, cO 8 [.int rf, .ref rv, .ref rn, .ref rnw, .ref rt, .ref rd, .int (nI na), .int (nI nx), .ref rk, .ref rik, .ref rdk, .ref rre, .ref rle, .ref rhe, .ref rth, .ref rpa, .ref ror, .int bv, .int bo]), (rv, cI (xT X) 450 cvec), (r0, cI (xT X) 37 g)]
              refine j_istore C dX8_isBrightIn_95 (by decide) (lv' := [(4, .int (bI false)), (8, .long ((dotA g c o tm).toInt64)), (6, .long ((g (7 * o + 6)).toInt64)), (0, .ref h8), (1, .ref r0), (2, .int (nI c)), (3, .int (nI tm)), (5, .int (nI o))]) rfl ?_
              refine j_iinc C dX8_isBrightIn_97 (q := 7) (v := (nI (o + 1))) rfl (kc_inc o) (by decide) (lv' := [(5, .int (nI (o + 1))), (4, .int (bI false)), (8, .long ((dotA g c o tm).toInt64)), (6, .long ((g (7 * o + 6)).toInt64)), (0, .ref h8), (1, .ref r0), (2, .int (nI c)), (3, .int (nI tm))]) rfl ?_
              refine j_goto C dX8_isBrightIn_100 (tgt := 6) (by decide) ?_
              refine j_lv [4, 5, 6, 7, 1, 0] rfl ?_
              refine ih6 _ _ (by omega) ?_ ?_
              · omega
              · rw [brn, hb, q34, bi_f3 q87]; rfl
            · skip
              have q87 := (kl_nle).mp q87
              refine j_iconst C dX8_isBrightIn_90 (v := (nI 1)) kc_i_1 ?_
              refine j_goto C dX8_isBrightIn_91 (tgt := 95) (by decide) ?_
              show jj X 0 0 95 [(8, .long ((dotA g c o tm).toInt64)), (6, .long ((g (7 * o + 6)).toInt64)), (0, .ref h8), (1, .ref r0), (2, .int (nI c)), (3, .int (nI tm)), (4, .int (bI is)), (5, .int (nI o))] [.int (bI true)] [(h8, cO 8 [.int rf, .ref rv, .ref rn, .ref rnw, .ref rt, .ref rd, .int (nI na), .int (nI nx), .ref rk, .ref rik, .ref rdk, .ref rre, .ref rle, .ref rhe, .ref rth, .ref rpa, .ref ror, .int bv, .int bo]), (rv, cI (xT X) 450 cvec), (r0, cI (xT X) 37 g)]
              refine j_istore C dX8_isBrightIn_95 (by decide) (lv' := [(4, .int (bI true)), (8, .long ((dotA g c o tm).toInt64)), (6, .long ((g (7 * o + 6)).toInt64)), (0, .ref h8), (1, .ref r0), (2, .int (nI c)), (3, .int (nI tm)), (5, .int (nI o))]) rfl ?_
              refine j_iinc C dX8_isBrightIn_97 (q := 7) (v := (nI (o + 1))) rfl (kc_inc o) (by decide) (lv' := [(5, .int (nI (o + 1))), (4, .int (bI true)), (8, .long ((dotA g c o tm).toInt64)), (6, .long ((g (7 * o + 6)).toInt64)), (0, .ref h8), (1, .ref r0), (2, .int (nI c)), (3, .int (nI tm))]) rfl ?_
              refine j_goto C dX8_isBrightIn_100 (tgt := 6) (by decide) ?_
              refine j_lv [4, 5, 6, 7, 1, 0] rfl ?_
              refine ih6 _ _ (by omega) ?_ ?_
              · omega
              · rw [brn, hb, q34, bi_t (Int64.not_le.mpr q29) (Int64.not_le.mpr q53) (Int64.not_le.mpr q87)]; rfl

set_option maxHeartbeats 4000000 in
set_option maxRecDepth 100000 in
/-- brightIn(row, t) -/
theorem c_X8_brightIn (l : Launch) (T : jj_T) (h8 rv rn rnw rt rd rk rik rdk rre rle rhe rth rpa ror na nx : Nat) (rf bv bo : Int32) (r0 tm : Nat) (g : Nat → Int32) (hco : coI g) : jR l T yX8_brightIn wsX8_brightIn { frames := 3, cells := 0, slots := 0, locals := 78 } [.ref h8, .ref r0, .int (nI tm)] [(h8, cO 8 [.int rf, .ref rv, .ref rn, .ref rnw, .ref rt, .ref rd, .int (nI na), .int (nI nx), .ref rk, .ref rik, .ref rdk, .ref rre, .ref rle, .ref rhe, .ref rth, .ref rpa, .ref ror, .int bv, .int bo]), (rv, cI T 450 cvec), (r0, cI T 37 g)] (fun v => v = some (.int (nI (fb_ct (fun c => br g c tm) 150)))) := by
  refine jR.of (cc := cX8_brightIn) (maxL := 5) (ret := (some .int)) (by decide) rfl (Nat.le_of_ble_eq_true rfl) ?_
  intro X C ro hl hT hQ
  subst hl; subst hT
  show jj X 0 0 0 [(0, .ref h8), (1, .ref r0), (2, .int (nI tm))] [] [(h8, cO 8 [.int rf, .ref rv, .ref rn, .ref rnw, .ref rt, .ref rd, .int (nI na), .int (nI nx), .ref rk, .ref rik, .ref rdk, .ref rre, .ref rle, .ref rhe, .ref rth, .ref rpa, .ref ror, .int bv, .int bo]), (rv, cI (xT X) 450 cvec), (r0, cI (xT X) 37 g)]
  refine j_iconst C dX8_brightIn_0 (v := (nI 0)) kc_i_0 ?_
  refine j_istore_n C dX8_brightIn_1 rfl (by decide) (lv' := [(3, .int (nI 0)), (0, .ref h8), (1, .ref r0), (2, .int (nI tm))]) rfl ?_
  refine j_iconst C dX8_brightIn_2 (v := (nI 0)) kc_i_0 ?_
  refine j_istore C dX8_brightIn_3 (by decide) (lv' := [(4, .int (nI 0)), (3, .int (nI 0)), (0, .ref h8), (1, .ref r0), (2, .int (nI tm))]) rfl ?_
  refine j_lv [2, 3, 4, 1, 0] rfl ?_
  suffices hc5 : ∀ (mm : Nat) (c n : Nat), 150 - c < mm → (c ≤ 150) → (n = fb_ct (fun c => br g c tm) c) → jj X 0 0 5 [(0, .ref h8), (1, .ref r0), (2, .int (nI tm)), (3, .int (nI n)), (4, .int (nI c))] [] [(h8, cO 8 [.int rf, .ref rv, .ref rn, .ref rnw, .ref rt, .ref rd, .int (nI na), .int (nI nx), .ref rk, .ref rik, .ref rdk, .ref rre, .ref rle, .ref rhe, .ref rth, .ref rpa, .ref ror, .int bv, .int bo]), (rv, cI (xT X) 450 cvec), (r0, cI (xT X) 37 g)] by
    refine hc5 _ _ _ (Nat.lt_succ_self _) ?_ ?_
    · omega
    · rfl
  intro mm
  induction mm with
  | zero => intro c n hm; exact absurd hm (Nat.not_lt_zero _)
  | succ mm ih5 =>
    intro c n hm5 hc hn
    refine j_iload C dX8_brightIn_5 4 rfl ?_
    refine j_sipush C dX8_brightIn_7 (v := (nI 150)) kc_s_150 ?_
    refine j_icmp_ge C dX8_brightIn_10 (tgt := 38) (by decide) (fun q10 => ?_) (fun q10 => ?_)
    · skip
      have q10 := (kn_ge (a := c) (b := 150) (by omega) (by omega)).mp q10
      refine j_iload_n C dX8_brightIn_38 3 rfl rfl ?_
      refine j_iretR C ro hQ rfl ?_ dX8_brightIn_39
      refine kn_e ?_
      rw [hn, show c = 150 by omega]
    · skip
      have q10 := (kn_nge (a := c) (b := 150) (by omega) (by omega)).mp q10
      refine j_iload_n C dX8_brightIn_13 3 rfl rfl ?_
      refine j_aload_n C dX8_brightIn_14 0 rfl rfl ?_
      refine j_aload_n C dX8_brightIn_15 1 rfl rfl ?_
      refine j_iload C dX8_brightIn_16 4 rfl ?_
      refine j_iload_n C dX8_brightIn_18 2 rfl rfl ?_
      refine j_callVR C (nA := 3) (As := [.ref r0, .int (nI c), .int (nI tm)]) (c_X8_isBrightIn (xl X) (xT X) h8 rv rn rnw rt rd rk rik rdk rre rle rhe rth rpa ror na nx rf bv bo r0 c tm g (by omega) (by exact hco)) gX8_brightIn_X8_isBrightIn rfl (by decide +kernel) rfl ⟨rfl, rfl⟩ (by decide) (by decide) [0, 1, 2] rfl rfl 0 rfl rfl (rest := [.int (nI n)]) rfl (Nat.le_of_ble_eq_true rfl) dX8_brightIn_19 ?_
      rintro _ rfl
      show jj X 0 0 22 [(0, .ref h8), (1, .ref r0), (2, .int (nI tm)), (3, .int (nI n)), (4, .int (nI c))] [.int (bI (br g c tm)), .int (nI n)] [(h8, cO 8 [.int rf, .ref rv, .ref rn, .ref rnw, .ref rt, .ref rd, .int (nI na), .int (nI nx), .ref rk, .ref rik, .ref rdk, .ref rre, .ref rle, .ref rhe, .ref rth, .ref rpa, .ref ror, .int bv, .int bo]), (rv, cI (xT X) 450 cvec), (r0, cI (xT X) 37 g)]
      refine j_if_eq C dX8_brightIn_22 (tgt := 29) (by decide) (fun q22 => ?_) (fun q22 => ?_)
      · skip
        have q22 := (kb_eq).mp q22
        refine j_iconst C dX8_brightIn_29 (v := (nI 0)) kc_i_0 ?_
        refine j_iadd C dX8_brightIn_30 (v := (nI (n + 0))) (nI_add _ _) ?_
        refine j_istore_n C dX8_brightIn_31 rfl (by decide) (lv' := [(3, .int (nI (n + 0))), (0, .ref h8), (1, .ref r0), (2, .int (nI tm)), (4, .int (nI c))]) rfl ?_
        refine j_iinc C dX8_brightIn_32 (q := 4) (v := (nI (c + 1))) rfl (kc_inc c) (by decide) (lv' := [(4, .int (nI (c + 1))), (3, .int (nI (n + 0))), (0, .ref h8), (1, .ref r0), (2, .int (nI tm))]) rfl ?_
        refine j_goto C dX8_brightIn_35 (tgt := 5) (by decide) ?_
        refine j_lv [2, 3, 4, 1, 0] rfl ?_
        refine ih5 _ _ (by omega) ?_ ?_
        · omega
        · rw [hn, fb_ct, q22]; rfl
      · skip
        have q22 := (kb_neq).mp q22
        refine j_iconst C dX8_brightIn_25 (v := (nI 1)) kc_i_1 ?_
        refine j_goto C dX8_brightIn_26 (tgt := 30) (by decide) ?_
        refine j_iadd C dX8_brightIn_30 (v := (nI (n + 1))) (nI_add _ _) ?_
        refine j_istore_n C dX8_brightIn_31 rfl (by decide) (lv' := [(3, .int (nI (n + 1))), (0, .ref h8), (1, .ref r0), (2, .int (nI tm)), (4, .int (nI c))]) rfl ?_
        refine j_iinc C dX8_brightIn_32 (q := 4) (v := (nI (c + 1))) rfl (kc_inc c) (by decide) (lv' := [(4, .int (nI (c + 1))), (3, .int (nI (n + 1))), (0, .ref h8), (1, .ref r0), (2, .int (nI tm))]) rfl ?_
        refine j_goto C dX8_brightIn_35 (tgt := 5) (by decide) ?_
        refine j_lv [2, 3, 4, 1, 0] rfl ?_
        refine ih5 _ _ (by omega) ?_ ?_
        · omega
        · rw [hn, fb_ct, q22]; rfl

set_option maxHeartbeats 4000000 in
set_option maxRecDepth 100000 in
/-- areIn(x, y, z, most) -/
theorem c_X8_areIn (l : Launch) (T : jj_T) (x y z : Int32) (m : Nat) (hm : m ≤ 99) : jR l T yX8_areIn wsX8_areIn { frames := 1, cells := 0, slots := 0, locals := 25 } [.int x, .int y, .int z, .int (nI m)] [] (fun v => v = some (.int (bI (inR x (-(m : Int)) m && (inR y (-(m : Int)) m && inR z (-(m : Int)) m))))) := by
  refine jR.of (cc := cX8_areIn) (maxL := 4) (ret := (some .boolean)) (by decide) rfl (Nat.le_of_ble_eq_true rfl) ?_
  intro X C ro hl hT hQ
  subst hl; subst hT
  show jj X 0 0 0 [(0, .int x), (1, .int y), (2, .int z), (3, .int (nI m))] [] []
  refine j_iload_n C dX8_areIn_0 0 rfl rfl ?_
  refine j_i2l C dX8_areIn_1 (v := x.toInt64) rfl ?_
  refine j_iload_n C dX8_areIn_2 3 rfl rfl ?_
  refine j_ineg C dX8_areIn_3 (v := (-(nI m))) rfl ?_
  refine j_i2l C dX8_areIn_4 (v := ((-(nI m)).toInt64)) rfl ?_
  refine j_iload_n C dX8_areIn_5 3 rfl rfl ?_
  refine j_i2l C dX8_areIn_6 (v := (lN m)) (nI_l (by omega)) ?_
  refine j_callSR C (nA := 3) (As := [.long x.toInt64, .long ((-(nI m)).toInt64), .long (lN m)]) (c_X8_in (xl X) (xT X) x ((-(nI m)).toInt64) (lN m) (-(m : Int)) (m : Int) (by rw [i2l_toInt]; rw [Int32.toInt_neg, nI_toInt (by omega)]; exact bm_neg (by omega)) (by rw [lN_toI (by omega)])) gX8_areIn_X8_in rfl (by decide +kernel) rfl ⟨rfl, rfl⟩ (by decide) (by decide) [] rfl rfl (rest := []) rfl (Nat.le_of_ble_eq_true rfl) dX8_areIn_7 ?_
  rintro _ rfl
  show jj X 0 0 10 [(0, .int x), (1, .int y), (2, .int z), (3, .int (nI m))] [.int (bI (inR x (-(m : Int)) (m : Int)))] []
  refine j_if_eq C dX8_areIn_10 (tgt := 43) (by decide) (fun q10 => ?_) (fun q10 => ?_)
  · skip
    have q10 := (kb_eq).mp q10
    refine j_iconst C dX8_areIn_43 (v := (nI 0)) kc_i_0 ?_
    refine j_iretR C ro hQ (by decide +kernel) ?_ dX8_areIn_44
    exact kb_f (by rw [q10]; rfl)
  · skip
    have q10 := (kb_neq).mp q10
    refine j_iload_n C dX8_areIn_13 1 rfl rfl ?_
    refine j_i2l C dX8_areIn_14 (v := y.toInt64) rfl ?_
    refine j_iload_n C dX8_areIn_15 3 rfl rfl ?_
    refine j_ineg C dX8_areIn_16 (v := (-(nI m))) rfl ?_
    refine j_i2l C dX8_areIn_17 (v := ((-(nI m)).toInt64)) rfl ?_
    refine j_iload_n C dX8_areIn_18 3 rfl rfl ?_
    refine j_i2l C dX8_areIn_19 (v := (lN m)) (nI_l (by omega)) ?_
    refine j_callSR C (nA := 3) (As := [.long y.toInt64, .long ((-(nI m)).toInt64), .long (lN m)]) (c_X8_in (xl X) (xT X) y ((-(nI m)).toInt64) (lN m) (-(m : Int)) (m : Int) (by rw [i2l_toInt]; rw [Int32.toInt_neg, nI_toInt (by omega)]; exact bm_neg (by omega)) (by rw [lN_toI (by omega)])) gX8_areIn_X8_in rfl (by decide +kernel) rfl ⟨rfl, rfl⟩ (by decide) (by decide) [] rfl rfl (rest := []) rfl (Nat.le_of_ble_eq_true rfl) dX8_areIn_20 ?_
    rintro _ rfl
    show jj X 0 0 23 [(0, .int x), (1, .int y), (2, .int z), (3, .int (nI m))] [.int (bI (inR y (-(m : Int)) (m : Int)))] []
    refine j_if_eq C dX8_areIn_23 (tgt := 43) (by decide) (fun q23 => ?_) (fun q23 => ?_)
    · skip
      have q23 := (kb_eq).mp q23
      refine j_iconst C dX8_areIn_43 (v := (nI 0)) kc_i_0 ?_
      refine j_iretR C ro hQ (by decide +kernel) ?_ dX8_areIn_44
      exact kb_f (by rw [q10, q23]; rfl)
    · skip
      have q23 := (kb_neq).mp q23
      refine j_iload_n C dX8_areIn_26 2 rfl rfl ?_
      refine j_i2l C dX8_areIn_27 (v := z.toInt64) rfl ?_
      refine j_iload_n C dX8_areIn_28 3 rfl rfl ?_
      refine j_ineg C dX8_areIn_29 (v := (-(nI m))) rfl ?_
      refine j_i2l C dX8_areIn_30 (v := ((-(nI m)).toInt64)) rfl ?_
      refine j_iload_n C dX8_areIn_31 3 rfl rfl ?_
      refine j_i2l C dX8_areIn_32 (v := (lN m)) (nI_l (by omega)) ?_
      refine j_callSR C (nA := 3) (As := [.long z.toInt64, .long ((-(nI m)).toInt64), .long (lN m)]) (c_X8_in (xl X) (xT X) z ((-(nI m)).toInt64) (lN m) (-(m : Int)) (m : Int) (by rw [i2l_toInt]; rw [Int32.toInt_neg, nI_toInt (by omega)]; exact bm_neg (by omega)) (by rw [lN_toI (by omega)])) gX8_areIn_X8_in rfl (by decide +kernel) rfl ⟨rfl, rfl⟩ (by decide) (by decide) [] rfl rfl (rest := []) rfl (Nat.le_of_ble_eq_true rfl) dX8_areIn_33 ?_
      rintro _ rfl
      show jj X 0 0 36 [(0, .int x), (1, .int y), (2, .int z), (3, .int (nI m))] [.int (bI (inR z (-(m : Int)) (m : Int)))] []
      refine j_if_eq C dX8_areIn_36 (tgt := 43) (by decide) (fun q36 => ?_) (fun q36 => ?_)
      · skip
        have q36 := (kb_eq).mp q36
        refine j_iconst C dX8_areIn_43 (v := (nI 0)) kc_i_0 ?_
        refine j_iretR C ro hQ (by decide +kernel) ?_ dX8_areIn_44
        exact kb_f (by rw [q10, q23, q36]; rfl)
      · skip
        have q36 := (kb_neq).mp q36
        refine j_iconst C dX8_areIn_39 (v := (nI 1)) kc_i_1 ?_
        refine j_goto C dX8_areIn_40 (tgt := 44) (by decide) ?_
        refine j_iretR C ro hQ (by decide +kernel) ?_ dX8_areIn_44
        exact kb_t (by rw [q10, q23, q36]; rfl)

set_option maxHeartbeats 4000000 in
set_option maxRecDepth 100000 in
/-- isNear(c, d) -/
theorem c_X8_isNear (l : Launch) (T : jj_T) (h8 rv rn rnw rt rd rk rik rdk rre rle rhe rth rpa ror na nx : Nat) (rf bv bo : Int32) (c d : Nat) (hc : c < 150) (hd : d < 150) : jR l T yX8_isNear wsX8_isNear { frames := 0, cells := 0, slots := 0, locals := 0 } [.ref h8, .int (nI c), .int (nI d)] [(h8, cO 8 [.int rf, .ref rv, .ref rn, .ref rnw, .ref rt, .ref rd, .int (nI na), .int (nI nx), .ref rk, .ref rik, .ref rdk, .ref rre, .ref rle, .ref rhe, .ref rth, .ref rpa, .ref ror, .int bv, .int bo]), (rn, cI T 600 (fun j => nI (near4 j)))] (fun v => v = some (.int (bI (decide (c = d) || tb_nb c d)))) := by
  refine jR.of (cc := cX8_isNear) (maxL := 5) (ret := (some .boolean)) (by decide) rfl (Nat.le_of_ble_eq_true rfl) ?_
  intro X C ro hl hT hQ
  subst hl; subst hT
  have hin8 : ∀ w ∈ u_ws RX8 TX8 19, w ∈ wsX8_isNear := by decide +kernel
  have hl13 : Cond.fieldLink RX8 13 (TX8 2).1 (TX8 2).2.1 (TX8 2).2.2.1 ∈ wsX8_isNear := by decide +kernel
  show jj X 0 0 0 [(0, .ref h8), (1, .int (nI c)), (2, .int (nI d))] [] [(h8, cO 8 [.int rf, .ref rv, .ref rn, .ref rnw, .ref rt, .ref rd, .int (nI na), .int (nI nx), .ref rk, .ref rik, .ref rdk, .ref rre, .ref rle, .ref rhe, .ref rth, .ref rpa, .ref ror, .int bv, .int bo]), (rn, cI (xT X) 600 (fun j => nI (near4 j)))]
  have hc11 : ∀ (is : Bool), (is = decide (c = d)) → jj X 0 0 11 [(0, .ref h8), (1, .int (nI c)), (2, .int (nI d)), (3, .int (bI is))] [] [(h8, cO 8 [.int rf, .ref rv, .ref rn, .ref rnw, .ref rt, .ref rd, .int (nI na), .int (nI nx), .ref rk, .ref rik, .ref rdk, .ref rre, .ref rle, .ref rhe, .ref rth, .ref rpa, .ref ror, .int bv, .int bo]), (rn, cI (xT X) 600 (fun j => nI (near4 j)))] := by
    intro is hb0
    refine j_iconst C dX8_isNear_11 (v := (nI 0)) kc_i_0 ?_
    refine j_istore C dX8_isNear_12 (by decide) (lv' := [(4, .int (nI 0)), (0, .ref h8), (1, .int (nI c)), (2, .int (nI d)), (3, .int (bI is))]) rfl ?_
    refine j_lv [1, 2, 3, 4, 0] rfl ?_
    suffices hc14 : ∀ (mm : Nat) (k : Nat) (is : Bool), 4 - k < mm → (k ≤ 4) → (is = (decide (c = d) || kx k c d)) → jj X 0 0 14 [(0, .ref h8), (1, .int (nI c)), (2, .int (nI d)), (3, .int (bI is)), (4, .int (nI k))] [] [(h8, cO 8 [.int rf, .ref rv, .ref rn, .ref rnw, .ref rt, .ref rd, .int (nI na), .int (nI nx), .ref rk, .ref rik, .ref rdk, .ref rre, .ref rle, .ref rhe, .ref rth, .ref rpa, .ref ror, .int bv, .int bo]), (rn, cI (xT X) 600 (fun j => nI (near4 j)))] by
      refine hc14 _ _ _ (Nat.lt_succ_self _) ?_ ?_
      · omega
      · rw [kx, Bool.or_false, hb0]
    intro mm
    induction mm with
    | zero => intro k is hm; exact absurd hm (Nat.not_lt_zero _)
    | succ mm ih14 =>
      intro k is hm14 hk hb
      refine j_iload C dX8_isNear_14 4 rfl ?_
      refine j_iconst C dX8_isNear_16 (v := (nI 4)) kc_i_4 ?_
      refine j_icmp_ge C dX8_isNear_17 (tgt := 51) (by decide) (fun q17 => ?_) (fun q17 => ?_)
      · skip
        have q17 := (kn_ge (a := k) (b := 4) (by omega) (by omega)).mp q17
        refine j_iload_n C dX8_isNear_51 3 rfl rfl ?_
        refine j_iretR C ro hQ (bI_nar _) ?_ dX8_isNear_52
        refine kb_e ?_
        unfold tb_nb; rw [hb, show k = 4 by omega]
      · skip
        have q17 := (kn_nge (a := k) (b := 4) (by omega) (by omega)).mp q17
        have hnk := (tb_near c hc k (by omega)).1
        refine j_iload_n C dX8_isNear_20 3 rfl rfl ?_
        refine j_if_ne C dX8_isNear_21 (tgt := 39) (by decide) (fun q21 => ?_) (fun q21 => ?_)
        · skip
          have q21 := (kb_ne).mp q21
          refine j_iconst C dX8_isNear_39 (v := (nI 1)) kc_i_1 ?_
          refine j_goto C dX8_isNear_40 (tgt := 44) (by decide) ?_
          show jj X 0 0 44 [(0, .ref h8), (1, .int (nI c)), (2, .int (nI d)), (3, .int (bI is)), (4, .int (nI k))] [.int (bI true)] [(h8, cO 8 [.int rf, .ref rv, .ref rn, .ref rnw, .ref rt, .ref rd, .int (nI na), .int (nI nx), .ref rk, .ref rik, .ref rdk, .ref rre, .ref rle, .ref rhe, .ref rth, .ref rpa, .ref ror, .int bv, .int bo]), (rn, cI (xT X) 600 (fun j => nI (near4 j)))]
          refine j_istore_n C dX8_isNear_44 rfl (by decide) (lv' := [(3, .int (bI true)), (0, .ref h8), (1, .int (nI c)), (2, .int (nI d)), (4, .int (nI k))]) rfl ?_
          refine j_iinc C dX8_isNear_45 (q := 4) (v := (nI (k + 1))) rfl (kc_inc k) (by decide) (lv' := [(4, .int (nI (k + 1))), (3, .int (bI true)), (0, .ref h8), (1, .int (nI c)), (2, .int (nI d))]) rfl ?_
          refine j_goto C dX8_isNear_48 (tgt := 14) (by decide) ?_
          refine j_lv [2, 3, 4, 1, 0] rfl ?_
          refine ih14 _ _ (by omega) ?_ ?_
          · omega
          · rw [kx, ← Bool.or_assoc, ← hb, q21]; rfl
        · skip
          have q21 := (kb_nne).mp q21
          refine j_aload_n C dX8_isNear_24 0 rfl rfl ?_
          refine j_get C (hin8) (ci := 8) rfl 2 (by decide) (hl13) 0 rfl (v := .ref rn) rfl dX8_isNear_25 ?_
          refine j_iconst C dX8_isNear_28 (v := (nI 4)) kc_i_4 ?_
          refine j_iload_n C dX8_isNear_29 1 rfl rfl ?_
          refine j_imul C dX8_isNear_30 (v := (nI (4 * c))) (pk_mul _ _) ?_
          refine j_iload C dX8_isNear_31 4 rfl ?_
          refine j_iadd C dX8_isNear_33 (v := (nI (4 * c + k))) (nI_add _ _) ?_
          refine j_ialoadN C (4 * c + k) rfl 1 rfl (by omega) (by decide) dX8_isNear_34 ?_
          refine j_iload_n C dX8_isNear_35 2 rfl rfl ?_
          refine j_icmp_ne C dX8_isNear_36 (tgt := 43) (by decide) (fun q36 => ?_) (fun q36 => ?_)
          · skip
            have q36 := (kn_ne (a := near4 (4 * c + k)) (b := d) (by omega) (by omega)).mp q36
            refine j_iconst C dX8_isNear_43 (v := (nI 0)) kc_i_0 ?_
            show jj X 0 0 44 [(0, .ref h8), (1, .int (nI c)), (2, .int (nI d)), (3, .int (bI is)), (4, .int (nI k))] [.int (bI false)] [(h8, cO 8 [.int rf, .ref rv, .ref rn, .ref rnw, .ref rt, .ref rd, .int (nI na), .int (nI nx), .ref rk, .ref rik, .ref rdk, .ref rre, .ref rle, .ref rhe, .ref rth, .ref rpa, .ref ror, .int bv, .int bo]), (rn, cI (xT X) 600 (fun j => nI (near4 j)))]
            refine j_istore_n C dX8_isNear_44 rfl (by decide) (lv' := [(3, .int (bI false)), (0, .ref h8), (1, .int (nI c)), (2, .int (nI d)), (4, .int (nI k))]) rfl ?_
            refine j_iinc C dX8_isNear_45 (q := 4) (v := (nI (k + 1))) rfl (kc_inc k) (by decide) (lv' := [(4, .int (nI (k + 1))), (3, .int (bI false)), (0, .ref h8), (1, .int (nI c)), (2, .int (nI d))]) rfl ?_
            refine j_goto C dX8_isNear_48 (tgt := 14) (by decide) ?_
            refine j_lv [2, 3, 4, 1, 0] rfl ?_
            refine ih14 _ _ (by omega) ?_ ?_
            · omega
            · rw [kx, ← Bool.or_assoc, ← hb, beq_eq_false_iff_ne.mpr q36, q21]; rfl
          · skip
            have q36 := (kn_nne (a := near4 (4 * c + k)) (b := d) (by omega) (by omega)).mp q36
            refine j_iconst C dX8_isNear_39 (v := (nI 1)) kc_i_1 ?_
            refine j_goto C dX8_isNear_40 (tgt := 44) (by decide) ?_
            show jj X 0 0 44 [(0, .ref h8), (1, .int (nI c)), (2, .int (nI d)), (3, .int (bI is)), (4, .int (nI k))] [.int (bI true)] [(h8, cO 8 [.int rf, .ref rv, .ref rn, .ref rnw, .ref rt, .ref rd, .int (nI na), .int (nI nx), .ref rk, .ref rik, .ref rdk, .ref rre, .ref rle, .ref rhe, .ref rth, .ref rpa, .ref ror, .int bv, .int bo]), (rn, cI (xT X) 600 (fun j => nI (near4 j)))]
            refine j_istore_n C dX8_isNear_44 rfl (by decide) (lv' := [(3, .int (bI true)), (0, .ref h8), (1, .int (nI c)), (2, .int (nI d)), (4, .int (nI k))]) rfl ?_
            refine j_iinc C dX8_isNear_45 (q := 4) (v := (nI (k + 1))) rfl (kc_inc k) (by decide) (lv' := [(4, .int (nI (k + 1))), (3, .int (bI true)), (0, .ref h8), (1, .int (nI c)), (2, .int (nI d))]) rfl ?_
            refine j_goto C dX8_isNear_48 (tgt := 14) (by decide) ?_
            refine j_lv [2, 3, 4, 1, 0] rfl ?_
            refine ih14 _ _ (by omega) ?_ ?_
            · omega
            · rw [kx, ← Bool.or_assoc, ← hb, q36]; simp
  refine j_iload_n C dX8_isNear_0 1 rfl rfl ?_
  refine j_iload_n C dX8_isNear_1 2 rfl rfl ?_
  refine j_icmp_ne C dX8_isNear_2 (tgt := 9) (by decide) (fun q2 => ?_) (fun q2 => ?_)
  · skip
    have q2 := (kn_ne (a := c) (b := d) (by omega) (by omega)).mp q2
    refine j_iconst C dX8_isNear_9 (v := (nI 0)) kc_i_0 ?_
    show jj X 0 0 10 [(0, .ref h8), (1, .int (nI c)), (2, .int (nI d))] [.int (bI false)] [(h8, cO 8 [.int rf, .ref rv, .ref rn, .ref rnw, .ref rt, .ref rd, .int (nI na), .int (nI nx), .ref rk, .ref rik, .ref rdk, .ref rre, .ref rle, .ref rhe, .ref rth, .ref rpa, .ref ror, .int bv, .int bo]), (rn, cI (xT X) 600 (fun j => nI (near4 j)))]
    refine j_istore_n C dX8_isNear_10 rfl (by decide) (lv' := [(3, .int (bI false)), (0, .ref h8), (1, .int (nI c)), (2, .int (nI d))]) rfl ?_
    refine j_lv [1, 2, 3, 0] rfl ?_
    refine hc11 _ ?_
    · exact (decide_eq_false q2).symm
  · skip
    have q2 := (kn_nne (a := c) (b := d) (by omega) (by omega)).mp q2
    refine j_iconst C dX8_isNear_5 (v := (nI 1)) kc_i_1 ?_
    refine j_goto C dX8_isNear_6 (tgt := 10) (by decide) ?_
    show jj X 0 0 10 [(0, .ref h8), (1, .int (nI c)), (2, .int (nI d))] [.int (bI true)] [(h8, cO 8 [.int rf, .ref rv, .ref rn, .ref rnw, .ref rt, .ref rd, .int (nI na), .int (nI nx), .ref rk, .ref rik, .ref rdk, .ref rre, .ref rle, .ref rhe, .ref rth, .ref rpa, .ref ror, .int bv, .int bo]), (rn, cI (xT X) 600 (fun j => nI (near4 j)))]
    refine j_istore_n C dX8_isNear_10 rfl (by decide) (lv' := [(3, .int (bI true)), (0, .ref h8), (1, .int (nI c)), (2, .int (nI d))]) rfl ?_
    refine j_lv [1, 2, 3, 0] rfl ?_
    refine hc11 _ ?_
    · exact (decide_eq_true q2).symm
