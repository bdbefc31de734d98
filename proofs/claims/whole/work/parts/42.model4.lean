/-! THE MODEL: the diary; what changes an object -/
/-- a row laid into the diary (or the kept ones) at place i -/
def dgN (D : Nat → Int32) (i : Nat) (g : Nat → Int32) (j : Nat) : Int32 := if 37 * i ≤ j ∧ j < 37 * i + 37 then g (j - 37 * i) else D j
def dgK (D : Nat → Int32) (i k : Nat) (g : Nat → Int32) (j : Nat) : Int32 := if 37 * i ≤ j ∧ j < 37 * i + k then g (j - 37 * i) else D j
theorem dgK_0 (D : Nat → Int32) (i : Nat) (g : Nat → Int32) : dgK D i 0 g = D := funext fun j => if_neg (by omega)
theorem dgK_s {D : Nat → Int32} {i k : Nat} {g : Nat → Int32} : upd (dgK D i k g) (37 * i + k) (g k) = dgK D i (k + 1) g := by
  funext j
  unfold upd dgK
  by_cases h : j = 37 * i + k
  · rw [if_pos h, if_pos (by omega), show j - 37 * i = k by omega]
  · rw [if_neg h]
    by_cases h2 : 37 * i ≤ j ∧ j < 37 * i + k
    · rw [if_pos h2, if_pos (by omega)]
    · rw [if_neg h2, if_neg (by omega)]
theorem dgK_e (D : Nat → Int32) (i : Nat) (g : Nat → Int32) : dgK D i 37 g = dgN D i g := rfl
set_option maxHeartbeats 4000000 in
set_option maxRecDepth 100000 in
/-- note() -/
theorem c_X8_note (l : Launch) (T : jj_T) (h8 rv rn rnw rt rd rk rik rdk rre rle rhe rth rpa ror na nx : Nat) (rf bv bo : Int32) (g D : Nat → Int32) (hna : na ≤ 14) (hnx : nx < 14) : jM l T yX8_note wsX8_note { frames := 0, cells := 0, slots := 0, locals := 0 } [.ref h8] [(h8, cO 8 [.int rf, .ref rv, .ref rn, .ref rnw, .ref rt, .ref rd, .int (nI na), .int (nI nx), .ref rk, .ref rik, .ref rdk, .ref rre, .ref rle, .ref rhe, .ref rth, .ref rpa, .ref ror, .int bv, .int bo]), (rnw, cI T 37 g), (rd, cI T 518 D)] (fun v w1 => v = none ∧ w1 = [(h8, cO 8 [.int rf, .ref rv, .ref rn, .ref rnw, .ref rt, .ref rd, .int (nI (if na < 14 then na + 1 else 14)), .int (nI ((nx + 1) % 14)), .ref rk, .ref rik, .ref rdk, .ref rre, .ref rle, .ref rhe, .ref rth, .ref rpa, .ref ror, .int bv, .int bo]), (rnw, cI T 37 g), (rd, cI T 518 (dgN D nx g))]) := by
  refine jM.of (cc := cX8_note) (maxL := 2) (ret := none) (by decide) rfl (Nat.le_of_ble_eq_true rfl) ?_
  intro X C rw_ hl hT hQ hnm
  subst hl; subst hT
  have hin8 : ∀ w ∈ u_ws RX8 TX8 19, w ∈ wsX8_note := by decide +kernel
  have hl16 : Cond.fieldLink RX8 16 (TX8 3).1 (TX8 3).2.1 (TX8 3).2.2.1 ∈ wsX8_note := by decide +kernel
  have hl22 : Cond.fieldLink RX8 22 (TX8 5).1 (TX8 5).2.1 (TX8 5).2.2.1 ∈ wsX8_note := by decide +kernel
  have hl133 : Cond.fieldLink RX8 133 (TX8 7).1 (TX8 7).2.1 (TX8 7).2.2.1 ∈ wsX8_note := by decide +kernel
  have hl136 : Cond.fieldLink RX8 136 (TX8 6).1 (TX8 6).2.1 (TX8 6).2.2.1 ∈ wsX8_note := by decide +kernel
  show jj X 0 0 0 [(0, .ref h8)] [] [(h8, cO 8 [.int rf, .ref rv, .ref rn, .ref rnw, .ref rt, .ref rd, .int (nI na), .int (nI nx), .ref rk, .ref rik, .ref rdk, .ref rre, .ref rle, .ref rhe, .ref rth, .ref rpa, .ref ror, .int bv, .int bo]), (rnw, cI (xT X) 37 g), (rd, cI (xT X) 518 D)]
  refine j_iconst C dX8_note_0 (v := (nI 0)) kc_i_0 ?_
  rw [show cI (xT X) 518 D = cI (xT X) 518 (dgK D nx 0 g) from by rw [dgK_0]]
  show jj X 0 0 1 [(0, .ref h8)] [.int (nI 0)] [(h8, cO 8 [.int rf, .ref rv, .ref rn, .ref rnw, .ref rt, .ref rd, .int (nI na), .int (nI nx), .ref rk, .ref rik, .ref rdk, .ref rre, .ref rle, .ref rhe, .ref rth, .ref rpa, .ref ror, .int bv, .int bo]), (rnw, cI (xT X) 37 g), (rd, cI (xT X) 518 (dgK D nx 0 g))]
  refine j_istore_n C dX8_note_1 rfl (by decide) (lv' := [(1, .int (nI 0)), (0, .ref h8)]) rfl ?_
  refine j_lv [1, 0] rfl ?_
  suffices hc2 : ∀ (mm : Nat) (k : Nat), 37 - k < mm → (k ≤ 37) → jj X 0 0 2 [(0, .ref h8), (1, .int (nI k))] [] [(h8, cO 8 [.int rf, .ref rv, .ref rn, .ref rnw, .ref rt, .ref rd, .int (nI na), .int (nI nx), .ref rk, .ref rik, .ref rdk, .ref rre, .ref rle, .ref rhe, .ref rth, .ref rpa, .ref ror, .int bv, .int bo]), (rnw, cI (xT X) 37 g), (rd, cI (xT X) 518 (dgK D nx k g))] by
    refine hc2 _ _ (Nat.lt_succ_self _) ?_
    · omega
  intro mm
  induction mm with
  | zero => intro k hm; exact absurd hm (Nat.not_lt_zero _)
  | succ mm ih2 =>
    intro k hm2 hk
    refine j_iload_n C dX8_note_2 1 rfl rfl ?_
    refine j_bipush C dX8_note_3 (v := (nI 37)) kc_b_37 ?_
    refine j_icmp_ge C dX8_note_5 (tgt := 34) (by decide) (fun q5 => ?_) (fun q5 => ?_)
    · skip
      have q5 := (kn_ge (a := k) (b := 37) (by omega) (by omega)).mp q5
      have e37 : dgK D nx k g = dgN D nx g := by rw [show k = 37 by omega]; rfl
      rw [e37]
      show jj X 0 0 34 [(0, .ref h8), (1, .int (nI k))] [] [(h8, cO 8 [.int rf, .ref rv, .ref rn, .ref rnw, .ref rt, .ref rd, .int (nI na), .int (nI nx), .ref rk, .ref rik, .ref rdk, .ref rre, .ref rle, .ref rhe, .ref rth, .ref rpa, .ref ror, .int bv, .int bo]), (rnw, cI (xT X) 37 g), (rd, cI (xT X) 518 (dgN D nx g))]
      refine j_aload_n C dX8_note_34 0 rfl rfl ?_
      refine j_aload_n C dX8_note_35 0 rfl rfl ?_
      refine j_get C (hin8) (ci := 8) rfl 7 (by decide) (hl133) 0 rfl (v := .int (nI nx)) rfl dX8_note_36 ?_
      refine j_iconst C dX8_note_39 (v := (nI 1)) kc_i_1 ?_
      refine j_iadd C dX8_note_40 (v := (nI (nx + 1))) (nI_add _ _) ?_
      refine j_bipush C dX8_note_41 (v := (nI 14)) kc_b_14 ?_
      refine j_irem C dX8_note_43 (by decide) (v := (nI ((nx + 1) % 14))) (pk_rem (by omega) (by omega) (by omega)) ?_
      refine j_put C rw_ (hin8) tyX8 tyX8_ok nmX8 (ci := 8) rfl 7 (by decide) (hl133) (by decide +kernel) (ty := .int) (by decide +kernel) rfl rfl 0 rfl (Nat.le_of_ble_eq_true rfl) (w' := [(h8, cO 8 [.int rf, .ref rv, .ref rn, .ref rnw, .ref rt, .ref rd, .int (nI na), .int (nI ((nx + 1) % 14)), .ref rk, .ref rik, .ref rdk, .ref rre, .ref rle, .ref rhe, .ref rth, .ref rpa, .ref ror, .int bv, .int bo]), (rnw, cI (xT X) 37 g), (rd, cI (xT X) 518 (dgN D nx g))]) rfl dX8_note_44 ?_
      refine j_aload_n C dX8_note_47 0 rfl rfl ?_
      refine j_aload_n C dX8_note_48 0 rfl rfl ?_
      refine j_get C (hin8) (ci := 8) rfl 6 (by decide) (hl136) 0 rfl (v := .int (nI na)) rfl dX8_note_49 ?_
      refine j_bipush C dX8_note_52 (v := (nI 14)) kc_b_14 ?_
      refine j_icmp_ge C dX8_note_54 (tgt := 66) (by decide) (fun q54 => ?_) (fun q54 => ?_)
      · skip
        have q54 := (kn_ge (a := na) (b := 14) (by omega) (by omega)).mp q54
        refine j_bipush C dX8_note_66 (v := (nI 14)) kc_b_14 ?_
        refine j_ieq (nI (if na < 14 then na + 1 else 14)) (by rw [if_neg (by omega)]) ?_
        refine j_put C rw_ (hin8) tyX8 tyX8_ok nmX8 (ci := 8) rfl 6 (by decide) (hl136) (by decide +kernel) (ty := .int) (by decide +kernel) rfl rfl 0 rfl (Nat.le_of_ble_eq_true rfl) (w' := [(h8, cO 8 [.int rf, .ref rv, .ref rn, .ref rnw, .ref rt, .ref rd, .int (nI (if na < 14 then na + 1 else 14)), .int (nI ((nx + 1) % 14)), .ref rk, .ref rik, .ref rdk, .ref rre, .ref rle, .ref rhe, .ref rth, .ref rpa, .ref ror, .int bv, .int bo]), (rnw, cI (xT X) 37 g), (rd, cI (xT X) 518 (dgN D nx g))]) rfl dX8_note_68 ?_
        refine j_vretM C rw_ hQ (by decide) (by decide) ?_ dX8_note_71
        exact ⟨rfl, rfl⟩
      · skip
        have q54 := (kn_nge (a := na) (b := 14) (by omega) (by omega)).mp q54
        refine j_aload_n C dX8_note_57 0 rfl rfl ?_
        refine j_get C (hin8) (ci := 8) rfl 6 (by decide) (hl136) 0 rfl (v := .int (nI na)) rfl dX8_note_58 ?_
        refine j_iconst C dX8_note_61 (v := (nI 1)) kc_i_1 ?_
        refine j_iadd C dX8_note_62 (v := (nI (na + 1))) (nI_add _ _) ?_
        refine j_goto C dX8_note_63 (tgt := 68) (by decide) ?_
        refine j_ieq (nI (if na < 14 then na + 1 else 14)) (by rw [if_pos (by omega)]) ?_
        refine j_put C rw_ (hin8) tyX8 tyX8_ok nmX8 (ci := 8) rfl 6 (by decide) (hl136) (by decide +kernel) (ty := .int) (by decide +kernel) rfl rfl 0 rfl (Nat.le_of_ble_eq_true rfl) (w' := [(h8, cO 8 [.int rf, .ref rv, .ref rn, .ref rnw, .ref rt, .ref rd, .int (nI (if na < 14 then na + 1 else 14)), .int (nI ((nx + 1) % 14)), .ref rk, .ref rik, .ref rdk, .ref rre, .ref rle, .ref rhe, .ref rth, .ref rpa, .ref ror, .int bv, .int bo]), (rnw, cI (xT X) 37 g), (rd, cI (xT X) 518 (dgN D nx g))]) rfl dX8_note_68 ?_
        refine j_vretM C rw_ hQ (by decide) (by decide) ?_ dX8_note_71
        exact ⟨rfl, rfl⟩
    · skip
      have q5 := (kn_nge (a := k) (b := 37) (by omega) (by omega)).mp q5
      refine j_aload_n C dX8_note_8 0 rfl rfl ?_
      refine j_get C (hin8) (ci := 8) rfl 5 (by decide) (hl22) 0 rfl (v := .ref rd) rfl dX8_note_9 ?_
      refine j_bipush C dX8_note_12 (v := (nI 37)) kc_b_37 ?_
      refine j_aload_n C dX8_note_14 0 rfl rfl ?_
      refine j_get C (hin8) (ci := 8) rfl 7 (by decide) (hl133) 0 rfl (v := .int (nI nx)) rfl dX8_note_15 ?_
      refine j_imul C dX8_note_18 (v := (nI (37 * nx))) (pk_mul _ _) ?_
      refine j_iload_n C dX8_note_19 1 rfl rfl ?_
      refine j_iadd C dX8_note_20 (v := (nI (37 * nx + k))) (nI_add _ _) ?_
      refine j_aload_n C dX8_note_21 0 rfl rfl ?_
      refine j_get C (hin8) (ci := 8) rfl 3 (by decide) (hl16) 0 rfl (v := .ref rnw) rfl dX8_note_22 ?_
      refine j_iload_n C dX8_note_25 1 rfl rfl ?_
      refine j_ialoadN C k rfl 1 rfl (by omega) (by decide) dX8_note_26 ?_
      refine j_iastoreN C rw_ (37 * nx + k) rfl 2 rfl (by omega) (by decide) (w' := [(h8, cO 8 [.int rf, .ref rv, .ref rn, .ref rnw, .ref rt, .ref rd, .int (nI na), .int (nI nx), .ref rk, .ref rik, .ref rdk, .ref rre, .ref rle, .ref rhe, .ref rth, .ref rpa, .ref ror, .int bv, .int bo]), (rnw, cI (xT X) 37 g), (rd, cI (xT X) 518 (upd (dgK D nx k g) (37 * nx + k) (g k)))]) rfl dX8_note_27 ?_
      rw [dgK_s]
      show jj X 0 0 28 [(0, .ref h8), (1, .int (nI k))] [] [(h8, cO 8 [.int rf, .ref rv, .ref rn, .ref rnw, .ref rt, .ref rd, .int (nI na), .int (nI nx), .ref rk, .ref rik, .ref rdk, .ref rre, .ref rle, .ref rhe, .ref rth, .ref rpa, .ref ror, .int bv, .int bo]), (rnw, cI (xT X) 37 g), (rd, cI (xT X) 518 (dgK D nx (k + 1) g))]
      refine j_iinc C dX8_note_28 (q := 1) (v := (nI (k + 1))) rfl (kc_inc k) (by decide) (lv' := [(1, .int (nI (k + 1))), (0, .ref h8)]) rfl ?_
      refine j_goto C dX8_note_31 (tgt := 2) (by decide) ?_
      refine j_lv [1, 0] rfl ?_
      refine ih2 _ (by omega) ?_
      · omega

set_option maxHeartbeats 4000000 in
set_option maxRecDepth 100000 in
/-- isOpenInLight(row) -/
theorem c_X8_isOpenInLight (l : Launch) (T : jj_T) (h8 rv rn rnw rt rd rk rik rdk rre rle rhe rth rpa ror na nx : Nat) (rf bv bo : Int32) (r0 tc tp tn : Nat) (ts : Bool) (tob trq : Nat → Int32) (htp : tp < 150) (hco : coI tob) : jR l T yX8_isOpenInLight wsX8_isOpenInLight { frames := 3, cells := 0, slots := 0, locals := 78 } [.ref h8, .ref r0] [(h8, cO 8 [.int rf, .ref rv, .ref rn, .ref rnw, .ref rt, .ref rd, .int (nI na), .int (nI nx), .ref rk, .ref rik, .ref rdk, .ref rre, .ref rle, .ref rhe, .ref rth, .ref rpa, .ref ror, .int bv, .int bo]), (rv, cI T 450 cvec), (r0, cI T 37 (rowF tc tp ts tn tob trq))] (fun v => v = some (.int (bI (!ts && br tob tp tc)))) := by
  refine jR.of (cc := cX8_isOpenInLight) (maxL := 2) (ret := (some .boolean)) (by decide) rfl (Nat.le_of_ble_eq_true rfl) ?_
  intro X C ro hl hT hQ
  subst hl; subst hT
  show jj X 0 0 0 [(0, .ref h8), (1, .ref r0)] [] [(h8, cO 8 [.int rf, .ref rv, .ref rn, .ref rnw, .ref rt, .ref rd, .int (nI na), .int (nI nx), .ref rk, .ref rik, .ref rdk, .ref rre, .ref rle, .ref rhe, .ref rth, .ref rpa, .ref ror, .int bv, .int bo]), (rv, cI (xT X) 450 cvec), (r0, cI (xT X) 37 (rowF tc tp ts tn tob trq))]
  refine j_aload_n C dX8_isOpenInLight_0 1 rfl rfl ?_
  refine j_bipush C dX8_isOpenInLight_1 (v := (nI 23)) kc_b_23 ?_
  refine j_ialoadN C 23 rfl 2 rfl (by omega) (by decide) dX8_isOpenInLight_3 ?_
  show jj X 0 0 4 [(0, .ref h8), (1, .ref r0)] [.int (bI ts)] [(h8, cO 8 [.int rf, .ref rv, .ref rn, .ref rnw, .ref rt, .ref rd, .int (nI na), .int (nI nx), .ref rk, .ref rik, .ref rdk, .ref rre, .ref rle, .ref rhe, .ref rth, .ref rpa, .ref ror, .int bv, .int bo]), (rv, cI (xT X) 450 cvec), (r0, cI (xT X) 37 (rowF tc tp ts tn tob trq))]
  refine j_if_ne C dX8_isOpenInLight_4 (tgt := 27) (by decide) (fun q4 => ?_) (fun q4 => ?_)
  · skip
    have q4 := (kb_ne).mp q4
    refine j_iconst C dX8_isOpenInLight_27 (v := (nI 0)) kc_i_0 ?_
    refine j_iretR C ro hQ (by decide +kernel) ?_ dX8_isOpenInLight_28
    exact kb_f (by rw [q4]; rfl)
  · skip
    have q4 := (kb_nne).mp q4
    refine j_aload_n C dX8_isOpenInLight_7 0 rfl rfl ?_
    refine j_aload_n C dX8_isOpenInLight_8 1 rfl rfl ?_
    refine j_aload_n C dX8_isOpenInLight_9 1 rfl rfl ?_
    refine j_bipush C dX8_isOpenInLight_10 (v := (nI 22)) kc_b_22 ?_
    refine j_ialoadN C 22 rfl 2 rfl (by omega) (by decide) dX8_isOpenInLight_12 ?_
    show jj X 0 0 13 [(0, .ref h8), (1, .ref r0)] [.int (nI tp), .ref r0, .ref h8] [(h8, cO 8 [.int rf, .ref rv, .ref rn, .ref rnw, .ref rt, .ref rd, .int (nI na), .int (nI nx), .ref rk, .ref rik, .ref rdk, .ref rre, .ref rle, .ref rhe, .ref rth, .ref rpa, .ref ror, .int bv, .int bo]), (rv, cI (xT X) 450 cvec), (r0, cI (xT X) 37 (rowF tc tp ts tn tob trq))]
    refine j_aload_n C dX8_isOpenInLight_13 1 rfl rfl ?_
    refine j_bipush C dX8_isOpenInLight_14 (v := (nI 21)) kc_b_21 ?_
    refine j_ialoadN C 21 rfl 2 rfl (by omega) (by decide) dX8_isOpenInLight_16 ?_
    show jj X 0 0 17 [(0, .ref h8), (1, .ref r0)] [.int (nI tc), .int (nI tp), .ref r0, .ref h8] [(h8, cO 8 [.int rf, .ref rv, .ref rn, .ref rnw, .ref rt, .ref rd, .int (nI na), .int (nI nx), .ref rk, .ref rik, .ref rdk, .ref rre, .ref rle, .ref rhe, .ref rth, .ref rpa, .ref ror, .int bv, .int bo]), (rv, cI (xT X) 450 cvec), (r0, cI (xT X) 37 (rowF tc tp ts tn tob trq))]
    refine j_callVR C (nA := 3) (As := [.ref r0, .int (nI tp), .int (nI tc)]) (c_X8_isBrightIn (xl X) (xT X) h8 rv rn rnw rt rd rk rik rdk rre rle rhe rth rpa ror na nx rf bv bo r0 tp tc (rowF tc tp ts tn tob trq) (by omega) (by exact row_co hco)) gX8_isOpenInLight_X8_isBrightIn rfl (by decide +kernel) rfl ⟨rfl, rfl⟩ (by decide) (by decide) [0, 1, 2] rfl rfl 0 rfl rfl (rest := []) rfl (Nat.le_of_ble_eq_true rfl) dX8_isOpenInLight_17 ?_
    rintro _ rfl
    show jj X 0 0 20 [(0, .ref h8), (1, .ref r0)] [.int (bI (br (rowF tc tp ts tn tob trq) tp tc))] [(h8, cO 8 [.int rf, .ref rv, .ref rn, .ref rnw, .ref rt, .ref rd, .int (nI na), .int (nI nx), .ref rk, .ref rik, .ref rdk, .ref rre, .ref rle, .ref rhe, .ref rth, .ref rpa, .ref ror, .int bv, .int bo]), (rv, cI (xT X) 450 cvec), (r0, cI (xT X) 37 (rowF tc tp ts tn tob trq))]
    refine j_if_eq C dX8_isOpenInLight_20 (tgt := 27) (by decide) (fun q20 => ?_) (fun q20 => ?_)
    · skip
      have q20 := (kb_eq).mp q20
      refine j_iconst C dX8_isOpenInLight_27 (v := (nI 0)) kc_i_0 ?_
      refine j_iretR C ro hQ (by decide +kernel) ?_ dX8_isOpenInLight_28
      rw [row_br] at q20; exact kb_f (by rw [q4, q20]; rfl)
    · skip
      have q20 := (kb_neq).mp q20
      refine j_iconst C dX8_isOpenInLight_23 (v := (nI 1)) kc_i_1 ?_
      refine j_goto C dX8_isOpenInLight_24 (tgt := 28) (by decide) ?_
      refine j_iretR C ro hQ (by decide +kernel) ?_ dX8_isOpenInLight_28
      rw [row_br] at q20; exact kb_t (by rw [q4, q20]; rfl)

set_option maxHeartbeats 4000000 in
set_option maxRecDepth 100000 in
/-- changed() -/
theorem c_X8_changed_0 (l : Launch) (T : jj_T) (h8 rv rn rnw rt rd rk rik rdk rre rle rhe rth rpa ror na nx : Nat) (rf bv bo : Int32) (ac ap an : Nat) (ash : Bool) (aob arq : Nat → Int32) (tc tp tn : Nat) (ts : Bool) (tob trq D : Nat → Int32)  (hna : na ≤ 14) (hnx : nx < 14) (htp : tp < 150) (hco : coI tob) (hlit : (!ts && br tob tp tc) = false) : jM l T yX8_changed wsX8_changed { frames := 4, cells := 0, slots := 0, locals := 102 } [.ref h8] [(h8, cO 8 [.int rf, .ref rv, .ref rn, .ref rnw, .ref rt, .ref rd, .int (nI na), .int (nI nx), .ref rk, .ref rik, .ref rdk, .ref rre, .ref rle, .ref rhe, .ref rth, .ref rpa, .ref ror, .int bv, .int bo]), (rv, cI T 450 cvec), (rnw, cI T 37 (rowF ac ap ash an aob arq)), (rt, cI T 37 (rowF tc tp ts tn tob trq)), (rd, cI T 518 D)] (fun v w1 => v = some (.int (nI (fb_ct (fun c => br tob c tc) 150))) ∧ w1 = [(h8, cO 8 [.int (nI 0), .ref rv, .ref rn, .ref rnw, .ref rt, .ref rd, .int (nI (if na < 14 then na + 1 else 14)), .int (nI ((nx + 1) % 14)), .ref rk, .ref rik, .ref rdk, .ref rre, .ref rle, .ref rhe, .ref rth, .ref rpa, .ref ror, .int bv, .int bo]), (rv, cI T 450 cvec), (rnw, cI T 37 (rowF tc tp ts tn tob trq)), (rt, cI T 37 (rowF tc tp ts tn tob trq)), (rd, cI T 518 (dgN D nx (rowF ac ap ash an aob arq)))]) := by
  refine jM.of (cc := cX8_changed) (maxL := 1) (ret := (some .int)) (by decide) rfl (Nat.le_of_ble_eq_true rfl) ?_
  intro X C rw_ hl hT hQ hnm
  subst hl; subst hT
  have hin8 : ∀ w ∈ u_ws RX8 TX8 19, w ∈ wsX8_changed := by decide +kernel
  have hl16 : Cond.fieldLink RX8 16 (TX8 3).1 (TX8 3).2.1 (TX8 3).2.2.1 ∈ wsX8_changed := by decide +kernel
  have hl19 : Cond.fieldLink RX8 19 (TX8 4).1 (TX8 4).2.1 (TX8 4).2.2.1 ∈ wsX8_changed := by decide +kernel
  show jj X 0 0 0 [(0, .ref h8)] [] [(h8, cO 8 [.int rf, .ref rv, .ref rn, .ref rnw, .ref rt, .ref rd, .int (nI na), .int (nI nx), .ref rk, .ref rik, .ref rdk, .ref rre, .ref rle, .ref rhe, .ref rth, .ref rpa, .ref ror, .int bv, .int bo]), (rv, cI (xT X) 450 cvec), (rnw, cI (xT X) 37 (rowF ac ap ash an aob arq)), (rt, cI (xT X) 37 (rowF tc tp ts tn tob trq)), (rd, cI (xT X) 518 D)]
  refine j_aload_n C dX8_changed_0 0 rfl rfl ?_
  refine j_aload_n C dX8_changed_1 0 rfl rfl ?_
  refine j_aload_n C dX8_changed_2 0 rfl rfl ?_
  refine j_get C (hin8) (ci := 8) rfl 4 (by decide) (hl19) 0 rfl (v := .ref rt) rfl dX8_changed_3 ?_
  refine j_callVR C (nA := 1) (As := [.ref rt]) (c_X8_isOpenInLight (xl X) (xT X) h8 rv rn rnw rt rd rk rik rdk rre rle rhe rth rpa ror na nx rf bv bo rt tc tp tn ts tob trq (by omega) (by exact hco)) gX8_changed_X8_isOpenInLight rfl (by decide +kernel) rfl ⟨rfl, rfl⟩ (by decide) (by decide) [0, 1, 3] rfl rfl 0 rfl rfl (rest := [.ref h8]) rfl (Nat.le_of_ble_eq_true rfl) dX8_changed_6 ?_
  rintro _ rfl
  show jj X 0 0 9 [(0, .ref h8)] [.int (bI (!ts && br tob tp tc)), .ref h8] [(h8, cO 8 [.int rf, .ref rv, .ref rn, .ref rnw, .ref rt, .ref rd, .int (nI na), .int (nI nx), .ref rk, .ref rik, .ref rdk, .ref rre, .ref rle, .ref rhe, .ref rth, .ref rpa, .ref ror, .int bv, .int bo]), (rv, cI (xT X) 450 cvec), (rnw, cI (xT X) 37 (rowF ac ap ash an aob arq)), (rt, cI (xT X) 37 (rowF tc tp ts tn tob trq)), (rd, cI (xT X) 518 D)]
  refine j_if_eq C dX8_changed_9 (tgt := 16) (by decide) (fun q9 => ?_) (fun q9 => ?_)
  · skip
    have q9 := (kb_eq).mp q9
    refine j_iconst C dX8_changed_16 (v := (nI 0)) kc_i_0 ?_
    refine j_callVM C rw_ (nA := 1) (As := [.int (nI 0)]) (wr := [(rv, cI (xT X) 450 cvec), (rnw, cI (xT X) 37 (rowF ac ap ash an aob arq)), (rt, cI (xT X) 37 (rowF tc tp ts tn tob trq)), (rd, cI (xT X) 518 D)]) (c_X8_refused_0 (xl X) (xT X) h8 rv rn rnw rt rd rk rik rdk rre rle rhe rth rpa ror na nx rf bv bo ) gX8_changed_X8_refused rfl (by decide +kernel) rfl (by decide) (by decide) [0] [1, 2, 3, 4] rfl rfl rfl rfl (by decide) 0 rfl rfl (rest := []) rfl (Nat.le_of_ble_eq_true rfl) dX8_changed_17 ?_
    rintro _ _ ⟨rfl, rfl⟩
    show jj X 0 0 20 [(0, .ref h8)] [.int (bI false)] [(rv, cI (xT X) 450 cvec), (rnw, cI (xT X) 37 (rowF ac ap ash an aob arq)), (rt, cI (xT X) 37 (rowF tc tp ts tn tob trq)), (rd, cI (xT X) 518 D), (h8, cO 8 [.int (nI 0), .ref rv, .ref rn, .ref rnw, .ref rt, .ref rd, .int (nI na), .int (nI nx), .ref rk, .ref rik, .ref rdk, .ref rre, .ref rle, .ref rhe, .ref rth, .ref rpa, .ref ror, .int bv, .int bo])]
    refine j_if_eq C dX8_changed_20 (tgt := 25) (by decide) (fun _ => ?_) (fun h9 => absurd h9 (by decide +kernel))
    refine j_aload_n C dX8_changed_25 0 rfl rfl ?_
    refine j_callVM C rw_ (nA := 0) (As := []) (wr := [(rv, cI (xT X) 450 cvec), (rt, cI (xT X) 37 (rowF tc tp ts tn tob trq))]) (c_X8_note (xl X) (xT X) h8 rv rn rnw rt rd rk rik rdk rre rle rhe rth rpa ror na nx (nI 0) bv bo (rowF ac ap ash an aob arq) D (by exact hna) (by exact hnx)) gX8_changed_X8_note rfl (by decide +kernel) rfl (by decide) (by decide) [4, 1, 3] [0, 2] rfl rfl rfl rfl (by decide) 4 rfl rfl (rest := []) rfl (Nat.le_of_ble_eq_true rfl) dX8_changed_26 ?_
    rintro _ _ ⟨rfl, rfl⟩
    show jj X 0 0 29 [(0, .ref h8)] [] [(rv, cI (xT X) 450 cvec), (rt, cI (xT X) 37 (rowF tc tp ts tn tob trq)), (h8, cO 8 [.int (nI 0), .ref rv, .ref rn, .ref rnw, .ref rt, .ref rd, .int (nI (if na < 14 then na + 1 else 14)), .int (nI ((nx + 1) % 14)), .ref rk, .ref rik, .ref rdk, .ref rre, .ref rle, .ref rhe, .ref rth, .ref rpa, .ref ror, .int bv, .int bo]), (rnw, cI (xT X) 37 (rowF ac ap ash an aob arq)), (rd, cI (xT X) 518 (dgN D nx (rowF ac ap ash an aob arq)))]
    refine j_aload_n C dX8_changed_29 0 rfl rfl ?_
    refine j_get C (hin8) (ci := 8) rfl 4 (by decide) (hl19) 2 rfl (v := .ref rt) rfl dX8_changed_30 ?_
    refine j_aload_n C dX8_changed_33 0 rfl rfl ?_
    refine j_get C (hin8) (ci := 8) rfl 3 (by decide) (hl16) 2 rfl (v := .ref rnw) rfl dX8_changed_34 ?_
    refine j_callSM C rw_ (nA := 2) (As := [.ref rt, .ref rnw]) (wr := [(rv, cI (xT X) 450 cvec), (h8, cO 8 [.int (nI 0), .ref rv, .ref rn, .ref rnw, .ref rt, .ref rd, .int (nI (if na < 14 then na + 1 else 14)), .int (nI ((nx + 1) % 14)), .ref rk, .ref rik, .ref rdk, .ref rre, .ref rle, .ref rhe, .ref rth, .ref rpa, .ref ror, .int bv, .int bo]), (rd, cI (xT X) 518 (dgN D nx (rowF ac ap ash an aob arq)))]) (c_X8_copy (xl X) (xT X) rt rnw (rowF tc tp ts tn tob trq) (rowF ac ap ash an aob arq) ) gX8_changed_X8_copy rfl (by decide +kernel) rfl (by decide) (by decide) [1, 3] [0, 2, 4] rfl rfl rfl rfl (by decide) (rest := []) rfl (Nat.le_of_ble_eq_true rfl) dX8_changed_37 ?_
    rintro _ _ ⟨rfl, rfl⟩
    show jj X 0 0 40 [(0, .ref h8)] [] [(rv, cI (xT X) 450 cvec), (h8, cO 8 [.int (nI 0), .ref rv, .ref rn, .ref rnw, .ref rt, .ref rd, .int (nI (if na < 14 then na + 1 else 14)), .int (nI ((nx + 1) % 14)), .ref rk, .ref rik, .ref rdk, .ref rre, .ref rle, .ref rhe, .ref rth, .ref rpa, .ref ror, .int bv, .int bo]), (rd, cI (xT X) 518 (dgN D nx (rowF ac ap ash an aob arq))), (rt, cI (xT X) 37 (rowF tc tp ts tn tob trq)), (rnw, cI (xT X) 37 (rowF tc tp ts tn tob trq))]
    refine j_aload_n C dX8_changed_40 0 rfl rfl ?_
    refine j_aload_n C dX8_changed_41 0 rfl rfl ?_
    refine j_get C (hin8) (ci := 8) rfl 3 (by decide) (hl16) 1 rfl (v := .ref rnw) rfl dX8_changed_42 ?_
    refine j_aload_n C dX8_changed_45 0 rfl rfl ?_
    refine j_get C (hin8) (ci := 8) rfl 3 (by decide) (hl16) 1 rfl (v := .ref rnw) rfl dX8_changed_46 ?_
    refine j_bipush C dX8_changed_49 (v := (nI 21)) kc_b_21 ?_
    refine j_ialoadN C 21 rfl 4 rfl (by omega) (by decide) dX8_changed_51 ?_
    show jj X 0 0 52 [(0, .ref h8)] [.int (nI tc), .ref rnw, .ref h8] [(rv, cI (xT X) 450 cvec), (h8, cO 8 [.int (nI 0), .ref rv, .ref rn, .ref rnw, .ref rt, .ref rd, .int (nI (if na < 14 then na + 1 else 14)), .int (nI ((nx + 1) % 14)), .ref rk, .ref rik, .ref rdk, .ref rre, .ref rle, .ref rhe, .ref rth, .ref rpa, .ref ror, .int bv, .int bo]), (rd, cI (xT X) 518 (dgN D nx (rowF ac ap ash an aob arq))), (rt, cI (xT X) 37 (rowF tc tp ts tn tob trq)), (rnw, cI (xT X) 37 (rowF tc tp ts tn tob trq))]
    refine j_callVR C (nA := 2) (As := [.ref rnw, .int (nI tc)]) (c_X8_brightIn (xl X) (xT X) h8 rv rn rnw rt rd rk rik rdk rre rle rhe rth rpa ror (if na < 14 then na + 1 else 14) ((nx + 1) % 14) (nI 0) bv bo rnw tc (rowF tc tp ts tn tob trq) (by exact row_co hco)) gX8_changed_X8_brightIn rfl (by decide +kernel) rfl ⟨rfl, rfl⟩ (by decide) (by decide) [1, 0, 4] rfl rfl 1 rfl rfl (rest := []) rfl (Nat.le_of_ble_eq_true rfl) dX8_changed_52 ?_
    rintro _ rfl
    show jj X 0 0 55 [(0, .ref h8)] [.int (nI (fb_ct (fun c => br (rowF tc tp ts tn tob trq) c tc) 150))] [(rv, cI (xT X) 450 cvec), (h8, cO 8 [.int (nI 0), .ref rv, .ref rn, .ref rnw, .ref rt, .ref rd, .int (nI (if na < 14 then na + 1 else 14)), .int (nI ((nx + 1) % 14)), .ref rk, .ref rik, .ref rdk, .ref rre, .ref rle, .ref rhe, .ref rth, .ref rpa, .ref ror, .int bv, .int bo]), (rd, cI (xT X) 518 (dgN D nx (rowF ac ap ash an aob arq))), (rt, cI (xT X) 37 (rowF tc tp ts tn tob trq)), (rnw, cI (xT X) 37 (rowF tc tp ts tn tob trq))]
    refine j_perm C (w' := [(h8, cO 8 [.int (nI 0), .ref rv, .ref rn, .ref rnw, .ref rt, .ref rd, .int (nI (if na < 14 then na + 1 else 14)), .int (nI ((nx + 1) % 14)), .ref rk, .ref rik, .ref rdk, .ref rre, .ref rle, .ref rhe, .ref rth, .ref rpa, .ref ror, .int bv, .int bo]), (rv, cI (xT X) 450 cvec), (rnw, cI (xT X) 37 (rowF tc tp ts tn tob trq)), (rt, cI (xT X) 37 (rowF tc tp ts tn tob trq)), (rd, cI (xT X) 518 (dgN D nx (rowF ac ap ash an aob arq)))]) [1, 0, 4, 3, 2] rfl rfl ?_
    refine j_iretM C rw_ hQ (by decide) (by decide) rfl ?_ dX8_changed_55
    exact ⟨kn_e (by simp only [row_brf]), rfl⟩
  · skip
    have q9 := (kb_neq).mp q9
    exfalso
    rw [hlit] at q9; cases q9

set_option maxHeartbeats 4000000 in
set_option maxRecDepth 100000 in
/-- changed() -/
theorem c_X8_changed_3 (l : Launch) (T : jj_T) (h8 rv rn rnw rt rd rk rik rdk rre rle rhe rth rpa ror na nx : Nat) (rf bv bo : Int32) (ac ap an : Nat) (ash : Bool) (aob arq : Nat → Int32) (tc tp tn : Nat) (ts : Bool) (tob trq D : Nat → Int32)  (hna : na ≤ 14) (hnx : nx < 14) (htp : tp < 150) (hco : coI tob) (hlit : (!ts && br tob tp tc) = true) : jM l T yX8_changed wsX8_changed { frames := 4, cells := 0, slots := 0, locals := 102 } [.ref h8] [(h8, cO 8 [.int rf, .ref rv, .ref rn, .ref rnw, .ref rt, .ref rd, .int (nI na), .int (nI nx), .ref rk, .ref rik, .ref rdk, .ref rre, .ref rle, .ref rhe, .ref rth, .ref rpa, .ref ror, .int bv, .int bo]), (rv, cI T 450 cvec), (rnw, cI T 37 (rowF ac ap ash an aob arq)), (rt, cI T 37 (rowF tc tp ts tn tob trq)), (rd, cI T 518 D)] (fun v w1 => v = some (.int (nI 0)) ∧ w1 = [(h8, cO 8 [.int (nI 3), .ref rv, .ref rn, .ref rnw, .ref rt, .ref rd, .int (nI na), .int (nI nx), .ref rk, .ref rik, .ref rdk, .ref rre, .ref rle, .ref rhe, .ref rth, .ref rpa, .ref ror, .int bv, .int bo]), (rv, cI T 450 cvec), (rnw, cI T 37 (rowF ac ap ash an aob arq)), (rt, cI T 37 (rowF tc tp ts tn tob trq)), (rd, cI T 518 D)]) := by
  refine jM.of (cc := cX8_changed) (maxL := 1) (ret := (some .int)) (by decide) rfl (Nat.le_of_ble_eq_true rfl) ?_
  intro X C rw_ hl hT hQ hnm
  subst hl; subst hT
  have hin8 : ∀ w ∈ u_ws RX8 TX8 19, w ∈ wsX8_changed := by decide +kernel
  have hl16 : Cond.fieldLink RX8 16 (TX8 3).1 (TX8 3).2.1 (TX8 3).2.2.1 ∈ wsX8_changed := by decide +kernel
  have hl19 : Cond.fieldLink RX8 19 (TX8 4).1 (TX8 4).2.1 (TX8 4).2.2.1 ∈ wsX8_changed := by decide +kernel
  show jj X 0 0 0 [(0, .ref h8)] [] [(h8, cO 8 [.int rf, .ref rv, .ref rn, .ref rnw, .ref rt, .ref rd, .int (nI na), .int (nI nx), .ref rk, .ref rik, .ref rdk, .ref rre, .ref rle, .ref rhe, .ref rth, .ref rpa, .ref ror, .int bv, .int bo]), (rv, cI (xT X) 450 cvec), (rnw, cI (xT X) 37 (rowF ac ap ash an aob arq)), (rt, cI (xT X) 37 (rowF tc tp ts tn tob trq)), (rd, cI (xT X) 518 D)]
  refine j_aload_n C dX8_changed_0 0 rfl rfl ?_
  refine j_aload_n C dX8_changed_1 0 rfl rfl ?_
  refine j_aload_n C dX8_changed_2 0 rfl rfl ?_
  refine j_get C (hin8) (ci := 8) rfl 4 (by decide) (hl19) 0 rfl (v := .ref rt) rfl dX8_changed_3 ?_
  refine j_callVR C (nA := 1) (As := [.ref rt]) (c_X8_isOpenInLight (xl X) (xT X) h8 rv rn rnw rt rd rk rik rdk rre rle rhe rth rpa ror na nx rf bv bo rt tc tp tn ts tob trq (by omega) (by exact hco)) gX8_changed_X8_isOpenInLight rfl (by decide +kernel) rfl ⟨rfl, rfl⟩ (by decide) (by decide) [0, 1, 3] rfl rfl 0 rfl rfl (rest := [.ref h8]) rfl (Nat.le_of_ble_eq_true rfl) dX8_changed_6 ?_
  rintro _ rfl
  show jj X 0 0 9 [(0, .ref h8)] [.int (bI (!ts && br tob tp tc)), .ref h8] [(h8, cO 8 [.int rf, .ref rv, .ref rn, .ref rnw, .ref rt, .ref rd, .int (nI na), .int (nI nx), .ref rk, .ref rik, .ref rdk, .ref rre, .ref rle, .ref rhe, .ref rth, .ref rpa, .ref ror, .int bv, .int bo]), (rv, cI (xT X) 450 cvec), (rnw, cI (xT X) 37 (rowF ac ap ash an aob arq)), (rt, cI (xT X) 37 (rowF tc tp ts tn tob trq)), (rd, cI (xT X) 518 D)]
  refine j_if_eq C dX8_changed_9 (tgt := 16) (by decide) (fun q9 => ?_) (fun q9 => ?_)
  · skip
    have q9 := (kb_eq).mp q9
    exfalso
    rw [hlit] at q9; cases q9
  · skip
    have q9 := (kb_neq).mp q9
    refine j_iconst C dX8_changed_12 (v := (nI 3)) kc_i_3 ?_
    refine j_goto C dX8_changed_13 (tgt := 17) (by decide) ?_
    refine j_callVM C rw_ (nA := 1) (As := [.int (nI 3)]) (wr := [(rv, cI (xT X) 450 cvec), (rnw, cI (xT X) 37 (rowF ac ap ash an aob arq)), (rt, cI (xT X) 37 (rowF tc tp ts tn tob trq)), (rd, cI (xT X) 518 D)]) (c_X8_refused_s (xl X) (xT X) h8 rv rn rnw rt rd rk rik rdk rre rle rhe rth rpa ror na nx rf bv bo 3 (by omega) (by omega)) gX8_changed_X8_refused rfl (by decide +kernel) rfl (by decide) (by decide) [0] [1, 2, 3, 4] rfl rfl rfl rfl (by decide) 0 rfl rfl (rest := []) rfl (Nat.le_of_ble_eq_true rfl) dX8_changed_17 ?_
    rintro _ _ ⟨rfl, rfl⟩
    show jj X 0 0 20 [(0, .ref h8)] [.int (bI true)] [(rv, cI (xT X) 450 cvec), (rnw, cI (xT X) 37 (rowF ac ap ash an aob arq)), (rt, cI (xT X) 37 (rowF tc tp ts tn tob trq)), (rd, cI (xT X) 518 D), (h8, cO 8 [.int (nI 3), .ref rv, .ref rn, .ref rnw, .ref rt, .ref rd, .int (nI na), .int (nI nx), .ref rk, .ref rik, .ref rdk, .ref rre, .ref rle, .ref rhe, .ref rth, .ref rpa, .ref ror, .int bv, .int bo])]
    refine j_if_eq C dX8_changed_20 (tgt := 25) (by decide) (fun h9 => absurd h9 (by decide +kernel)) (fun _ => ?_)
    refine j_iconst C dX8_changed_23 (v := (nI 0)) kc_i_0 ?_
    refine j_perm C (w' := [(h8, cO 8 [.int (nI 3), .ref rv, .ref rn, .ref rnw, .ref rt, .ref rd, .int (nI na), .int (nI nx), .ref rk, .ref rik, .ref rdk, .ref rre, .ref rle, .ref rhe, .ref rth, .ref rpa, .ref ror, .int bv, .int bo]), (rv, cI (xT X) 450 cvec), (rnw, cI (xT X) 37 (rowF ac ap ash an aob arq)), (rt, cI (xT X) 37 (rowF tc tp ts tn tob trq)), (rd, cI (xT X) 518 D)]) [4, 0, 1, 2, 3] rfl rfl ?_
    refine j_iretM C rw_ hQ (by decide) (by decide) rfl ?_ dX8_changed_24
    exact ⟨rfl, rfl⟩
