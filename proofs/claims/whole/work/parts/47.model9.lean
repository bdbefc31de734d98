/-! THE MODEL: what acts (4) -/
set_option maxHeartbeats 4000000 in
set_option maxRecDepth 100000 in
/-- undo(), where nothing is remembered -/
theorem c_X8_undo_0 (l : Launch) (T : jj_T) (h8 rv rn rnw rt rd rk rik rdk rre rle rhe rth rpa ror na nx : Nat) (rf bv bo : Int32)  : jM l T yX8_undo wsX8_undo { frames := 1, cells := 0, slots := 0, locals := 21 } [.ref h8] [(h8, cO 8 [.int rf, .ref rv, .ref rn, .ref rnw, .ref rt, .ref rd, .int (nI 0), .int (nI nx), .ref rk, .ref rik, .ref rdk, .ref rre, .ref rle, .ref rhe, .ref rth, .ref rpa, .ref ror, .int bv, .int bo])] (fun v w1 => v = some (.int (nI 0)) ∧ w1 = [(h8, cO 8 [.int (nI 1), .ref rv, .ref rn, .ref rnw, .ref rt, .ref rd, .int (nI 0), .int (nI nx), .ref rk, .ref rik, .ref rdk, .ref rre, .ref rle, .ref rhe, .ref rth, .ref rpa, .ref ror, .int bv, .int bo])]) := by
  refine jM.of (cc := cX8_undo) (maxL := 2) (ret := (some .int)) (by decide) rfl (Nat.le_of_ble_eq_true rfl) ?_
  intro X C rw_ hl hT hQ hnm
  subst hl; subst hT
  have hin8 : ∀ w ∈ u_ws RX8 TX8 19, w ∈ wsX8_undo := by decide +kernel
  have hl16 : Cond.fieldLink RX8 16 (TX8 3).1 (TX8 3).2.1 (TX8 3).2.2.1 ∈ wsX8_undo := by decide +kernel
  have hl22 : Cond.fieldLink RX8 22 (TX8 5).1 (TX8 5).2.1 (TX8 5).2.2.1 ∈ wsX8_undo := by decide +kernel
  have hl133 : Cond.fieldLink RX8 133 (TX8 7).1 (TX8 7).2.1 (TX8 7).2.2.1 ∈ wsX8_undo := by decide +kernel
  have hl136 : Cond.fieldLink RX8 136 (TX8 6).1 (TX8 6).2.1 (TX8 6).2.2.1 ∈ wsX8_undo := by decide +kernel
  show jj X 0 0 0 [(0, .ref h8)] [] [(h8, cO 8 [.int rf, .ref rv, .ref rn, .ref rnw, .ref rt, .ref rd, .int (nI 0), .int (nI nx), .ref rk, .ref rik, .ref rdk, .ref rre, .ref rle, .ref rhe, .ref rth, .ref rpa, .ref ror, .int bv, .int bo])]
  refine j_aload_n C dX8_undo_0 0 rfl rfl ?_
  refine j_aload_n C dX8_undo_1 0 rfl rfl ?_
  refine j_get C (hin8) (ci := 8) rfl 6 (by decide) (hl136) 0 rfl (v := .int (nI 0)) rfl dX8_undo_2 ?_
  refine j_if_ne C dX8_undo_5 (tgt := 12) (by decide) (fun q5 => ?_) (fun q5 => ?_)
  · skip
    have q5 := (kz_ne (a := 0) (by omega)).mp q5
    exfalso
    first | exact q5.elim | omega
  · skip
    have q5 := (kz_nne (a := 0) (by omega)).mp q5
    refine j_iconst C dX8_undo_8 (v := (nI 1)) kc_i_1 ?_
    refine j_goto C dX8_undo_9 (tgt := 13) (by decide) ?_
    refine j_callVM C rw_ (nA := 1) (As := [.int (nI 1)]) (wr := []) (c_X8_refused_s (xl X) (xT X) h8 rv rn rnw rt rd rk rik rdk rre rle rhe rth rpa ror 0 nx rf bv bo 1 (by omega) (by omega)) gX8_undo_X8_refused rfl (by decide +kernel) rfl (by decide) (by decide) [0] [] rfl rfl rfl rfl (by decide) 0 rfl rfl (rest := []) rfl (Nat.le_of_ble_eq_true rfl) dX8_undo_13 ?_
    rintro _ _ ⟨rfl, rfl⟩
    show jj X 0 0 16 [(0, .ref h8)] [.int (bI true)] [(h8, cO 8 [.int (nI 1), .ref rv, .ref rn, .ref rnw, .ref rt, .ref rd, .int (nI 0), .int (nI nx), .ref rk, .ref rik, .ref rdk, .ref rre, .ref rle, .ref rhe, .ref rth, .ref rpa, .ref ror, .int bv, .int bo])]
    refine j_if_eq C dX8_undo_16 (tgt := 21) (by decide) (fun h9 => absurd h9 (by decide +kernel)) (fun _ => ?_)
    refine j_iconst C dX8_undo_19 (v := (nI 0)) kc_i_0 ?_
    refine j_iretM C rw_ hQ (by decide) (by decide) rfl ?_ dX8_undo_20
    exact ⟨rfl, rfl⟩

set_option maxHeartbeats 4000000 in
set_option maxRecDepth 100000 in
/-- undo() -/
theorem c_X8_undo_s (l : Launch) (T : jj_T) (h8 rv rn rnw rt rd rk rik rdk rre rle rhe rth rpa ror na nx : Nat) (rf bv bo : Int32) (h g D : Nat → Int32) (hna : na < 14) (hnx : nx < 14) (hD : ∀ t, t < 37 → D (37 * ((nx + 14 - 1) % 14) + t) = g t) : jM l T yX8_undo wsX8_undo { frames := 1, cells := 0, slots := 0, locals := 21 } [.ref h8] [(h8, cO 8 [.int rf, .ref rv, .ref rn, .ref rnw, .ref rt, .ref rd, .int (nI (na + 1)), .int (nI nx), .ref rk, .ref rik, .ref rdk, .ref rre, .ref rle, .ref rhe, .ref rth, .ref rpa, .ref ror, .int bv, .int bo]), (rnw, cI T 37 h), (rd, cI T 518 D)] (fun v w1 => v = some (.int (nI na)) ∧ w1 = [(h8, cO 8 [.int (nI 0), .ref rv, .ref rn, .ref rnw, .ref rt, .ref rd, .int (nI na), .int (nI ((nx + 14 - 1) % 14)), .ref rk, .ref rik, .ref rdk, .ref rre, .ref rle, .ref rhe, .ref rth, .ref rpa, .ref ror, .int bv, .int bo]), (rnw, cI T 37 g), (rd, cI T 518 D)]) := by
  refine jM.of (cc := cX8_undo) (maxL := 2) (ret := (some .int)) (by decide) rfl (Nat.le_of_ble_eq_true rfl) ?_
  intro X C rw_ hl hT hQ hnm
  subst hl; subst hT
  have hin8 : ∀ w ∈ u_ws RX8 TX8 19, w ∈ wsX8_undo := by decide +kernel
  have hl16 : Cond.fieldLink RX8 16 (TX8 3).1 (TX8 3).2.1 (TX8 3).2.2.1 ∈ wsX8_undo := by decide +kernel
  have hl22 : Cond.fieldLink RX8 22 (TX8 5).1 (TX8 5).2.1 (TX8 5).2.2.1 ∈ wsX8_undo := by decide +kernel
  have hl133 : Cond.fieldLink RX8 133 (TX8 7).1 (TX8 7).2.1 (TX8 7).2.2.1 ∈ wsX8_undo := by decide +kernel
  have hl136 : Cond.fieldLink RX8 136 (TX8 6).1 (TX8 6).2.1 (TX8 6).2.2.1 ∈ wsX8_undo := by decide +kernel
  show jj X 0 0 0 [(0, .ref h8)] [] [(h8, cO 8 [.int rf, .ref rv, .ref rn, .ref rnw, .ref rt, .ref rd, .int (nI (na + 1)), .int (nI nx), .ref rk, .ref rik, .ref rdk, .ref rre, .ref rle, .ref rhe, .ref rth, .ref rpa, .ref ror, .int bv, .int bo]), (rnw, cI (xT X) 37 h), (rd, cI (xT X) 518 D)]
  refine j_aload_n C dX8_undo_0 0 rfl rfl ?_
  refine j_aload_n C dX8_undo_1 0 rfl rfl ?_
  refine j_get C (hin8) (ci := 8) rfl 6 (by decide) (hl136) 0 rfl (v := .int (nI (na + 1))) rfl dX8_undo_2 ?_
  refine j_if_ne C dX8_undo_5 (tgt := 12) (by decide) (fun q5 => ?_) (fun q5 => ?_)
  · skip
    have q5 := (kz_ne (a := (na + 1)) (by omega)).mp q5
    refine j_iconst C dX8_undo_12 (v := (nI 0)) kc_i_0 ?_
    refine j_callVM C rw_ (nA := 1) (As := [.int (nI 0)]) (wr := [(rnw, cI (xT X) 37 h), (rd, cI (xT X) 518 D)]) (c_X8_refused_0 (xl X) (xT X) h8 rv rn rnw rt rd rk rik rdk rre rle rhe rth rpa ror (na + 1) nx rf bv bo ) gX8_undo_X8_refused rfl (by decide +kernel) rfl (by decide) (by decide) [0] [1, 2] rfl rfl rfl rfl (by decide) 0 rfl rfl (rest := []) rfl (Nat.le_of_ble_eq_true rfl) dX8_undo_13 ?_
    rintro _ _ ⟨rfl, rfl⟩
    show jj X 0 0 16 [(0, .ref h8)] [.int (bI false)] [(rnw, cI (xT X) 37 h), (rd, cI (xT X) 518 D), (h8, cO 8 [.int (nI 0), .ref rv, .ref rn, .ref rnw, .ref rt, .ref rd, .int (nI (na + 1)), .int (nI nx), .ref rk, .ref rik, .ref rdk, .ref rre, .ref rle, .ref rhe, .ref rth, .ref rpa, .ref ror, .int bv, .int bo])]
    refine j_if_eq C dX8_undo_16 (tgt := 21) (by decide) (fun _ => ?_) (fun h9 => absurd h9 (by decide +kernel))
    refine j_aload_n C dX8_undo_21 0 rfl rfl ?_
    refine j_dup C dX8_undo_22 rfl ?_
    refine j_get C (hin8) (ci := 8) rfl 6 (by decide) (hl136) 2 rfl (v := .int (nI (na + 1))) rfl dX8_undo_23 ?_
    refine j_iconst C dX8_undo_26 (v := (nI 1)) kc_i_1 ?_
    refine j_isub C dX8_undo_27 (v := (nI na)) (by rw [show na = (na + 1) - 1 from rfl]; exact pk_sub (by omega)) ?_
    refine j_put C rw_ (hin8) tyX8 tyX8_ok nmX8 (ci := 8) rfl 6 (by decide) (hl136) (by decide +kernel) (ty := .int) (by decide +kernel) rfl rfl 2 rfl (Nat.le_of_ble_eq_true rfl) (w' := [(rnw, cI (xT X) 37 h), (rd, cI (xT X) 518 D), (h8, cO 8 [.int (nI 0), .ref rv, .ref rn, .ref rnw, .ref rt, .ref rd, .int (nI na), .int (nI nx), .ref rk, .ref rik, .ref rdk, .ref rre, .ref rle, .ref rhe, .ref rth, .ref rpa, .ref ror, .int bv, .int bo])]) rfl dX8_undo_28 ?_
    refine j_aload_n C dX8_undo_31 0 rfl rfl ?_
    refine j_aload_n C dX8_undo_32 0 rfl rfl ?_
    refine j_get C (hin8) (ci := 8) rfl 7 (by decide) (hl133) 2 rfl (v := .int (nI nx)) rfl dX8_undo_33 ?_
    refine j_bipush C dX8_undo_36 (v := (nI 14)) kc_b_14 ?_
    refine j_iadd C dX8_undo_38 (v := (nI (nx + 14))) (nI_add _ _) ?_
    refine j_iconst C dX8_undo_39 (v := (nI 1)) kc_i_1 ?_
    refine j_isub C dX8_undo_40 (v := (nI ((nx + 14) - 1))) (pk_sub (by omega)) ?_
    refine j_bipush C dX8_undo_41 (v := (nI 14)) kc_b_14 ?_
    refine j_irem C dX8_undo_43 (by decide) (v := (nI (((nx + 14) - 1) % 14))) (pk_rem (by omega) (by omega) (by omega)) ?_
    refine j_put C rw_ (hin8) tyX8 tyX8_ok nmX8 (ci := 8) rfl 7 (by decide) (hl133) (by decide +kernel) (ty := .int) (by decide +kernel) rfl rfl 2 rfl (Nat.le_of_ble_eq_true rfl) (w' := [(rnw, cI (xT X) 37 h), (rd, cI (xT X) 518 D), (h8, cO 8 [.int (nI 0), .ref rv, .ref rn, .ref rnw, .ref rt, .ref rd, .int (nI na), .int (nI (((nx + 14) - 1) % 14)), .ref rk, .ref rik, .ref rdk, .ref rre, .ref rle, .ref rhe, .ref rth, .ref rpa, .ref ror, .int bv, .int bo])]) rfl dX8_undo_44 ?_
    refine j_iconst C dX8_undo_47 (v := (nI 0)) kc_i_0 ?_
    refine j_istore_n C dX8_undo_48 rfl (by decide) (lv' := [(1, .int (nI 0)), (0, .ref h8)]) rfl ?_
    refine j_lv [1, 0] rfl ?_
    refine j_perm C (w' := [(h8, cO 8 [.int (nI 0), .ref rv, .ref rn, .ref rnw, .ref rt, .ref rd, .int (nI na), .int (nI (((nx + 14) - 1) % 14)), .ref rk, .ref rik, .ref rdk, .ref rre, .ref rle, .ref rhe, .ref rth, .ref rpa, .ref ror, .int bv, .int bo]), (rnw, cI (xT X) 37 h), (rd, cI (xT X) 518 D)]) [2, 0, 1] rfl rfl ?_
    suffices hc49 : ∀ (mm : Nat) (k : Nat) (h : Nat → Int32), 37 - k < mm → (k ≤ 37) → (∀ j, j < k → h j = g j) → jj X 0 0 49 [(0, .ref h8), (1, .int (nI k))] [] [(h8, cO 8 [.int (nI 0), .ref rv, .ref rn, .ref rnw, .ref rt, .ref rd, .int (nI na), .int (nI ((nx + 14 - 1) % 14)), .ref rk, .ref rik, .ref rdk, .ref rre, .ref rle, .ref rhe, .ref rth, .ref rpa, .ref ror, .int bv, .int bo]), (rnw, cI (xT X) 37 h), (rd, cI (xT X) 518 D)] by
      refine hc49 _ _ h (Nat.lt_succ_self _) ?_ ?_
      · omega
      · intro j hj; omega
    intro mm
    induction mm with
    | zero => intro k h hm; exact absurd hm (Nat.not_lt_zero _)
    | succ mm ih49 =>
      intro k h hm49 hk hg
      refine j_iload_n C dX8_undo_49 1 rfl rfl ?_
      refine j_bipush C dX8_undo_50 (v := (nI 37)) kc_b_37 ?_
      refine j_icmp_ge C dX8_undo_52 (tgt := 81) (by decide) (fun q52 => ?_) (fun q52 => ?_)
      · skip
        have q52 := (kn_ge (a := k) (b := 37) (by omega) (by omega)).mp q52
        refine j_extI C g 1 rfl (fun j hj => ?_) (w' := [(h8, cO 8 [.int (nI 0), .ref rv, .ref rn, .ref rnw, .ref rt, .ref rd, .int (nI na), .int (nI ((nx + 14 - 1) % 14)), .ref rk, .ref rik, .ref rdk, .ref rre, .ref rle, .ref rhe, .ref rth, .ref rpa, .ref ror, .int bv, .int bo]), (rnw, cI (xT X) 37 g), (rd, cI (xT X) 518 D)]) rfl ?_
        · exact hg j (by omega)
        refine j_aload_n C dX8_undo_81 0 rfl rfl ?_
        refine j_get C (hin8) (ci := 8) rfl 6 (by decide) (hl136) 0 rfl (v := .int (nI na)) rfl dX8_undo_82 ?_
        refine j_iretM C rw_ hQ (by decide) (by decide) rfl ?_ dX8_undo_85
        exact ⟨rfl, rfl⟩
      · skip
        have q52 := (kn_nge (a := k) (b := 37) (by omega) (by omega)).mp q52
        refine j_aload_n C dX8_undo_55 0 rfl rfl ?_
        refine j_get C (hin8) (ci := 8) rfl 3 (by decide) (hl16) 0 rfl (v := .ref rnw) rfl dX8_undo_56 ?_
        refine j_iload_n C dX8_undo_59 1 rfl rfl ?_
        refine j_aload_n C dX8_undo_60 0 rfl rfl ?_
        refine j_get C (hin8) (ci := 8) rfl 5 (by decide) (hl22) 0 rfl (v := .ref rd) rfl dX8_undo_61 ?_
        refine j_bipush C dX8_undo_64 (v := (nI 37)) kc_b_37 ?_
        refine j_aload_n C dX8_undo_66 0 rfl rfl ?_
        refine j_get C (hin8) (ci := 8) rfl 7 (by decide) (hl133) 0 rfl (v := .int (nI ((nx + 14 - 1) % 14))) rfl dX8_undo_67 ?_
        refine j_imul C dX8_undo_70 (v := (nI (37 * ((nx + 14 - 1) % 14)))) (pk_mul _ _) ?_
        refine j_iload_n C dX8_undo_71 1 rfl rfl ?_
        refine j_iadd C dX8_undo_72 (v := (nI ((37 * ((nx + 14 - 1) % 14)) + k))) (nI_add _ _) ?_
        refine j_ialoadN C ((37 * ((nx + 14 - 1) % 14)) + k) rfl 2 rfl (by omega) (by decide) dX8_undo_73 ?_
        refine j_ieq (g k) (by exact hD k (by omega)) ?_
        refine j_iastoreN C rw_ k rfl 1 rfl (by omega) (by decide) (w' := [(h8, cO 8 [.int (nI 0), .ref rv, .ref rn, .ref rnw, .ref rt, .ref rd, .int (nI na), .int (nI ((nx + 14 - 1) % 14)), .ref rk, .ref rik, .ref rdk, .ref rre, .ref rle, .ref rhe, .ref rth, .ref rpa, .ref ror, .int bv, .int bo]), (rnw, cI (xT X) 37 (upd h k (g k))), (rd, cI (xT X) 518 D)]) rfl dX8_undo_74 ?_
        refine j_iinc C dX8_undo_75 (q := 1) (v := (nI (k + 1))) rfl (kc_inc k) (by decide) (lv' := [(1, .int (nI (k + 1))), (0, .ref h8)]) rfl ?_
        refine j_goto C dX8_undo_78 (tgt := 49) (by decide) ?_
        refine j_lv [1, 0] rfl ?_
        refine ih49 _ _ (by omega) ?_ ?_
        · omega
        · intro j hj; unfold upd
          by_cases h9 : j = k
          · rw [if_pos h9, h9]
          · rw [if_neg h9]; exact hg j (by omega)
  · skip
    have q5 := (kz_nne (a := (na + 1)) (by omega)).mp q5
    exfalso
    first | exact q5.elim | omega

set_option maxHeartbeats 4000000 in
set_option maxRecDepth 100000 in
/-- save -/
theorem c_X8_save (l : Launch) (T : jj_T) (h8 rv rn rnw rt rd rk rik rdk rre rle rhe rth rpa ror na nx : Nat) (rf bv bo : Int32) (ac ap an : Nat) (ash : Bool) (aob arq : Nat → Int32) (K : Nat → Int32) (ik : Nat → Bool) (x : Int32)  : jM l T yX8_save wsX8_save { frames := 1, cells := 0, slots := 0, locals := 25 } [.ref h8, .int x] [(h8, cO 8 [.int rf, .ref rv, .ref rn, .ref rnw, .ref rt, .ref rd, .int (nI na), .int (nI nx), .ref rk, .ref rik, .ref rdk, .ref rre, .ref rle, .ref rhe, .ref rth, .ref rpa, .ref ror, .int bv, .int bo]), (rnw, cI T 37 (rowF ac ap ash an aob arq)), (rk, cI T 74 K), (rik, cZ T 2 (fun j => bI (ik j)))] (fun v w1 => ∃ (k8 : Nat) (r : Int32), v = some (.int r) ∧ ((w1 = [(h8, cO 8 [.int (nI k8), .ref rv, .ref rn, .ref rnw, .ref rt, .ref rd, .int (nI na), .int (nI nx), .ref rk, .ref rik, .ref rdk, .ref rre, .ref rle, .ref rhe, .ref rth, .ref rpa, .ref ror, .int bv, .int bo]), (rnw, cI T 37 (rowF ac ap ash an aob arq)), (rk, cI T 74 K), (rik, cZ T 2 (fun j => bI (ik j)))] ∧ ((k8 = 1 ∧ inR x 0 1 = false))) ∨ (k8 = 0 ∧ ∃ i : Nat, w1 = [(h8, cO 8 [.int (nI 0), .ref rv, .ref rn, .ref rnw, .ref rt, .ref rd, .int (nI na), .int (nI nx), .ref rk, .ref rik, .ref rdk, .ref rre, .ref rle, .ref rhe, .ref rth, .ref rpa, .ref ror, .int bv, .int bo]), (rnw, cI T 37 (rowF ac ap ash an aob arq)), (rk, cI T 74 (dgN K i (rowF ac ap ash an aob arq))), (rik, cZ T 2 (fun j => bI (va_up ik i true j)))] ∧ x = nI i ∧ i < 2 ∧ r = nI ac))) := by
  refine jM.of (cc := cX8_save) (maxL := 3) (ret := (some .int)) (by decide) rfl (Nat.le_of_ble_eq_true rfl) ?_
  intro X C rw_ hl hT hQ hnm
  subst hl; subst hT
  have hin8 : ∀ w ∈ u_ws RX8 TX8 19, w ∈ wsX8_save := by decide +kernel
  have hl16 : Cond.fieldLink RX8 16 (TX8 3).1 (TX8 3).2.1 (TX8 3).2.2.1 ∈ wsX8_save := by decide +kernel
  have hl25 : Cond.fieldLink RX8 25 (TX8 8).1 (TX8 8).2.1 (TX8 8).2.2.1 ∈ wsX8_save := by decide +kernel
  have hl28 : Cond.fieldLink RX8 28 (TX8 9).1 (TX8 9).2.1 (TX8 9).2.2.1 ∈ wsX8_save := by decide +kernel
  show jj X 0 0 0 [(0, .ref h8), (1, .int x)] [] [(h8, cO 8 [.int rf, .ref rv, .ref rn, .ref rnw, .ref rt, .ref rd, .int (nI na), .int (nI nx), .ref rk, .ref rik, .ref rdk, .ref rre, .ref rle, .ref rhe, .ref rth, .ref rpa, .ref ror, .int bv, .int bo]), (rnw, cI (xT X) 37 (rowF ac ap ash an aob arq)), (rk, cI (xT X) 74 K), (rik, cZ (xT X) 2 (fun j => bI (ik j)))]
  refine j_aload_n C dX8_save_0 0 rfl rfl ?_
  refine j_iload_n C dX8_save_1 1 rfl rfl ?_
  refine j_i2l C dX8_save_2 (v := x.toInt64) rfl ?_
  refine j_lconst C dX8_save_3 (v := lN 0) rfl ?_
  refine j_lconst C dX8_save_4 (v := lN 1) rfl ?_
  refine j_callSR C (nA := 3) (As := [.long x.toInt64, .long (lN 0), .long (lN 1)]) (c_X8_in (xl X) (xT X) x (lN 0) (lN 1) (0) (1) (by decide +kernel) (by decide +kernel)) gX8_save_X8_in rfl (by decide +kernel) rfl ⟨rfl, rfl⟩ (by decide) (by decide) [] rfl rfl (rest := [.ref h8]) rfl (Nat.le_of_ble_eq_true rfl) dX8_save_5 ?_
  rintro _ rfl
  show jj X 0 0 8 [(0, .ref h8), (1, .int x)] [.int (bI (inR x (0) (1))), .ref h8] [(h8, cO 8 [.int rf, .ref rv, .ref rn, .ref rnw, .ref rt, .ref rd, .int (nI na), .int (nI nx), .ref rk, .ref rik, .ref rdk, .ref rre, .ref rle, .ref rhe, .ref rth, .ref rpa, .ref ror, .int bv, .int bo]), (rnw, cI (xT X) 37 (rowF ac ap ash an aob arq)), (rk, cI (xT X) 74 K), (rik, cZ (xT X) 2 (fun j => bI (ik j)))]
  refine j_if_eq C dX8_save_8 (tgt := 15) (by decide) (fun q8 => ?_) (fun q8 => ?_)
  · skip
    have q8 := (kb_eq).mp q8
    refine j_iconst C dX8_save_15 (v := (nI 1)) kc_i_1 ?_
    refine j_callVM C rw_ (nA := 1) (As := [.int (nI 1)]) (wr := [(rnw, cI (xT X) 37 (rowF ac ap ash an aob arq)), (rk, cI (xT X) 74 K), (rik, cZ (xT X) 2 (fun j => bI (ik j)))]) (c_X8_refused_s (xl X) (xT X) h8 rv rn rnw rt rd rk rik rdk rre rle rhe rth rpa ror na nx rf bv bo 1 (by omega) (by omega)) gX8_save_X8_refused rfl (by decide +kernel) rfl (by decide) (by decide) [0] [1, 2, 3] rfl rfl rfl rfl (by decide) 0 rfl rfl (rest := []) rfl (Nat.le_of_ble_eq_true rfl) dX8_save_16 ?_
    rintro _ _ ⟨rfl, rfl⟩
    show jj X 0 0 19 [(0, .ref h8), (1, .int x)] [.int (bI true)] [(rnw, cI (xT X) 37 (rowF ac ap ash an aob arq)), (rk, cI (xT X) 74 K), (rik, cZ (xT X) 2 (fun j => bI (ik j))), (h8, cO 8 [.int (nI 1), .ref rv, .ref rn, .ref rnw, .ref rt, .ref rd, .int (nI na), .int (nI nx), .ref rk, .ref rik, .ref rdk, .ref rre, .ref rle, .ref rhe, .ref rth, .ref rpa, .ref ror, .int bv, .int bo])]
    refine j_if_eq C dX8_save_19 (tgt := 24) (by decide) (fun h9 => absurd h9 (by decide +kernel)) (fun _ => ?_)
    refine j_iconst C dX8_save_22 (v := (nI 0)) kc_i_0 ?_
    refine j_perm C (w' := [(h8, cO 8 [.int (nI 1), .ref rv, .ref rn, .ref rnw, .ref rt, .ref rd, .int (nI na), .int (nI nx), .ref rk, .ref rik, .ref rdk, .ref rre, .ref rle, .ref rhe, .ref rth, .ref rpa, .ref ror, .int bv, .int bo]), (rnw, cI (xT X) 37 (rowF ac ap ash an aob arq)), (rk, cI (xT X) 74 K), (rik, cZ (xT X) 2 (fun j => bI (ik j)))]) [3, 0, 1, 2] rfl rfl ?_
    refine j_iretM C rw_ hQ (by decide) (by decide) rfl ?_ dX8_save_23
    exact ⟨1, _, rfl, Or.inl ⟨rfl, ⟨rfl, q8⟩⟩⟩
  · skip
    have q8 := (kb_neq).mp q8
    refine j_iconst C dX8_save_11 (v := (nI 0)) kc_i_0 ?_
    refine j_goto C dX8_save_12 (tgt := 16) (by decide) ?_
    refine j_callVM C rw_ (nA := 1) (As := [.int (nI 0)]) (wr := [(rnw, cI (xT X) 37 (rowF ac ap ash an aob arq)), (rk, cI (xT X) 74 K), (rik, cZ (xT X) 2 (fun j => bI (ik j)))]) (c_X8_refused_0 (xl X) (xT X) h8 rv rn rnw rt rd rk rik rdk rre rle rhe rth rpa ror na nx rf bv bo ) gX8_save_X8_refused rfl (by decide +kernel) rfl (by decide) (by decide) [0] [1, 2, 3] rfl rfl rfl rfl (by decide) 0 rfl rfl (rest := []) rfl (Nat.le_of_ble_eq_true rfl) dX8_save_16 ?_
    rintro _ _ ⟨rfl, rfl⟩
    show jj X 0 0 19 [(0, .ref h8), (1, .int x)] [.int (bI false)] [(rnw, cI (xT X) 37 (rowF ac ap ash an aob arq)), (rk, cI (xT X) 74 K), (rik, cZ (xT X) 2 (fun j => bI (ik j))), (h8, cO 8 [.int (nI 0), .ref rv, .ref rn, .ref rnw, .ref rt, .ref rd, .int (nI na), .int (nI nx), .ref rk, .ref rik, .ref rdk, .ref rre, .ref rle, .ref rhe, .ref rth, .ref rpa, .ref ror, .int bv, .int bo])]
    refine j_if_eq C dX8_save_19 (tgt := 24) (by decide) (fun _ => ?_) (fun h9 => absurd h9 (by decide +kernel))
    obtain ⟨i, rfl, hb_i⟩ := inR_N (b := 1) q8
    refine j_aload_n C dX8_save_24 0 rfl rfl ?_
    refine j_get C (hin8) (ci := 8) rfl 9 (by decide) (hl28) 3 rfl (v := .ref rik) rfl dX8_save_25 ?_
    refine j_iload_n C dX8_save_28 1 rfl rfl ?_
    refine j_iconst C dX8_save_29 (v := (nI 1)) kc_i_1 ?_
    refine j_zastoreN C rw_ i rfl 2 rfl (by omega) (by decide) (w' := [(rnw, cI (xT X) 37 (rowF ac ap ash an aob arq)), (rk, cI (xT X) 74 K), (rik, cZ (xT X) 2 (upd (fun j => bI (ik j)) i (vp_nar .boolean (nI 1)))), (h8, cO 8 [.int (nI 0), .ref rv, .ref rn, .ref rnw, .ref rt, .ref rd, .int (nI na), .int (nI nx), .ref rk, .ref rik, .ref rdk, .ref rre, .ref rle, .ref rhe, .ref rth, .ref rpa, .ref ror, .int bv, .int bo])]) rfl dX8_save_30 ?_
    refine j_extZ C (fun j => bI (va_up ik i true j)) 2 rfl (fun j hj => ?_) (w' := [(rnw, cI (xT X) 37 (rowF ac ap ash an aob arq)), (rk, cI (xT X) 74 K), (rik, cZ (xT X) 2 (fun j => bI (va_up ik i true j))), (h8, cO 8 [.int (nI 0), .ref rv, .ref rn, .ref rnw, .ref rt, .ref rd, .int (nI na), .int (nI nx), .ref rk, .ref rik, .ref rdk, .ref rre, .ref rle, .ref rhe, .ref rth, .ref rpa, .ref ror, .int bv, .int bo])]) rfl ?_
    · by_cases h9 : j = i
      · simp [upd, va_up, h9, bI_n1]
      · simp [upd, va_up, h9]
    refine j_iconst C dX8_save_31 (v := (nI 0)) kc_i_0 ?_
    rw [show cI (xT X) 74 K = cI (xT X) 74 (dgK K i 0 (rowF ac ap ash an aob arq)) from by rw [dgK_0]]
    show jj X 0 0 32 [(0, .ref h8), (1, .int (nI i))] [.int (nI 0)] [(rnw, cI (xT X) 37 (rowF ac ap ash an aob arq)), (rk, cI (xT X) 74 (dgK K i 0 (rowF ac ap ash an aob arq))), (rik, cZ (xT X) 2 (fun j => bI (va_up ik i true j))), (h8, cO 8 [.int (nI 0), .ref rv, .ref rn, .ref rnw, .ref rt, .ref rd, .int (nI na), .int (nI nx), .ref rk, .ref rik, .ref rdk, .ref rre, .ref rle, .ref rhe, .ref rth, .ref rpa, .ref ror, .int bv, .int bo])]
    refine j_istore_n C dX8_save_32 rfl (by decide) (lv' := [(2, .int (nI 0)), (0, .ref h8), (1, .int (nI i))]) rfl ?_
    refine j_lv [1, 2, 0] rfl ?_
    refine j_perm C (w' := [(h8, cO 8 [.int (nI 0), .ref rv, .ref rn, .ref rnw, .ref rt, .ref rd, .int (nI na), .int (nI nx), .ref rk, .ref rik, .ref rdk, .ref rre, .ref rle, .ref rhe, .ref rth, .ref rpa, .ref ror, .int bv, .int bo]), (rnw, cI (xT X) 37 (rowF ac ap ash an aob arq)), (rk, cI (xT X) 74 (dgK K i 0 (rowF ac ap ash an aob arq))), (rik, cZ (xT X) 2 (fun j => bI (va_up ik i true j)))]) [3, 0, 1, 2] rfl rfl ?_
    suffices hc33 : ∀ (mm : Nat) (k : Nat), 37 - k < mm → (k ≤ 37) → jj X 0 0 33 [(0, .ref h8), (1, .int (nI i)), (2, .int (nI k))] [] [(h8, cO 8 [.int (nI 0), .ref rv, .ref rn, .ref rnw, .ref rt, .ref rd, .int (nI na), .int (nI nx), .ref rk, .ref rik, .ref rdk, .ref rre, .ref rle, .ref rhe, .ref rth, .ref rpa, .ref ror, .int bv, .int bo]), (rnw, cI (xT X) 37 (rowF ac ap ash an aob arq)), (rk, cI (xT X) 74 (dgK K i k (rowF ac ap ash an aob arq))), (rik, cZ (xT X) 2 (fun j => bI (va_up ik i true j)))] by
      refine hc33 _ _ (Nat.lt_succ_self _) ?_
      · omega
    intro mm
    induction mm with
    | zero => intro k hm; exact absurd hm (Nat.not_lt_zero _)
    | succ mm ih33 =>
      intro k hm33 hk
      refine j_iload_n C dX8_save_33 2 rfl rfl ?_
      refine j_bipush C dX8_save_34 (v := (nI 37)) kc_b_37 ?_
      refine j_icmp_ge C dX8_save_36 (tgt := 62) (by decide) (fun q36 => ?_) (fun q36 => ?_)
      · skip
        have q36 := (kn_ge (a := k) (b := 37) (by omega) (by omega)).mp q36
        have e37 : dgK K i k (rowF ac ap ash an aob arq) = dgN K i (rowF ac ap ash an aob arq) := by rw [show k = 37 by omega]; rfl
        rw [e37]
        show jj X 0 0 62 [(0, .ref h8), (1, .int (nI i)), (2, .int (nI k))] [] [(h8, cO 8 [.int (nI 0), .ref rv, .ref rn, .ref rnw, .ref rt, .ref rd, .int (nI na), .int (nI nx), .ref rk, .ref rik, .ref rdk, .ref rre, .ref rle, .ref rhe, .ref rth, .ref rpa, .ref ror, .int bv, .int bo]), (rnw, cI (xT X) 37 (rowF ac ap ash an aob arq)), (rk, cI (xT X) 74 (dgN K i (rowF ac ap ash an aob arq))), (rik, cZ (xT X) 2 (fun j => bI (va_up ik i true j)))]
        refine j_aload_n C dX8_save_62 0 rfl rfl ?_
        refine j_get C (hin8) (ci := 8) rfl 3 (by decide) (hl16) 0 rfl (v := .ref rnw) rfl dX8_save_63 ?_
        refine j_bipush C dX8_save_66 (v := (nI 21)) kc_b_21 ?_
        refine j_ialoadN C 21 rfl 1 rfl (by omega) (by decide) dX8_save_68 ?_
        show jj X 0 0 69 [(0, .ref h8), (1, .int (nI i)), (2, .int (nI k))] [.int (nI ac)] [(h8, cO 8 [.int (nI 0), .ref rv, .ref rn, .ref rnw, .ref rt, .ref rd, .int (nI na), .int (nI nx), .ref rk, .ref rik, .ref rdk, .ref rre, .ref rle, .ref rhe, .ref rth, .ref rpa, .ref ror, .int bv, .int bo]), (rnw, cI (xT X) 37 (rowF ac ap ash an aob arq)), (rk, cI (xT X) 74 (dgN K i (rowF ac ap ash an aob arq))), (rik, cZ (xT X) 2 (fun j => bI (va_up ik i true j)))]
        refine j_iretM C rw_ hQ (by decide) (by decide) rfl ?_ dX8_save_69
        exact ⟨0, _, rfl, Or.inr ⟨rfl, i, rfl, rfl, by omega, rfl⟩⟩
      · skip
        have q36 := (kn_nge (a := k) (b := 37) (by omega) (by omega)).mp q36
        refine j_aload_n C dX8_save_39 0 rfl rfl ?_
        refine j_get C (hin8) (ci := 8) rfl 8 (by decide) (hl25) 0 rfl (v := .ref rk) rfl dX8_save_40 ?_
        refine j_bipush C dX8_save_43 (v := (nI 37)) kc_b_37 ?_
        refine j_iload_n C dX8_save_45 1 rfl rfl ?_
        refine j_imul C dX8_save_46 (v := (nI (37 * i))) (pk_mul _ _) ?_
        refine j_iload_n C dX8_save_47 2 rfl rfl ?_
        refine j_iadd C dX8_save_48 (v := (nI (37 * i + k))) (nI_add _ _) ?_
        refine j_aload_n C dX8_save_49 0 rfl rfl ?_
        refine j_get C (hin8) (ci := 8) rfl 3 (by decide) (hl16) 0 rfl (v := .ref rnw) rfl dX8_save_50 ?_
        refine j_iload_n C dX8_save_53 2 rfl rfl ?_
        refine j_ialoadN C k rfl 1 rfl (by omega) (by decide) dX8_save_54 ?_
        refine j_iastoreN C rw_ (37 * i + k) rfl 2 rfl (by omega) (by decide) (w' := [(h8, cO 8 [.int (nI 0), .ref rv, .ref rn, .ref rnw, .ref rt, .ref rd, .int (nI na), .int (nI nx), .ref rk, .ref rik, .ref rdk, .ref rre, .ref rle, .ref rhe, .ref rth, .ref rpa, .ref ror, .int bv, .int bo]), (rnw, cI (xT X) 37 (rowF ac ap ash an aob arq)), (rk, cI (xT X) 74 (upd (dgK K i k (rowF ac ap ash an aob arq)) (37 * i + k) ((rowF ac ap ash an aob arq) k))), (rik, cZ (xT X) 2 (fun j => bI (va_up ik i true j)))]) rfl dX8_save_55 ?_
        rw [dgK_s]
        show jj X 0 0 56 [(0, .ref h8), (1, .int (nI i)), (2, .int (nI k))] [] [(h8, cO 8 [.int (nI 0), .ref rv, .ref rn, .ref rnw, .ref rt, .ref rd, .int (nI na), .int (nI nx), .ref rk, .ref rik, .ref rdk, .ref rre, .ref rle, .ref rhe, .ref rth, .ref rpa, .ref ror, .int bv, .int bo]), (rnw, cI (xT X) 37 (rowF ac ap ash an aob arq)), (rk, cI (xT X) 74 (dgK K i (k + 1) (rowF ac ap ash an aob arq))), (rik, cZ (xT X) 2 (fun j => bI (va_up ik i true j)))]
        refine j_iinc C dX8_save_56 (q := 2) (v := (nI (k + 1))) rfl (kc_inc k) (by decide) (lv' := [(2, .int (nI (k + 1))), (0, .ref h8), (1, .int (nI i))]) rfl ?_
        refine j_goto C dX8_save_59 (tgt := 33) (by decide) ?_
        refine j_lv [1, 2, 0] rfl ?_
        refine ih33 _ (by omega) ?_
        · omega

set_option maxHeartbeats 4000000 in
set_option maxRecDepth 100000 in
/-- restore -/
theorem c_X8_restore (l : Launch) (T : jj_T) (h8 rv rn rnw rt rd rk rik rdk rre rle rhe rth rpa ror na nx : Nat) (rf bv bo : Int32) (ac ap an : Nat) (ash : Bool) (aob arq : Nat → Int32) (K : Nat → Int32) (ik : Nat → Bool) (G : Nat → Nat → Int32) (x : Int32)  (hK : ∀ i, i < 2 → ik i = true → ∀ t, t < 37 → K (37 * i + t) = G i t) : jM l T yX8_restore wsX8_restore { frames := 1, cells := 0, slots := 0, locals := 25 } [.ref h8, .int x] [(h8, cO 8 [.int rf, .ref rv, .ref rn, .ref rnw, .ref rt, .ref rd, .int (nI na), .int (nI nx), .ref rk, .ref rik, .ref rdk, .ref rre, .ref rle, .ref rhe, .ref rth, .ref rpa, .ref ror, .int bv, .int bo]), (rnw, cI T 37 (rowF ac ap ash an aob arq)), (rk, cI T 74 K), (rik, cZ T 2 (fun j => bI (ik j)))] (fun v w1 => ∃ (k8 : Nat) (r : Int32), v = some (.int r) ∧ ((w1 = [(h8, cO 8 [.int (nI k8), .ref rv, .ref rn, .ref rnw, .ref rt, .ref rd, .int (nI na), .int (nI nx), .ref rk, .ref rik, .ref rdk, .ref rre, .ref rle, .ref rhe, .ref rth, .ref rpa, .ref ror, .int bv, .int bo]), (rnw, cI T 37 (rowF ac ap ash an aob arq)), (rk, cI T 74 K), (rik, cZ T 2 (fun j => bI (ik j)))] ∧ ((k8 = 1 ∧ inR x 0 1 = false) ∨ (k8 = 2 ∧ inR x 0 1 = true ∧ (∃ i : Nat, x = nI i ∧ i < 2 ∧ ik i = false)))) ∨ (k8 = 0 ∧ ∃ i : Nat, w1 = [(h8, cO 8 [.int (nI 0), .ref rv, .ref rn, .ref rnw, .ref rt, .ref rd, .int (nI 0), .int (nI nx), .ref rk, .ref rik, .ref rdk, .ref rre, .ref rle, .ref rhe, .ref rth, .ref rpa, .ref ror, .int bv, .int bo]), (rnw, cI T 37 (G i)), (rk, cI T 74 K), (rik, cZ T 2 (fun j => bI (ik j)))] ∧ x = nI i ∧ i < 2 ∧ ik i = true ∧ r = G i 21))) := by
  refine jM.of (cc := cX8_restore) (maxL := 3) (ret := (some .int)) (by decide) rfl (Nat.le_of_ble_eq_true rfl) ?_
  intro X C rw_ hl hT hQ hnm
  subst hl; subst hT
  have hin8 : ∀ w ∈ u_ws RX8 TX8 19, w ∈ wsX8_restore := by decide +kernel
  have hl16 : Cond.fieldLink RX8 16 (TX8 3).1 (TX8 3).2.1 (TX8 3).2.2.1 ∈ wsX8_restore := by decide +kernel
  have hl25 : Cond.fieldLink RX8 25 (TX8 8).1 (TX8 8).2.1 (TX8 8).2.2.1 ∈ wsX8_restore := by decide +kernel
  have hl28 : Cond.fieldLink RX8 28 (TX8 9).1 (TX8 9).2.1 (TX8 9).2.2.1 ∈ wsX8_restore := by decide +kernel
  have hl136 : Cond.fieldLink RX8 136 (TX8 6).1 (TX8 6).2.1 (TX8 6).2.2.1 ∈ wsX8_restore := by decide +kernel
  show jj X 0 0 0 [(0, .ref h8), (1, .int x)] [] [(h8, cO 8 [.int rf, .ref rv, .ref rn, .ref rnw, .ref rt, .ref rd, .int (nI na), .int (nI nx), .ref rk, .ref rik, .ref rdk, .ref rre, .ref rle, .ref rhe, .ref rth, .ref rpa, .ref ror, .int bv, .int bo]), (rnw, cI (xT X) 37 (rowF ac ap ash an aob arq)), (rk, cI (xT X) 74 K), (rik, cZ (xT X) 2 (fun j => bI (ik j)))]
  refine j_aload_n C dX8_restore_0 0 rfl rfl ?_
  refine j_iload_n C dX8_restore_1 1 rfl rfl ?_
  refine j_i2l C dX8_restore_2 (v := x.toInt64) rfl ?_
  refine j_lconst C dX8_restore_3 (v := lN 0) rfl ?_
  refine j_lconst C dX8_restore_4 (v := lN 1) rfl ?_
  refine j_callSR C (nA := 3) (As := [.long x.toInt64, .long (lN 0), .long (lN 1)]) (c_X8_in (xl X) (xT X) x (lN 0) (lN 1) (0) (1) (by decide +kernel) (by decide +kernel)) gX8_restore_X8_in rfl (by decide +kernel) rfl ⟨rfl, rfl⟩ (by decide) (by decide) [] rfl rfl (rest := [.ref h8]) rfl (Nat.le_of_ble_eq_true rfl) dX8_restore_5 ?_
  rintro _ rfl
  show jj X 0 0 8 [(0, .ref h8), (1, .int x)] [.int (bI (inR x (0) (1))), .ref h8] [(h8, cO 8 [.int rf, .ref rv, .ref rn, .ref rnw, .ref rt, .ref rd, .int (nI na), .int (nI nx), .ref rk, .ref rik, .ref rdk, .ref rre, .ref rle, .ref rhe, .ref rth, .ref rpa, .ref ror, .int bv, .int bo]), (rnw, cI (xT X) 37 (rowF ac ap ash an aob arq)), (rk, cI (xT X) 74 K), (rik, cZ (xT X) 2 (fun j => bI (ik j)))]
  refine j_if_ne C dX8_restore_8 (tgt := 15) (by decide) (fun q8 => ?_) (fun q8 => ?_)
  · skip
    have q8 := (kb_ne).mp q8
    obtain ⟨i, rfl, hb_i⟩ := inR_N (b := 1) q8
    refine j_aload_n C dX8_restore_15 0 rfl rfl ?_
    refine j_get C (hin8) (ci := 8) rfl 9 (by decide) (hl28) 0 rfl (v := .ref rik) rfl dX8_restore_16 ?_
    refine j_iload_n C dX8_restore_19 1 rfl rfl ?_
    refine j_zaloadN C i rfl 3 rfl (by omega) (by decide) dX8_restore_20 ?_
    refine j_if_ne C dX8_restore_21 (tgt := 28) (by decide) (fun q21 => ?_) (fun q21 => ?_)
    · skip
      have q21 := (kb_ne).mp q21
      refine j_iconst C dX8_restore_28 (v := (nI 0)) kc_i_0 ?_
      refine j_callVM C rw_ (nA := 1) (As := [.int (nI 0)]) (wr := [(rnw, cI (xT X) 37 (rowF ac ap ash an aob arq)), (rk, cI (xT X) 74 K), (rik, cZ (xT X) 2 (fun j => bI (ik j)))]) (c_X8_refused_0 (xl X) (xT X) h8 rv rn rnw rt rd rk rik rdk rre rle rhe rth rpa ror na nx rf bv bo ) gX8_restore_X8_refused rfl (by decide +kernel) rfl (by decide) (by decide) [0] [1, 2, 3] rfl rfl rfl rfl (by decide) 0 rfl rfl (rest := []) rfl (Nat.le_of_ble_eq_true rfl) dX8_restore_29 ?_
      rintro _ _ ⟨rfl, rfl⟩
      show jj X 0 0 32 [(0, .ref h8), (1, .int (nI i))] [.int (bI false)] [(rnw, cI (xT X) 37 (rowF ac ap ash an aob arq)), (rk, cI (xT X) 74 K), (rik, cZ (xT X) 2 (fun j => bI (ik j))), (h8, cO 8 [.int (nI 0), .ref rv, .ref rn, .ref rnw, .ref rt, .ref rd, .int (nI na), .int (nI nx), .ref rk, .ref rik, .ref rdk, .ref rre, .ref rle, .ref rhe, .ref rth, .ref rpa, .ref ror, .int bv, .int bo])]
      refine j_if_eq C dX8_restore_32 (tgt := 37) (by decide) (fun _ => ?_) (fun h9 => absurd h9 (by decide +kernel))
      refine j_iconst C dX8_restore_37 (v := (nI 0)) kc_i_0 ?_
      refine j_istore_n C dX8_restore_38 rfl (by decide) (lv' := [(2, .int (nI 0)), (0, .ref h8), (1, .int (nI i))]) rfl ?_
      refine j_lv [1, 2, 0] rfl ?_
      refine j_perm C (w' := [(h8, cO 8 [.int (nI 0), .ref rv, .ref rn, .ref rnw, .ref rt, .ref rd, .int (nI na), .int (nI nx), .ref rk, .ref rik, .ref rdk, .ref rre, .ref rle, .ref rhe, .ref rth, .ref rpa, .ref ror, .int bv, .int bo]), (rnw, cI (xT X) 37 (rowF ac ap ash an aob arq)), (rk, cI (xT X) 74 K), (rik, cZ (xT X) 2 (fun j => bI (ik j)))]) [3, 0, 1, 2] rfl rfl ?_
      suffices hc39 : ∀ (mm : Nat) (k : Nat) (h : Nat → Int32), 37 - k < mm → (k ≤ 37) → (∀ j, j < k → h j = G i j) → jj X 0 0 39 [(0, .ref h8), (1, .int (nI i)), (2, .int (nI k))] [] [(h8, cO 8 [.int (nI 0), .ref rv, .ref rn, .ref rnw, .ref rt, .ref rd, .int (nI na), .int (nI nx), .ref rk, .ref rik, .ref rdk, .ref rre, .ref rle, .ref rhe, .ref rth, .ref rpa, .ref ror, .int bv, .int bo]), (rnw, cI (xT X) 37 h), (rk, cI (xT X) 74 K), (rik, cZ (xT X) 2 (fun j => bI (ik j)))] by
        refine hc39 _ _ (rowF ac ap ash an aob arq) (Nat.lt_succ_self _) ?_ ?_
        · omega
        · intro j hj; omega
      intro mm
      induction mm with
      | zero => intro k h hm; exact absurd hm (Nat.not_lt_zero _)
      | succ mm ih39 =>
        intro k h hm39 hk hg
        refine j_iload_n C dX8_restore_39 2 rfl rfl ?_
        refine j_bipush C dX8_restore_40 (v := (nI 37)) kc_b_37 ?_
        refine j_icmp_ge C dX8_restore_42 (tgt := 68) (by decide) (fun q42 => ?_) (fun q42 => ?_)
        · skip
          have q42 := (kn_ge (a := k) (b := 37) (by omega) (by omega)).mp q42
          refine j_extI C (G i) 1 rfl (fun j hj => ?_) (w' := [(h8, cO 8 [.int (nI 0), .ref rv, .ref rn, .ref rnw, .ref rt, .ref rd, .int (nI na), .int (nI nx), .ref rk, .ref rik, .ref rdk, .ref rre, .ref rle, .ref rhe, .ref rth, .ref rpa, .ref ror, .int bv, .int bo]), (rnw, cI (xT X) 37 (G i)), (rk, cI (xT X) 74 K), (rik, cZ (xT X) 2 (fun j => bI (ik j)))]) rfl ?_
          · exact hg j (by omega)
          refine j_aload_n C dX8_restore_68 0 rfl rfl ?_
          refine j_iconst C dX8_restore_69 (v := (nI 0)) kc_i_0 ?_
          refine j_put C rw_ (hin8) tyX8 tyX8_ok nmX8 (ci := 8) rfl 6 (by decide) (hl136) (by decide +kernel) (ty := .int) (by decide +kernel) rfl rfl 0 rfl (Nat.le_of_ble_eq_true rfl) (w' := [(h8, cO 8 [.int (nI 0), .ref rv, .ref rn, .ref rnw, .ref rt, .ref rd, .int (nI 0), .int (nI nx), .ref rk, .ref rik, .ref rdk, .ref rre, .ref rle, .ref rhe, .ref rth, .ref rpa, .ref ror, .int bv, .int bo]), (rnw, cI (xT X) 37 (G i)), (rk, cI (xT X) 74 K), (rik, cZ (xT X) 2 (fun j => bI (ik j)))]) rfl dX8_restore_70 ?_
          refine j_aload_n C dX8_restore_73 0 rfl rfl ?_
          refine j_get C (hin8) (ci := 8) rfl 3 (by decide) (hl16) 0 rfl (v := .ref rnw) rfl dX8_restore_74 ?_
          refine j_bipush C dX8_restore_77 (v := (nI 21)) kc_b_21 ?_
          refine j_ialoadN C 21 rfl 1 rfl (by omega) (by decide) dX8_restore_79 ?_
          refine j_iretM C rw_ hQ (by decide) (by decide) rfl ?_ dX8_restore_80
          exact ⟨0, _, rfl, Or.inr ⟨rfl, i, rfl, rfl, by omega, q21, rfl⟩⟩
        · skip
          have q42 := (kn_nge (a := k) (b := 37) (by omega) (by omega)).mp q42
          refine j_aload_n C dX8_restore_45 0 rfl rfl ?_
          refine j_get C (hin8) (ci := 8) rfl 3 (by decide) (hl16) 0 rfl (v := .ref rnw) rfl dX8_restore_46 ?_
          refine j_iload_n C dX8_restore_49 2 rfl rfl ?_
          refine j_aload_n C dX8_restore_50 0 rfl rfl ?_
          refine j_get C (hin8) (ci := 8) rfl 8 (by decide) (hl25) 0 rfl (v := .ref rk) rfl dX8_restore_51 ?_
          refine j_bipush C dX8_restore_54 (v := (nI 37)) kc_b_37 ?_
          refine j_iload_n C dX8_restore_56 1 rfl rfl ?_
          refine j_imul C dX8_restore_57 (v := (nI (37 * i))) (pk_mul _ _) ?_
          refine j_iload_n C dX8_restore_58 2 rfl rfl ?_
          refine j_iadd C dX8_restore_59 (v := (nI (37 * i + k))) (nI_add _ _) ?_
          refine j_ialoadN C (37 * i + k) rfl 2 rfl (by omega) (by decide) dX8_restore_60 ?_
          refine j_ieq (G i k) (by exact hK i (by omega) q21 k (by omega)) ?_
          refine j_iastoreN C rw_ k rfl 1 rfl (by omega) (by decide) (w' := [(h8, cO 8 [.int (nI 0), .ref rv, .ref rn, .ref rnw, .ref rt, .ref rd, .int (nI na), .int (nI nx), .ref rk, .ref rik, .ref rdk, .ref rre, .ref rle, .ref rhe, .ref rth, .ref rpa, .ref ror, .int bv, .int bo]), (rnw, cI (xT X) 37 (upd h k (G i k))), (rk, cI (xT X) 74 K), (rik, cZ (xT X) 2 (fun j => bI (ik j)))]) rfl dX8_restore_61 ?_
          refine j_iinc C dX8_restore_62 (q := 2) (v := (nI (k + 1))) rfl (kc_inc k) (by decide) (lv' := [(2, .int (nI (k + 1))), (0, .ref h8), (1, .int (nI i))]) rfl ?_
          refine j_goto C dX8_restore_65 (tgt := 39) (by decide) ?_
          refine j_lv [1, 2, 0] rfl ?_
          refine ih39 _ _ (by omega) ?_ ?_
          · omega
          · intro j hj; unfold upd
            by_cases h9 : j = k
            · rw [if_pos h9, h9]
            · rw [if_neg h9]; exact hg j (by omega)
    · skip
      have q21 := (kb_nne).mp q21
      refine j_iconst C dX8_restore_24 (v := (nI 2)) kc_i_2 ?_
      refine j_goto C dX8_restore_25 (tgt := 29) (by decide) ?_
      refine j_callVM C rw_ (nA := 1) (As := [.int (nI 2)]) (wr := [(rnw, cI (xT X) 37 (rowF ac ap ash an aob arq)), (rk, cI (xT X) 74 K), (rik, cZ (xT X) 2 (fun j => bI (ik j)))]) (c_X8_refused_s (xl X) (xT X) h8 rv rn rnw rt rd rk rik rdk rre rle rhe rth rpa ror na nx rf bv bo 2 (by omega) (by omega)) gX8_restore_X8_refused rfl (by decide +kernel) rfl (by decide) (by decide) [0] [1, 2, 3] rfl rfl rfl rfl (by decide) 0 rfl rfl (rest := []) rfl (Nat.le_of_ble_eq_true rfl) dX8_restore_29 ?_
      rintro _ _ ⟨rfl, rfl⟩
      show jj X 0 0 32 [(0, .ref h8), (1, .int (nI i))] [.int (bI true)] [(rnw, cI (xT X) 37 (rowF ac ap ash an aob arq)), (rk, cI (xT X) 74 K), (rik, cZ (xT X) 2 (fun j => bI (ik j))), (h8, cO 8 [.int (nI 2), .ref rv, .ref rn, .ref rnw, .ref rt, .ref rd, .int (nI na), .int (nI nx), .ref rk, .ref rik, .ref rdk, .ref rre, .ref rle, .ref rhe, .ref rth, .ref rpa, .ref ror, .int bv, .int bo])]
      refine j_if_eq C dX8_restore_32 (tgt := 37) (by decide) (fun h9 => absurd h9 (by decide +kernel)) (fun _ => ?_)
      refine j_iconst C dX8_restore_35 (v := (nI 0)) kc_i_0 ?_
      refine j_perm C (w' := [(h8, cO 8 [.int (nI 2), .ref rv, .ref rn, .ref rnw, .ref rt, .ref rd, .int (nI na), .int (nI nx), .ref rk, .ref rik, .ref rdk, .ref rre, .ref rle, .ref rhe, .ref rth, .ref rpa, .ref ror, .int bv, .int bo]), (rnw, cI (xT X) 37 (rowF ac ap ash an aob arq)), (rk, cI (xT X) 74 K), (rik, cZ (xT X) 2 (fun j => bI (ik j)))]) [3, 0, 1, 2] rfl rfl ?_
      refine j_iretM C rw_ hQ (by decide) (by decide) rfl ?_ dX8_restore_36
      exact ⟨2, _, rfl, Or.inl ⟨rfl, Or.inr (⟨rfl, q8, i, rfl, by omega, q21⟩)⟩⟩
  · skip
    have q8 := (kb_nne).mp q8
    refine j_iconst C dX8_restore_11 (v := (nI 1)) kc_i_1 ?_
    refine j_goto C dX8_restore_12 (tgt := 29) (by decide) ?_
    refine j_callVM C rw_ (nA := 1) (As := [.int (nI 1)]) (wr := [(rnw, cI (xT X) 37 (rowF ac ap ash an aob arq)), (rk, cI (xT X) 74 K), (rik, cZ (xT X) 2 (fun j => bI (ik j)))]) (c_X8_refused_s (xl X) (xT X) h8 rv rn rnw rt rd rk rik rdk rre rle rhe rth rpa ror na nx rf bv bo 1 (by omega) (by omega)) gX8_restore_X8_refused rfl (by decide +kernel) rfl (by decide) (by decide) [0] [1, 2, 3] rfl rfl rfl rfl (by decide) 0 rfl rfl (rest := []) rfl (Nat.le_of_ble_eq_true rfl) dX8_restore_29 ?_
    rintro _ _ ⟨rfl, rfl⟩
    show jj X 0 0 32 [(0, .ref h8), (1, .int x)] [.int (bI true)] [(rnw, cI (xT X) 37 (rowF ac ap ash an aob arq)), (rk, cI (xT X) 74 K), (rik, cZ (xT X) 2 (fun j => bI (ik j))), (h8, cO 8 [.int (nI 1), .ref rv, .ref rn, .ref rnw, .ref rt, .ref rd, .int (nI na), .int (nI nx), .ref rk, .ref rik, .ref rdk, .ref rre, .ref rle, .ref rhe, .ref rth, .ref rpa, .ref ror, .int bv, .int bo])]
    refine j_if_eq C dX8_restore_32 (tgt := 37) (by decide) (fun h9 => absurd h9 (by decide +kernel)) (fun _ => ?_)
    refine j_iconst C dX8_restore_35 (v := (nI 0)) kc_i_0 ?_
    refine j_perm C (w' := [(h8, cO 8 [.int (nI 1), .ref rv, .ref rn, .ref rnw, .ref rt, .ref rd, .int (nI na), .int (nI nx), .ref rk, .ref rik, .ref rdk, .ref rre, .ref rle, .ref rhe, .ref rth, .ref rpa, .ref ror, .int bv, .int bo]), (rnw, cI (xT X) 37 (rowF ac ap ash an aob arq)), (rk, cI (xT X) 74 K), (rik, cZ (xT X) 2 (fun j => bI (ik j)))]) [3, 0, 1, 2] rfl rfl ?_
    refine j_iretM C rw_ hQ (by decide) (by decide) rfl ?_ dX8_restore_36
    exact ⟨1, _, rfl, Or.inl ⟨rfl, Or.inl ⟨rfl, q8⟩⟩⟩

set_option maxHeartbeats 4000000 in
set_option maxRecDepth 100000 in
/-- randomWalk -/
theorem c_X8_randomWalk (l : Launch) (T : jj_T) (h8 rv rn rnw rt rd rk rik rdk rre rle rhe rth rpa ror na nx : Nat) (rf bv bo : Int32) (ac ap an : Nat) (ash : Bool) (aob arq : Nat → Int32) (sd9 : Int64) (y : Int32) (hap : ap < 150) (hac : ac ≤ 200) (hco : coI aob) : jM l T yX8_randomWalk wsX8_randomWalk { frames := 3, cells := 0, slots := 0, locals := 78 } [.ref h8, .long sd9, .int y] [(h8, cO 8 [.int rf, .ref rv, .ref rn, .ref rnw, .ref rt, .ref rd, .int (nI na), .int (nI nx), .ref rk, .ref rik, .ref rdk, .ref rre, .ref rle, .ref rhe, .ref rth, .ref rpa, .ref ror, .int bv, .int bo]), (rv, cI T 450 cvec), (rn, cI T 600 (fun j => nI (near4 j))), (rnw, cI T 37 (rowF ac ap ash an aob arq))] (fun v w1 => ∃ (k8 : Nat) (r : Int32), v = some (.int r) ∧ ((w1 = [(h8, cO 8 [.int (nI k8), .ref rv, .ref rn, .ref rnw, .ref rt, .ref rd, .int (nI na), .int (nI nx), .ref rk, .ref rik, .ref rdk, .ref rre, .ref rle, .ref rhe, .ref rth, .ref rpa, .ref ror, .int bv, .int bo]), (rv, cI T 450 cvec), (rn, cI T 600 (fun j => nI (near4 j))), (rnw, cI T 37 (rowF ac ap ash an aob arq))] ∧ ((k8 = 1 ∧ inR y 1 60 = false) ∨ (k8 = 2 ∧ inR y 1 60 = true ∧ ash = true))) ∨ (k8 = 0 ∧ ∃ m : Nat, w1 = [(h8, cO 8 [.int (nI 0), .ref rv, .ref rn, .ref rnw, .ref rt, .ref rd, .int (nI na), .int (nI nx), .ref rk, .ref rik, .ref rdk, .ref rre, .ref rle, .ref rhe, .ref rth, .ref rpa, .ref ror, .int bv, .int bo]), (rv, cI T 450 cvec), (rn, cI T 600 (fun j => nI (near4 j))), (rnw, cI T 37 (rowF ac ap ash an aob arq))] ∧ y = nI m ∧ 1 ≤ m ∧ m ≤ 60 ∧ ash = false ∧ r = nI (rwk aob ac m 1 ap sd9)))) := by
  refine jM.of (cc := cX8_randomWalk) (maxL := 10) (ret := (some .int)) (by decide) rfl (Nat.le_of_ble_eq_true rfl) ?_
  intro X C rw_ hl hT hQ hnm
  subst hl; subst hT
  have hin8 : ∀ w ∈ u_ws RX8 TX8 19, w ∈ wsX8_randomWalk := by decide +kernel
  have hl13 : Cond.fieldLink RX8 13 (TX8 2).1 (TX8 2).2.1 (TX8 2).2.2.1 ∈ wsX8_randomWalk := by decide +kernel
  have hl16 : Cond.fieldLink RX8 16 (TX8 3).1 (TX8 3).2.1 (TX8 3).2.2.1 ∈ wsX8_randomWalk := by decide +kernel
  show jj X 0 0 0 [(0, .ref h8), (1, .long sd9), (3, .int y)] [] [(h8, cO 8 [.int rf, .ref rv, .ref rn, .ref rnw, .ref rt, .ref rd, .int (nI na), .int (nI nx), .ref rk, .ref rik, .ref rdk, .ref rre, .ref rle, .ref rhe, .ref rth, .ref rpa, .ref ror, .int bv, .int bo]), (rv, cI (xT X) 450 cvec), (rn, cI (xT X) 600 (fun j => nI (near4 j))), (rnw, cI (xT X) 37 (rowF ac ap ash an aob arq))]
  refine j_aload_n C dX8_randomWalk_0 0 rfl rfl ?_
  refine j_iload_n C dX8_randomWalk_1 2 rfl rfl ?_
  refine j_i2l C dX8_randomWalk_2 (v := y.toInt64) rfl ?_
  refine j_lconst C dX8_randomWalk_3 (v := lN 1) rfl ?_
  refine j_ldc2l C dX8_randomWalk_4 (v := lN 60) (by decide +kernel) ?_
  refine j_callSR C (nA := 3) (As := [.long y.toInt64, .long (lN 1), .long (lN 60)]) (c_X8_in (xl X) (xT X) y (lN 1) (lN 60) (1) (60) (by decide +kernel) (by decide +kernel)) gX8_randomWalk_X8_in rfl (by decide +kernel) rfl ⟨rfl, rfl⟩ (by decide) (by decide) [] rfl rfl (rest := [.ref h8]) rfl (Nat.le_of_ble_eq_true rfl) dX8_randomWalk_7 ?_
  rintro _ rfl
  show jj X 0 0 10 [(0, .ref h8), (1, .long sd9), (3, .int y)] [.int (bI (inR y (1) (60))), .ref h8] [(h8, cO 8 [.int rf, .ref rv, .ref rn, .ref rnw, .ref rt, .ref rd, .int (nI na), .int (nI nx), .ref rk, .ref rik, .ref rdk, .ref rre, .ref rle, .ref rhe, .ref rth, .ref rpa, .ref ror, .int bv, .int bo]), (rv, cI (xT X) 450 cvec), (rn, cI (xT X) 600 (fun j => nI (near4 j))), (rnw, cI (xT X) 37 (rowF ac ap ash an aob arq))]
  refine j_if_ne C dX8_randomWalk_10 (tgt := 17) (by decide) (fun q10 => ?_) (fun q10 => ?_)
  · skip
    have q10 := (kb_ne).mp q10
    obtain ⟨m, rfl, ha_m, hb_m⟩ := inR_K (a := 1) (b := 60) q10
    refine j_aload_n C dX8_randomWalk_17 0 rfl rfl ?_
    refine j_get C (hin8) (ci := 8) rfl 3 (by decide) (hl16) 0 rfl (v := .ref rnw) rfl dX8_randomWalk_18 ?_
    refine j_bipush C dX8_randomWalk_21 (v := (nI 23)) kc_b_23 ?_
    refine j_ialoadN C 23 rfl 3 rfl (by omega) (by decide) dX8_randomWalk_23 ?_
    show jj X 0 0 24 [(0, .ref h8), (1, .long sd9), (3, .int (nI m))] [.int (bI ash), .ref h8] [(h8, cO 8 [.int rf, .ref rv, .ref rn, .ref rnw, .ref rt, .ref rd, .int (nI na), .int (nI nx), .ref rk, .ref rik, .ref rdk, .ref rre, .ref rle, .ref rhe, .ref rth, .ref rpa, .ref ror, .int bv, .int bo]), (rv, cI (xT X) 450 cvec), (rn, cI (xT X) 600 (fun j => nI (near4 j))), (rnw, cI (xT X) 37 (rowF ac ap ash an aob arq))]
    refine j_iconst C dX8_randomWalk_24 (v := (nI 1)) kc_i_1 ?_
    refine j_icmp_ne C dX8_randomWalk_25 (tgt := 32) (by decide) (fun q25 => ?_) (fun q25 => ?_)
    · skip
      refine j_iconst C dX8_randomWalk_32 (v := (nI 0)) kc_i_0 ?_
      refine j_callVM C rw_ (nA := 1) (As := [.int (nI 0)]) (wr := [(rv, cI (xT X) 450 cvec), (rn, cI (xT X) 600 (fun j => nI (near4 j))), (rnw, cI (xT X) 37 (rowF ac ap ash an aob arq))]) (c_X8_refused_0 (xl X) (xT X) h8 rv rn rnw rt rd rk rik rdk rre rle rhe rth rpa ror na nx rf bv bo ) gX8_randomWalk_X8_refused rfl (by decide +kernel) rfl (by decide) (by decide) [0] [1, 2, 3] rfl rfl rfl rfl (by decide) 0 rfl rfl (rest := []) rfl (Nat.le_of_ble_eq_true rfl) dX8_randomWalk_33 ?_
      rintro _ _ ⟨rfl, rfl⟩
      show jj X 0 0 36 [(0, .ref h8), (1, .long sd9), (3, .int (nI m))] [.int (bI false)] [(rv, cI (xT X) 450 cvec), (rn, cI (xT X) 600 (fun j => nI (near4 j))), (rnw, cI (xT X) 37 (rowF ac ap ash an aob arq)), (h8, cO 8 [.int (nI 0), .ref rv, .ref rn, .ref rnw, .ref rt, .ref rd, .int (nI na), .int (nI nx), .ref rk, .ref rik, .ref rdk, .ref rre, .ref rle, .ref rhe, .ref rth, .ref rpa, .ref ror, .int bv, .int bo])]
      refine j_if_eq C dX8_randomWalk_36 (tgt := 41) (by decide) (fun _ => ?_) (fun h9 => absurd h9 (by decide +kernel))
      refine j_lload_n C dX8_randomWalk_41 1 rfl rfl ?_
      refine j_lstore C dX8_randomWalk_42 (by decide) (lv' := [(4, .long sd9), (0, .ref h8), (1, .long sd9), (3, .int (nI m))]) rfl ?_
      refine j_aload_n C dX8_randomWalk_44 1 rfl rfl ?_
      refine j_get C (hin8) (ci := 8) rfl 3 (by decide) (hl16) 3 rfl (v := .ref rnw) rfl dX8_randomWalk_45 ?_
      refine j_bipush C dX8_randomWalk_48 (v := (nI 22)) kc_b_22 ?_
      refine j_ialoadN C 22 rfl 2 rfl (by omega) (by decide) dX8_randomWalk_50 ?_
      show jj X 0 0 51 [(4, .long sd9), (0, .ref h8), (1, .long sd9), (3, .int (nI m))] [.int (nI ap)] [(rv, cI (xT X) 450 cvec), (rn, cI (xT X) 600 (fun j => nI (near4 j))), (rnw, cI (xT X) 37 (rowF ac ap ash an aob arq)), (h8, cO 8 [.int (nI 0), .ref rv, .ref rn, .ref rnw, .ref rt, .ref rd, .int (nI na), .int (nI nx), .ref rk, .ref rik, .ref rdk, .ref rre, .ref rle, .ref rhe, .ref rth, .ref rpa, .ref ror, .int bv, .int bo])]
      refine j_istore C dX8_randomWalk_51 (by decide) (lv' := [(6, .int (nI ap)), (4, .long sd9), (0, .ref h8), (1, .long sd9), (3, .int (nI m))]) rfl ?_
      refine j_iconst C dX8_randomWalk_53 (v := (nI 1)) kc_i_1 ?_
      refine j_istore C dX8_randomWalk_54 (by decide) (lv' := [(7, .int (nI 1)), (6, .int (nI ap)), (4, .long sd9), (0, .ref h8), (1, .long sd9), (3, .int (nI m))]) rfl ?_
      refine j_lv [3, 4, 5, 2, 1, 0] rfl ?_
      refine j_perm C (w' := [(h8, cO 8 [.int (nI 0), .ref rv, .ref rn, .ref rnw, .ref rt, .ref rd, .int (nI na), .int (nI nx), .ref rk, .ref rik, .ref rdk, .ref rre, .ref rle, .ref rhe, .ref rth, .ref rpa, .ref ror, .int bv, .int bo]), (rv, cI (xT X) 450 cvec), (rn, cI (xT X) 600 (fun j => nI (near4 j))), (rnw, cI (xT X) 37 (rowF ac ap ash an aob arq))]) [3, 0, 1, 2] rfl rfl ?_
      suffices hc56 : ∀ (mm : Nat) (c i : Nat) (x : Int64), m + 1 - i < mm → (c < 150) → (1 ≤ i) → (i ≤ m + 1) → (rwk aob ac (m + 1 - i) i c x = rwk aob ac m 1 ap sd9) → jj X 0 0 56 [(0, .ref h8), (1, .long sd9), (3, .int (nI m)), (4, .long x), (6, .int (nI c)), (7, .int (nI i))] [] [(h8, cO 8 [.int (nI 0), .ref rv, .ref rn, .ref rnw, .ref rt, .ref rd, .int (nI na), .int (nI nx), .ref rk, .ref rik, .ref rdk, .ref rre, .ref rle, .ref rhe, .ref rth, .ref rpa, .ref ror, .int bv, .int bo]), (rv, cI (xT X) 450 cvec), (rn, cI (xT X) 600 (fun j => nI (near4 j))), (rnw, cI (xT X) 37 (rowF ac ap ash an aob arq))] by
        refine hc56 _ _ _ _ (Nat.lt_succ_self _) ?_ ?_ ?_ ?_
        · exact hap
        · omega
        · omega
        · rfl
      intro mm
      induction mm with
      | zero => intro c i x hm; exact absurd hm (Nat.not_lt_zero _)
      | succ mm ih56 =>
        intro c i x hm56 hc hi0 hi hres
        refine j_iload C dX8_randomWalk_56 5 rfl ?_
        refine j_iload_n C dX8_randomWalk_58 2 rfl rfl ?_
        refine j_icmp_gt C dX8_randomWalk_59 (tgt := 171) (by decide) (fun q59 => ?_) (fun q59 => ?_)
        · skip
          have q59 := (kn_gt (a := i) (b := m) (by omega) (by omega)).mp q59
          refine j_iload C dX8_randomWalk_171 4 rfl ?_
          refine j_iretM C rw_ hQ (by decide) (by decide) rfl ?_ dX8_randomWalk_173
          exact ⟨0, _, rfl, Or.inr ⟨rfl, m, rfl, rfl, ha_m, hb_m, bI_ne1 q25, by rw [← hres, show m + 1 - i = 0 by omega]; rfl⟩⟩
        · skip
          have q59 := (kn_ngt (a := i) (b := m) (by omega) (by omega)).mp q59
          have hs1 : rwk aob ac (m + 1 - i) i c x = if br aob (rwT c (rwR (rwx x))) (ac + i) = false then rwk aob ac (m + 1 - (i + 1)) (i + 1) (rwT c (rwR (rwx x))) (rwx x) else if br aob c (ac + i) = true then c else rwk aob ac (m + 1 - (i + 1)) (i + 1) c (rwx x) := by
            rw [show m + 1 - i = (m + 1 - (i + 1)) + 1 by omega, rwk]
          refine j_lload C dX8_randomWalk_62 3 rfl ?_
          refine j_ldc2l C dX8_randomWalk_64 (v := 6364136223846793005) (by decide +kernel) ?_
          refine j_lmul C dX8_randomWalk_67 (v := (x * (6364136223846793005))) rfl ?_
          refine j_ldc2l C dX8_randomWalk_68 (v := 1442695040888963407) (by decide +kernel) ?_
          refine j_ladd C dX8_randomWalk_71 (v := ((x * (6364136223846793005)) + (1442695040888963407))) rfl ?_
          show jj X 0 0 72 [(0, .ref h8), (1, .long sd9), (3, .int (nI m)), (4, .long x), (6, .int (nI c)), (7, .int (nI i))] [.long (rwx x)] [(h8, cO 8 [.int (nI 0), .ref rv, .ref rn, .ref rnw, .ref rt, .ref rd, .int (nI na), .int (nI nx), .ref rk, .ref rik, .ref rdk, .ref rre, .ref rle, .ref rhe, .ref rth, .ref rpa, .ref ror, .int bv, .int bo]), (rv, cI (xT X) 450 cvec), (rn, cI (xT X) 600 (fun j => nI (near4 j))), (rnw, cI (xT X) 37 (rowF ac ap ash an aob arq))]
          refine j_lstore C dX8_randomWalk_72 (by decide) (lv' := [(4, .long (rwx x)), (0, .ref h8), (1, .long sd9), (3, .int (nI m)), (6, .int (nI c)), (7, .int (nI i))]) rfl ?_
          refine j_lload C dX8_randomWalk_74 0 rfl ?_
          obtain ⟨z, hz, ez⟩ := wb_of (rwx x)
          rw [ez]
          refine j_bipush C dX8_randomWalk_76 (v := (nI 33)) kc_b_33 ?_
          refine j_lushr C dX8_randomWalk_78 (v := (lN (z / 8589934592))) (wb_shr (by omega) (by decide)) ?_
          refine j_l2i C dX8_randomWalk_79 (v := (nI (z / 8589934592))) (lN_i _) ?_
          refine j_iconst C dX8_randomWalk_80 (v := (nI 5)) kc_i_5 ?_
          refine j_irem C dX8_randomWalk_81 (by decide) (v := (nI ((z / 8589934592) % 5))) (pk_rem (by omega) (by omega) (by omega)) ?_
          refine j_istore C dX8_randomWalk_82 (by decide) (lv' := [(8, .int (nI ((z / 8589934592) % 5))), (4, .long (lN z)), (0, .ref h8), (1, .long sd9), (3, .int (nI m)), (6, .int (nI c)), (7, .int (nI i))]) rfl ?_
          have hc107 : ∀ (nxc : Nat), (nxc < 150) → (nxc = rwT c (rwR (rwx x))) → jj X 0 0 107 [(0, .ref h8), (1, .long sd9), (3, .int (nI m)), (4, .long (rwx x)), (6, .int (nI c)), (7, .int (nI i))] [.int (nI nxc)] [(h8, cO 8 [.int (nI 0), .ref rv, .ref rn, .ref rnw, .ref rt, .ref rd, .int (nI na), .int (nI nx), .ref rk, .ref rik, .ref rdk, .ref rre, .ref rle, .ref rhe, .ref rth, .ref rpa, .ref ror, .int bv, .int bo]), (rv, cI (xT X) 450 cvec), (rn, cI (xT X) 600 (fun j => nI (near4 j))), (rnw, cI (xT X) 37 (rowF ac ap ash an aob arq))] := by
            intro nxc hnx hnx2
            refine j_istore C dX8_randomWalk_107 (by decide) (lv' := [(9, .int (nI nxc)), (0, .ref h8), (1, .long sd9), (3, .int (nI m)), (4, .long (rwx x)), (6, .int (nI c)), (7, .int (nI i))]) rfl ?_
            refine j_aload_n C dX8_randomWalk_109 1 rfl rfl ?_
            refine j_aload_n C dX8_randomWalk_110 1 rfl rfl ?_
            refine j_get C (hin8) (ci := 8) rfl 3 (by decide) (hl16) 0 rfl (v := .ref rnw) rfl dX8_randomWalk_111 ?_
            refine j_iload C dX8_randomWalk_114 0 rfl ?_
            refine j_aload_n C dX8_randomWalk_116 1 rfl rfl ?_
            refine j_get C (hin8) (ci := 8) rfl 3 (by decide) (hl16) 0 rfl (v := .ref rnw) rfl dX8_randomWalk_117 ?_
            refine j_bipush C dX8_randomWalk_120 (v := (nI 21)) kc_b_21 ?_
            refine j_ialoadN C 21 rfl 3 rfl (by omega) (by decide) dX8_randomWalk_122 ?_
            show jj X 0 0 123 [(9, .int (nI nxc)), (0, .ref h8), (1, .long sd9), (3, .int (nI m)), (4, .long (rwx x)), (6, .int (nI c)), (7, .int (nI i))] [.int (nI ac), .int (nI nxc), .ref rnw, .ref h8] [(h8, cO 8 [.int (nI 0), .ref rv, .ref rn, .ref rnw, .ref rt, .ref rd, .int (nI na), .int (nI nx), .ref rk, .ref rik, .ref rdk, .ref rre, .ref rle, .ref rhe, .ref rth, .ref rpa, .ref ror, .int bv, .int bo]), (rv, cI (xT X) 450 cvec), (rn, cI (xT X) 600 (fun j => nI (near4 j))), (rnw, cI (xT X) 37 (rowF ac ap ash an aob arq))]
            refine j_iload C dX8_randomWalk_123 6 rfl ?_
            refine j_iadd C dX8_randomWalk_125 (v := (nI (ac + i))) (nI_add _ _) ?_
            refine j_callVR C (nA := 3) (As := [.ref rnw, .int (nI nxc), .int (nI (ac + i))]) (c_X8_isBrightIn (xl X) (xT X) h8 rv rn rnw rt rd rk rik rdk rre rle rhe rth rpa ror na nx (nI 0) bv bo rnw nxc (ac + i) (rowF ac ap ash an aob arq) (by omega) (by exact row_co hco)) gX8_randomWalk_X8_isBrightIn rfl (by decide +kernel) rfl ⟨rfl, rfl⟩ (by decide) (by decide) [0, 1, 3] rfl rfl 0 rfl rfl (rest := []) rfl (Nat.le_of_ble_eq_true rfl) dX8_randomWalk_126 ?_
            rintro _ rfl
            show jj X 0 0 129 [(9, .int (nI nxc)), (0, .ref h8), (1, .long sd9), (3, .int (nI m)), (4, .long (rwx x)), (6, .int (nI c)), (7, .int (nI i))] [.int (bI (br (rowF ac ap ash an aob arq) nxc (ac + i)))] [(h8, cO 8 [.int (nI 0), .ref rv, .ref rn, .ref rnw, .ref rt, .ref rd, .int (nI na), .int (nI nx), .ref rk, .ref rik, .ref rdk, .ref rre, .ref rle, .ref rhe, .ref rth, .ref rpa, .ref ror, .int bv, .int bo]), (rv, cI (xT X) 450 cvec), (rn, cI (xT X) 600 (fun j => nI (near4 j))), (rnw, cI (xT X) 37 (rowF ac ap ash an aob arq))]
            refine j_if_ne C dX8_randomWalk_129 (tgt := 139) (by decide) (fun q129 => ?_) (fun q129 => ?_)
            · skip
              have q129 := (kb_ne).mp q129
              refine j_aload_n C dX8_randomWalk_139 1 rfl rfl ?_
              refine j_aload_n C dX8_randomWalk_140 1 rfl rfl ?_
              refine j_get C (hin8) (ci := 8) rfl 3 (by decide) (hl16) 0 rfl (v := .ref rnw) rfl dX8_randomWalk_141 ?_
              refine j_iload C dX8_randomWalk_144 5 rfl ?_
              refine j_aload_n C dX8_randomWalk_146 1 rfl rfl ?_
              refine j_get C (hin8) (ci := 8) rfl 3 (by decide) (hl16) 0 rfl (v := .ref rnw) rfl dX8_randomWalk_147 ?_
              refine j_bipush C dX8_randomWalk_150 (v := (nI 21)) kc_b_21 ?_
              refine j_ialoadN C 21 rfl 3 rfl (by omega) (by decide) dX8_randomWalk_152 ?_
              show jj X 0 0 153 [(9, .int (nI nxc)), (0, .ref h8), (1, .long sd9), (3, .int (nI m)), (4, .long (rwx x)), (6, .int (nI c)), (7, .int (nI i))] [.int (nI ac), .int (nI c), .ref rnw, .ref h8] [(h8, cO 8 [.int (nI 0), .ref rv, .ref rn, .ref rnw, .ref rt, .ref rd, .int (nI na), .int (nI nx), .ref rk, .ref rik, .ref rdk, .ref rre, .ref rle, .ref rhe, .ref rth, .ref rpa, .ref ror, .int bv, .int bo]), (rv, cI (xT X) 450 cvec), (rn, cI (xT X) 600 (fun j => nI (near4 j))), (rnw, cI (xT X) 37 (rowF ac ap ash an aob arq))]
              refine j_iload C dX8_randomWalk_153 6 rfl ?_
              refine j_iadd C dX8_randomWalk_155 (v := (nI (ac + i))) (nI_add _ _) ?_
              refine j_callVR C (nA := 3) (As := [.ref rnw, .int (nI c), .int (nI (ac + i))]) (c_X8_isBrightIn (xl X) (xT X) h8 rv rn rnw rt rd rk rik rdk rre rle rhe rth rpa ror na nx (nI 0) bv bo rnw c (ac + i) (rowF ac ap ash an aob arq) (by omega) (by exact row_co hco)) gX8_randomWalk_X8_isBrightIn rfl (by decide +kernel) rfl ⟨rfl, rfl⟩ (by decide) (by decide) [0, 1, 3] rfl rfl 0 rfl rfl (rest := []) rfl (Nat.le_of_ble_eq_true rfl) dX8_randomWalk_156 ?_
              rintro _ rfl
              show jj X 0 0 159 [(9, .int (nI nxc)), (0, .ref h8), (1, .long sd9), (3, .int (nI m)), (4, .long (rwx x)), (6, .int (nI c)), (7, .int (nI i))] [.int (bI (br (rowF ac ap ash an aob arq) c (ac + i)))] [(h8, cO 8 [.int (nI 0), .ref rv, .ref rn, .ref rnw, .ref rt, .ref rd, .int (nI na), .int (nI nx), .ref rk, .ref rik, .ref rdk, .ref rre, .ref rle, .ref rhe, .ref rth, .ref rpa, .ref ror, .int bv, .int bo]), (rv, cI (xT X) 450 cvec), (rn, cI (xT X) 600 (fun j => nI (near4 j))), (rnw, cI (xT X) 37 (rowF ac ap ash an aob arq))]
              refine j_if_eq C dX8_randomWalk_159 (tgt := 165) (by decide) (fun q159 => ?_) (fun q159 => ?_)
              · skip
                have q159 := (kb_eq).mp q159
                refine j_iinc C dX8_randomWalk_165 (q := 6) (v := (nI (i + 1))) rfl (kc_inc i) (by decide) (lv' := [(7, .int (nI (i + 1))), (9, .int (nI nxc)), (0, .ref h8), (1, .long sd9), (3, .int (nI m)), (4, .long (rwx x)), (6, .int (nI c))]) rfl ?_
                refine j_goto C dX8_randomWalk_168 (tgt := 56) (by decide) ?_
                refine j_lv [2, 3, 4, 5, 6, 0] rfl ?_
                refine ih56 _ _ _ (by omega) ?_ ?_ ?_ ?_
                · exact hc
                · omega
                · omega
                · rw [row_br] at q129 q159
                  rw [← hres, hs1, ← hnx2, if_neg (by rw [q129]; decide), if_neg (by rw [q159]; decide)]
              · skip
                have q159 := (kb_neq).mp q159
                refine j_iload C dX8_randomWalk_162 5 rfl ?_
                refine j_iretM C rw_ hQ (by decide) (by decide) rfl ?_ dX8_randomWalk_164
                exact ⟨0, _, rfl, Or.inr ⟨rfl, m, rfl, rfl, ha_m, hb_m, bI_ne1 q25, by rw [row_br] at q129 q159; rw [← hres, hs1, ← hnx2, if_neg (by rw [q129]; decide), if_pos q159]⟩⟩
            · skip
              have q129 := (kb_nne).mp q129
              refine j_iload C dX8_randomWalk_132 0 rfl ?_
              refine j_istore C dX8_randomWalk_134 (by decide) (lv' := [(6, .int (nI nxc)), (9, .int (nI nxc)), (0, .ref h8), (1, .long sd9), (3, .int (nI m)), (4, .long (rwx x)), (7, .int (nI i))]) rfl ?_
              refine j_goto C dX8_randomWalk_136 (tgt := 165) (by decide) ?_
              refine j_iinc C dX8_randomWalk_165 (q := 6) (v := (nI (i + 1))) rfl (kc_inc i) (by decide) (lv' := [(7, .int (nI (i + 1))), (6, .int (nI nxc)), (9, .int (nI nxc)), (0, .ref h8), (1, .long sd9), (3, .int (nI m)), (4, .long (rwx x))]) rfl ?_
              refine j_goto C dX8_randomWalk_168 (tgt := 56) (by decide) ?_
              refine j_lv [3, 4, 5, 6, 1, 0] rfl ?_
              refine ih56 _ _ _ (by omega) ?_ ?_ ?_ ?_
              · exact hnx
              · omega
              · omega
              · rw [row_br] at q129
                rw [← hres, hs1, ← hnx2, if_pos q129]
          rw [← ez]
          show jj X 0 0 84 [(8, .int (nI ((z / 8589934592) % 5))), (4, .long (rwx x)), (0, .ref h8), (1, .long sd9), (3, .int (nI m)), (6, .int (nI c)), (7, .int (nI i))] [] [(h8, cO 8 [.int (nI 0), .ref rv, .ref rn, .ref rnw, .ref rt, .ref rd, .int (nI na), .int (nI nx), .ref rk, .ref rik, .ref rdk, .ref rre, .ref rle, .ref rhe, .ref rth, .ref rpa, .ref ror, .int bv, .int bo]), (rv, cI (xT X) 450 cvec), (rn, cI (xT X) 600 (fun j => nI (near4 j))), (rnw, cI (xT X) 37 (rowF ac ap ash an aob arq))]
          refine j_iload C dX8_randomWalk_84 0 rfl ?_
          refine j_iconst C dX8_randomWalk_86 (v := (nI 4)) kc_i_4 ?_
          refine j_icmp_ge C dX8_randomWalk_87 (tgt := 105) (by decide) (fun q87 => ?_) (fun q87 => ?_)
          · skip
            have q87 := (kn_ge (a := (z / 8589934592) % 5) (b := 4) (by omega) (by omega)).mp q87
            refine j_iload C dX8_randomWalk_105 5 rfl ?_
            refine j_lv [2, 3, 4, 1, 5, 6] rfl ?_
            refine hc107 _ ?_ ?_
            · exact hc
            · unfold rwT rwR; rw [ez, wb_tn hz, if_neg (by omega)]
          · skip
            have q87 := (kn_nge (a := (z / 8589934592) % 5) (b := 4) (by omega) (by omega)).mp q87
            refine j_aload_n C dX8_randomWalk_90 2 rfl rfl ?_
            refine j_get C (hin8) (ci := 8) rfl 2 (by decide) (hl13) 0 rfl (v := .ref rn) rfl dX8_randomWalk_91 ?_
            refine j_iconst C dX8_randomWalk_94 (v := (nI 4)) kc_i_4 ?_
            refine j_iload C dX8_randomWalk_95 5 rfl ?_
            refine j_imul C dX8_randomWalk_97 (v := (nI (4 * c))) (pk_mul _ _) ?_
            refine j_iload C dX8_randomWalk_98 0 rfl ?_
            refine j_iadd C dX8_randomWalk_100 (v := (nI (4 * c + ((z / 8589934592) % 5)))) (nI_add _ _) ?_
            refine j_ialoadN C (4 * c + ((z / 8589934592) % 5)) rfl 2 rfl (by omega) (by decide) dX8_randomWalk_101 ?_
            refine j_goto C dX8_randomWalk_102 (tgt := 107) (by decide) ?_
            refine j_lv [2, 3, 4, 1, 5, 6] rfl ?_
            refine hc107 _ ?_ ?_
            · exact (tb_near c hc _ q87).1
            · unfold rwT rwR; rw [ez, wb_tn hz, if_pos q87]
    · skip
      refine j_iconst C dX8_randomWalk_28 (v := (nI 2)) kc_i_2 ?_
      refine j_goto C dX8_randomWalk_29 (tgt := 33) (by decide) ?_
      refine j_callVM C rw_ (nA := 1) (As := [.int (nI 2)]) (wr := [(rv, cI (xT X) 450 cvec), (rn, cI (xT X) 600 (fun j => nI (near4 j))), (rnw, cI (xT X) 37 (rowF ac ap ash an aob arq))]) (c_X8_refused_s (xl X) (xT X) h8 rv rn rnw rt rd rk rik rdk rre rle rhe rth rpa ror na nx rf bv bo 2 (by omega) (by omega)) gX8_randomWalk_X8_refused rfl (by decide +kernel) rfl (by decide) (by decide) [0] [1, 2, 3] rfl rfl rfl rfl (by decide) 0 rfl rfl (rest := []) rfl (Nat.le_of_ble_eq_true rfl) dX8_randomWalk_33 ?_
      rintro _ _ ⟨rfl, rfl⟩
      show jj X 0 0 36 [(0, .ref h8), (1, .long sd9), (3, .int (nI m))] [.int (bI true)] [(rv, cI (xT X) 450 cvec), (rn, cI (xT X) 600 (fun j => nI (near4 j))), (rnw, cI (xT X) 37 (rowF ac ap ash an aob arq)), (h8, cO 8 [.int (nI 2), .ref rv, .ref rn, .ref rnw, .ref rt, .ref rd, .int (nI na), .int (nI nx), .ref rk, .ref rik, .ref rdk, .ref rre, .ref rle, .ref rhe, .ref rth, .ref rpa, .ref ror, .int bv, .int bo])]
      refine j_if_eq C dX8_randomWalk_36 (tgt := 41) (by decide) (fun h9 => absurd h9 (by decide +kernel)) (fun _ => ?_)
      refine j_iconst C dX8_randomWalk_39 (v := (nI 0)) kc_i_0 ?_
      refine j_perm C (w' := [(h8, cO 8 [.int (nI 2), .ref rv, .ref rn, .ref rnw, .ref rt, .ref rd, .int (nI na), .int (nI nx), .ref rk, .ref rik, .ref rdk, .ref rre, .ref rle, .ref rhe, .ref rth, .ref rpa, .ref ror, .int bv, .int bo]), (rv, cI (xT X) 450 cvec), (rn, cI (xT X) 600 (fun j => nI (near4 j))), (rnw, cI (xT X) 37 (rowF ac ap ash an aob arq))]) [3, 0, 1, 2] rfl rfl ?_
      refine j_iretM C rw_ hQ (by decide) (by decide) rfl ?_ dX8_randomWalk_40
      exact ⟨2, _, rfl, Or.inl ⟨rfl, Or.inr (⟨rfl, q10, bI_eq1 q25⟩)⟩⟩
  · skip
    have q10 := (kb_nne).mp q10
    refine j_iconst C dX8_randomWalk_13 (v := (nI 1)) kc_i_1 ?_
    refine j_goto C dX8_randomWalk_14 (tgt := 33) (by decide) ?_
    refine j_callVM C rw_ (nA := 1) (As := [.int (nI 1)]) (wr := [(rv, cI (xT X) 450 cvec), (rn, cI (xT X) 600 (fun j => nI (near4 j))), (rnw, cI (xT X) 37 (rowF ac ap ash an aob arq))]) (c_X8_refused_s (xl X) (xT X) h8 rv rn rnw rt rd rk rik rdk rre rle rhe rth rpa ror na nx rf bv bo 1 (by omega) (by omega)) gX8_randomWalk_X8_refused rfl (by decide +kernel) rfl (by decide) (by decide) [0] [1, 2, 3] rfl rfl rfl rfl (by decide) 0 rfl rfl (rest := []) rfl (Nat.le_of_ble_eq_true rfl) dX8_randomWalk_33 ?_
    rintro _ _ ⟨rfl, rfl⟩
    show jj X 0 0 36 [(0, .ref h8), (1, .long sd9), (3, .int y)] [.int (bI true)] [(rv, cI (xT X) 450 cvec), (rn, cI (xT X) 600 (fun j => nI (near4 j))), (rnw, cI (xT X) 37 (rowF ac ap ash an aob arq)), (h8, cO 8 [.int (nI 1), .ref rv, .ref rn, .ref rnw, .ref rt, .ref rd, .int (nI na), .int (nI nx), .ref rk, .ref rik, .ref rdk, .ref rre, .ref rle, .ref rhe, .ref rth, .ref rpa, .ref ror, .int bv, .int bo])]
    refine j_if_eq C dX8_randomWalk_36 (tgt := 41) (by decide) (fun h9 => absurd h9 (by decide +kernel)) (fun _ => ?_)
    refine j_iconst C dX8_randomWalk_39 (v := (nI 0)) kc_i_0 ?_
    refine j_perm C (w' := [(h8, cO 8 [.int (nI 1), .ref rv, .ref rn, .ref rnw, .ref rt, .ref rd, .int (nI na), .int (nI nx), .ref rk, .ref rik, .ref rdk, .ref rre, .ref rle, .ref rhe, .ref rth, .ref rpa, .ref ror, .int bv, .int bo]), (rv, cI (xT X) 450 cvec), (rn, cI (xT X) 600 (fun j => nI (near4 j))), (rnw, cI (xT X) 37 (rowF ac ap ash an aob arq))]) [3, 0, 1, 2] rfl rfl ?_
    refine j_iretM C rw_ hQ (by decide) (by decide) rfl ?_ dX8_randomWalk_40
    exact ⟨1, _, rfl, Or.inl ⟨rfl, Or.inl ⟨rfl, q10⟩⟩⟩
