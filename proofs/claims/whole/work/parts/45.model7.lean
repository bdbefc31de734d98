/-! THE MODEL: what acts (2) -/
def drK (rq : Nat → Int32) (i m j : Nat) : Int32 := if 3 * i ≤ j ∧ j < m then rq (j + 3) else rq j
theorem drK_0 {rq : Nat → Int32} {i : Nat} : drK rq i (3 * i) = rq := funext fun j => if_neg (by omega)
theorem drK_s {rq : Nat → Int32} {i m : Nat} (h : 3 * i ≤ m) : upd (drK rq i m) m (rq (m + 3)) = drK rq i (m + 1) := by
  funext j; unfold upd drK
  by_cases e : j = m
  · rw [if_pos e, if_pos (by omega), e]
  · rw [if_neg e]
    by_cases h2 : 3 * i ≤ j ∧ j < m
    · rw [if_pos h2, if_pos (by omega)]
    · rw [if_neg h2, if_neg (by omega)]
theorem drK_v {rq : Nat → Int32} {i m : Nat} : drK rq i m (m + 3) = rq (m + 3) := if_neg (by omega)
theorem drK_e {rq : Nat → Int32} {i t : Nat} : drK rq i (3 * (t - 1)) = st_drop rq i t := rfl
theorem isr_z : ∀ an < 5, (nI an - nI 1).toInt64.toInt = (an : Int) - 1 := by decide +kernel
set_option maxHeartbeats 4000000 in
set_option maxRecDepth 100000 in
/-- pass -/
theorem c_X8_pass (l : Launch) (T : jj_T) (h8 rv rn rnw rt rd rk rik rdk rre rle rhe rth rpa ror na nx : Nat) (rf bv bo : Int32) (ac ap an : Nat) (ash : Bool) (aob arq : Nat → Int32) (D : Nat → Int32) (x : Int32)  (hna : na ≤ 14) (hnx : nx < 14) (hac : ac ≤ 200) : jM l T yX8_pass wsX8_pass { frames := 1, cells := 0, slots := 0, locals := 25 } [.ref h8, .int x] [(h8, cO 8 [.int rf, .ref rv, .ref rn, .ref rnw, .ref rt, .ref rd, .int (nI na), .int (nI nx), .ref rk, .ref rik, .ref rdk, .ref rre, .ref rle, .ref rhe, .ref rth, .ref rpa, .ref ror, .int bv, .int bo]), (rnw, cI T 37 (rowF ac ap ash an aob arq)), (rd, cI T 518 D)] (fun v w1 => ∃ (k8 : Nat) (r : Int32), v = some (.int r) ∧ ((w1 = [(h8, cO 8 [.int (nI k8), .ref rv, .ref rn, .ref rnw, .ref rt, .ref rd, .int (nI na), .int (nI nx), .ref rk, .ref rik, .ref rdk, .ref rre, .ref rle, .ref rhe, .ref rth, .ref rpa, .ref ror, .int bv, .int bo]), (rnw, cI T 37 (rowF ac ap ash an aob arq)), (rd, cI T 518 D)] ∧ ((k8 = 1 ∧ inR x 1 100 = false) ∨ (k8 = 2 ∧ inR x 1 100 = true ∧ ash = false) ∨ (k8 = 2 ∧ inR x 1 100 = true ∧ ash = true ∧ (∃ n : Nat, x = nI n ∧ n ≤ 100 ∧ 200 < ac + n)))) ∨ (k8 = 0 ∧ ∃ n : Nat, w1 = [(h8, cO 8 [.int (nI 0), .ref rv, .ref rn, .ref rnw, .ref rt, .ref rd, .int (nI (if na < 14 then na + 1 else 14)), .int (nI ((nx + 1) % 14)), .ref rk, .ref rik, .ref rdk, .ref rre, .ref rle, .ref rhe, .ref rth, .ref rpa, .ref ror, .int bv, .int bo]), (rnw, cI T 37 (rowF (ac + n) ap ash an aob arq)), (rd, cI T 518 (dgN D nx (rowF ac ap ash an aob arq)))] ∧ x = nI n ∧ 1 ≤ n ∧ n ≤ 100 ∧ ash = true ∧ ac + n ≤ 200 ∧ r = nI (ac + n)))) := by
  refine jM.of (cc := cX8_pass) (maxL := 2) (ret := (some .int)) (by decide) rfl (Nat.le_of_ble_eq_true rfl) ?_
  intro X C rw_ hl hT hQ hnm
  subst hl; subst hT
  have hin8 : ∀ w ∈ u_ws RX8 TX8 19, w ∈ wsX8_pass := by decide +kernel
  have hl16 : Cond.fieldLink RX8 16 (TX8 3).1 (TX8 3).2.1 (TX8 3).2.2.1 ∈ wsX8_pass := by decide +kernel
  show jj X 0 0 0 [(0, .ref h8), (1, .int x)] [] [(h8, cO 8 [.int rf, .ref rv, .ref rn, .ref rnw, .ref rt, .ref rd, .int (nI na), .int (nI nx), .ref rk, .ref rik, .ref rdk, .ref rre, .ref rle, .ref rhe, .ref rth, .ref rpa, .ref ror, .int bv, .int bo]), (rnw, cI (xT X) 37 (rowF ac ap ash an aob arq)), (rd, cI (xT X) 518 D)]
  refine j_aload_n C dX8_pass_0 0 rfl rfl ?_
  refine j_iload_n C dX8_pass_1 1 rfl rfl ?_
  refine j_i2l C dX8_pass_2 (v := x.toInt64) rfl ?_
  refine j_lconst C dX8_pass_3 (v := lN 1) rfl ?_
  refine j_ldc2l C dX8_pass_4 (v := lN 100) (by decide +kernel) ?_
  refine j_callSR C (nA := 3) (As := [.long x.toInt64, .long (lN 1), .long (lN 100)]) (c_X8_in (xl X) (xT X) x (lN 1) (lN 100) (1) (100) (by decide +kernel) (by decide +kernel)) gX8_pass_X8_in rfl (by decide +kernel) rfl ⟨rfl, rfl⟩ (by decide) (by decide) [] rfl rfl (rest := [.ref h8]) rfl (Nat.le_of_ble_eq_true rfl) dX8_pass_7 ?_
  rintro _ rfl
  show jj X 0 0 10 [(0, .ref h8), (1, .int x)] [.int (bI (inR x (1) (100))), .ref h8] [(h8, cO 8 [.int rf, .ref rv, .ref rn, .ref rnw, .ref rt, .ref rd, .int (nI na), .int (nI nx), .ref rk, .ref rik, .ref rdk, .ref rre, .ref rle, .ref rhe, .ref rth, .ref rpa, .ref ror, .int bv, .int bo]), (rnw, cI (xT X) 37 (rowF ac ap ash an aob arq)), (rd, cI (xT X) 518 D)]
  refine j_if_ne C dX8_pass_10 (tgt := 17) (by decide) (fun q10 => ?_) (fun q10 => ?_)
  · skip
    have q10 := (kb_ne).mp q10
    obtain ⟨n, rfl, ha_n, hb_n⟩ := inR_K (a := 1) (b := 100) q10
    refine j_aload_n C dX8_pass_17 0 rfl rfl ?_
    refine j_get C (hin8) (ci := 8) rfl 3 (by decide) (hl16) 0 rfl (v := .ref rnw) rfl dX8_pass_18 ?_
    refine j_bipush C dX8_pass_21 (v := (nI 23)) kc_b_23 ?_
    refine j_ialoadN C 23 rfl 1 rfl (by omega) (by decide) dX8_pass_23 ?_
    show jj X 0 0 24 [(0, .ref h8), (1, .int (nI n))] [.int (bI ash), .ref h8] [(h8, cO 8 [.int rf, .ref rv, .ref rn, .ref rnw, .ref rt, .ref rd, .int (nI na), .int (nI nx), .ref rk, .ref rik, .ref rdk, .ref rre, .ref rle, .ref rhe, .ref rth, .ref rpa, .ref ror, .int bv, .int bo]), (rnw, cI (xT X) 37 (rowF ac ap ash an aob arq)), (rd, cI (xT X) 518 D)]
    refine j_if_eq C dX8_pass_24 (tgt := 42) (by decide) (fun q24 => ?_) (fun q24 => ?_)
    · skip
      have q24 := (kb_eq).mp q24
      refine j_iconst C dX8_pass_42 (v := (nI 2)) kc_i_2 ?_
      refine j_goto C dX8_pass_43 (tgt := 47) (by decide) ?_
      refine j_callVM C rw_ (nA := 1) (As := [.int (nI 2)]) (wr := [(rnw, cI (xT X) 37 (rowF ac ap ash an aob arq)), (rd, cI (xT X) 518 D)]) (c_X8_refused_s (xl X) (xT X) h8 rv rn rnw rt rd rk rik rdk rre rle rhe rth rpa ror na nx rf bv bo 2 (by omega) (by omega)) gX8_pass_X8_refused rfl (by decide +kernel) rfl (by decide) (by decide) [0] [1, 2] rfl rfl rfl rfl (by decide) 0 rfl rfl (rest := []) rfl (Nat.le_of_ble_eq_true rfl) dX8_pass_47 ?_
      rintro _ _ ⟨rfl, rfl⟩
      show jj X 0 0 50 [(0, .ref h8), (1, .int (nI n))] [.int (bI true)] [(rnw, cI (xT X) 37 (rowF ac ap ash an aob arq)), (rd, cI (xT X) 518 D), (h8, cO 8 [.int (nI 2), .ref rv, .ref rn, .ref rnw, .ref rt, .ref rd, .int (nI na), .int (nI nx), .ref rk, .ref rik, .ref rdk, .ref rre, .ref rle, .ref rhe, .ref rth, .ref rpa, .ref ror, .int bv, .int bo])]
      refine j_if_eq C dX8_pass_50 (tgt := 55) (by decide) (fun h9 => absurd h9 (by decide +kernel)) (fun _ => ?_)
      refine j_iconst C dX8_pass_53 (v := (nI 0)) kc_i_0 ?_
      refine j_perm C (w' := [(h8, cO 8 [.int (nI 2), .ref rv, .ref rn, .ref rnw, .ref rt, .ref rd, .int (nI na), .int (nI nx), .ref rk, .ref rik, .ref rdk, .ref rre, .ref rle, .ref rhe, .ref rth, .ref rpa, .ref ror, .int bv, .int bo]), (rnw, cI (xT X) 37 (rowF ac ap ash an aob arq)), (rd, cI (xT X) 518 D)]) [2, 0, 1] rfl rfl ?_
      refine j_iretM C rw_ hQ (by decide) (by decide) rfl ?_ dX8_pass_54
      exact ⟨2, _, rfl, Or.inl ⟨rfl, Or.inr (Or.inl ⟨rfl, q10, q24⟩)⟩⟩
    · skip
      have q24 := (kb_neq).mp q24
      refine j_aload_n C dX8_pass_27 0 rfl rfl ?_
      refine j_get C (hin8) (ci := 8) rfl 3 (by decide) (hl16) 0 rfl (v := .ref rnw) rfl dX8_pass_28 ?_
      refine j_bipush C dX8_pass_31 (v := (nI 21)) kc_b_21 ?_
      refine j_ialoadN C 21 rfl 1 rfl (by omega) (by decide) dX8_pass_33 ?_
      show jj X 0 0 34 [(0, .ref h8), (1, .int (nI n))] [.int (nI ac), .ref h8] [(h8, cO 8 [.int rf, .ref rv, .ref rn, .ref rnw, .ref rt, .ref rd, .int (nI na), .int (nI nx), .ref rk, .ref rik, .ref rdk, .ref rre, .ref rle, .ref rhe, .ref rth, .ref rpa, .ref ror, .int bv, .int bo]), (rnw, cI (xT X) 37 (rowF ac ap ash an aob arq)), (rd, cI (xT X) 518 D)]
      refine j_iload_n C dX8_pass_34 1 rfl rfl ?_
      refine j_iadd C dX8_pass_35 (v := (nI (ac + n))) (nI_add _ _) ?_
      refine j_sipush C dX8_pass_36 (v := (nI 200)) kc_s_200 ?_
      refine j_icmp_le C dX8_pass_39 (tgt := 46) (by decide) (fun q39 => ?_) (fun q39 => ?_)
      · skip
        have q39 := (kn_le (a := ac + n) (b := 200) (by omega) (by omega)).mp q39
        refine j_iconst C dX8_pass_46 (v := (nI 0)) kc_i_0 ?_
        refine j_callVM C rw_ (nA := 1) (As := [.int (nI 0)]) (wr := [(rnw, cI (xT X) 37 (rowF ac ap ash an aob arq)), (rd, cI (xT X) 518 D)]) (c_X8_refused_0 (xl X) (xT X) h8 rv rn rnw rt rd rk rik rdk rre rle rhe rth rpa ror na nx rf bv bo ) gX8_pass_X8_refused rfl (by decide +kernel) rfl (by decide) (by decide) [0] [1, 2] rfl rfl rfl rfl (by decide) 0 rfl rfl (rest := []) rfl (Nat.le_of_ble_eq_true rfl) dX8_pass_47 ?_
        rintro _ _ ⟨rfl, rfl⟩
        show jj X 0 0 50 [(0, .ref h8), (1, .int (nI n))] [.int (bI false)] [(rnw, cI (xT X) 37 (rowF ac ap ash an aob arq)), (rd, cI (xT X) 518 D), (h8, cO 8 [.int (nI 0), .ref rv, .ref rn, .ref rnw, .ref rt, .ref rd, .int (nI na), .int (nI nx), .ref rk, .ref rik, .ref rdk, .ref rre, .ref rle, .ref rhe, .ref rth, .ref rpa, .ref ror, .int bv, .int bo])]
        refine j_if_eq C dX8_pass_50 (tgt := 55) (by decide) (fun _ => ?_) (fun h9 => absurd h9 (by decide +kernel))
        refine j_aload_n C dX8_pass_55 0 rfl rfl ?_
        refine j_callVM C rw_ (nA := 0) (As := []) (wr := []) (c_X8_note (xl X) (xT X) h8 rv rn rnw rt rd rk rik rdk rre rle rhe rth rpa ror na nx (nI 0) bv bo (rowF ac ap ash an aob arq) D (by exact hna) (by exact hnx)) gX8_pass_X8_note rfl (by decide +kernel) rfl (by decide) (by decide) [2, 0, 1] [] rfl rfl rfl rfl (by decide) 2 rfl rfl (rest := []) rfl (Nat.le_of_ble_eq_true rfl) dX8_pass_56 ?_
        rintro _ _ ⟨rfl, rfl⟩
        show jj X 0 0 59 [(0, .ref h8), (1, .int (nI n))] [] [(h8, cO 8 [.int (nI 0), .ref rv, .ref rn, .ref rnw, .ref rt, .ref rd, .int (nI (if na < 14 then na + 1 else 14)), .int (nI ((nx + 1) % 14)), .ref rk, .ref rik, .ref rdk, .ref rre, .ref rle, .ref rhe, .ref rth, .ref rpa, .ref ror, .int bv, .int bo]), (rnw, cI (xT X) 37 (rowF ac ap ash an aob arq)), (rd, cI (xT X) 518 (dgN D nx (rowF ac ap ash an aob arq)))]
        refine j_aload_n C dX8_pass_59 0 rfl rfl ?_
        refine j_get C (hin8) (ci := 8) rfl 3 (by decide) (hl16) 0 rfl (v := .ref rnw) rfl dX8_pass_60 ?_
        refine j_bipush C dX8_pass_63 (v := (nI 21)) kc_b_21 ?_
        refine j_dup2 C dX8_pass_65 rfl rfl ?_
        refine j_ialoadN C 21 rfl 1 rfl (by omega) (by decide) dX8_pass_66 ?_
        show jj X 0 0 67 [(0, .ref h8), (1, .int (nI n))] [.int (nI ac), .int (nI 21), .ref rnw] [(h8, cO 8 [.int (nI 0), .ref rv, .ref rn, .ref rnw, .ref rt, .ref rd, .int (nI (if na < 14 then na + 1 else 14)), .int (nI ((nx + 1) % 14)), .ref rk, .ref rik, .ref rdk, .ref rre, .ref rle, .ref rhe, .ref rth, .ref rpa, .ref ror, .int bv, .int bo]), (rnw, cI (xT X) 37 (rowF ac ap ash an aob arq)), (rd, cI (xT X) 518 (dgN D nx (rowF ac ap ash an aob arq)))]
        refine j_iload_n C dX8_pass_67 1 rfl rfl ?_
        refine j_iadd C dX8_pass_68 (v := (nI (ac + n))) (nI_add _ _) ?_
        refine j_iastoreN C rw_ 21 rfl 1 rfl (by omega) (by decide) (w' := [(h8, cO 8 [.int (nI 0), .ref rv, .ref rn, .ref rnw, .ref rt, .ref rd, .int (nI (if na < 14 then na + 1 else 14)), .int (nI ((nx + 1) % 14)), .ref rk, .ref rik, .ref rdk, .ref rre, .ref rle, .ref rhe, .ref rth, .ref rpa, .ref ror, .int bv, .int bo]), (rnw, cI (xT X) 37 (upd (rowF ac ap ash an aob arq) 21 (nI (ac + n)))), (rd, cI (xT X) 518 (dgN D nx (rowF ac ap ash an aob arq)))]) rfl dX8_pass_69 ?_
        rw [row_c]
        refine j_aload_n C dX8_pass_70 0 rfl rfl ?_
        refine j_get C (hin8) (ci := 8) rfl 3 (by decide) (hl16) 0 rfl (v := .ref rnw) rfl dX8_pass_71 ?_
        refine j_bipush C dX8_pass_74 (v := (nI 21)) kc_b_21 ?_
        refine j_ialoadN C 21 rfl 1 rfl (by omega) (by decide) dX8_pass_76 ?_
        show jj X 0 0 77 [(0, .ref h8), (1, .int (nI n))] [.int (nI (ac + n))] [(h8, cO 8 [.int (nI 0), .ref rv, .ref rn, .ref rnw, .ref rt, .ref rd, .int (nI (if na < 14 then na + 1 else 14)), .int (nI ((nx + 1) % 14)), .ref rk, .ref rik, .ref rdk, .ref rre, .ref rle, .ref rhe, .ref rth, .ref rpa, .ref ror, .int bv, .int bo]), (rnw, cI (xT X) 37 (rowF (ac + n) ap ash an aob arq)), (rd, cI (xT X) 518 (dgN D nx (rowF ac ap ash an aob arq)))]
        refine j_iretM C rw_ hQ (by decide) (by decide) rfl ?_ dX8_pass_77
        exact ⟨0, _, rfl, Or.inr ⟨rfl, n, rfl, rfl, ha_n, hb_n, q24, q39, rfl⟩⟩
      · skip
        have q39 := (kn_nle (a := ac + n) (b := 200) (by omega) (by omega)).mp q39
        refine j_iconst C dX8_pass_42 (v := (nI 2)) kc_i_2 ?_
        refine j_goto C dX8_pass_43 (tgt := 47) (by decide) ?_
        refine j_callVM C rw_ (nA := 1) (As := [.int (nI 2)]) (wr := [(rnw, cI (xT X) 37 (rowF ac ap ash an aob arq)), (rd, cI (xT X) 518 D)]) (c_X8_refused_s (xl X) (xT X) h8 rv rn rnw rt rd rk rik rdk rre rle rhe rth rpa ror na nx rf bv bo 2 (by omega) (by omega)) gX8_pass_X8_refused rfl (by decide +kernel) rfl (by decide) (by decide) [0] [1, 2] rfl rfl rfl rfl (by decide) 0 rfl rfl (rest := []) rfl (Nat.le_of_ble_eq_true rfl) dX8_pass_47 ?_
        rintro _ _ ⟨rfl, rfl⟩
        show jj X 0 0 50 [(0, .ref h8), (1, .int (nI n))] [.int (bI true)] [(rnw, cI (xT X) 37 (rowF ac ap ash an aob arq)), (rd, cI (xT X) 518 D), (h8, cO 8 [.int (nI 2), .ref rv, .ref rn, .ref rnw, .ref rt, .ref rd, .int (nI na), .int (nI nx), .ref rk, .ref rik, .ref rdk, .ref rre, .ref rle, .ref rhe, .ref rth, .ref rpa, .ref ror, .int bv, .int bo])]
        refine j_if_eq C dX8_pass_50 (tgt := 55) (by decide) (fun h9 => absurd h9 (by decide +kernel)) (fun _ => ?_)
        refine j_iconst C dX8_pass_53 (v := (nI 0)) kc_i_0 ?_
        refine j_perm C (w' := [(h8, cO 8 [.int (nI 2), .ref rv, .ref rn, .ref rnw, .ref rt, .ref rd, .int (nI na), .int (nI nx), .ref rk, .ref rik, .ref rdk, .ref rre, .ref rle, .ref rhe, .ref rth, .ref rpa, .ref ror, .int bv, .int bo]), (rnw, cI (xT X) 37 (rowF ac ap ash an aob arq)), (rd, cI (xT X) 518 D)]) [2, 0, 1] rfl rfl ?_
        refine j_iretM C rw_ hQ (by decide) (by decide) rfl ?_ dX8_pass_54
        exact ⟨2, _, rfl, Or.inl ⟨rfl, Or.inr (Or.inr (⟨rfl, q10, q24, n, rfl, hb_n, q39⟩))⟩⟩
  · skip
    have q10 := (kb_nne).mp q10
    refine j_iconst C dX8_pass_13 (v := (nI 1)) kc_i_1 ?_
    refine j_goto C dX8_pass_14 (tgt := 47) (by decide) ?_
    refine j_callVM C rw_ (nA := 1) (As := [.int (nI 1)]) (wr := [(rnw, cI (xT X) 37 (rowF ac ap ash an aob arq)), (rd, cI (xT X) 518 D)]) (c_X8_refused_s (xl X) (xT X) h8 rv rn rnw rt rd rk rik rdk rre rle rhe rth rpa ror na nx rf bv bo 1 (by omega) (by omega)) gX8_pass_X8_refused rfl (by decide +kernel) rfl (by decide) (by decide) [0] [1, 2] rfl rfl rfl rfl (by decide) 0 rfl rfl (rest := []) rfl (Nat.le_of_ble_eq_true rfl) dX8_pass_47 ?_
    rintro _ _ ⟨rfl, rfl⟩
    show jj X 0 0 50 [(0, .ref h8), (1, .int x)] [.int (bI true)] [(rnw, cI (xT X) 37 (rowF ac ap ash an aob arq)), (rd, cI (xT X) 518 D), (h8, cO 8 [.int (nI 1), .ref rv, .ref rn, .ref rnw, .ref rt, .ref rd, .int (nI na), .int (nI nx), .ref rk, .ref rik, .ref rdk, .ref rre, .ref rle, .ref rhe, .ref rth, .ref rpa, .ref ror, .int bv, .int bo])]
    refine j_if_eq C dX8_pass_50 (tgt := 55) (by decide) (fun h9 => absurd h9 (by decide +kernel)) (fun _ => ?_)
    refine j_iconst C dX8_pass_53 (v := (nI 0)) kc_i_0 ?_
    refine j_perm C (w' := [(h8, cO 8 [.int (nI 1), .ref rv, .ref rn, .ref rnw, .ref rt, .ref rd, .int (nI na), .int (nI nx), .ref rk, .ref rik, .ref rdk, .ref rre, .ref rle, .ref rhe, .ref rth, .ref rpa, .ref ror, .int bv, .int bo]), (rnw, cI (xT X) 37 (rowF ac ap ash an aob arq)), (rd, cI (xT X) 518 D)]) [2, 0, 1] rfl rfl ?_
    refine j_iretM C rw_ hQ (by decide) (by decide) rfl ?_ dX8_pass_54
    exact ⟨1, _, rfl, Or.inl ⟨rfl, Or.inl ⟨rfl, q10⟩⟩⟩

set_option maxHeartbeats 4000000 in
set_option maxRecDepth 100000 in
/-- isRequest(i) -/
theorem c_X8_isRequest (l : Launch) (T : jj_T) (h8 rv rn rnw rt rd rk rik rdk rre rle rhe rth rpa ror na nx : Nat) (rf bv bo : Int32) (ac ap an : Nat) (ash : Bool) (aob arq : Nat → Int32) (x : Int32) (han : an ≤ 4) : jR l T yX8_isRequest wsX8_isRequest { frames := 1, cells := 0, slots := 0, locals := 25 } [.ref h8, .int x] [(h8, cO 8 [.int rf, .ref rv, .ref rn, .ref rnw, .ref rt, .ref rd, .int (nI na), .int (nI nx), .ref rk, .ref rik, .ref rdk, .ref rre, .ref rle, .ref rhe, .ref rth, .ref rpa, .ref ror, .int bv, .int bo]), (rnw, cI T 37 (rowF ac ap ash an aob arq))] (fun v => v = some (.int (bI (inR x 0 ((an : Int) - 1))))) := by
  refine jR.of (cc := cX8_isRequest) (maxL := 2) (ret := (some .boolean)) (by decide) rfl (Nat.le_of_ble_eq_true rfl) ?_
  intro X C ro hl hT hQ
  subst hl; subst hT
  have hin8 : ∀ w ∈ u_ws RX8 TX8 19, w ∈ wsX8_isRequest := by decide +kernel
  have hl16 : Cond.fieldLink RX8 16 (TX8 3).1 (TX8 3).2.1 (TX8 3).2.2.1 ∈ wsX8_isRequest := by decide +kernel
  show jj X 0 0 0 [(0, .ref h8), (1, .int x)] [] [(h8, cO 8 [.int rf, .ref rv, .ref rn, .ref rnw, .ref rt, .ref rd, .int (nI na), .int (nI nx), .ref rk, .ref rik, .ref rdk, .ref rre, .ref rle, .ref rhe, .ref rth, .ref rpa, .ref ror, .int bv, .int bo]), (rnw, cI (xT X) 37 (rowF ac ap ash an aob arq))]
  refine j_iload_n C dX8_isRequest_0 1 rfl rfl ?_
  refine j_i2l C dX8_isRequest_1 (v := x.toInt64) rfl ?_
  refine j_lconst C dX8_isRequest_2 (v := lN 0) rfl ?_
  refine j_aload_n C dX8_isRequest_3 0 rfl rfl ?_
  refine j_get C (hin8) (ci := 8) rfl 3 (by decide) (hl16) 0 rfl (v := .ref rnw) rfl dX8_isRequest_4 ?_
  refine j_bipush C dX8_isRequest_7 (v := (nI 24)) kc_b_24 ?_
  refine j_ialoadN C 24 rfl 1 rfl (by omega) (by decide) dX8_isRequest_9 ?_
  show jj X 0 0 10 [(0, .ref h8), (1, .int x)] [.int (nI an), .long (lN 0), .long x.toInt64] [(h8, cO 8 [.int rf, .ref rv, .ref rn, .ref rnw, .ref rt, .ref rd, .int (nI na), .int (nI nx), .ref rk, .ref rik, .ref rdk, .ref rre, .ref rle, .ref rhe, .ref rth, .ref rpa, .ref ror, .int bv, .int bo]), (rnw, cI (xT X) 37 (rowF ac ap ash an aob arq))]
  refine j_iconst C dX8_isRequest_10 (v := (nI 1)) kc_i_1 ?_
  refine j_isub C dX8_isRequest_11 (v := (nI an - nI 1)) rfl ?_
  refine j_i2l C dX8_isRequest_12 (v := ((nI an - nI 1).toInt64)) rfl ?_
  refine j_callSR C (nA := 3) (As := [.long x.toInt64, .long (lN 0), .long ((nI an - nI 1).toInt64)]) (c_X8_in (xl X) (xT X) x (lN 0) ((nI an - nI 1).toInt64) (0) ((an : Int) - 1) (by decide +kernel) (by exact isr_z an (by omega))) gX8_isRequest_X8_in rfl (by decide +kernel) rfl ⟨rfl, rfl⟩ (by decide) (by decide) [] rfl rfl (rest := []) rfl (Nat.le_of_ble_eq_true rfl) dX8_isRequest_13 ?_
  rintro _ rfl
  show jj X 0 0 16 [(0, .ref h8), (1, .int x)] [.int (bI (inR x (0) ((an : Int) - 1)))] [(h8, cO 8 [.int rf, .ref rv, .ref rn, .ref rnw, .ref rt, .ref rd, .int (nI na), .int (nI nx), .ref rk, .ref rik, .ref rdk, .ref rre, .ref rle, .ref rhe, .ref rth, .ref rpa, .ref ror, .int bv, .int bo]), (rnw, cI (xT X) 37 (rowF ac ap ash an aob arq))]
  refine j_iretR C ro hQ (bI_nar _) ?_ dX8_isRequest_16
  rfl

set_option maxHeartbeats 4000000 in
set_option maxRecDepth 100000 in
/-- removeRequest -/
theorem c_X8_removeRequest (l : Launch) (T : jj_T) (h8 rv rn rnw rt rd rk rik rdk rre rle rhe rth rpa ror na nx : Nat) (rf bv bo : Int32) (ac ap an : Nat) (ash : Bool) (aob arq : Nat → Int32) (D : Nat → Int32) (x : Int32)  (hna : na ≤ 14) (hnx : nx < 14) (han : an ≤ 4) : jM l T yX8_removeRequest wsX8_removeRequest { frames := 2, cells := 0, slots := 0, locals := 46 } [.ref h8, .int x] [(h8, cO 8 [.int rf, .ref rv, .ref rn, .ref rnw, .ref rt, .ref rd, .int (nI na), .int (nI nx), .ref rk, .ref rik, .ref rdk, .ref rre, .ref rle, .ref rhe, .ref rth, .ref rpa, .ref ror, .int bv, .int bo]), (rnw, cI T 37 (rowF ac ap ash an aob arq)), (rd, cI T 518 D)] (fun v w1 => ∃ (k8 : Nat) (r : Int32), v = some (.int r) ∧ ((w1 = [(h8, cO 8 [.int (nI k8), .ref rv, .ref rn, .ref rnw, .ref rt, .ref rd, .int (nI na), .int (nI nx), .ref rk, .ref rik, .ref rdk, .ref rre, .ref rle, .ref rhe, .ref rth, .ref rpa, .ref ror, .int bv, .int bo]), (rnw, cI T 37 (rowF ac ap ash an aob arq)), (rd, cI T 518 D)] ∧ ((k8 = 1 ∧ inR x 0 ((an : Int) - 1) = false))) ∨ (k8 = 0 ∧ ∃ i : Nat, w1 = [(h8, cO 8 [.int (nI 0), .ref rv, .ref rn, .ref rnw, .ref rt, .ref rd, .int (nI (if na < 14 then na + 1 else 14)), .int (nI ((nx + 1) % 14)), .ref rk, .ref rik, .ref rdk, .ref rre, .ref rle, .ref rhe, .ref rth, .ref rpa, .ref ror, .int bv, .int bo]), (rnw, cI T 37 (rowF ac ap ash (an - 1) aob (st_drop arq i an))), (rd, cI T 518 (dgN D nx (rowF ac ap ash an aob arq)))] ∧ x = nI i ∧ i < an ∧ r = nI (an - 1)))) := by
  refine jM.of (cc := cX8_removeRequest) (maxL := 3) (ret := (some .int)) (by decide) rfl (Nat.le_of_ble_eq_true rfl) ?_
  intro X C rw_ hl hT hQ hnm
  subst hl; subst hT
  have hin8 : ∀ w ∈ u_ws RX8 TX8 19, w ∈ wsX8_removeRequest := by decide +kernel
  have hl16 : Cond.fieldLink RX8 16 (TX8 3).1 (TX8 3).2.1 (TX8 3).2.2.1 ∈ wsX8_removeRequest := by decide +kernel
  show jj X 0 0 0 [(0, .ref h8), (1, .int x)] [] [(h8, cO 8 [.int rf, .ref rv, .ref rn, .ref rnw, .ref rt, .ref rd, .int (nI na), .int (nI nx), .ref rk, .ref rik, .ref rdk, .ref rre, .ref rle, .ref rhe, .ref rth, .ref rpa, .ref ror, .int bv, .int bo]), (rnw, cI (xT X) 37 (rowF ac ap ash an aob arq)), (rd, cI (xT X) 518 D)]
  refine j_aload_n C dX8_removeRequest_0 0 rfl rfl ?_
  refine j_aload_n C dX8_removeRequest_1 0 rfl rfl ?_
  refine j_iload_n C dX8_removeRequest_2 1 rfl rfl ?_
  refine j_callVR C (nA := 1) (As := [.int x]) (c_X8_isRequest (xl X) (xT X) h8 rv rn rnw rt rd rk rik rdk rre rle rhe rth rpa ror na nx rf bv bo ac ap an ash aob arq x (by omega)) gX8_removeRequest_X8_isRequest rfl (by decide +kernel) rfl ⟨rfl, rfl⟩ (by decide) (by decide) [0, 1] rfl rfl 0 rfl rfl (rest := [.ref h8]) rfl (Nat.le_of_ble_eq_true rfl) dX8_removeRequest_3 ?_
  rintro _ rfl
  show jj X 0 0 6 [(0, .ref h8), (1, .int x)] [.int (bI (inR x 0 ((an : Int) - 1))), .ref h8] [(h8, cO 8 [.int rf, .ref rv, .ref rn, .ref rnw, .ref rt, .ref rd, .int (nI na), .int (nI nx), .ref rk, .ref rik, .ref rdk, .ref rre, .ref rle, .ref rhe, .ref rth, .ref rpa, .ref ror, .int bv, .int bo]), (rnw, cI (xT X) 37 (rowF ac ap ash an aob arq)), (rd, cI (xT X) 518 D)]
  refine j_if_eq C dX8_removeRequest_6 (tgt := 13) (by decide) (fun q6 => ?_) (fun q6 => ?_)
  · skip
    have q6 := (kb_eq).mp q6
    refine j_iconst C dX8_removeRequest_13 (v := (nI 1)) kc_i_1 ?_
    refine j_callVM C rw_ (nA := 1) (As := [.int (nI 1)]) (wr := [(rnw, cI (xT X) 37 (rowF ac ap ash an aob arq)), (rd, cI (xT X) 518 D)]) (c_X8_refused_s (xl X) (xT X) h8 rv rn rnw rt rd rk rik rdk rre rle rhe rth rpa ror na nx rf bv bo 1 (by omega) (by omega)) gX8_removeRequest_X8_refused rfl (by decide +kernel) rfl (by decide) (by decide) [0] [1, 2] rfl rfl rfl rfl (by decide) 0 rfl rfl (rest := []) rfl (Nat.le_of_ble_eq_true rfl) dX8_removeRequest_14 ?_
    rintro _ _ ⟨rfl, rfl⟩
    show jj X 0 0 17 [(0, .ref h8), (1, .int x)] [.int (bI true)] [(rnw, cI (xT X) 37 (rowF ac ap ash an aob arq)), (rd, cI (xT X) 518 D), (h8, cO 8 [.int (nI 1), .ref rv, .ref rn, .ref rnw, .ref rt, .ref rd, .int (nI na), .int (nI nx), .ref rk, .ref rik, .ref rdk, .ref rre, .ref rle, .ref rhe, .ref rth, .ref rpa, .ref ror, .int bv, .int bo])]
    refine j_if_eq C dX8_removeRequest_17 (tgt := 22) (by decide) (fun h9 => absurd h9 (by decide +kernel)) (fun _ => ?_)
    refine j_iconst C dX8_removeRequest_20 (v := (nI 0)) kc_i_0 ?_
    refine j_perm C (w' := [(h8, cO 8 [.int (nI 1), .ref rv, .ref rn, .ref rnw, .ref rt, .ref rd, .int (nI na), .int (nI nx), .ref rk, .ref rik, .ref rdk, .ref rre, .ref rle, .ref rhe, .ref rth, .ref rpa, .ref ror, .int bv, .int bo]), (rnw, cI (xT X) 37 (rowF ac ap ash an aob arq)), (rd, cI (xT X) 518 D)]) [2, 0, 1] rfl rfl ?_
    refine j_iretM C rw_ hQ (by decide) (by decide) rfl ?_ dX8_removeRequest_21
    exact ⟨1, _, rfl, Or.inl ⟨rfl, ⟨rfl, q6⟩⟩⟩
  · skip
    have q6 := (kb_neq).mp q6
    refine j_iconst C dX8_removeRequest_9 (v := (nI 0)) kc_i_0 ?_
    refine j_goto C dX8_removeRequest_10 (tgt := 14) (by decide) ?_
    refine j_callVM C rw_ (nA := 1) (As := [.int (nI 0)]) (wr := [(rnw, cI (xT X) 37 (rowF ac ap ash an aob arq)), (rd, cI (xT X) 518 D)]) (c_X8_refused_0 (xl X) (xT X) h8 rv rn rnw rt rd rk rik rdk rre rle rhe rth rpa ror na nx rf bv bo ) gX8_removeRequest_X8_refused rfl (by decide +kernel) rfl (by decide) (by decide) [0] [1, 2] rfl rfl rfl rfl (by decide) 0 rfl rfl (rest := []) rfl (Nat.le_of_ble_eq_true rfl) dX8_removeRequest_14 ?_
    rintro _ _ ⟨rfl, rfl⟩
    show jj X 0 0 17 [(0, .ref h8), (1, .int x)] [.int (bI false)] [(rnw, cI (xT X) 37 (rowF ac ap ash an aob arq)), (rd, cI (xT X) 518 D), (h8, cO 8 [.int (nI 0), .ref rv, .ref rn, .ref rnw, .ref rt, .ref rd, .int (nI na), .int (nI nx), .ref rk, .ref rik, .ref rdk, .ref rre, .ref rle, .ref rhe, .ref rth, .ref rpa, .ref ror, .int bv, .int bo])]
    refine j_if_eq C dX8_removeRequest_17 (tgt := 22) (by decide) (fun _ => ?_) (fun h9 => absurd h9 (by decide +kernel))
    obtain ⟨i, rfl, hb_i⟩ := inR_M q6
    refine j_aload_n C dX8_removeRequest_22 0 rfl rfl ?_
    refine j_callVM C rw_ (nA := 0) (As := []) (wr := []) (c_X8_note (xl X) (xT X) h8 rv rn rnw rt rd rk rik rdk rre rle rhe rth rpa ror na nx (nI 0) bv bo (rowF ac ap ash an aob arq) D (by exact hna) (by exact hnx)) gX8_removeRequest_X8_note rfl (by decide +kernel) rfl (by decide) (by decide) [2, 0, 1] [] rfl rfl rfl rfl (by decide) 2 rfl rfl (rest := []) rfl (Nat.le_of_ble_eq_true rfl) dX8_removeRequest_23 ?_
    rintro _ _ ⟨rfl, rfl⟩
    show jj X 0 0 26 [(0, .ref h8), (1, .int (nI i))] [] [(h8, cO 8 [.int (nI 0), .ref rv, .ref rn, .ref rnw, .ref rt, .ref rd, .int (nI (if na < 14 then na + 1 else 14)), .int (nI ((nx + 1) % 14)), .ref rk, .ref rik, .ref rdk, .ref rre, .ref rle, .ref rhe, .ref rth, .ref rpa, .ref ror, .int bv, .int bo]), (rnw, cI (xT X) 37 (rowF ac ap ash an aob arq)), (rd, cI (xT X) 518 (dgN D nx (rowF ac ap ash an aob arq)))]
    refine j_aload_n C dX8_removeRequest_26 0 rfl rfl ?_
    refine j_get C (hin8) (ci := 8) rfl 3 (by decide) (hl16) 0 rfl (v := .ref rnw) rfl dX8_removeRequest_27 ?_
    refine j_bipush C dX8_removeRequest_30 (v := (nI 24)) kc_b_24 ?_
    refine j_dup2 C dX8_removeRequest_32 rfl rfl ?_
    refine j_ialoadN C 24 rfl 1 rfl (by omega) (by decide) dX8_removeRequest_33 ?_
    show jj X 0 0 34 [(0, .ref h8), (1, .int (nI i))] [.int (nI an), .int (nI 24), .ref rnw] [(h8, cO 8 [.int (nI 0), .ref rv, .ref rn, .ref rnw, .ref rt, .ref rd, .int (nI (if na < 14 then na + 1 else 14)), .int (nI ((nx + 1) % 14)), .ref rk, .ref rik, .ref rdk, .ref rre, .ref rle, .ref rhe, .ref rth, .ref rpa, .ref ror, .int bv, .int bo]), (rnw, cI (xT X) 37 (rowF ac ap ash an aob arq)), (rd, cI (xT X) 518 (dgN D nx (rowF ac ap ash an aob arq)))]
    refine j_iconst C dX8_removeRequest_34 (v := (nI 1)) kc_i_1 ?_
    refine j_isub C dX8_removeRequest_35 (v := (nI (an - 1))) (pk_sub (by omega)) ?_
    refine j_iastoreN C rw_ 24 rfl 1 rfl (by omega) (by decide) (w' := [(h8, cO 8 [.int (nI 0), .ref rv, .ref rn, .ref rnw, .ref rt, .ref rd, .int (nI (if na < 14 then na + 1 else 14)), .int (nI ((nx + 1) % 14)), .ref rk, .ref rik, .ref rdk, .ref rre, .ref rle, .ref rhe, .ref rth, .ref rpa, .ref ror, .int bv, .int bo]), (rnw, cI (xT X) 37 (upd (rowF ac ap ash an aob arq) 24 (nI (an - 1)))), (rd, cI (xT X) 518 (dgN D nx (rowF ac ap ash an aob arq)))]) rfl dX8_removeRequest_36 ?_
    rw [row_n]
    refine j_bipush C dX8_removeRequest_37 (v := (nI 25)) kc_b_25 ?_
    refine j_iconst C dX8_removeRequest_39 (v := (nI 3)) kc_i_3 ?_
    refine j_iload_n C dX8_removeRequest_40 1 rfl rfl ?_
    refine j_imul C dX8_removeRequest_41 (v := (nI (3 * i))) (pk_mul _ _) ?_
    refine j_iadd C dX8_removeRequest_42 (v := (nI (25 + 3 * i))) (nI_add _ _) ?_
    rw [show rowF ac ap ash (an - 1) aob arq = rowF ac ap ash (an - 1) aob (drK arq i (3 * i)) from by rw [drK_0]]
    show jj X 0 0 43 [(0, .ref h8), (1, .int (nI i))] [.int (nI (25 + 3 * i))] [(h8, cO 8 [.int (nI 0), .ref rv, .ref rn, .ref rnw, .ref rt, .ref rd, .int (nI (if na < 14 then na + 1 else 14)), .int (nI ((nx + 1) % 14)), .ref rk, .ref rik, .ref rdk, .ref rre, .ref rle, .ref rhe, .ref rth, .ref rpa, .ref ror, .int bv, .int bo]), (rnw, cI (xT X) 37 (rowF ac ap ash (an - 1) aob (drK arq i (3 * i)))), (rd, cI (xT X) 518 (dgN D nx (rowF ac ap ash an aob arq)))]
    refine j_istore_n C dX8_removeRequest_43 rfl (by decide) (lv' := [(2, .int (nI (25 + 3 * i))), (0, .ref h8), (1, .int (nI i))]) rfl ?_
    refine j_lv [1, 2, 0] rfl ?_
    suffices hc44 : ∀ (mm : Nat) (m : Nat), 3 * (an - 1) - m < mm → (3 * i ≤ m) → (m ≤ 3 * (an - 1)) → jj X 0 0 44 [(0, .ref h8), (1, .int (nI i)), (2, .int (nI (25 + m)))] [] [(h8, cO 8 [.int (nI 0), .ref rv, .ref rn, .ref rnw, .ref rt, .ref rd, .int (nI (if na < 14 then na + 1 else 14)), .int (nI ((nx + 1) % 14)), .ref rk, .ref rik, .ref rdk, .ref rre, .ref rle, .ref rhe, .ref rth, .ref rpa, .ref ror, .int bv, .int bo]), (rnw, cI (xT X) 37 (rowF ac ap ash (an - 1) aob (drK arq i (m)))), (rd, cI (xT X) 518 (dgN D nx (rowF ac ap ash an aob arq)))] by
      refine hc44 _ (3 * i) (Nat.lt_succ_self _) ?_ ?_
      · omega
      · omega
    intro mm
    induction mm with
    | zero => intro m hm; exact absurd hm (Nat.not_lt_zero _)
    | succ mm ih44 =>
      intro m hm44 hm3 hm4
      refine j_iload_n C dX8_removeRequest_44 2 rfl rfl ?_
      refine j_bipush C dX8_removeRequest_45 (v := (nI 25)) kc_b_25 ?_
      refine j_iconst C dX8_removeRequest_47 (v := (nI 3)) kc_i_3 ?_
      refine j_aload_n C dX8_removeRequest_48 0 rfl rfl ?_
      refine j_get C (hin8) (ci := 8) rfl 3 (by decide) (hl16) 0 rfl (v := .ref rnw) rfl dX8_removeRequest_49 ?_
      refine j_bipush C dX8_removeRequest_52 (v := (nI 24)) kc_b_24 ?_
      refine j_ialoadN C 24 rfl 1 rfl (by omega) (by decide) dX8_removeRequest_54 ?_
      show jj X 0 0 55 [(0, .ref h8), (1, .int (nI i)), (2, .int (nI (25 + m)))] [.int (nI (an - 1)), .int (nI 3), .int (nI 25), .int (nI (25 + m))] [(h8, cO 8 [.int (nI 0), .ref rv, .ref rn, .ref rnw, .ref rt, .ref rd, .int (nI (if na < 14 then na + 1 else 14)), .int (nI ((nx + 1) % 14)), .ref rk, .ref rik, .ref rdk, .ref rre, .ref rle, .ref rhe, .ref rth, .ref rpa, .ref ror, .int bv, .int bo]), (rnw, cI (xT X) 37 (rowF ac ap ash (an - 1) aob (drK arq i (m)))), (rd, cI (xT X) 518 (dgN D nx (rowF ac ap ash an aob arq)))]
      refine j_imul C dX8_removeRequest_55 (v := (nI (3 * (an - 1)))) (pk_mul _ _) ?_
      refine j_iadd C dX8_removeRequest_56 (v := (nI (25 + (3 * (an - 1))))) (nI_add _ _) ?_
      refine j_icmp_ge C dX8_removeRequest_57 (tgt := 80) (by decide) (fun q57 => ?_) (fun q57 => ?_)
      · skip
        have q57 := (kn_ge (a := 25 + m) (b := 25 + (3 * (an - 1))) (by omega) (by omega)).mp q57
        rw [show drK arq i m = st_drop arq i an from by rw [show m = 3 * (an - 1) by omega, drK_e]]
        show jj X 0 0 80 [(0, .ref h8), (1, .int (nI i)), (2, .int (nI (25 + m)))] [] [(h8, cO 8 [.int (nI 0), .ref rv, .ref rn, .ref rnw, .ref rt, .ref rd, .int (nI (if na < 14 then na + 1 else 14)), .int (nI ((nx + 1) % 14)), .ref rk, .ref rik, .ref rdk, .ref rre, .ref rle, .ref rhe, .ref rth, .ref rpa, .ref ror, .int bv, .int bo]), (rnw, cI (xT X) 37 (rowF ac ap ash (an - 1) aob (st_drop arq i an))), (rd, cI (xT X) 518 (dgN D nx (rowF ac ap ash an aob arq)))]
        refine j_aload_n C dX8_removeRequest_80 0 rfl rfl ?_
        refine j_get C (hin8) (ci := 8) rfl 3 (by decide) (hl16) 0 rfl (v := .ref rnw) rfl dX8_removeRequest_81 ?_
        refine j_bipush C dX8_removeRequest_84 (v := (nI 24)) kc_b_24 ?_
        refine j_ialoadN C 24 rfl 1 rfl (by omega) (by decide) dX8_removeRequest_86 ?_
        show jj X 0 0 87 [(0, .ref h8), (1, .int (nI i)), (2, .int (nI (25 + m)))] [.int (nI (an - 1))] [(h8, cO 8 [.int (nI 0), .ref rv, .ref rn, .ref rnw, .ref rt, .ref rd, .int (nI (if na < 14 then na + 1 else 14)), .int (nI ((nx + 1) % 14)), .ref rk, .ref rik, .ref rdk, .ref rre, .ref rle, .ref rhe, .ref rth, .ref rpa, .ref ror, .int bv, .int bo]), (rnw, cI (xT X) 37 (rowF ac ap ash (an - 1) aob (st_drop arq i an))), (rd, cI (xT X) 518 (dgN D nx (rowF ac ap ash an aob arq)))]
        refine j_iretM C rw_ hQ (by decide) (by decide) rfl ?_ dX8_removeRequest_87
        exact ⟨0, _, rfl, Or.inr ⟨rfl, i, rfl, rfl, hb_i, rfl⟩⟩
      · skip
        have q57 := (kn_nge (a := 25 + m) (b := 25 + (3 * (an - 1))) (by omega) (by omega)).mp q57
        refine j_aload_n C dX8_removeRequest_60 0 rfl rfl ?_
        refine j_get C (hin8) (ci := 8) rfl 3 (by decide) (hl16) 0 rfl (v := .ref rnw) rfl dX8_removeRequest_61 ?_
        refine j_iload_n C dX8_removeRequest_64 2 rfl rfl ?_
        refine j_aload_n C dX8_removeRequest_65 0 rfl rfl ?_
        refine j_get C (hin8) (ci := 8) rfl 3 (by decide) (hl16) 0 rfl (v := .ref rnw) rfl dX8_removeRequest_66 ?_
        refine j_iload_n C dX8_removeRequest_69 2 rfl rfl ?_
        refine j_iconst C dX8_removeRequest_70 (v := (nI 3)) kc_i_3 ?_
        refine j_iadd C dX8_removeRequest_71 (v := (nI (25 + m + 3))) (nI_add _ _) ?_
        refine j_ialoadN C (25 + m + 3) rfl 1 rfl (by omega) (by decide) dX8_removeRequest_72 ?_
        refine j_ieq (arq (m + 3)) (by show rowF ac ap ash (an - 1) aob (drK arq i m) (25 + m + 3) = _; rw [show 25 + m + 3 = 25 + (m + 3) by omega, row_rq, drK_v]) ?_
        refine j_iastoreN C rw_ (25 + m) rfl 1 rfl (by omega) (by decide) (w' := [(h8, cO 8 [.int (nI 0), .ref rv, .ref rn, .ref rnw, .ref rt, .ref rd, .int (nI (if na < 14 then na + 1 else 14)), .int (nI ((nx + 1) % 14)), .ref rk, .ref rik, .ref rdk, .ref rre, .ref rle, .ref rhe, .ref rth, .ref rpa, .ref ror, .int bv, .int bo]), (rnw, cI (xT X) 37 (upd (rowF ac ap ash (an - 1) aob (drK arq i (m))) (25 + m) (arq (m + 3)))), (rd, cI (xT X) 518 (dgN D nx (rowF ac ap ash an aob arq)))]) rfl dX8_removeRequest_73 ?_
        rw [row_r, drK_s hm3]
        refine j_iinc C dX8_removeRequest_74 (q := 2) (v := (nI (25 + m + 1))) rfl (kc_inc (25 + m)) (by decide) (lv' := [(2, .int (nI (25 + m + 1))), (0, .ref h8), (1, .int (nI i))]) rfl ?_
        refine j_goto C dX8_removeRequest_77 (tgt := 44) (by decide) ?_
        refine j_lv [1, 2, 0] rfl ?_
        refine ih44 (m + 1) (by omega) ?_ ?_
        · omega
        · omega
