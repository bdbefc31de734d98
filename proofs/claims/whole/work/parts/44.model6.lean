/-! THE MODEL: what acts -/
set_option maxHeartbeats 4000000 in
set_option maxRecDepth 100000 in
/-- close -/
theorem c_X8_close (l : Launch) (T : jj_T) (h8 rv rn rnw rt rd rk rik rdk rre rle rhe rth rpa ror na nx : Nat) (rf bv bo : Int32) (ac ap an : Nat) (ash : Bool) (aob arq : Nat → Int32) (D : Nat → Int32)  (hna : na ≤ 14) (hnx : nx < 14) : jM l T yX8_close wsX8_close { frames := 1, cells := 0, slots := 0, locals := 21 } [.ref h8] [(h8, cO 8 [.int rf, .ref rv, .ref rn, .ref rnw, .ref rt, .ref rd, .int (nI na), .int (nI nx), .ref rk, .ref rik, .ref rdk, .ref rre, .ref rle, .ref rhe, .ref rth, .ref rpa, .ref ror, .int bv, .int bo]), (rnw, cI T 37 (rowF ac ap ash an aob arq)), (rd, cI T 518 D)] (fun v w1 => ∃ (k8 : Nat) (r : Int32), v = some (.int r) ∧ ((w1 = [(h8, cO 8 [.int (nI k8), .ref rv, .ref rn, .ref rnw, .ref rt, .ref rd, .int (nI na), .int (nI nx), .ref rk, .ref rik, .ref rdk, .ref rre, .ref rle, .ref rhe, .ref rth, .ref rpa, .ref ror, .int bv, .int bo]), (rnw, cI T 37 (rowF ac ap ash an aob arq)), (rd, cI T 518 D)] ∧ ((k8 = 1 ∧ ash = true))) ∨ (k8 = 0 ∧ w1 = [(h8, cO 8 [.int (nI 0), .ref rv, .ref rn, .ref rnw, .ref rt, .ref rd, .int (nI (if na < 14 then na + 1 else 14)), .int (nI ((nx + 1) % 14)), .ref rk, .ref rik, .ref rdk, .ref rre, .ref rle, .ref rhe, .ref rth, .ref rpa, .ref ror, .int bv, .int bo]), (rnw, cI T 37 (rowF ac ap true an aob arq)), (rd, cI T 518 (dgN D nx (rowF ac ap ash an aob arq)))] ∧ ash = false ∧ r = nI ac))) := by
  refine jM.of (cc := cX8_close) (maxL := 1) (ret := (some .int)) (by decide) rfl (Nat.le_of_ble_eq_true rfl) ?_
  intro X C rw_ hl hT hQ hnm
  subst hl; subst hT
  have hin8 : ∀ w ∈ u_ws RX8 TX8 19, w ∈ wsX8_close := by decide +kernel
  have hl16 : Cond.fieldLink RX8 16 (TX8 3).1 (TX8 3).2.1 (TX8 3).2.2.1 ∈ wsX8_close := by decide +kernel
  show jj X 0 0 0 [(0, .ref h8)] [] [(h8, cO 8 [.int rf, .ref rv, .ref rn, .ref rnw, .ref rt, .ref rd, .int (nI na), .int (nI nx), .ref rk, .ref rik, .ref rdk, .ref rre, .ref rle, .ref rhe, .ref rth, .ref rpa, .ref ror, .int bv, .int bo]), (rnw, cI (xT X) 37 (rowF ac ap ash an aob arq)), (rd, cI (xT X) 518 D)]
  refine j_aload_n C dX8_close_0 0 rfl rfl ?_
  refine j_aload_n C dX8_close_1 0 rfl rfl ?_
  refine j_get C (hin8) (ci := 8) rfl 3 (by decide) (hl16) 0 rfl (v := .ref rnw) rfl dX8_close_2 ?_
  refine j_bipush C dX8_close_5 (v := (nI 23)) kc_b_23 ?_
  refine j_ialoadN C 23 rfl 1 rfl (by omega) (by decide) dX8_close_7 ?_
  show jj X 0 0 8 [(0, .ref h8)] [.int (bI ash), .ref h8] [(h8, cO 8 [.int rf, .ref rv, .ref rn, .ref rnw, .ref rt, .ref rd, .int (nI na), .int (nI nx), .ref rk, .ref rik, .ref rdk, .ref rre, .ref rle, .ref rhe, .ref rth, .ref rpa, .ref ror, .int bv, .int bo]), (rnw, cI (xT X) 37 (rowF ac ap ash an aob arq)), (rd, cI (xT X) 518 D)]
  refine j_iconst C dX8_close_8 (v := (nI 1)) kc_i_1 ?_
  refine j_icmp_ne C dX8_close_9 (tgt := 16) (by decide) (fun q9 => ?_) (fun q9 => ?_)
  · skip
    refine j_iconst C dX8_close_16 (v := (nI 0)) kc_i_0 ?_
    refine j_callVM C rw_ (nA := 1) (As := [.int (nI 0)]) (wr := [(rnw, cI (xT X) 37 (rowF ac ap ash an aob arq)), (rd, cI (xT X) 518 D)]) (c_X8_refused_0 (xl X) (xT X) h8 rv rn rnw rt rd rk rik rdk rre rle rhe rth rpa ror na nx rf bv bo ) gX8_close_X8_refused rfl (by decide +kernel) rfl (by decide) (by decide) [0] [1, 2] rfl rfl rfl rfl (by decide) 0 rfl rfl (rest := []) rfl (Nat.le_of_ble_eq_true rfl) dX8_close_17 ?_
    rintro _ _ ⟨rfl, rfl⟩
    show jj X 0 0 20 [(0, .ref h8)] [.int (bI false)] [(rnw, cI (xT X) 37 (rowF ac ap ash an aob arq)), (rd, cI (xT X) 518 D), (h8, cO 8 [.int (nI 0), .ref rv, .ref rn, .ref rnw, .ref rt, .ref rd, .int (nI na), .int (nI nx), .ref rk, .ref rik, .ref rdk, .ref rre, .ref rle, .ref rhe, .ref rth, .ref rpa, .ref ror, .int bv, .int bo])]
    refine j_if_eq C dX8_close_20 (tgt := 25) (by decide) (fun _ => ?_) (fun h9 => absurd h9 (by decide +kernel))
    refine j_aload_n C dX8_close_25 0 rfl rfl ?_
    refine j_callVM C rw_ (nA := 0) (As := []) (wr := []) (c_X8_note (xl X) (xT X) h8 rv rn rnw rt rd rk rik rdk rre rle rhe rth rpa ror na nx (nI 0) bv bo (rowF ac ap ash an aob arq) D (by exact hna) (by exact hnx)) gX8_close_X8_note rfl (by decide +kernel) rfl (by decide) (by decide) [2, 0, 1] [] rfl rfl rfl rfl (by decide) 2 rfl rfl (rest := []) rfl (Nat.le_of_ble_eq_true rfl) dX8_close_26 ?_
    rintro _ _ ⟨rfl, rfl⟩
    show jj X 0 0 29 [(0, .ref h8)] [] [(h8, cO 8 [.int (nI 0), .ref rv, .ref rn, .ref rnw, .ref rt, .ref rd, .int (nI (if na < 14 then na + 1 else 14)), .int (nI ((nx + 1) % 14)), .ref rk, .ref rik, .ref rdk, .ref rre, .ref rle, .ref rhe, .ref rth, .ref rpa, .ref ror, .int bv, .int bo]), (rnw, cI (xT X) 37 (rowF ac ap ash an aob arq)), (rd, cI (xT X) 518 (dgN D nx (rowF ac ap ash an aob arq)))]
    refine j_aload_n C dX8_close_29 0 rfl rfl ?_
    refine j_get C (hin8) (ci := 8) rfl 3 (by decide) (hl16) 0 rfl (v := .ref rnw) rfl dX8_close_30 ?_
    refine j_bipush C dX8_close_33 (v := (nI 23)) kc_b_23 ?_
    refine j_iconst C dX8_close_35 (v := (nI 1)) kc_i_1 ?_
    show jj X 0 0 36 [(0, .ref h8)] [.int (bI true), .int (nI 23), .ref rnw] [(h8, cO 8 [.int (nI 0), .ref rv, .ref rn, .ref rnw, .ref rt, .ref rd, .int (nI (if na < 14 then na + 1 else 14)), .int (nI ((nx + 1) % 14)), .ref rk, .ref rik, .ref rdk, .ref rre, .ref rle, .ref rhe, .ref rth, .ref rpa, .ref ror, .int bv, .int bo]), (rnw, cI (xT X) 37 (rowF ac ap ash an aob arq)), (rd, cI (xT X) 518 (dgN D nx (rowF ac ap ash an aob arq)))]
    refine j_iastoreN C rw_ 23 rfl 1 rfl (by omega) (by decide) (w' := [(h8, cO 8 [.int (nI 0), .ref rv, .ref rn, .ref rnw, .ref rt, .ref rd, .int (nI (if na < 14 then na + 1 else 14)), .int (nI ((nx + 1) % 14)), .ref rk, .ref rik, .ref rdk, .ref rre, .ref rle, .ref rhe, .ref rth, .ref rpa, .ref ror, .int bv, .int bo]), (rnw, cI (xT X) 37 (upd (rowF ac ap ash an aob arq) 23 (bI true))), (rd, cI (xT X) 518 (dgN D nx (rowF ac ap ash an aob arq)))]) rfl dX8_close_36 ?_
    rw [row_s]
    refine j_aload_n C dX8_close_37 0 rfl rfl ?_
    refine j_get C (hin8) (ci := 8) rfl 3 (by decide) (hl16) 0 rfl (v := .ref rnw) rfl dX8_close_38 ?_
    refine j_bipush C dX8_close_41 (v := (nI 21)) kc_b_21 ?_
    refine j_ialoadN C 21 rfl 1 rfl (by omega) (by decide) dX8_close_43 ?_
    show jj X 0 0 44 [(0, .ref h8)] [.int (nI ac)] [(h8, cO 8 [.int (nI 0), .ref rv, .ref rn, .ref rnw, .ref rt, .ref rd, .int (nI (if na < 14 then na + 1 else 14)), .int (nI ((nx + 1) % 14)), .ref rk, .ref rik, .ref rdk, .ref rre, .ref rle, .ref rhe, .ref rth, .ref rpa, .ref ror, .int bv, .int bo]), (rnw, cI (xT X) 37 (rowF ac ap true an aob arq)), (rd, cI (xT X) 518 (dgN D nx (rowF ac ap ash an aob arq)))]
    refine j_iretM C rw_ hQ (by decide) (by decide) rfl ?_ dX8_close_44
    exact ⟨0, _, rfl, Or.inr ⟨rfl, rfl, bI_ne1 q9, rfl⟩⟩
  · skip
    refine j_iconst C dX8_close_12 (v := (nI 1)) kc_i_1 ?_
    refine j_goto C dX8_close_13 (tgt := 17) (by decide) ?_
    refine j_callVM C rw_ (nA := 1) (As := [.int (nI 1)]) (wr := [(rnw, cI (xT X) 37 (rowF ac ap ash an aob arq)), (rd, cI (xT X) 518 D)]) (c_X8_refused_s (xl X) (xT X) h8 rv rn rnw rt rd rk rik rdk rre rle rhe rth rpa ror na nx rf bv bo 1 (by omega) (by omega)) gX8_close_X8_refused rfl (by decide +kernel) rfl (by decide) (by decide) [0] [1, 2] rfl rfl rfl rfl (by decide) 0 rfl rfl (rest := []) rfl (Nat.le_of_ble_eq_true rfl) dX8_close_17 ?_
    rintro _ _ ⟨rfl, rfl⟩
    show jj X 0 0 20 [(0, .ref h8)] [.int (bI true)] [(rnw, cI (xT X) 37 (rowF ac ap ash an aob arq)), (rd, cI (xT X) 518 D), (h8, cO 8 [.int (nI 1), .ref rv, .ref rn, .ref rnw, .ref rt, .ref rd, .int (nI na), .int (nI nx), .ref rk, .ref rik, .ref rdk, .ref rre, .ref rle, .ref rhe, .ref rth, .ref rpa, .ref ror, .int bv, .int bo])]
    refine j_if_eq C dX8_close_20 (tgt := 25) (by decide) (fun h9 => absurd h9 (by decide +kernel)) (fun _ => ?_)
    refine j_iconst C dX8_close_23 (v := (nI 0)) kc_i_0 ?_
    refine j_perm C (w' := [(h8, cO 8 [.int (nI 1), .ref rv, .ref rn, .ref rnw, .ref rt, .ref rd, .int (nI na), .int (nI nx), .ref rk, .ref rik, .ref rdk, .ref rre, .ref rle, .ref rhe, .ref rth, .ref rpa, .ref ror, .int bv, .int bo]), (rnw, cI (xT X) 37 (rowF ac ap ash an aob arq)), (rd, cI (xT X) 518 D)]) [2, 0, 1] rfl rfl ?_
    refine j_iretM C rw_ hQ (by decide) (by decide) rfl ?_ dX8_close_24
    exact ⟨1, _, rfl, Or.inl ⟨rfl, ⟨rfl, bI_eq1 q9⟩⟩⟩

set_option maxHeartbeats 4000000 in
set_option maxRecDepth 100000 in
/-- open -/
theorem c_X8_open (l : Launch) (T : jj_T) (h8 rv rn rnw rt rd rk rik rdk rre rle rhe rth rpa ror na nx : Nat) (rf bv bo : Int32) (ac ap an : Nat) (ash : Bool) (aob arq : Nat → Int32) (D : Nat → Int32)  (hna : na ≤ 14) (hnx : nx < 14) (hap : ap < 150) (hco : coI aob) : jM l T yX8_open wsX8_open { frames := 3, cells := 0, slots := 0, locals := 78 } [.ref h8] [(h8, cO 8 [.int rf, .ref rv, .ref rn, .ref rnw, .ref rt, .ref rd, .int (nI na), .int (nI nx), .ref rk, .ref rik, .ref rdk, .ref rre, .ref rle, .ref rhe, .ref rth, .ref rpa, .ref ror, .int bv, .int bo]), (rv, cI T 450 cvec), (rnw, cI T 37 (rowF ac ap ash an aob arq)), (rd, cI T 518 D)] (fun v w1 => ∃ (k8 : Nat) (r : Int32), v = some (.int r) ∧ ((w1 = [(h8, cO 8 [.int (nI k8), .ref rv, .ref rn, .ref rnw, .ref rt, .ref rd, .int (nI na), .int (nI nx), .ref rk, .ref rik, .ref rdk, .ref rre, .ref rle, .ref rhe, .ref rth, .ref rpa, .ref ror, .int bv, .int bo]), (rv, cI T 450 cvec), (rnw, cI T 37 (rowF ac ap ash an aob arq)), (rd, cI T 518 D)] ∧ ((k8 = 1 ∧ ash = false) ∨ (k8 = 1 ∧ ash = true ∧ br aob ap ac = true))) ∨ (k8 = 0 ∧ w1 = [(h8, cO 8 [.int (nI 0), .ref rv, .ref rn, .ref rnw, .ref rt, .ref rd, .int (nI (if na < 14 then na + 1 else 14)), .int (nI ((nx + 1) % 14)), .ref rk, .ref rik, .ref rdk, .ref rre, .ref rle, .ref rhe, .ref rth, .ref rpa, .ref ror, .int bv, .int bo]), (rv, cI T 450 cvec), (rnw, cI T 37 (rowF ac ap false an aob arq)), (rd, cI T 518 (dgN D nx (rowF ac ap ash an aob arq)))] ∧ ash = true ∧ br aob ap ac = false ∧ r = nI ac))) := by
  refine jM.of (cc := cX8_open) (maxL := 1) (ret := (some .int)) (by decide) rfl (Nat.le_of_ble_eq_true rfl) ?_
  intro X C rw_ hl hT hQ hnm
  subst hl; subst hT
  have hin8 : ∀ w ∈ u_ws RX8 TX8 19, w ∈ wsX8_open := by decide +kernel
  have hl16 : Cond.fieldLink RX8 16 (TX8 3).1 (TX8 3).2.1 (TX8 3).2.2.1 ∈ wsX8_open := by decide +kernel
  show jj X 0 0 0 [(0, .ref h8)] [] [(h8, cO 8 [.int rf, .ref rv, .ref rn, .ref rnw, .ref rt, .ref rd, .int (nI na), .int (nI nx), .ref rk, .ref rik, .ref rdk, .ref rre, .ref rle, .ref rhe, .ref rth, .ref rpa, .ref ror, .int bv, .int bo]), (rv, cI (xT X) 450 cvec), (rnw, cI (xT X) 37 (rowF ac ap ash an aob arq)), (rd, cI (xT X) 518 D)]
  refine j_aload_n C dX8_open_0 0 rfl rfl ?_
  refine j_aload_n C dX8_open_1 0 rfl rfl ?_
  refine j_get C (hin8) (ci := 8) rfl 3 (by decide) (hl16) 0 rfl (v := .ref rnw) rfl dX8_open_2 ?_
  refine j_bipush C dX8_open_5 (v := (nI 23)) kc_b_23 ?_
  refine j_ialoadN C 23 rfl 2 rfl (by omega) (by decide) dX8_open_7 ?_
  show jj X 0 0 8 [(0, .ref h8)] [.int (bI ash), .ref h8] [(h8, cO 8 [.int rf, .ref rv, .ref rn, .ref rnw, .ref rt, .ref rd, .int (nI na), .int (nI nx), .ref rk, .ref rik, .ref rdk, .ref rre, .ref rle, .ref rhe, .ref rth, .ref rpa, .ref ror, .int bv, .int bo]), (rv, cI (xT X) 450 cvec), (rnw, cI (xT X) 37 (rowF ac ap ash an aob arq)), (rd, cI (xT X) 518 D)]
  refine j_if_eq C dX8_open_8 (tgt := 36) (by decide) (fun q8 => ?_) (fun q8 => ?_)
  · skip
    have q8 := (kb_eq).mp q8
    refine j_iconst C dX8_open_36 (v := (nI 1)) kc_i_1 ?_
    refine j_goto C dX8_open_37 (tgt := 41) (by decide) ?_
    refine j_callVM C rw_ (nA := 1) (As := [.int (nI 1)]) (wr := [(rv, cI (xT X) 450 cvec), (rnw, cI (xT X) 37 (rowF ac ap ash an aob arq)), (rd, cI (xT X) 518 D)]) (c_X8_refused_s (xl X) (xT X) h8 rv rn rnw rt rd rk rik rdk rre rle rhe rth rpa ror na nx rf bv bo 1 (by omega) (by omega)) gX8_open_X8_refused rfl (by decide +kernel) rfl (by decide) (by decide) [0] [1, 2, 3] rfl rfl rfl rfl (by decide) 0 rfl rfl (rest := []) rfl (Nat.le_of_ble_eq_true rfl) dX8_open_41 ?_
    rintro _ _ ⟨rfl, rfl⟩
    show jj X 0 0 44 [(0, .ref h8)] [.int (bI true)] [(rv, cI (xT X) 450 cvec), (rnw, cI (xT X) 37 (rowF ac ap ash an aob arq)), (rd, cI (xT X) 518 D), (h8, cO 8 [.int (nI 1), .ref rv, .ref rn, .ref rnw, .ref rt, .ref rd, .int (nI na), .int (nI nx), .ref rk, .ref rik, .ref rdk, .ref rre, .ref rle, .ref rhe, .ref rth, .ref rpa, .ref ror, .int bv, .int bo])]
    refine j_if_eq C dX8_open_44 (tgt := 49) (by decide) (fun h9 => absurd h9 (by decide +kernel)) (fun _ => ?_)
    refine j_iconst C dX8_open_47 (v := (nI 0)) kc_i_0 ?_
    refine j_perm C (w' := [(h8, cO 8 [.int (nI 1), .ref rv, .ref rn, .ref rnw, .ref rt, .ref rd, .int (nI na), .int (nI nx), .ref rk, .ref rik, .ref rdk, .ref rre, .ref rle, .ref rhe, .ref rth, .ref rpa, .ref ror, .int bv, .int bo]), (rv, cI (xT X) 450 cvec), (rnw, cI (xT X) 37 (rowF ac ap ash an aob arq)), (rd, cI (xT X) 518 D)]) [3, 0, 1, 2] rfl rfl ?_
    refine j_iretM C rw_ hQ (by decide) (by decide) rfl ?_ dX8_open_48
    exact ⟨1, _, rfl, Or.inl ⟨rfl, Or.inl ⟨rfl, q8⟩⟩⟩
  · skip
    have q8 := (kb_neq).mp q8
    refine j_aload_n C dX8_open_11 0 rfl rfl ?_
    refine j_aload_n C dX8_open_12 0 rfl rfl ?_
    refine j_get C (hin8) (ci := 8) rfl 3 (by decide) (hl16) 0 rfl (v := .ref rnw) rfl dX8_open_13 ?_
    refine j_aload_n C dX8_open_16 0 rfl rfl ?_
    refine j_get C (hin8) (ci := 8) rfl 3 (by decide) (hl16) 0 rfl (v := .ref rnw) rfl dX8_open_17 ?_
    refine j_bipush C dX8_open_20 (v := (nI 22)) kc_b_22 ?_
    refine j_ialoadN C 22 rfl 2 rfl (by omega) (by decide) dX8_open_22 ?_
    show jj X 0 0 23 [(0, .ref h8)] [.int (nI ap), .ref rnw, .ref h8, .ref h8] [(h8, cO 8 [.int rf, .ref rv, .ref rn, .ref rnw, .ref rt, .ref rd, .int (nI na), .int (nI nx), .ref rk, .ref rik, .ref rdk, .ref rre, .ref rle, .ref rhe, .ref rth, .ref rpa, .ref ror, .int bv, .int bo]), (rv, cI (xT X) 450 cvec), (rnw, cI (xT X) 37 (rowF ac ap ash an aob arq)), (rd, cI (xT X) 518 D)]
    refine j_aload_n C dX8_open_23 0 rfl rfl ?_
    refine j_get C (hin8) (ci := 8) rfl 3 (by decide) (hl16) 0 rfl (v := .ref rnw) rfl dX8_open_24 ?_
    refine j_bipush C dX8_open_27 (v := (nI 21)) kc_b_21 ?_
    refine j_ialoadN C 21 rfl 2 rfl (by omega) (by decide) dX8_open_29 ?_
    show jj X 0 0 30 [(0, .ref h8)] [.int (nI ac), .int (nI ap), .ref rnw, .ref h8, .ref h8] [(h8, cO 8 [.int rf, .ref rv, .ref rn, .ref rnw, .ref rt, .ref rd, .int (nI na), .int (nI nx), .ref rk, .ref rik, .ref rdk, .ref rre, .ref rle, .ref rhe, .ref rth, .ref rpa, .ref ror, .int bv, .int bo]), (rv, cI (xT X) 450 cvec), (rnw, cI (xT X) 37 (rowF ac ap ash an aob arq)), (rd, cI (xT X) 518 D)]
    refine j_callVR C (nA := 3) (As := [.ref rnw, .int (nI ap), .int (nI ac)]) (c_X8_isBrightIn (xl X) (xT X) h8 rv rn rnw rt rd rk rik rdk rre rle rhe rth rpa ror na nx rf bv bo rnw ap ac (rowF ac ap ash an aob arq) (by omega) (by exact row_co hco)) gX8_open_X8_isBrightIn rfl (by decide +kernel) rfl ⟨rfl, rfl⟩ (by decide) (by decide) [0, 1, 2] rfl rfl 0 rfl rfl (rest := [.ref h8]) rfl (Nat.le_of_ble_eq_true rfl) dX8_open_30 ?_
    rintro _ rfl
    show jj X 0 0 33 [(0, .ref h8)] [.int (bI (br (rowF ac ap ash an aob arq) ap ac)), .ref h8] [(h8, cO 8 [.int rf, .ref rv, .ref rn, .ref rnw, .ref rt, .ref rd, .int (nI na), .int (nI nx), .ref rk, .ref rik, .ref rdk, .ref rre, .ref rle, .ref rhe, .ref rth, .ref rpa, .ref ror, .int bv, .int bo]), (rv, cI (xT X) 450 cvec), (rnw, cI (xT X) 37 (rowF ac ap ash an aob arq)), (rd, cI (xT X) 518 D)]
    refine j_if_eq C dX8_open_33 (tgt := 40) (by decide) (fun q33 => ?_) (fun q33 => ?_)
    · skip
      have q33 := (kb_eq).mp q33
      refine j_iconst C dX8_open_40 (v := (nI 0)) kc_i_0 ?_
      refine j_callVM C rw_ (nA := 1) (As := [.int (nI 0)]) (wr := [(rv, cI (xT X) 450 cvec), (rnw, cI (xT X) 37 (rowF ac ap ash an aob arq)), (rd, cI (xT X) 518 D)]) (c_X8_refused_0 (xl X) (xT X) h8 rv rn rnw rt rd rk rik rdk rre rle rhe rth rpa ror na nx rf bv bo ) gX8_open_X8_refused rfl (by decide +kernel) rfl (by decide) (by decide) [0] [1, 2, 3] rfl rfl rfl rfl (by decide) 0 rfl rfl (rest := []) rfl (Nat.le_of_ble_eq_true rfl) dX8_open_41 ?_
      rintro _ _ ⟨rfl, rfl⟩
      show jj X 0 0 44 [(0, .ref h8)] [.int (bI false)] [(rv, cI (xT X) 450 cvec), (rnw, cI (xT X) 37 (rowF ac ap ash an aob arq)), (rd, cI (xT X) 518 D), (h8, cO 8 [.int (nI 0), .ref rv, .ref rn, .ref rnw, .ref rt, .ref rd, .int (nI na), .int (nI nx), .ref rk, .ref rik, .ref rdk, .ref rre, .ref rle, .ref rhe, .ref rth, .ref rpa, .ref ror, .int bv, .int bo])]
      refine j_if_eq C dX8_open_44 (tgt := 49) (by decide) (fun _ => ?_) (fun h9 => absurd h9 (by decide +kernel))
      refine j_aload_n C dX8_open_49 0 rfl rfl ?_
      refine j_callVM C rw_ (nA := 0) (As := []) (wr := [(rv, cI (xT X) 450 cvec)]) (c_X8_note (xl X) (xT X) h8 rv rn rnw rt rd rk rik rdk rre rle rhe rth rpa ror na nx (nI 0) bv bo (rowF ac ap ash an aob arq) D (by exact hna) (by exact hnx)) gX8_open_X8_note rfl (by decide +kernel) rfl (by decide) (by decide) [3, 1, 2] [0] rfl rfl rfl rfl (by decide) 3 rfl rfl (rest := []) rfl (Nat.le_of_ble_eq_true rfl) dX8_open_50 ?_
      rintro _ _ ⟨rfl, rfl⟩
      show jj X 0 0 53 [(0, .ref h8)] [] [(rv, cI (xT X) 450 cvec), (h8, cO 8 [.int (nI 0), .ref rv, .ref rn, .ref rnw, .ref rt, .ref rd, .int (nI (if na < 14 then na + 1 else 14)), .int (nI ((nx + 1) % 14)), .ref rk, .ref rik, .ref rdk, .ref rre, .ref rle, .ref rhe, .ref rth, .ref rpa, .ref ror, .int bv, .int bo]), (rnw, cI (xT X) 37 (rowF ac ap ash an aob arq)), (rd, cI (xT X) 518 (dgN D nx (rowF ac ap ash an aob arq)))]
      refine j_aload_n C dX8_open_53 0 rfl rfl ?_
      refine j_get C (hin8) (ci := 8) rfl 3 (by decide) (hl16) 1 rfl (v := .ref rnw) rfl dX8_open_54 ?_
      refine j_bipush C dX8_open_57 (v := (nI 23)) kc_b_23 ?_
      refine j_iconst C dX8_open_59 (v := (nI 0)) kc_i_0 ?_
      show jj X 0 0 60 [(0, .ref h8)] [.int (bI false), .int (nI 23), .ref rnw] [(rv, cI (xT X) 450 cvec), (h8, cO 8 [.int (nI 0), .ref rv, .ref rn, .ref rnw, .ref rt, .ref rd, .int (nI (if na < 14 then na + 1 else 14)), .int (nI ((nx + 1) % 14)), .ref rk, .ref rik, .ref rdk, .ref rre, .ref rle, .ref rhe, .ref rth, .ref rpa, .ref ror, .int bv, .int bo]), (rnw, cI (xT X) 37 (rowF ac ap ash an aob arq)), (rd, cI (xT X) 518 (dgN D nx (rowF ac ap ash an aob arq)))]
      refine j_iastoreN C rw_ 23 rfl 2 rfl (by omega) (by decide) (w' := [(rv, cI (xT X) 450 cvec), (h8, cO 8 [.int (nI 0), .ref rv, .ref rn, .ref rnw, .ref rt, .ref rd, .int (nI (if na < 14 then na + 1 else 14)), .int (nI ((nx + 1) % 14)), .ref rk, .ref rik, .ref rdk, .ref rre, .ref rle, .ref rhe, .ref rth, .ref rpa, .ref ror, .int bv, .int bo]), (rnw, cI (xT X) 37 (upd (rowF ac ap ash an aob arq) 23 (bI false))), (rd, cI (xT X) 518 (dgN D nx (rowF ac ap ash an aob arq)))]) rfl dX8_open_60 ?_
      rw [row_s]
      refine j_aload_n C dX8_open_61 0 rfl rfl ?_
      refine j_get C (hin8) (ci := 8) rfl 3 (by decide) (hl16) 1 rfl (v := .ref rnw) rfl dX8_open_62 ?_
      refine j_bipush C dX8_open_65 (v := (nI 21)) kc_b_21 ?_
      refine j_ialoadN C 21 rfl 2 rfl (by omega) (by decide) dX8_open_67 ?_
      show jj X 0 0 68 [(0, .ref h8)] [.int (nI ac)] [(rv, cI (xT X) 450 cvec), (h8, cO 8 [.int (nI 0), .ref rv, .ref rn, .ref rnw, .ref rt, .ref rd, .int (nI (if na < 14 then na + 1 else 14)), .int (nI ((nx + 1) % 14)), .ref rk, .ref rik, .ref rdk, .ref rre, .ref rle, .ref rhe, .ref rth, .ref rpa, .ref ror, .int bv, .int bo]), (rnw, cI (xT X) 37 (rowF ac ap false an aob arq)), (rd, cI (xT X) 518 (dgN D nx (rowF ac ap ash an aob arq)))]
      refine j_perm C (w' := [(h8, cO 8 [.int (nI 0), .ref rv, .ref rn, .ref rnw, .ref rt, .ref rd, .int (nI (if na < 14 then na + 1 else 14)), .int (nI ((nx + 1) % 14)), .ref rk, .ref rik, .ref rdk, .ref rre, .ref rle, .ref rhe, .ref rth, .ref rpa, .ref ror, .int bv, .int bo]), (rv, cI (xT X) 450 cvec), (rnw, cI (xT X) 37 (rowF ac ap false an aob arq)), (rd, cI (xT X) 518 (dgN D nx (rowF ac ap ash an aob arq)))]) [1, 0, 2, 3] rfl rfl ?_
      refine j_iretM C rw_ hQ (by decide) (by decide) rfl ?_ dX8_open_68
      exact ⟨0, _, rfl, Or.inr ⟨rfl, rfl, q8, by rw [row_br] at q33; exact q33, rfl⟩⟩
    · skip
      have q33 := (kb_neq).mp q33
      refine j_iconst C dX8_open_36 (v := (nI 1)) kc_i_1 ?_
      refine j_goto C dX8_open_37 (tgt := 41) (by decide) ?_
      refine j_callVM C rw_ (nA := 1) (As := [.int (nI 1)]) (wr := [(rv, cI (xT X) 450 cvec), (rnw, cI (xT X) 37 (rowF ac ap ash an aob arq)), (rd, cI (xT X) 518 D)]) (c_X8_refused_s (xl X) (xT X) h8 rv rn rnw rt rd rk rik rdk rre rle rhe rth rpa ror na nx rf bv bo 1 (by omega) (by omega)) gX8_open_X8_refused rfl (by decide +kernel) rfl (by decide) (by decide) [0] [1, 2, 3] rfl rfl rfl rfl (by decide) 0 rfl rfl (rest := []) rfl (Nat.le_of_ble_eq_true rfl) dX8_open_41 ?_
      rintro _ _ ⟨rfl, rfl⟩
      show jj X 0 0 44 [(0, .ref h8)] [.int (bI true)] [(rv, cI (xT X) 450 cvec), (rnw, cI (xT X) 37 (rowF ac ap ash an aob arq)), (rd, cI (xT X) 518 D), (h8, cO 8 [.int (nI 1), .ref rv, .ref rn, .ref rnw, .ref rt, .ref rd, .int (nI na), .int (nI nx), .ref rk, .ref rik, .ref rdk, .ref rre, .ref rle, .ref rhe, .ref rth, .ref rpa, .ref ror, .int bv, .int bo])]
      refine j_if_eq C dX8_open_44 (tgt := 49) (by decide) (fun h9 => absurd h9 (by decide +kernel)) (fun _ => ?_)
      refine j_iconst C dX8_open_47 (v := (nI 0)) kc_i_0 ?_
      refine j_perm C (w' := [(h8, cO 8 [.int (nI 1), .ref rv, .ref rn, .ref rnw, .ref rt, .ref rd, .int (nI na), .int (nI nx), .ref rk, .ref rik, .ref rdk, .ref rre, .ref rle, .ref rhe, .ref rth, .ref rpa, .ref ror, .int bv, .int bo]), (rv, cI (xT X) 450 cvec), (rnw, cI (xT X) 37 (rowF ac ap ash an aob arq)), (rd, cI (xT X) 518 D)]) [3, 0, 1, 2] rfl rfl ?_
      refine j_iretM C rw_ hQ (by decide) (by decide) rfl ?_ dX8_open_48
      exact ⟨1, _, rfl, Or.inl ⟨rfl, Or.inr (⟨rfl, q8, by rw [row_br] at q33; exact q33⟩)⟩⟩
