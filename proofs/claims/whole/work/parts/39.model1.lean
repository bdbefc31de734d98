/-! THE MODEL: cells and brightness -/
/-- the numbers of a state, in a row -/
def rowF (c p : Nat) (s : Bool) (n : Nat) (ob rq : Nat → Int32) (j : Nat) : Int32 := if j < 21 then ob j else if j = 21 then nI c else if j = 22 then nI p else if j = 23 then bI s else if j = 24 then nI n else rq (j - 25)
theorem i2l_toInt (x : Int32) : x.toInt64.toInt = x.toInt := Int32.toInt_toInt64 x
theorem in_lem {x : Int32} {a b : Int} {y z : Int64} (hy : y.toInt = a) (hz : z.toInt = b) : inR x a b = true ↔ ¬ x.toInt64 < y ∧ ¬ z < x.toInt64 := by
  rw [inR_iff, Int64.lt_iff_toInt_lt, Int64.lt_iff_toInt_lt, i2l_toInt, hy, hz]
  omega
def evn (x : Int32) : Bool := inR x (-4) 4 && decide (x - x / nI 2 * nI 2 = 0)
theorem tb_face : ∀ a < 11, (decide (cx a = nI 5) || decide (cx a = -5)) = tface a := by decide +kernel
theorem tb_evn : ∀ a < 11, evn (cx a) = (a % 2 == 1) := by decide +kernel
def sm3 (q : Nat → Int32) : Nat → Int32
  | 0 => nI 0
  | i + 1 => sm3 q i + q i
theorem sm3_3 (q : Nat → Int32) : sm3 q 3 = q 0 + q 1 + q 2 := by
  have e : nI 0 = 0 := rfl
  simp only [sm3, e, Int32.zero_add]
def sqA (g : Nat → Int32) (o t : Nat) : Int32 := st_aim g o 0 t * st_aim g o 0 t + st_aim g o 1 t * st_aim g o 1 t + st_aim g o 2 t * st_aim g o 2 t
def dotA (g : Nat → Int32) (c o t : Nat) : Int32 := cvec (3 * c) * st_aim g o 0 t + cvec (3 * c + 1) * st_aim g o 1 t + cvec (3 * c + 2) * st_aim g o 2 t
set_option maxHeartbeats 4000000 in
set_option maxRecDepth 100000 in
/-- thrown() -/
theorem c_X8_thrown (l : Launch) (T : jj_T) (h8 rv rn rnw rt rd rk rik rdk rre rle rhe rth rpa ror na nx : Nat) (rf bv bo : Int32)  : jR l T yX8_thrown wsX8_thrown { frames := 0, cells := 0, slots := 0, locals := 0 } [.ref h8] [(h8, cO 8 [.int rf, .ref rv, .ref rn, .ref rnw, .ref rt, .ref rd, .int (nI na), .int (nI nx), .ref rk, .ref rik, .ref rdk, .ref rre, .ref rle, .ref rhe, .ref rth, .ref rpa, .ref ror, .int bv, .int bo])] (fun v => v = some (.int rf)) := by
  refine jR.of (cc := cX8_thrown) (maxL := 1) (ret := (some .int)) (by decide) rfl (Nat.le_of_ble_eq_true rfl) ?_
  intro X C ro hl hT hQ
  subst hl; subst hT
  have hin8 : ∀ w ∈ u_ws RX8 TX8 19, w ∈ wsX8_thrown := by decide +kernel
  have hl57 : Cond.fieldLink RX8 57 (TX8 0).1 (TX8 0).2.1 (TX8 0).2.2.1 ∈ wsX8_thrown := by decide +kernel
  show jj X 0 0 0 [(0, .ref h8)] [] [(h8, cO 8 [.int rf, .ref rv, .ref rn, .ref rnw, .ref rt, .ref rd, .int (nI na), .int (nI nx), .ref rk, .ref rik, .ref rdk, .ref rre, .ref rle, .ref rhe, .ref rth, .ref rpa, .ref ror, .int bv, .int bo])]
  refine j_aload_n C dX8_thrown_0 0 rfl rfl ?_
  refine j_get C (hin8) (ci := 8) rfl 0 (by decide) (hl57) 0 rfl (v := .int rf) rfl dX8_thrown_1 ?_
  refine j_iretR C ro hQ rfl ?_ dX8_thrown_4
  rfl

set_option maxHeartbeats 4000000 in
set_option maxRecDepth 100000 in
/-- refused(which) -/
theorem c_X8_refused_0 (l : Launch) (T : jj_T) (h8 rv rn rnw rt rd rk rik rdk rre rle rhe rth rpa ror na nx : Nat) (rf bv bo : Int32)  : jM l T yX8_refused wsX8_refused { frames := 0, cells := 0, slots := 0, locals := 0 } [.ref h8, .int (nI 0)] [(h8, cO 8 [.int rf, .ref rv, .ref rn, .ref rnw, .ref rt, .ref rd, .int (nI na), .int (nI nx), .ref rk, .ref rik, .ref rdk, .ref rre, .ref rle, .ref rhe, .ref rth, .ref rpa, .ref ror, .int bv, .int bo])] (fun v w1 => v = some (.int (bI false)) ∧ w1 = [(h8, cO 8 [.int (nI 0), .ref rv, .ref rn, .ref rnw, .ref rt, .ref rd, .int (nI na), .int (nI nx), .ref rk, .ref rik, .ref rdk, .ref rre, .ref rle, .ref rhe, .ref rth, .ref rpa, .ref ror, .int bv, .int bo])]) := by
  refine jM.of (cc := cX8_refused) (maxL := 2) (ret := (some .boolean)) (by decide) rfl (Nat.le_of_ble_eq_true rfl) ?_
  intro X C rw_ hl hT hQ hnm
  subst hl; subst hT
  have hin8 : ∀ w ∈ u_ws RX8 TX8 19, w ∈ wsX8_refused := by decide +kernel
  have hl57 : Cond.fieldLink RX8 57 (TX8 0).1 (TX8 0).2.1 (TX8 0).2.2.1 ∈ wsX8_refused := by decide +kernel
  show jj X 0 0 0 [(0, .ref h8), (1, .int (nI 0))] [] [(h8, cO 8 [.int rf, .ref rv, .ref rn, .ref rnw, .ref rt, .ref rd, .int (nI na), .int (nI nx), .ref rk, .ref rik, .ref rdk, .ref rre, .ref rle, .ref rhe, .ref rth, .ref rpa, .ref ror, .int bv, .int bo])]
  refine j_aload_n C dX8_refused_0 0 rfl rfl ?_
  refine j_iload_n C dX8_refused_1 1 rfl rfl ?_
  refine j_put C rw_ (hin8) tyX8 tyX8_ok nmX8 (ci := 8) rfl 0 (by decide) (hl57) (by decide +kernel) (ty := .int) (by decide +kernel) rfl rfl 0 rfl (Nat.le_of_ble_eq_true rfl) (w' := [(h8, cO 8 [.int (nI 0), .ref rv, .ref rn, .ref rnw, .ref rt, .ref rd, .int (nI na), .int (nI nx), .ref rk, .ref rik, .ref rdk, .ref rre, .ref rle, .ref rhe, .ref rth, .ref rpa, .ref ror, .int bv, .int bo])]) rfl dX8_refused_2 ?_
  refine j_iload_n C dX8_refused_5 1 rfl rfl ?_
  refine j_if_le C dX8_refused_6 (tgt := 13) (by decide) (fun q6 => ?_) (fun q6 => ?_)
  · skip
    have q6 := (kz_le (a := 0) (by omega)).mp q6
    refine j_iconst C dX8_refused_13 (v := (nI 0)) kc_i_0 ?_
    refine j_iretM C rw_ hQ (by decide) (by decide) (by decide +kernel) ?_ dX8_refused_14
    exact ⟨rfl, rfl⟩
  · skip
    have q6 := (kz_nle (a := 0) (by omega)).mp q6
    exfalso
    first | exact q6.elim | omega

set_option maxHeartbeats 4000000 in
set_option maxRecDepth 100000 in
/-- refused(which) -/
theorem c_X8_refused_s (l : Launch) (T : jj_T) (h8 rv rn rnw rt rd rk rik rdk rre rle rhe rth rpa ror na nx : Nat) (rf bv bo : Int32) (k : Nat) (hk : 0 < k) (hk2 : k < 9) : jM l T yX8_refused wsX8_refused { frames := 0, cells := 0, slots := 0, locals := 0 } [.ref h8, .int (nI k)] [(h8, cO 8 [.int rf, .ref rv, .ref rn, .ref rnw, .ref rt, .ref rd, .int (nI na), .int (nI nx), .ref rk, .ref rik, .ref rdk, .ref rre, .ref rle, .ref rhe, .ref rth, .ref rpa, .ref ror, .int bv, .int bo])] (fun v w1 => v = some (.int (bI true)) ∧ w1 = [(h8, cO 8 [.int (nI k), .ref rv, .ref rn, .ref rnw, .ref rt, .ref rd, .int (nI na), .int (nI nx), .ref rk, .ref rik, .ref rdk, .ref rre, .ref rle, .ref rhe, .ref rth, .ref rpa, .ref ror, .int bv, .int bo])]) := by
  refine jM.of (cc := cX8_refused) (maxL := 2) (ret := (some .boolean)) (by decide) rfl (Nat.le_of_ble_eq_true rfl) ?_
  intro X C rw_ hl hT hQ hnm
  subst hl; subst hT
  have hin8 : ∀ w ∈ u_ws RX8 TX8 19, w ∈ wsX8_refused := by decide +kernel
  have hl57 : Cond.fieldLink RX8 57 (TX8 0).1 (TX8 0).2.1 (TX8 0).2.2.1 ∈ wsX8_refused := by decide +kernel
  show jj X 0 0 0 [(0, .ref h8), (1, .int (nI k))] [] [(h8, cO 8 [.int rf, .ref rv, .ref rn, .ref rnw, .ref rt, .ref rd, .int (nI na), .int (nI nx), .ref rk, .ref rik, .ref rdk, .ref rre, .ref rle, .ref rhe, .ref rth, .ref rpa, .ref ror, .int bv, .int bo])]
  refine j_aload_n C dX8_refused_0 0 rfl rfl ?_
  refine j_iload_n C dX8_refused_1 1 rfl rfl ?_
  refine j_put C rw_ (hin8) tyX8 tyX8_ok nmX8 (ci := 8) rfl 0 (by decide) (hl57) (by decide +kernel) (ty := .int) (by decide +kernel) rfl rfl 0 rfl (Nat.le_of_ble_eq_true rfl) (w' := [(h8, cO 8 [.int (nI k), .ref rv, .ref rn, .ref rnw, .ref rt, .ref rd, .int (nI na), .int (nI nx), .ref rk, .ref rik, .ref rdk, .ref rre, .ref rle, .ref rhe, .ref rth, .ref rpa, .ref ror, .int bv, .int bo])]) rfl dX8_refused_2 ?_
  refine j_iload_n C dX8_refused_5 1 rfl rfl ?_
  refine j_if_le C dX8_refused_6 (tgt := 13) (by decide) (fun q6 => ?_) (fun q6 => ?_)
  · skip
    have q6 := (kz_le (a := k) (by omega)).mp q6
    exfalso
    first | exact q6.elim | omega
  · skip
    have q6 := (kz_nle (a := k) (by omega)).mp q6
    refine j_iconst C dX8_refused_9 (v := (nI 1)) kc_i_1 ?_
    refine j_goto C dX8_refused_10 (tgt := 14) (by decide) ?_
    refine j_iretM C rw_ hQ (by decide) (by decide) (by decide +kernel) ?_ dX8_refused_14
    exact ⟨rfl, rfl⟩

set_option maxHeartbeats 4000000 in
set_option maxRecDepth 100000 in
/-- in(v, least, most) -/
theorem c_X8_in (l : Launch) (T : jj_T) (x : Int32) (y z : Int64) (a b : Int) (hy : y.toInt = a) (hz : z.toInt = b) : jR l T yX8_in wsX8_in { frames := 0, cells := 0, slots := 0, locals := 0 } [.long x.toInt64, .long y, .long z] [] (fun v => v = some (.int (bI (inR x a b)))) := by
  refine jR.of (cc := cX8_in) (maxL := 6) (ret := (some .boolean)) (by decide) rfl (Nat.le_of_ble_eq_true rfl) ?_
  intro X C ro hl hT hQ
  subst hl; subst hT
  show jj X 0 0 0 [(0, .long x.toInt64), (2, .long y), (4, .long z)] [] []
  refine j_lload_n C dX8_in_0 0 rfl rfl ?_
  refine j_lload_n C dX8_in_1 1 rfl rfl ?_
  refine j_lcmp C dX8_in_2 ?_
  refine j_if_lt C dX8_in_3 (tgt := 17) (by decide) (fun q3 => ?_) (fun q3 => ?_)
  · skip
    have q3 := (kl_lt).mp q3
    refine j_iconst C dX8_in_17 (v := (nI 0)) kc_i_0 ?_
    refine j_iretR C ro hQ (by decide +kernel) ?_ dX8_in_18
    exact kb_f (Bool.eq_false_iff.mpr (fun h => ((in_lem hy hz).mp h).1 q3))
  · skip
    have q3 := (kl_nlt).mp q3
    refine j_lload_n C dX8_in_6 0 rfl rfl ?_
    refine j_lload C dX8_in_7 2 rfl ?_
    refine j_lcmp C dX8_in_9 ?_
    refine j_if_gt C dX8_in_10 (tgt := 17) (by decide) (fun q10 => ?_) (fun q10 => ?_)
    · skip
      have q10 := (kl_gt).mp q10
      refine j_iconst C dX8_in_17 (v := (nI 0)) kc_i_0 ?_
      refine j_iretR C ro hQ (by decide +kernel) ?_ dX8_in_18
      exact kb_f (Bool.eq_false_iff.mpr (fun h => ((in_lem hy hz).mp h).2 q10))
    · skip
      have q10 := (kl_ngt).mp q10
      refine j_iconst C dX8_in_13 (v := (nI 1)) kc_i_1 ?_
      refine j_goto C dX8_in_14 (tgt := 18) (by decide) ?_
      refine j_iretR C ro hQ (by decide +kernel) ?_ dX8_in_18
      exact kb_t ((in_lem hy hz).mpr ⟨Int64.not_lt.mpr q3, Int64.not_lt.mpr q10⟩)

set_option maxHeartbeats 4000000 in
set_option maxRecDepth 100000 in
/-- isCell -/
theorem c_X8_isCell (l : Launch) (T : jj_T) (x : Int32) : jR l T yX8_isCell wsX8_isCell { frames := 1, cells := 0, slots := 0, locals := 25 } [.int x] [] (fun v => v = some (.int (bI (inR x 0 149)))) := by
  refine jR.of (cc := cX8_isCell) (maxL := 1) (ret := (some .boolean)) (by decide) rfl (Nat.le_of_ble_eq_true rfl) ?_
  intro X C ro hl hT hQ
  subst hl; subst hT
  show jj X 0 0 0 [(0, .int x)] [] []
  refine j_iload_n C dX8_isCell_0 0 rfl rfl ?_
  refine j_i2l C dX8_isCell_1 (v := x.toInt64) rfl ?_
  refine j_lconst C dX8_isCell_2 (v := lN 0) rfl ?_
  refine j_ldc2l C dX8_isCell_3 (v := lN 149) (by decide +kernel) ?_
  refine j_callSR C (nA := 3) (As := [.long x.toInt64, .long (lN 0), .long (lN 149)]) (c_X8_in (xl X) (xT X) x (lN 0) (lN 149) (0) (149) (by decide +kernel) (by decide +kernel)) gX8_isCell_X8_in rfl (by decide +kernel) rfl ⟨rfl, rfl⟩ (by decide) (by decide) [] rfl rfl (rest := []) rfl (Nat.le_of_ble_eq_true rfl) dX8_isCell_6 ?_
  rintro _ rfl
  show jj X 0 0 9 [(0, .int x)] [.int (bI (inR x (0) (149)))] []
  refine j_iretR C ro hQ (bI_nar _) ?_ dX8_isCell_9
  rfl

set_option maxHeartbeats 4000000 in
set_option maxRecDepth 100000 in
/-- isThird -/
theorem c_X8_isThird (l : Launch) (T : jj_T) (x : Int32) : jR l T yX8_isThird wsX8_isThird { frames := 1, cells := 0, slots := 0, locals := 25 } [.int x] [] (fun v => v = some (.int (bI (inR x 0 2)))) := by
  refine jR.of (cc := cX8_isThird) (maxL := 1) (ret := (some .boolean)) (by decide) rfl (Nat.le_of_ble_eq_true rfl) ?_
  intro X C ro hl hT hQ
  subst hl; subst hT
  show jj X 0 0 0 [(0, .int x)] [] []
  refine j_iload_n C dX8_isThird_0 0 rfl rfl ?_
  refine j_i2l C dX8_isThird_1 (v := x.toInt64) rfl ?_
  refine j_lconst C dX8_isThird_2 (v := lN 0) rfl ?_
  refine j_ldc2l C dX8_isThird_3 (v := lN 2) (by decide +kernel) ?_
  refine j_callSR C (nA := 3) (As := [.long x.toInt64, .long (lN 0), .long (lN 2)]) (c_X8_in (xl X) (xT X) x (lN 0) (lN 2) (0) (2) (by decide +kernel) (by decide +kernel)) gX8_isThird_X8_in rfl (by decide +kernel) rfl ⟨rfl, rfl⟩ (by decide) (by decide) [] rfl rfl (rest := []) rfl (Nat.le_of_ble_eq_true rfl) dX8_isThird_6 ?_
  rintro _ rfl
  show jj X 0 0 9 [(0, .int x)] [.int (bI (inR x (0) (2)))] []
  refine j_iretR C ro hQ (bI_nar _) ?_ dX8_isThird_9
  rfl

set_option maxHeartbeats 4000000 in
set_option maxRecDepth 100000 in
/-- isTime -/
theorem c_X8_isTime (l : Launch) (T : jj_T) (x : Int32) : jR l T yX8_isTime wsX8_isTime { frames := 1, cells := 0, slots := 0, locals := 25 } [.int x] [] (fun v => v = some (.int (bI (inR x 0 300)))) := by
  refine jR.of (cc := cX8_isTime) (maxL := 1) (ret := (some .boolean)) (by decide) rfl (Nat.le_of_ble_eq_true rfl) ?_
  intro X C ro hl hT hQ
  subst hl; subst hT
  show jj X 0 0 0 [(0, .int x)] [] []
  refine j_iload_n C dX8_isTime_0 0 rfl rfl ?_
  refine j_i2l C dX8_isTime_1 (v := x.toInt64) rfl ?_
  refine j_lconst C dX8_isTime_2 (v := lN 0) rfl ?_
  refine j_ldc2l C dX8_isTime_3 (v := lN 300) (by decide +kernel) ?_
  refine j_callSR C (nA := 3) (As := [.long x.toInt64, .long (lN 0), .long (lN 300)]) (c_X8_in (xl X) (xT X) x (lN 0) (lN 300) (0) (300) (by decide +kernel) (by decide +kernel)) gX8_isTime_X8_in rfl (by decide +kernel) rfl ⟨rfl, rfl⟩ (by decide) (by decide) [] rfl rfl (rest := []) rfl (Nat.le_of_ble_eq_true rfl) dX8_isTime_6 ?_
  rintro _ rfl
  show jj X 0 0 9 [(0, .int x)] [.int (bI (inR x (0) (300)))] []
  refine j_iretR C ro hQ (bI_nar _) ?_ dX8_isTime_9
  rfl

set_option maxHeartbeats 4000000 in
set_option maxRecDepth 100000 in
/-- isFace(v) -/
theorem c_X8_isFace (l : Launch) (T : jj_T) (a : Nat) (ha : a < 11) : jR l T yX8_isFace wsX8_isFace { frames := 0, cells := 0, slots := 0, locals := 0 } [.int (cx a)] [] (fun v => v = some (.int (bI (tface a)))) := by
  refine jR.of (cc := cX8_isFace) (maxL := 1) (ret := (some .boolean)) (by decide) rfl (Nat.le_of_ble_eq_true rfl) ?_
  intro X C ro hl hT hQ
  subst hl; subst hT
  show jj X 0 0 0 [(0, .int (cx a))] [] []
  refine j_iload_n C dX8_isFace_0 0 rfl rfl ?_
  refine j_iconst C dX8_isFace_1 (v := (nI 5)) kc_i_5 ?_
  refine j_icmp_eq C dX8_isFace_2 (tgt := 11) (by decide) (fun q2 => ?_) (fun q2 => ?_)
  · skip
    refine j_iconst C dX8_isFace_11 (v := (nI 1)) kc_i_1 ?_
    refine j_goto C dX8_isFace_12 (tgt := 16) (by decide) ?_
    refine j_iretR C ro hQ (by decide +kernel) ?_ dX8_isFace_16
    refine kb_t ?_
    rw [← tb_face a ha, decide_eq_true q2, Bool.true_or]
  · skip
    refine j_iload_n C dX8_isFace_5 0 rfl rfl ?_
    refine j_bipush C dX8_isFace_6 (v := (-5)) kc_b_m5 ?_
    refine j_icmp_ne C dX8_isFace_8 (tgt := 15) (by decide) (fun q8 => ?_) (fun q8 => ?_)
    · skip
      refine j_iconst C dX8_isFace_15 (v := (nI 0)) kc_i_0 ?_
      refine j_iretR C ro hQ (by decide +kernel) ?_ dX8_isFace_16
      refine kb_f ?_
      rw [← tb_face a ha, decide_eq_false q2, decide_eq_false q8]; rfl
    · skip
      refine j_iconst C dX8_isFace_11 (v := (nI 1)) kc_i_1 ?_
      refine j_goto C dX8_isFace_12 (tgt := 16) (by decide) ?_
      refine j_iretR C ro hQ (by decide +kernel) ?_ dX8_isFace_16
      refine kb_t ?_
      rw [← tb_face a ha, decide_eq_true q8, Bool.or_true]

set_option maxHeartbeats 4000000 in
set_option maxRecDepth 100000 in
/-- isEven(v) -/
theorem c_X8_isEven (l : Launch) (T : jj_T) (a : Nat) (ha : a < 11) : jR l T yX8_isEven wsX8_isEven { frames := 1, cells := 0, slots := 0, locals := 25 } [.int (cx a)] [] (fun v => v = some (.int (bI (a % 2 == 1)))) := by
  refine jR.of (cc := cX8_isEven) (maxL := 1) (ret := (some .boolean)) (by decide) rfl (Nat.le_of_ble_eq_true rfl) ?_
  intro X C ro hl hT hQ
  subst hl; subst hT
  show jj X 0 0 0 [(0, .int (cx a))] [] []
  refine j_iload_n C dX8_isEven_0 0 rfl rfl ?_
  refine j_i2l C dX8_isEven_1 (v := ((cx a).toInt64)) rfl ?_
  refine j_ldc2l C dX8_isEven_2 (v := -4) (by decide +kernel) ?_
  refine j_ldc2l C dX8_isEven_5 (v := lN 4) (by decide +kernel) ?_
  refine j_callSR C (nA := 3) (As := [.long ((cx a).toInt64), .long (-4), .long (lN 4)]) (c_X8_in (xl X) (xT X) (cx a) (-4) (lN 4) (-4) (4) (by decide +kernel) (by decide +kernel)) gX8_isEven_X8_in rfl (by decide +kernel) rfl ⟨rfl, rfl⟩ (by decide) (by decide) [] rfl rfl (rest := []) rfl (Nat.le_of_ble_eq_true rfl) dX8_isEven_8 ?_
  rintro _ rfl
  show jj X 0 0 11 [(0, .int (cx a))] [.int (bI (inR (cx a) (-4) (4)))] []
  refine j_if_eq C dX8_isEven_11 (tgt := 24) (by decide) (fun q11 => ?_) (fun q11 => ?_)
  · skip
    have q11 := (kb_eq).mp q11
    refine j_iconst C dX8_isEven_24 (v := (nI 0)) kc_i_0 ?_
    refine j_iretR C ro hQ (by decide +kernel) ?_ dX8_isEven_25
    refine kb_f ?_
    rw [← tb_evn a ha]; unfold evn; rw [q11]; rfl
  · skip
    have q11 := (kb_neq).mp q11
    refine j_iload_n C dX8_isEven_14 0 rfl rfl ?_
    refine j_iconst C dX8_isEven_15 (v := (nI 2)) kc_i_2 ?_
    refine j_irem C dX8_isEven_16 (by decide) (v := ((cx a) - (cx a) / (nI 2) * (nI 2))) rfl ?_
    refine j_if_ne C dX8_isEven_17 (tgt := 24) (by decide) (fun q17 => ?_) (fun q17 => ?_)
    · skip
      refine j_iconst C dX8_isEven_24 (v := (nI 0)) kc_i_0 ?_
      refine j_iretR C ro hQ (by decide +kernel) ?_ dX8_isEven_25
      refine kb_f ?_
      rw [← tb_evn a ha]; unfold evn; rw [decide_eq_false q17, Bool.and_false]
    · skip
      refine j_iconst C dX8_isEven_20 (v := (nI 1)) kc_i_1 ?_
      refine j_goto C dX8_isEven_21 (tgt := 25) (by decide) ?_
      refine j_iretR C ro hQ (by decide +kernel) ?_ dX8_isEven_25
      refine kb_t ?_
      rw [← tb_evn a ha]; unfold evn; rw [q11, decide_eq_true q17]; rfl

set_option maxHeartbeats 4000000 in
set_option maxRecDepth 100000 in
/-- isCellVector(x, y, z) -/
theorem c_X8_isCellVector (l : Launch) (T : jj_T) (a b c : Nat) (ha : a < 11) (hb : b < 11) (hc : c < 11) : jR l T yX8_isCellVector wsX8_isCellVector { frames := 2, cells := 0, slots := 0, locals := 45 } [.int (cx a), .int (cx b), .int (cx c)] [] (fun v => v = some (.int (bI (tisV (121 * a + 11 * b + c))))) := by
  refine jR.of (cc := cX8_isCellVector) (maxL := 3) (ret := (some .boolean)) (by decide) rfl (Nat.le_of_ble_eq_true rfl) ?_
  intro X C ro hl hT hQ
  subst hl; subst hT
  show jj X 0 0 0 [(0, .int (cx a)), (1, .int (cx b)), (2, .int (cx c))] [] []
  have e9 : tisV (121 * a + 11 * b + c) = ((tface a && b % 2 == 1 && c % 2 == 1) || (tface b && a % 2 == 1 && c % 2 == 1) || (tface c && a % 2 == 1 && b % 2 == 1)) := by
    unfold tisV; simp only [show (121 * a + 11 * b + c) / 121 = a by omega, show (121 * a + 11 * b + c) / 11 % 11 = b by omega, show (121 * a + 11 * b + c) % 11 = c by omega]
  refine j_iload_n C dX8_isCellVector_0 0 rfl rfl ?_
  refine j_callSR C (nA := 1) (As := [.int (cx a)]) (c_X8_isFace (xl X) (xT X) a (by omega)) gX8_isCellVector_X8_isFace rfl (by decide +kernel) rfl ⟨rfl, rfl⟩ (by decide) (by decide) [] rfl rfl (rest := []) rfl (Nat.le_of_ble_eq_true rfl) dX8_isCellVector_1 ?_
  rintro _ rfl
  show jj X 0 0 4 [(0, .int (cx a)), (1, .int (cx b)), (2, .int (cx c))] [.int (bI (tface a))] []
  refine j_if_eq C dX8_isCellVector_4 (tgt := 21) (by decide) (fun q4 => ?_) (fun q4 => ?_)
  · skip
    have q4 := (kb_eq).mp q4
    refine j_iload_n C dX8_isCellVector_21 0 rfl rfl ?_
    refine j_callSR C (nA := 1) (As := [.int (cx a)]) (c_X8_isEven (xl X) (xT X) a (by omega)) gX8_isCellVector_X8_isEven rfl (by decide +kernel) rfl ⟨rfl, rfl⟩ (by decide) (by decide) [] rfl rfl (rest := []) rfl (Nat.le_of_ble_eq_true rfl) dX8_isCellVector_22 ?_
    rintro _ rfl
    show jj X 0 0 25 [(0, .int (cx a)), (1, .int (cx b)), (2, .int (cx c))] [.int (bI (a % 2 == 1))] []
    refine j_if_eq C dX8_isCellVector_25 (tgt := 42) (by decide) (fun q25 => ?_) (fun q25 => ?_)
    · skip
      have q25 := (kb_eq).mp q25
      refine j_iload_n C dX8_isCellVector_42 0 rfl rfl ?_
      refine j_callSR C (nA := 1) (As := [.int (cx a)]) (c_X8_isEven (xl X) (xT X) a (by omega)) gX8_isCellVector_X8_isEven rfl (by decide +kernel) rfl ⟨rfl, rfl⟩ (by decide) (by decide) [] rfl rfl (rest := []) rfl (Nat.le_of_ble_eq_true rfl) dX8_isCellVector_43 ?_
      rintro _ rfl
      show jj X 0 0 46 [(0, .int (cx a)), (1, .int (cx b)), (2, .int (cx c))] [.int (bI (a % 2 == 1))] []
      refine j_if_eq C dX8_isCellVector_46 (tgt := 67) (by decide) (fun q46 => ?_) (fun q46 => ?_)
      · skip
        have q46 := (kb_eq).mp q46
        refine j_iconst C dX8_isCellVector_67 (v := (nI 0)) kc_i_0 ?_
        refine j_iretR C ro hQ (by decide +kernel) ?_ dX8_isCellVector_68
        rw [e9]
        first | (refine kb_f ?_; simp_all; done) | (refine kb_t ?_; simp_all; done)
      · skip
        have q46 := (kb_neq).mp q46
        refine j_iload_n C dX8_isCellVector_49 1 rfl rfl ?_
        refine j_callSR C (nA := 1) (As := [.int (cx b)]) (c_X8_isEven (xl X) (xT X) b (by omega)) gX8_isCellVector_X8_isEven rfl (by decide +kernel) rfl ⟨rfl, rfl⟩ (by decide) (by decide) [] rfl rfl (rest := []) rfl (Nat.le_of_ble_eq_true rfl) dX8_isCellVector_50 ?_
        rintro _ rfl
        show jj X 0 0 53 [(0, .int (cx a)), (1, .int (cx b)), (2, .int (cx c))] [.int (bI (b % 2 == 1))] []
        refine j_if_eq C dX8_isCellVector_53 (tgt := 67) (by decide) (fun q53 => ?_) (fun q53 => ?_)
        · skip
          have q53 := (kb_eq).mp q53
          refine j_iconst C dX8_isCellVector_67 (v := (nI 0)) kc_i_0 ?_
          refine j_iretR C ro hQ (by decide +kernel) ?_ dX8_isCellVector_68
          rw [e9]
          first | (refine kb_f ?_; simp_all; done) | (refine kb_t ?_; simp_all; done)
        · skip
          have q53 := (kb_neq).mp q53
          refine j_iload_n C dX8_isCellVector_56 2 rfl rfl ?_
          refine j_callSR C (nA := 1) (As := [.int (cx c)]) (c_X8_isFace (xl X) (xT X) c (by omega)) gX8_isCellVector_X8_isFace rfl (by decide +kernel) rfl ⟨rfl, rfl⟩ (by decide) (by decide) [] rfl rfl (rest := []) rfl (Nat.le_of_ble_eq_true rfl) dX8_isCellVector_57 ?_
          rintro _ rfl
          show jj X 0 0 60 [(0, .int (cx a)), (1, .int (cx b)), (2, .int (cx c))] [.int (bI (tface c))] []
          refine j_if_eq C dX8_isCellVector_60 (tgt := 67) (by decide) (fun q60 => ?_) (fun q60 => ?_)
          · skip
            have q60 := (kb_eq).mp q60
            refine j_iconst C dX8_isCellVector_67 (v := (nI 0)) kc_i_0 ?_
            refine j_iretR C ro hQ (by decide +kernel) ?_ dX8_isCellVector_68
            rw [e9]
            first | (refine kb_f ?_; simp_all; done) | (refine kb_t ?_; simp_all; done)
          · skip
            have q60 := (kb_neq).mp q60
            refine j_iconst C dX8_isCellVector_63 (v := (nI 1)) kc_i_1 ?_
            refine j_goto C dX8_isCellVector_64 (tgt := 68) (by decide) ?_
            refine j_iretR C ro hQ (by decide +kernel) ?_ dX8_isCellVector_68
            rw [e9]
            first | (refine kb_f ?_; simp_all; done) | (refine kb_t ?_; simp_all; done)
    · skip
      have q25 := (kb_neq).mp q25
      refine j_iload_n C dX8_isCellVector_28 1 rfl rfl ?_
      refine j_callSR C (nA := 1) (As := [.int (cx b)]) (c_X8_isFace (xl X) (xT X) b (by omega)) gX8_isCellVector_X8_isFace rfl (by decide +kernel) rfl ⟨rfl, rfl⟩ (by decide) (by decide) [] rfl rfl (rest := []) rfl (Nat.le_of_ble_eq_true rfl) dX8_isCellVector_29 ?_
      rintro _ rfl
      show jj X 0 0 32 [(0, .int (cx a)), (1, .int (cx b)), (2, .int (cx c))] [.int (bI (tface b))] []
      refine j_if_eq C dX8_isCellVector_32 (tgt := 42) (by decide) (fun q32 => ?_) (fun q32 => ?_)
      · skip
        have q32 := (kb_eq).mp q32
        refine j_iload_n C dX8_isCellVector_42 0 rfl rfl ?_
        refine j_callSR C (nA := 1) (As := [.int (cx a)]) (c_X8_isEven (xl X) (xT X) a (by omega)) gX8_isCellVector_X8_isEven rfl (by decide +kernel) rfl ⟨rfl, rfl⟩ (by decide) (by decide) [] rfl rfl (rest := []) rfl (Nat.le_of_ble_eq_true rfl) dX8_isCellVector_43 ?_
        rintro _ rfl
        show jj X 0 0 46 [(0, .int (cx a)), (1, .int (cx b)), (2, .int (cx c))] [.int (bI (a % 2 == 1))] []
        refine j_if_eq C dX8_isCellVector_46 (tgt := 67) (by decide) (fun q46 => ?_) (fun q46 => ?_)
        · skip
          have q46 := (kb_eq).mp q46
          refine j_iconst C dX8_isCellVector_67 (v := (nI 0)) kc_i_0 ?_
          refine j_iretR C ro hQ (by decide +kernel) ?_ dX8_isCellVector_68
          rw [e9]
          first | (refine kb_f ?_; simp_all; done) | (refine kb_t ?_; simp_all; done)
        · skip
          have q46 := (kb_neq).mp q46
          refine j_iload_n C dX8_isCellVector_49 1 rfl rfl ?_
          refine j_callSR C (nA := 1) (As := [.int (cx b)]) (c_X8_isEven (xl X) (xT X) b (by omega)) gX8_isCellVector_X8_isEven rfl (by decide +kernel) rfl ⟨rfl, rfl⟩ (by decide) (by decide) [] rfl rfl (rest := []) rfl (Nat.le_of_ble_eq_true rfl) dX8_isCellVector_50 ?_
          rintro _ rfl
          show jj X 0 0 53 [(0, .int (cx a)), (1, .int (cx b)), (2, .int (cx c))] [.int (bI (b % 2 == 1))] []
          refine j_if_eq C dX8_isCellVector_53 (tgt := 67) (by decide) (fun q53 => ?_) (fun q53 => ?_)
          · skip
            have q53 := (kb_eq).mp q53
            refine j_iconst C dX8_isCellVector_67 (v := (nI 0)) kc_i_0 ?_
            refine j_iretR C ro hQ (by decide +kernel) ?_ dX8_isCellVector_68
            rw [e9]
            first | (refine kb_f ?_; simp_all; done) | (refine kb_t ?_; simp_all; done)
          · skip
            have q53 := (kb_neq).mp q53
            refine j_iload_n C dX8_isCellVector_56 2 rfl rfl ?_
            refine j_callSR C (nA := 1) (As := [.int (cx c)]) (c_X8_isFace (xl X) (xT X) c (by omega)) gX8_isCellVector_X8_isFace rfl (by decide +kernel) rfl ⟨rfl, rfl⟩ (by decide) (by decide) [] rfl rfl (rest := []) rfl (Nat.le_of_ble_eq_true rfl) dX8_isCellVector_57 ?_
            rintro _ rfl
            show jj X 0 0 60 [(0, .int (cx a)), (1, .int (cx b)), (2, .int (cx c))] [.int (bI (tface c))] []
            refine j_if_eq C dX8_isCellVector_60 (tgt := 67) (by decide) (fun q60 => ?_) (fun q60 => ?_)
            · skip
              have q60 := (kb_eq).mp q60
              refine j_iconst C dX8_isCellVector_67 (v := (nI 0)) kc_i_0 ?_
              refine j_iretR C ro hQ (by decide +kernel) ?_ dX8_isCellVector_68
              rw [e9]
              first | (refine kb_f ?_; simp_all; done) | (refine kb_t ?_; simp_all; done)
            · skip
              have q60 := (kb_neq).mp q60
              refine j_iconst C dX8_isCellVector_63 (v := (nI 1)) kc_i_1 ?_
              refine j_goto C dX8_isCellVector_64 (tgt := 68) (by decide) ?_
              refine j_iretR C ro hQ (by decide +kernel) ?_ dX8_isCellVector_68
              rw [e9]
              first | (refine kb_f ?_; simp_all; done) | (refine kb_t ?_; simp_all; done)
      · skip
        have q32 := (kb_neq).mp q32
        refine j_iload_n C dX8_isCellVector_35 2 rfl rfl ?_
        refine j_callSR C (nA := 1) (As := [.int (cx c)]) (c_X8_isEven (xl X) (xT X) c (by omega)) gX8_isCellVector_X8_isEven rfl (by decide +kernel) rfl ⟨rfl, rfl⟩ (by decide) (by decide) [] rfl rfl (rest := []) rfl (Nat.le_of_ble_eq_true rfl) dX8_isCellVector_36 ?_
        rintro _ rfl
        show jj X 0 0 39 [(0, .int (cx a)), (1, .int (cx b)), (2, .int (cx c))] [.int (bI (c % 2 == 1))] []
        refine j_if_ne C dX8_isCellVector_39 (tgt := 63) (by decide) (fun q39 => ?_) (fun q39 => ?_)
        · skip
          have q39 := (kb_ne).mp q39
          refine j_iconst C dX8_isCellVector_63 (v := (nI 1)) kc_i_1 ?_
          refine j_goto C dX8_isCellVector_64 (tgt := 68) (by decide) ?_
          refine j_iretR C ro hQ (by decide +kernel) ?_ dX8_isCellVector_68
          rw [e9]
          first | (refine kb_f ?_; simp_all; done) | (refine kb_t ?_; simp_all; done)
        · skip
          have q39 := (kb_nne).mp q39
          refine j_iload_n C dX8_isCellVector_42 0 rfl rfl ?_
          refine j_callSR C (nA := 1) (As := [.int (cx a)]) (c_X8_isEven (xl X) (xT X) a (by omega)) gX8_isCellVector_X8_isEven rfl (by decide +kernel) rfl ⟨rfl, rfl⟩ (by decide) (by decide) [] rfl rfl (rest := []) rfl (Nat.le_of_ble_eq_true rfl) dX8_isCellVector_43 ?_
          rintro _ rfl
          show jj X 0 0 46 [(0, .int (cx a)), (1, .int (cx b)), (2, .int (cx c))] [.int (bI (a % 2 == 1))] []
          refine j_if_eq C dX8_isCellVector_46 (tgt := 67) (by decide) (fun q46 => ?_) (fun q46 => ?_)
          · skip
            have q46 := (kb_eq).mp q46
            refine j_iconst C dX8_isCellVector_67 (v := (nI 0)) kc_i_0 ?_
            refine j_iretR C ro hQ (by decide +kernel) ?_ dX8_isCellVector_68
            rw [e9]
            first | (refine kb_f ?_; simp_all; done) | (refine kb_t ?_; simp_all; done)
          · skip
            have q46 := (kb_neq).mp q46
            refine j_iload_n C dX8_isCellVector_49 1 rfl rfl ?_
            refine j_callSR C (nA := 1) (As := [.int (cx b)]) (c_X8_isEven (xl X) (xT X) b (by omega)) gX8_isCellVector_X8_isEven rfl (by decide +kernel) rfl ⟨rfl, rfl⟩ (by decide) (by decide) [] rfl rfl (rest := []) rfl (Nat.le_of_ble_eq_true rfl) dX8_isCellVector_50 ?_
            rintro _ rfl
            show jj X 0 0 53 [(0, .int (cx a)), (1, .int (cx b)), (2, .int (cx c))] [.int (bI (b % 2 == 1))] []
            refine j_if_eq C dX8_isCellVector_53 (tgt := 67) (by decide) (fun q53 => ?_) (fun q53 => ?_)
            · skip
              have q53 := (kb_eq).mp q53
              refine j_iconst C dX8_isCellVector_67 (v := (nI 0)) kc_i_0 ?_
              refine j_iretR C ro hQ (by decide +kernel) ?_ dX8_isCellVector_68
              rw [e9]
              first | (refine kb_f ?_; simp_all; done) | (refine kb_t ?_; simp_all; done)
            · skip
              have q53 := (kb_neq).mp q53
              refine j_iload_n C dX8_isCellVector_56 2 rfl rfl ?_
              refine j_callSR C (nA := 1) (As := [.int (cx c)]) (c_X8_isFace (xl X) (xT X) c (by omega)) gX8_isCellVector_X8_isFace rfl (by decide +kernel) rfl ⟨rfl, rfl⟩ (by decide) (by decide) [] rfl rfl (rest := []) rfl (Nat.le_of_ble_eq_true rfl) dX8_isCellVector_57 ?_
              rintro _ rfl
              show jj X 0 0 60 [(0, .int (cx a)), (1, .int (cx b)), (2, .int (cx c))] [.int (bI (tface c))] []
              refine j_if_eq C dX8_isCellVector_60 (tgt := 67) (by decide) (fun q60 => ?_) (fun q60 => ?_)
              · skip
                have q60 := (kb_eq).mp q60
                refine j_iconst C dX8_isCellVector_67 (v := (nI 0)) kc_i_0 ?_
                refine j_iretR C ro hQ (by decide +kernel) ?_ dX8_isCellVector_68
                rw [e9]
                first | (refine kb_f ?_; simp_all; done) | (refine kb_t ?_; simp_all; done)
              · skip
                have q60 := (kb_neq).mp q60
                refine j_iconst C dX8_isCellVector_63 (v := (nI 1)) kc_i_1 ?_
                refine j_goto C dX8_isCellVector_64 (tgt := 68) (by decide) ?_
                refine j_iretR C ro hQ (by decide +kernel) ?_ dX8_isCellVector_68
                rw [e9]
                first | (refine kb_f ?_; simp_all; done) | (refine kb_t ?_; simp_all; done)
  · skip
    have q4 := (kb_neq).mp q4
    refine j_iload_n C dX8_isCellVector_7 1 rfl rfl ?_
    refine j_callSR C (nA := 1) (As := [.int (cx b)]) (c_X8_isEven (xl X) (xT X) b (by omega)) gX8_isCellVector_X8_isEven rfl (by decide +kernel) rfl ⟨rfl, rfl⟩ (by decide) (by decide) [] rfl rfl (rest := []) rfl (Nat.le_of_ble_eq_true rfl) dX8_isCellVector_8 ?_
    rintro _ rfl
    show jj X 0 0 11 [(0, .int (cx a)), (1, .int (cx b)), (2, .int (cx c))] [.int (bI (b % 2 == 1))] []
    refine j_if_eq C dX8_isCellVector_11 (tgt := 21) (by decide) (fun q11 => ?_) (fun q11 => ?_)
    · skip
      have q11 := (kb_eq).mp q11
      refine j_iload_n C dX8_isCellVector_21 0 rfl rfl ?_
      refine j_callSR C (nA := 1) (As := [.int (cx a)]) (c_X8_isEven (xl X) (xT X) a (by omega)) gX8_isCellVector_X8_isEven rfl (by decide +kernel) rfl ⟨rfl, rfl⟩ (by decide) (by decide) [] rfl rfl (rest := []) rfl (Nat.le_of_ble_eq_true rfl) dX8_isCellVector_22 ?_
      rintro _ rfl
      show jj X 0 0 25 [(0, .int (cx a)), (1, .int (cx b)), (2, .int (cx c))] [.int (bI (a % 2 == 1))] []
      refine j_if_eq C dX8_isCellVector_25 (tgt := 42) (by decide) (fun q25 => ?_) (fun q25 => ?_)
      · skip
        have q25 := (kb_eq).mp q25
        refine j_iload_n C dX8_isCellVector_42 0 rfl rfl ?_
        refine j_callSR C (nA := 1) (As := [.int (cx a)]) (c_X8_isEven (xl X) (xT X) a (by omega)) gX8_isCellVector_X8_isEven rfl (by decide +kernel) rfl ⟨rfl, rfl⟩ (by decide) (by decide) [] rfl rfl (rest := []) rfl (Nat.le_of_ble_eq_true rfl) dX8_isCellVector_43 ?_
        rintro _ rfl
        show jj X 0 0 46 [(0, .int (cx a)), (1, .int (cx b)), (2, .int (cx c))] [.int (bI (a % 2 == 1))] []
        refine j_if_eq C dX8_isCellVector_46 (tgt := 67) (by decide) (fun q46 => ?_) (fun q46 => ?_)
        · skip
          have q46 := (kb_eq).mp q46
          refine j_iconst C dX8_isCellVector_67 (v := (nI 0)) kc_i_0 ?_
          refine j_iretR C ro hQ (by decide +kernel) ?_ dX8_isCellVector_68
          rw [e9]
          first | (refine kb_f ?_; simp_all; done) | (refine kb_t ?_; simp_all; done)
        · skip
          have q46 := (kb_neq).mp q46
          refine j_iload_n C dX8_isCellVector_49 1 rfl rfl ?_
          refine j_callSR C (nA := 1) (As := [.int (cx b)]) (c_X8_isEven (xl X) (xT X) b (by omega)) gX8_isCellVector_X8_isEven rfl (by decide +kernel) rfl ⟨rfl, rfl⟩ (by decide) (by decide) [] rfl rfl (rest := []) rfl (Nat.le_of_ble_eq_true rfl) dX8_isCellVector_50 ?_
          rintro _ rfl
          show jj X 0 0 53 [(0, .int (cx a)), (1, .int (cx b)), (2, .int (cx c))] [.int (bI (b % 2 == 1))] []
          refine j_if_eq C dX8_isCellVector_53 (tgt := 67) (by decide) (fun q53 => ?_) (fun q53 => ?_)
          · skip
            have q53 := (kb_eq).mp q53
            refine j_iconst C dX8_isCellVector_67 (v := (nI 0)) kc_i_0 ?_
            refine j_iretR C ro hQ (by decide +kernel) ?_ dX8_isCellVector_68
            rw [e9]
            first | (refine kb_f ?_; simp_all; done) | (refine kb_t ?_; simp_all; done)
          · skip
            have q53 := (kb_neq).mp q53
            refine j_iload_n C dX8_isCellVector_56 2 rfl rfl ?_
            refine j_callSR C (nA := 1) (As := [.int (cx c)]) (c_X8_isFace (xl X) (xT X) c (by omega)) gX8_isCellVector_X8_isFace rfl (by decide +kernel) rfl ⟨rfl, rfl⟩ (by decide) (by decide) [] rfl rfl (rest := []) rfl (Nat.le_of_ble_eq_true rfl) dX8_isCellVector_57 ?_
            rintro _ rfl
            show jj X 0 0 60 [(0, .int (cx a)), (1, .int (cx b)), (2, .int (cx c))] [.int (bI (tface c))] []
            refine j_if_eq C dX8_isCellVector_60 (tgt := 67) (by decide) (fun q60 => ?_) (fun q60 => ?_)
            · skip
              have q60 := (kb_eq).mp q60
              refine j_iconst C dX8_isCellVector_67 (v := (nI 0)) kc_i_0 ?_
              refine j_iretR C ro hQ (by decide +kernel) ?_ dX8_isCellVector_68
              rw [e9]
              first | (refine kb_f ?_; simp_all; done) | (refine kb_t ?_; simp_all; done)
            · skip
              have q60 := (kb_neq).mp q60
              refine j_iconst C dX8_isCellVector_63 (v := (nI 1)) kc_i_1 ?_
              refine j_goto C dX8_isCellVector_64 (tgt := 68) (by decide) ?_
              refine j_iretR C ro hQ (by decide +kernel) ?_ dX8_isCellVector_68
              rw [e9]
              first | (refine kb_f ?_; simp_all; done) | (refine kb_t ?_; simp_all; done)
      · skip
        have q25 := (kb_neq).mp q25
        refine j_iload_n C dX8_isCellVector_28 1 rfl rfl ?_
        refine j_callSR C (nA := 1) (As := [.int (cx b)]) (c_X8_isFace (xl X) (xT X) b (by omega)) gX8_isCellVector_X8_isFace rfl (by decide +kernel) rfl ⟨rfl, rfl⟩ (by decide) (by decide) [] rfl rfl (rest := []) rfl (Nat.le_of_ble_eq_true rfl) dX8_isCellVector_29 ?_
        rintro _ rfl
        show jj X 0 0 32 [(0, .int (cx a)), (1, .int (cx b)), (2, .int (cx c))] [.int (bI (tface b))] []
        refine j_if_eq C dX8_isCellVector_32 (tgt := 42) (by decide) (fun q32 => ?_) (fun q32 => ?_)
        · skip
          have q32 := (kb_eq).mp q32
          refine j_iload_n C dX8_isCellVector_42 0 rfl rfl ?_
          refine j_callSR C (nA := 1) (As := [.int (cx a)]) (c_X8_isEven (xl X) (xT X) a (by omega)) gX8_isCellVector_X8_isEven rfl (by decide +kernel) rfl ⟨rfl, rfl⟩ (by decide) (by decide) [] rfl rfl (rest := []) rfl (Nat.le_of_ble_eq_true rfl) dX8_isCellVector_43 ?_
          rintro _ rfl
          show jj X 0 0 46 [(0, .int (cx a)), (1, .int (cx b)), (2, .int (cx c))] [.int (bI (a % 2 == 1))] []
          refine j_if_eq C dX8_isCellVector_46 (tgt := 67) (by decide) (fun q46 => ?_) (fun q46 => ?_)
          · skip
            have q46 := (kb_eq).mp q46
            refine j_iconst C dX8_isCellVector_67 (v := (nI 0)) kc_i_0 ?_
            refine j_iretR C ro hQ (by decide +kernel) ?_ dX8_isCellVector_68
            rw [e9]
            first | (refine kb_f ?_; simp_all; done) | (refine kb_t ?_; simp_all; done)
          · skip
            have q46 := (kb_neq).mp q46
            refine j_iload_n C dX8_isCellVector_49 1 rfl rfl ?_
            refine j_callSR C (nA := 1) (As := [.int (cx b)]) (c_X8_isEven (xl X) (xT X) b (by omega)) gX8_isCellVector_X8_isEven rfl (by decide +kernel) rfl ⟨rfl, rfl⟩ (by decide) (by decide) [] rfl rfl (rest := []) rfl (Nat.le_of_ble_eq_true rfl) dX8_isCellVector_50 ?_
            rintro _ rfl
            show jj X 0 0 53 [(0, .int (cx a)), (1, .int (cx b)), (2, .int (cx c))] [.int (bI (b % 2 == 1))] []
            refine j_if_eq C dX8_isCellVector_53 (tgt := 67) (by decide) (fun q53 => ?_) (fun q53 => ?_)
            · skip
              have q53 := (kb_eq).mp q53
              refine j_iconst C dX8_isCellVector_67 (v := (nI 0)) kc_i_0 ?_
              refine j_iretR C ro hQ (by decide +kernel) ?_ dX8_isCellVector_68
              rw [e9]
              first | (refine kb_f ?_; simp_all; done) | (refine kb_t ?_; simp_all; done)
            · skip
              have q53 := (kb_neq).mp q53
              refine j_iload_n C dX8_isCellVector_56 2 rfl rfl ?_
              refine j_callSR C (nA := 1) (As := [.int (cx c)]) (c_X8_isFace (xl X) (xT X) c (by omega)) gX8_isCellVector_X8_isFace rfl (by decide +kernel) rfl ⟨rfl, rfl⟩ (by decide) (by decide) [] rfl rfl (rest := []) rfl (Nat.le_of_ble_eq_true rfl) dX8_isCellVector_57 ?_
              rintro _ rfl
              show jj X 0 0 60 [(0, .int (cx a)), (1, .int (cx b)), (2, .int (cx c))] [.int (bI (tface c))] []
              refine j_if_eq C dX8_isCellVector_60 (tgt := 67) (by decide) (fun q60 => ?_) (fun q60 => ?_)
              · skip
                have q60 := (kb_eq).mp q60
                refine j_iconst C dX8_isCellVector_67 (v := (nI 0)) kc_i_0 ?_
                refine j_iretR C ro hQ (by decide +kernel) ?_ dX8_isCellVector_68
                rw [e9]
                first | (refine kb_f ?_; simp_all; done) | (refine kb_t ?_; simp_all; done)
              · skip
                have q60 := (kb_neq).mp q60
                refine j_iconst C dX8_isCellVector_63 (v := (nI 1)) kc_i_1 ?_
                refine j_goto C dX8_isCellVector_64 (tgt := 68) (by decide) ?_
                refine j_iretR C ro hQ (by decide +kernel) ?_ dX8_isCellVector_68
                rw [e9]
                first | (refine kb_f ?_; simp_all; done) | (refine kb_t ?_; simp_all; done)
        · skip
          have q32 := (kb_neq).mp q32
          refine j_iload_n C dX8_isCellVector_35 2 rfl rfl ?_
          refine j_callSR C (nA := 1) (As := [.int (cx c)]) (c_X8_isEven (xl X) (xT X) c (by omega)) gX8_isCellVector_X8_isEven rfl (by decide +kernel) rfl ⟨rfl, rfl⟩ (by decide) (by decide) [] rfl rfl (rest := []) rfl (Nat.le_of_ble_eq_true rfl) dX8_isCellVector_36 ?_
          rintro _ rfl
          show jj X 0 0 39 [(0, .int (cx a)), (1, .int (cx b)), (2, .int (cx c))] [.int (bI (c % 2 == 1))] []
          refine j_if_ne C dX8_isCellVector_39 (tgt := 63) (by decide) (fun q39 => ?_) (fun q39 => ?_)
          · skip
            have q39 := (kb_ne).mp q39
            refine j_iconst C dX8_isCellVector_63 (v := (nI 1)) kc_i_1 ?_
            refine j_goto C dX8_isCellVector_64 (tgt := 68) (by decide) ?_
            refine j_iretR C ro hQ (by decide +kernel) ?_ dX8_isCellVector_68
            rw [e9]
            first | (refine kb_f ?_; simp_all; done) | (refine kb_t ?_; simp_all; done)
          · skip
            have q39 := (kb_nne).mp q39
            refine j_iload_n C dX8_isCellVector_42 0 rfl rfl ?_
            refine j_callSR C (nA := 1) (As := [.int (cx a)]) (c_X8_isEven (xl X) (xT X) a (by omega)) gX8_isCellVector_X8_isEven rfl (by decide +kernel) rfl ⟨rfl, rfl⟩ (by decide) (by decide) [] rfl rfl (rest := []) rfl (Nat.le_of_ble_eq_true rfl) dX8_isCellVector_43 ?_
            rintro _ rfl
            show jj X 0 0 46 [(0, .int (cx a)), (1, .int (cx b)), (2, .int (cx c))] [.int (bI (a % 2 == 1))] []
            refine j_if_eq C dX8_isCellVector_46 (tgt := 67) (by decide) (fun q46 => ?_) (fun q46 => ?_)
            · skip
              have q46 := (kb_eq).mp q46
              refine j_iconst C dX8_isCellVector_67 (v := (nI 0)) kc_i_0 ?_
              refine j_iretR C ro hQ (by decide +kernel) ?_ dX8_isCellVector_68
              rw [e9]
              first | (refine kb_f ?_; simp_all; done) | (refine kb_t ?_; simp_all; done)
            · skip
              have q46 := (kb_neq).mp q46
              refine j_iload_n C dX8_isCellVector_49 1 rfl rfl ?_
              refine j_callSR C (nA := 1) (As := [.int (cx b)]) (c_X8_isEven (xl X) (xT X) b (by omega)) gX8_isCellVector_X8_isEven rfl (by decide +kernel) rfl ⟨rfl, rfl⟩ (by decide) (by decide) [] rfl rfl (rest := []) rfl (Nat.le_of_ble_eq_true rfl) dX8_isCellVector_50 ?_
              rintro _ rfl
              show jj X 0 0 53 [(0, .int (cx a)), (1, .int (cx b)), (2, .int (cx c))] [.int (bI (b % 2 == 1))] []
              refine j_if_eq C dX8_isCellVector_53 (tgt := 67) (by decide) (fun q53 => ?_) (fun q53 => ?_)
              · skip
                have q53 := (kb_eq).mp q53
                refine j_iconst C dX8_isCellVector_67 (v := (nI 0)) kc_i_0 ?_
                refine j_iretR C ro hQ (by decide +kernel) ?_ dX8_isCellVector_68
                rw [e9]
                first | (refine kb_f ?_; simp_all; done) | (refine kb_t ?_; simp_all; done)
              · skip
                have q53 := (kb_neq).mp q53
                refine j_iload_n C dX8_isCellVector_56 2 rfl rfl ?_
                refine j_callSR C (nA := 1) (As := [.int (cx c)]) (c_X8_isFace (xl X) (xT X) c (by omega)) gX8_isCellVector_X8_isFace rfl (by decide +kernel) rfl ⟨rfl, rfl⟩ (by decide) (by decide) [] rfl rfl (rest := []) rfl (Nat.le_of_ble_eq_true rfl) dX8_isCellVector_57 ?_
                rintro _ rfl
                show jj X 0 0 60 [(0, .int (cx a)), (1, .int (cx b)), (2, .int (cx c))] [.int (bI (tface c))] []
                refine j_if_eq C dX8_isCellVector_60 (tgt := 67) (by decide) (fun q60 => ?_) (fun q60 => ?_)
                · skip
                  have q60 := (kb_eq).mp q60
                  refine j_iconst C dX8_isCellVector_67 (v := (nI 0)) kc_i_0 ?_
                  refine j_iretR C ro hQ (by decide +kernel) ?_ dX8_isCellVector_68
                  rw [e9]
                  first | (refine kb_f ?_; simp_all; done) | (refine kb_t ?_; simp_all; done)
                · skip
                  have q60 := (kb_neq).mp q60
                  refine j_iconst C dX8_isCellVector_63 (v := (nI 1)) kc_i_1 ?_
                  refine j_goto C dX8_isCellVector_64 (tgt := 68) (by decide) ?_
                  refine j_iretR C ro hQ (by decide +kernel) ?_ dX8_isCellVector_68
                  rw [e9]
                  first | (refine kb_f ?_; simp_all; done) | (refine kb_t ?_; simp_all; done)
    · skip
      have q11 := (kb_neq).mp q11
      refine j_iload_n C dX8_isCellVector_14 2 rfl rfl ?_
      refine j_callSR C (nA := 1) (As := [.int (cx c)]) (c_X8_isEven (xl X) (xT X) c (by omega)) gX8_isCellVector_X8_isEven rfl (by decide +kernel) rfl ⟨rfl, rfl⟩ (by decide) (by decide) [] rfl rfl (rest := []) rfl (Nat.le_of_ble_eq_true rfl) dX8_isCellVector_15 ?_
      rintro _ rfl
      show jj X 0 0 18 [(0, .int (cx a)), (1, .int (cx b)), (2, .int (cx c))] [.int (bI (c % 2 == 1))] []
      refine j_if_ne C dX8_isCellVector_18 (tgt := 63) (by decide) (fun q18 => ?_) (fun q18 => ?_)
      · skip
        have q18 := (kb_ne).mp q18
        refine j_iconst C dX8_isCellVector_63 (v := (nI 1)) kc_i_1 ?_
        refine j_goto C dX8_isCellVector_64 (tgt := 68) (by decide) ?_
        refine j_iretR C ro hQ (by decide +kernel) ?_ dX8_isCellVector_68
        rw [e9]
        first | (refine kb_f ?_; simp_all; done) | (refine kb_t ?_; simp_all; done)
      · skip
        have q18 := (kb_nne).mp q18
        refine j_iload_n C dX8_isCellVector_21 0 rfl rfl ?_
        refine j_callSR C (nA := 1) (As := [.int (cx a)]) (c_X8_isEven (xl X) (xT X) a (by omega)) gX8_isCellVector_X8_isEven rfl (by decide +kernel) rfl ⟨rfl, rfl⟩ (by decide) (by decide) [] rfl rfl (rest := []) rfl (Nat.le_of_ble_eq_true rfl) dX8_isCellVector_22 ?_
        rintro _ rfl
        show jj X 0 0 25 [(0, .int (cx a)), (1, .int (cx b)), (2, .int (cx c))] [.int (bI (a % 2 == 1))] []
        refine j_if_eq C dX8_isCellVector_25 (tgt := 42) (by decide) (fun q25 => ?_) (fun q25 => ?_)
        · skip
          have q25 := (kb_eq).mp q25
          refine j_iload_n C dX8_isCellVector_42 0 rfl rfl ?_
          refine j_callSR C (nA := 1) (As := [.int (cx a)]) (c_X8_isEven (xl X) (xT X) a (by omega)) gX8_isCellVector_X8_isEven rfl (by decide +kernel) rfl ⟨rfl, rfl⟩ (by decide) (by decide) [] rfl rfl (rest := []) rfl (Nat.le_of_ble_eq_true rfl) dX8_isCellVector_43 ?_
          rintro _ rfl
          show jj X 0 0 46 [(0, .int (cx a)), (1, .int (cx b)), (2, .int (cx c))] [.int (bI (a % 2 == 1))] []
          refine j_if_eq C dX8_isCellVector_46 (tgt := 67) (by decide) (fun q46 => ?_) (fun q46 => ?_)
          · skip
            have q46 := (kb_eq).mp q46
            refine j_iconst C dX8_isCellVector_67 (v := (nI 0)) kc_i_0 ?_
            refine j_iretR C ro hQ (by decide +kernel) ?_ dX8_isCellVector_68
            rw [e9]
            first | (refine kb_f ?_; simp_all; done) | (refine kb_t ?_; simp_all; done)
          · skip
            have q46 := (kb_neq).mp q46
            refine j_iload_n C dX8_isCellVector_49 1 rfl rfl ?_
            refine j_callSR C (nA := 1) (As := [.int (cx b)]) (c_X8_isEven (xl X) (xT X) b (by omega)) gX8_isCellVector_X8_isEven rfl (by decide +kernel) rfl ⟨rfl, rfl⟩ (by decide) (by decide) [] rfl rfl (rest := []) rfl (Nat.le_of_ble_eq_true rfl) dX8_isCellVector_50 ?_
            rintro _ rfl
            show jj X 0 0 53 [(0, .int (cx a)), (1, .int (cx b)), (2, .int (cx c))] [.int (bI (b % 2 == 1))] []
            refine j_if_eq C dX8_isCellVector_53 (tgt := 67) (by decide) (fun q53 => ?_) (fun q53 => ?_)
            · skip
              have q53 := (kb_eq).mp q53
              refine j_iconst C dX8_isCellVector_67 (v := (nI 0)) kc_i_0 ?_
              refine j_iretR C ro hQ (by decide +kernel) ?_ dX8_isCellVector_68
              rw [e9]
              first | (refine kb_f ?_; simp_all; done) | (refine kb_t ?_; simp_all; done)
            · skip
              have q53 := (kb_neq).mp q53
              refine j_iload_n C dX8_isCellVector_56 2 rfl rfl ?_
              refine j_callSR C (nA := 1) (As := [.int (cx c)]) (c_X8_isFace (xl X) (xT X) c (by omega)) gX8_isCellVector_X8_isFace rfl (by decide +kernel) rfl ⟨rfl, rfl⟩ (by decide) (by decide) [] rfl rfl (rest := []) rfl (Nat.le_of_ble_eq_true rfl) dX8_isCellVector_57 ?_
              rintro _ rfl
              show jj X 0 0 60 [(0, .int (cx a)), (1, .int (cx b)), (2, .int (cx c))] [.int (bI (tface c))] []
              refine j_if_eq C dX8_isCellVector_60 (tgt := 67) (by decide) (fun q60 => ?_) (fun q60 => ?_)
              · skip
                have q60 := (kb_eq).mp q60
                refine j_iconst C dX8_isCellVector_67 (v := (nI 0)) kc_i_0 ?_
                refine j_iretR C ro hQ (by decide +kernel) ?_ dX8_isCellVector_68
                rw [e9]
                first | (refine kb_f ?_; simp_all; done) | (refine kb_t ?_; simp_all; done)
              · skip
                have q60 := (kb_neq).mp q60
                refine j_iconst C dX8_isCellVector_63 (v := (nI 1)) kc_i_1 ?_
                refine j_goto C dX8_isCellVector_64 (tgt := 68) (by decide) ?_
                refine j_iretR C ro hQ (by decide +kernel) ?_ dX8_isCellVector_68
                rw [e9]
                first | (refine kb_f ?_; simp_all; done) | (refine kb_t ?_; simp_all; done)
        · skip
          have q25 := (kb_neq).mp q25
          refine j_iload_n C dX8_isCellVector_28 1 rfl rfl ?_
          refine j_callSR C (nA := 1) (As := [.int (cx b)]) (c_X8_isFace (xl X) (xT X) b (by omega)) gX8_isCellVector_X8_isFace rfl (by decide +kernel) rfl ⟨rfl, rfl⟩ (by decide) (by decide) [] rfl rfl (rest := []) rfl (Nat.le_of_ble_eq_true rfl) dX8_isCellVector_29 ?_
          rintro _ rfl
          show jj X 0 0 32 [(0, .int (cx a)), (1, .int (cx b)), (2, .int (cx c))] [.int (bI (tface b))] []
          refine j_if_eq C dX8_isCellVector_32 (tgt := 42) (by decide) (fun q32 => ?_) (fun q32 => ?_)
          · skip
            have q32 := (kb_eq).mp q32
            refine j_iload_n C dX8_isCellVector_42 0 rfl rfl ?_
            refine j_callSR C (nA := 1) (As := [.int (cx a)]) (c_X8_isEven (xl X) (xT X) a (by omega)) gX8_isCellVector_X8_isEven rfl (by decide +kernel) rfl ⟨rfl, rfl⟩ (by decide) (by decide) [] rfl rfl (rest := []) rfl (Nat.le_of_ble_eq_true rfl) dX8_isCellVector_43 ?_
            rintro _ rfl
            show jj X 0 0 46 [(0, .int (cx a)), (1, .int (cx b)), (2, .int (cx c))] [.int (bI (a % 2 == 1))] []
            refine j_if_eq C dX8_isCellVector_46 (tgt := 67) (by decide) (fun q46 => ?_) (fun q46 => ?_)
            · skip
              have q46 := (kb_eq).mp q46
              refine j_iconst C dX8_isCellVector_67 (v := (nI 0)) kc_i_0 ?_
              refine j_iretR C ro hQ (by decide +kernel) ?_ dX8_isCellVector_68
              rw [e9]
              first | (refine kb_f ?_; simp_all; done) | (refine kb_t ?_; simp_all; done)
            · skip
              have q46 := (kb_neq).mp q46
              refine j_iload_n C dX8_isCellVector_49 1 rfl rfl ?_
              refine j_callSR C (nA := 1) (As := [.int (cx b)]) (c_X8_isEven (xl X) (xT X) b (by omega)) gX8_isCellVector_X8_isEven rfl (by decide +kernel) rfl ⟨rfl, rfl⟩ (by decide) (by decide) [] rfl rfl (rest := []) rfl (Nat.le_of_ble_eq_true rfl) dX8_isCellVector_50 ?_
              rintro _ rfl
              show jj X 0 0 53 [(0, .int (cx a)), (1, .int (cx b)), (2, .int (cx c))] [.int (bI (b % 2 == 1))] []
              refine j_if_eq C dX8_isCellVector_53 (tgt := 67) (by decide) (fun q53 => ?_) (fun q53 => ?_)
              · skip
                have q53 := (kb_eq).mp q53
                refine j_iconst C dX8_isCellVector_67 (v := (nI 0)) kc_i_0 ?_
                refine j_iretR C ro hQ (by decide +kernel) ?_ dX8_isCellVector_68
                rw [e9]
                first | (refine kb_f ?_; simp_all; done) | (refine kb_t ?_; simp_all; done)
              · skip
                have q53 := (kb_neq).mp q53
                refine j_iload_n C dX8_isCellVector_56 2 rfl rfl ?_
                refine j_callSR C (nA := 1) (As := [.int (cx c)]) (c_X8_isFace (xl X) (xT X) c (by omega)) gX8_isCellVector_X8_isFace rfl (by decide +kernel) rfl ⟨rfl, rfl⟩ (by decide) (by decide) [] rfl rfl (rest := []) rfl (Nat.le_of_ble_eq_true rfl) dX8_isCellVector_57 ?_
                rintro _ rfl
                show jj X 0 0 60 [(0, .int (cx a)), (1, .int (cx b)), (2, .int (cx c))] [.int (bI (tface c))] []
                refine j_if_eq C dX8_isCellVector_60 (tgt := 67) (by decide) (fun q60 => ?_) (fun q60 => ?_)
                · skip
                  have q60 := (kb_eq).mp q60
                  refine j_iconst C dX8_isCellVector_67 (v := (nI 0)) kc_i_0 ?_
                  refine j_iretR C ro hQ (by decide +kernel) ?_ dX8_isCellVector_68
                  rw [e9]
                  first | (refine kb_f ?_; simp_all; done) | (refine kb_t ?_; simp_all; done)
                · skip
                  have q60 := (kb_neq).mp q60
                  refine j_iconst C dX8_isCellVector_63 (v := (nI 1)) kc_i_1 ?_
                  refine j_goto C dX8_isCellVector_64 (tgt := 68) (by decide) ?_
                  refine j_iretR C ro hQ (by decide +kernel) ?_ dX8_isCellVector_68
                  rw [e9]
                  first | (refine kb_f ?_; simp_all; done) | (refine kb_t ?_; simp_all; done)
          · skip
            have q32 := (kb_neq).mp q32
            refine j_iload_n C dX8_isCellVector_35 2 rfl rfl ?_
            refine j_callSR C (nA := 1) (As := [.int (cx c)]) (c_X8_isEven (xl X) (xT X) c (by omega)) gX8_isCellVector_X8_isEven rfl (by decide +kernel) rfl ⟨rfl, rfl⟩ (by decide) (by decide) [] rfl rfl (rest := []) rfl (Nat.le_of_ble_eq_true rfl) dX8_isCellVector_36 ?_
            rintro _ rfl
            show jj X 0 0 39 [(0, .int (cx a)), (1, .int (cx b)), (2, .int (cx c))] [.int (bI (c % 2 == 1))] []
            refine j_if_ne C dX8_isCellVector_39 (tgt := 63) (by decide) (fun q39 => ?_) (fun q39 => ?_)
            · skip
              have q39 := (kb_ne).mp q39
              refine j_iconst C dX8_isCellVector_63 (v := (nI 1)) kc_i_1 ?_
              refine j_goto C dX8_isCellVector_64 (tgt := 68) (by decide) ?_
              refine j_iretR C ro hQ (by decide +kernel) ?_ dX8_isCellVector_68
              rw [e9]
              first | (refine kb_f ?_; simp_all; done) | (refine kb_t ?_; simp_all; done)
            · skip
              have q39 := (kb_nne).mp q39
              refine j_iload_n C dX8_isCellVector_42 0 rfl rfl ?_
              refine j_callSR C (nA := 1) (As := [.int (cx a)]) (c_X8_isEven (xl X) (xT X) a (by omega)) gX8_isCellVector_X8_isEven rfl (by decide +kernel) rfl ⟨rfl, rfl⟩ (by decide) (by decide) [] rfl rfl (rest := []) rfl (Nat.le_of_ble_eq_true rfl) dX8_isCellVector_43 ?_
              rintro _ rfl
              show jj X 0 0 46 [(0, .int (cx a)), (1, .int (cx b)), (2, .int (cx c))] [.int (bI (a % 2 == 1))] []
              refine j_if_eq C dX8_isCellVector_46 (tgt := 67) (by decide) (fun q46 => ?_) (fun q46 => ?_)
              · skip
                have q46 := (kb_eq).mp q46
                refine j_iconst C dX8_isCellVector_67 (v := (nI 0)) kc_i_0 ?_
                refine j_iretR C ro hQ (by decide +kernel) ?_ dX8_isCellVector_68
                rw [e9]
                first | (refine kb_f ?_; simp_all; done) | (refine kb_t ?_; simp_all; done)
              · skip
                have q46 := (kb_neq).mp q46
                refine j_iload_n C dX8_isCellVector_49 1 rfl rfl ?_
                refine j_callSR C (nA := 1) (As := [.int (cx b)]) (c_X8_isEven (xl X) (xT X) b (by omega)) gX8_isCellVector_X8_isEven rfl (by decide +kernel) rfl ⟨rfl, rfl⟩ (by decide) (by decide) [] rfl rfl (rest := []) rfl (Nat.le_of_ble_eq_true rfl) dX8_isCellVector_50 ?_
                rintro _ rfl
                show jj X 0 0 53 [(0, .int (cx a)), (1, .int (cx b)), (2, .int (cx c))] [.int (bI (b % 2 == 1))] []
                refine j_if_eq C dX8_isCellVector_53 (tgt := 67) (by decide) (fun q53 => ?_) (fun q53 => ?_)
                · skip
                  have q53 := (kb_eq).mp q53
                  refine j_iconst C dX8_isCellVector_67 (v := (nI 0)) kc_i_0 ?_
                  refine j_iretR C ro hQ (by decide +kernel) ?_ dX8_isCellVector_68
                  rw [e9]
                  first | (refine kb_f ?_; simp_all; done) | (refine kb_t ?_; simp_all; done)
                · skip
                  have q53 := (kb_neq).mp q53
                  refine j_iload_n C dX8_isCellVector_56 2 rfl rfl ?_
                  refine j_callSR C (nA := 1) (As := [.int (cx c)]) (c_X8_isFace (xl X) (xT X) c (by omega)) gX8_isCellVector_X8_isFace rfl (by decide +kernel) rfl ⟨rfl, rfl⟩ (by decide) (by decide) [] rfl rfl (rest := []) rfl (Nat.le_of_ble_eq_true rfl) dX8_isCellVector_57 ?_
                  rintro _ rfl
                  show jj X 0 0 60 [(0, .int (cx a)), (1, .int (cx b)), (2, .int (cx c))] [.int (bI (tface c))] []
                  refine j_if_eq C dX8_isCellVector_60 (tgt := 67) (by decide) (fun q60 => ?_) (fun q60 => ?_)
                  · skip
                    have q60 := (kb_eq).mp q60
                    refine j_iconst C dX8_isCellVector_67 (v := (nI 0)) kc_i_0 ?_
                    refine j_iretR C ro hQ (by decide +kernel) ?_ dX8_isCellVector_68
                    rw [e9]
                    first | (refine kb_f ?_; simp_all; done) | (refine kb_t ?_; simp_all; done)
                  · skip
                    have q60 := (kb_neq).mp q60
                    refine j_iconst C dX8_isCellVector_63 (v := (nI 1)) kc_i_1 ?_
                    refine j_goto C dX8_isCellVector_64 (tgt := 68) (by decide) ?_
                    refine j_iretR C ro hQ (by decide +kernel) ?_ dX8_isCellVector_68
                    rw [e9]
                    first | (refine kb_f ?_; simp_all; done) | (refine kb_t ?_; simp_all; done)

set_option maxHeartbeats 4000000 in
set_option maxRecDepth 100000 in
/-- copy(from, to) -/
theorem c_X8_copy (l : Launch) (T : jj_T) (r0 r1 : Nat) (f g : Nat → Int32) : jM l T yX8_copy wsX8_copy { frames := 0, cells := 0, slots := 0, locals := 0 } [.ref r0, .ref r1] [(r0, cI T 37 f), (r1, cI T 37 g)] (fun v w1 => v = none ∧ w1 = [(r0, cI T 37 f), (r1, cI T 37 f)]) := by
  refine jM.of (cc := cX8_copy) (maxL := 3) (ret := none) (by decide) rfl (Nat.le_of_ble_eq_true rfl) ?_
  intro X C rw_ hl hT hQ hnm
  subst hl; subst hT
  show jj X 0 0 0 [(0, .ref r0), (1, .ref r1)] [] [(r0, cI (xT X) 37 f), (r1, cI (xT X) 37 g)]
  refine j_iconst C dX8_copy_0 (v := (nI 0)) kc_i_0 ?_
  refine j_istore_n C dX8_copy_1 rfl (by decide) (lv' := [(2, .int (nI 0)), (0, .ref r0), (1, .ref r1)]) rfl ?_
  refine j_lv [1, 2, 0] rfl ?_
  suffices hc2 : ∀ (mm : Nat) (k : Nat) (g : Nat → Int32), 37 - k < mm → (k ≤ 37) → (∀ j, j < k → g j = f j) → jj X 0 0 2 [(0, .ref r0), (1, .ref r1), (2, .int (nI k))] [] [(r0, cI (xT X) 37 f), (r1, cI (xT X) 37 g)] by
    refine hc2 _ _ _ (Nat.lt_succ_self _) ?_ ?_
    · omega
    · intro j hj; omega
  intro mm
  induction mm with
  | zero => intro k g hm; exact absurd hm (Nat.not_lt_zero _)
  | succ mm ih2 =>
    intro k g hm2 hk hg
    refine j_iload_n C dX8_copy_2 2 rfl rfl ?_
    refine j_bipush C dX8_copy_3 (v := (nI 37)) kc_b_37 ?_
    refine j_icmp_ge C dX8_copy_5 (tgt := 20) (by decide) (fun q5 => ?_) (fun q5 => ?_)
    · skip
      have q5 := (kn_ge (a := k) (b := 37) (by omega) (by omega)).mp q5
      refine j_extI C f 1 rfl (fun j hj => ?_) (w' := [(r0, cI (xT X) 37 f), (r1, cI (xT X) 37 f)]) rfl ?_
      · exact hg j (by omega)
      refine j_vretM C rw_ hQ (by decide) (by decide) ?_ dX8_copy_20
      exact ⟨rfl, rfl⟩
    · skip
      have q5 := (kn_nge (a := k) (b := 37) (by omega) (by omega)).mp q5
      refine j_aload_n C dX8_copy_8 1 rfl rfl ?_
      refine j_iload_n C dX8_copy_9 2 rfl rfl ?_
      refine j_aload_n C dX8_copy_10 0 rfl rfl ?_
      refine j_iload_n C dX8_copy_11 2 rfl rfl ?_
      refine j_ialoadN C k rfl 0 rfl (by omega) (by decide) dX8_copy_12 ?_
      refine j_iastoreN C rw_ k rfl 1 rfl (by omega) (by decide) (w' := [(r0, cI (xT X) 37 f), (r1, cI (xT X) 37 (upd g k (f k)))]) rfl dX8_copy_13 ?_
      refine j_iinc C dX8_copy_14 (q := 2) (v := (nI (k + 1))) rfl (kc_inc k) (by decide) (lv' := [(2, .int (nI (k + 1))), (0, .ref r0), (1, .ref r1)]) rfl ?_
      refine j_goto C dX8_copy_17 (tgt := 2) (by decide) ?_
      refine j_lv [1, 2, 0] rfl ?_
      refine ih2 _ _ (by omega) ?_ ?_
      · omega
      · intro j hj; unfold upd
        by_cases h : j = k
        · rw [if_pos h, h]
        · rw [if_neg h]; exact hg j (by omega)

set_option maxHeartbeats 4000000 in
set_option maxRecDepth 100000 in
/-- directionOf(row, o, i, t) -/
theorem c_X8_directionOf (l : Launch) (T : jj_T) (r0 o k tm : Nat) (g : Nat → Int32) (ho : o < 3) (hk : k < 3) : jR l T yX8_directionOf wsX8_directionOf { frames := 0, cells := 0, slots := 0, locals := 0 } [.ref r0, .int (nI o), .int (nI k), .int (nI tm)] [(r0, cI T 37 g)] (fun v => v = some (.int (st_aim g o k tm))) := by
  refine jR.of (cc := cX8_directionOf) (maxL := 4) (ret := (some .int)) (by decide) rfl (Nat.le_of_ble_eq_true rfl) ?_
  intro X C ro hl hT hQ
  subst hl; subst hT
  show jj X 0 0 0 [(0, .ref r0), (1, .int (nI o)), (2, .int (nI k)), (3, .int (nI tm))] [] [(r0, cI (xT X) 37 g)]
  refine j_aload_n C dX8_directionOf_0 0 rfl rfl ?_
  refine j_bipush C dX8_directionOf_1 (v := (nI 7)) kc_b_7 ?_
  refine j_iload_n C dX8_directionOf_3 1 rfl rfl ?_
  refine j_imul C dX8_directionOf_4 (v := (nI (7 * o))) (pk_mul _ _) ?_
  refine j_iload_n C dX8_directionOf_5 2 rfl rfl ?_
  refine j_iadd C dX8_directionOf_6 (v := (nI (7 * o + k))) (nI_add _ _) ?_
  refine j_ialoadN C (7 * o + k) rfl 0 rfl (by omega) (by decide) dX8_directionOf_7 ?_
  refine j_iload_n C dX8_directionOf_8 3 rfl rfl ?_
  refine j_aload_n C dX8_directionOf_9 0 rfl rfl ?_
  refine j_bipush C dX8_directionOf_10 (v := (nI 7)) kc_b_7 ?_
  refine j_iload_n C dX8_directionOf_12 1 rfl rfl ?_
  refine j_imul C dX8_directionOf_13 (v := (nI (7 * o))) (pk_mul _ _) ?_
  refine j_iconst C dX8_directionOf_14 (v := (nI 3)) kc_i_3 ?_
  refine j_iadd C dX8_directionOf_15 (v := (nI (7 * o + 3))) (nI_add _ _) ?_
  refine j_iload_n C dX8_directionOf_16 2 rfl rfl ?_
  refine j_iadd C dX8_directionOf_17 (v := (nI (7 * o + 3 + k))) (nI_add _ _) ?_
  refine j_ialoadN C (7 * o + 3 + k) rfl 0 rfl (by omega) (by decide) dX8_directionOf_18 ?_
  refine j_imul C dX8_directionOf_19 (v := ((nI tm) * (g (7 * o + 3 + k)))) rfl ?_
  refine j_iadd C dX8_directionOf_20 (v := ((g (7 * o + k)) + ((nI tm) * (g (7 * o + 3 + k))))) rfl ?_
  refine j_iretR C ro hQ rfl ?_ dX8_directionOf_21
  unfold st_aim; rw [show 7 * o + k + 3 = 7 * o + 3 + k by omega]

set_option maxHeartbeats 4000000 in
set_option maxRecDepth 100000 in
/-- productOf(row, c, o, t) -/
theorem c_X8_productOf (l : Launch) (T : jj_T) (h8 rv rn rnw rt rd rk rik rdk rre rle rhe rth rpa ror na nx : Nat) (rf bv bo : Int32) (r0 c o tm : Nat) (g : Nat → Int32) (hc : c < 150) (ho : o < 3) : jR l T yX8_productOf wsX8_productOf { frames := 1, cells := 0, slots := 0, locals := 23 } [.ref h8, .ref r0, .int (nI c), .int (nI o), .int (nI tm)] [(h8, cO 8 [.int rf, .ref rv, .ref rn, .ref rnw, .ref rt, .ref rd, .int (nI na), .int (nI nx), .ref rk, .ref rik, .ref rdk, .ref rre, .ref rle, .ref rhe, .ref rth, .ref rpa, .ref ror, .int bv, .int bo]), (rv, cI T 450 cvec), (r0, cI T 37 g)] (fun v => v = some (.int (dotA g c o tm))) := by
  refine jR.of (cc := cX8_productOf) (maxL := 7) (ret := (some .int)) (by decide) rfl (Nat.le_of_ble_eq_true rfl) ?_
  intro X C ro hl hT hQ
  subst hl; subst hT
  have hin8 : ∀ w ∈ u_ws RX8 TX8 19, w ∈ wsX8_productOf := by decide +kernel
  have hl7 : Cond.fieldLink RX8 7 (TX8 1).1 (TX8 1).2.1 (TX8 1).2.2.1 ∈ wsX8_productOf := by decide +kernel
  show jj X 0 0 0 [(0, .ref h8), (1, .ref r0), (2, .int (nI c)), (3, .int (nI o)), (4, .int (nI tm))] [] [(h8, cO 8 [.int rf, .ref rv, .ref rn, .ref rnw, .ref rt, .ref rd, .int (nI na), .int (nI nx), .ref rk, .ref rik, .ref rdk, .ref rre, .ref rle, .ref rhe, .ref rth, .ref rpa, .ref ror, .int bv, .int bo]), (rv, cI (xT X) 450 cvec), (r0, cI (xT X) 37 g)]
  refine j_iconst C dX8_productOf_0 (v := (nI 0)) kc_i_0 ?_
  refine j_istore C dX8_productOf_1 (by decide) (lv' := [(5, .int (nI 0)), (0, .ref h8), (1, .ref r0), (2, .int (nI c)), (3, .int (nI o)), (4, .int (nI tm))]) rfl ?_
  refine j_iconst C dX8_productOf_3 (v := (nI 0)) kc_i_0 ?_
  refine j_istore C dX8_productOf_4 (by decide) (lv' := [(6, .int (nI 0)), (5, .int (nI 0)), (0, .ref h8), (1, .ref r0), (2, .int (nI c)), (3, .int (nI o)), (4, .int (nI tm))]) rfl ?_
  refine j_lv [2, 3, 4, 5, 6, 1, 0] rfl ?_
  suffices hc6 : ∀ (mm : Nat) (i : Nat) (s9 : Int32), 3 - i < mm → (i ≤ 3) → (s9 = sm3 (fun k => cvec (3 * c + k) * st_aim g o k tm) i) → jj X 0 0 6 [(0, .ref h8), (1, .ref r0), (2, .int (nI c)), (3, .int (nI o)), (4, .int (nI tm)), (5, .int s9), (6, .int (nI i))] [] [(h8, cO 8 [.int rf, .ref rv, .ref rn, .ref rnw, .ref rt, .ref rd, .int (nI na), .int (nI nx), .ref rk, .ref rik, .ref rdk, .ref rre, .ref rle, .ref rhe, .ref rth, .ref rpa, .ref ror, .int bv, .int bo]), (rv, cI (xT X) 450 cvec), (r0, cI (xT X) 37 g)] by
    refine hc6 _ _ _ (Nat.lt_succ_self _) ?_ ?_
    · omega
    · rfl
  intro mm
  induction mm with
  | zero => intro i s9 hm; exact absurd hm (Nat.not_lt_zero _)
  | succ mm ih6 =>
    intro i s9 hm6 hi hs
    refine j_iload C dX8_productOf_6 6 rfl ?_
    refine j_iconst C dX8_productOf_8 (v := (nI 3)) kc_i_3 ?_
    refine j_icmp_ge C dX8_productOf_9 (tgt := 44) (by decide) (fun q9 => ?_) (fun q9 => ?_)
    · skip
      have q9 := (kn_ge (a := i) (b := 3) (by omega) (by omega)).mp q9
      refine j_iload C dX8_productOf_44 5 rfl ?_
      refine j_iretR C ro hQ rfl ?_ dX8_productOf_46
      rw [hs, show i = 3 by omega, sm3_3]; rfl
    · skip
      have q9 := (kn_nge (a := i) (b := 3) (by omega) (by omega)).mp q9
      refine j_iload C dX8_productOf_12 5 rfl ?_
      refine j_aload_n C dX8_productOf_14 0 rfl rfl ?_
      refine j_get C (hin8) (ci := 8) rfl 1 (by decide) (hl7) 0 rfl (v := .ref rv) rfl dX8_productOf_15 ?_
      refine j_iconst C dX8_productOf_18 (v := (nI 3)) kc_i_3 ?_
      refine j_iload_n C dX8_productOf_19 2 rfl rfl ?_
      refine j_imul C dX8_productOf_20 (v := (nI (3 * c))) (pk_mul _ _) ?_
      refine j_iload C dX8_productOf_21 6 rfl ?_
      refine j_iadd C dX8_productOf_23 (v := (nI (3 * c + i))) (nI_add _ _) ?_
      refine j_ialoadN C (3 * c + i) rfl 1 rfl (by omega) (by decide) dX8_productOf_24 ?_
      refine j_aload_n C dX8_productOf_25 1 rfl rfl ?_
      refine j_iload_n C dX8_productOf_26 3 rfl rfl ?_
      refine j_iload C dX8_productOf_27 6 rfl ?_
      refine j_iload C dX8_productOf_29 4 rfl ?_
      refine j_callSR C (nA := 4) (As := [.ref r0, .int (nI o), .int (nI i), .int (nI tm)]) (c_X8_directionOf (xl X) (xT X) r0 o i tm g (by omega) (by omega)) gX8_productOf_X8_directionOf rfl (by decide +kernel) rfl ⟨rfl, rfl⟩ (by decide) (by decide) [2] rfl rfl (rest := [.int (cvec (3 * c + i)), .int s9]) rfl (Nat.le_of_ble_eq_true rfl) dX8_productOf_31 ?_
      rintro _ rfl
      show jj X 0 0 34 [(0, .ref h8), (1, .ref r0), (2, .int (nI c)), (3, .int (nI o)), (4, .int (nI tm)), (5, .int s9), (6, .int (nI i))] [.int (st_aim g o i tm), .int (cvec (3 * c + i)), .int s9] [(h8, cO 8 [.int rf, .ref rv, .ref rn, .ref rnw, .ref rt, .ref rd, .int (nI na), .int (nI nx), .ref rk, .ref rik, .ref rdk, .ref rre, .ref rle, .ref rhe, .ref rth, .ref rpa, .ref ror, .int bv, .int bo]), (rv, cI (xT X) 450 cvec), (r0, cI (xT X) 37 g)]
      refine j_imul C dX8_productOf_34 (v := ((cvec (3 * c + i)) * (st_aim g o i tm))) rfl ?_
      refine j_iadd C dX8_productOf_35 (v := (s9 + ((cvec (3 * c + i)) * (st_aim g o i tm)))) rfl ?_
      refine j_istore C dX8_productOf_36 (by decide) (lv' := [(5, .int (s9 + ((cvec (3 * c + i)) * (st_aim g o i tm)))), (0, .ref h8), (1, .ref r0), (2, .int (nI c)), (3, .int (nI o)), (4, .int (nI tm)), (6, .int (nI i))]) rfl ?_
      refine j_iinc C dX8_productOf_38 (q := 6) (v := (nI (i + 1))) rfl (kc_inc i) (by decide) (lv' := [(6, .int (nI (i + 1))), (5, .int (s9 + ((cvec (3 * c + i)) * (st_aim g o i tm)))), (0, .ref h8), (1, .ref r0), (2, .int (nI c)), (3, .int (nI o)), (4, .int (nI tm))]) rfl ?_
      refine j_goto C dX8_productOf_41 (tgt := 6) (by decide) ?_
      refine j_lv [2, 3, 4, 5, 6, 1, 0] rfl ?_
      refine ih6 _ _ (by omega) ?_ ?_
      · omega
      · rw [hs]; rfl

set_option maxHeartbeats 4000000 in
set_option maxRecDepth 100000 in
/-- squareOf(row, o, t) -/
theorem c_X8_squareOf (l : Launch) (T : jj_T) (r0 o tm : Nat) (g : Nat → Int32) (ho : o < 3) : jR l T yX8_squareOf wsX8_squareOf { frames := 1, cells := 0, slots := 0, locals := 23 } [.ref r0, .int (nI o), .int (nI tm)] [(r0, cI T 37 g)] (fun v => v = some (.int (sqA g o tm))) := by
  refine jR.of (cc := cX8_squareOf) (maxL := 6) (ret := (some .int)) (by decide) rfl (Nat.le_of_ble_eq_true rfl) ?_
  intro X C ro hl hT hQ
  subst hl; subst hT
  show jj X 0 0 0 [(0, .ref r0), (1, .int (nI o)), (2, .int (nI tm))] [] [(r0, cI (xT X) 37 g)]
  refine j_iconst C dX8_squareOf_0 (v := (nI 0)) kc_i_0 ?_
  refine j_istore_n C dX8_squareOf_1 rfl (by decide) (lv' := [(3, .int (nI 0)), (0, .ref r0), (1, .int (nI o)), (2, .int (nI tm))]) rfl ?_
  refine j_iconst C dX8_squareOf_2 (v := (nI 0)) kc_i_0 ?_
  refine j_istore C dX8_squareOf_3 (by decide) (lv' := [(4, .int (nI 0)), (3, .int (nI 0)), (0, .ref r0), (1, .int (nI o)), (2, .int (nI tm))]) rfl ?_
  refine j_lv [2, 3, 4, 1, 0] rfl ?_
  suffices hc5 : ∀ (mm : Nat) (i : Nat) (s9 : Int32), 3 - i < mm → (i ≤ 3) → (s9 = sm3 (fun k => st_aim g o k tm * st_aim g o k tm) i) → jj X 0 0 5 [(0, .ref r0), (1, .int (nI o)), (2, .int (nI tm)), (3, .int s9), (4, .int (nI i))] [] [(r0, cI (xT X) 37 g)] by
    refine hc5 _ _ _ (Nat.lt_succ_self _) ?_ ?_
    · omega
    · rfl
  intro mm
  induction mm with
  | zero => intro i s9 hm; exact absurd hm (Nat.not_lt_zero _)
  | succ mm ih5 =>
    intro i s9 hm5 hi hs
    refine j_iload C dX8_squareOf_5 4 rfl ?_
    refine j_iconst C dX8_squareOf_7 (v := (nI 3)) kc_i_3 ?_
    refine j_icmp_ge C dX8_squareOf_8 (tgt := 35) (by decide) (fun q8 => ?_) (fun q8 => ?_)
    · skip
      have q8 := (kn_ge (a := i) (b := 3) (by omega) (by omega)).mp q8
      refine j_iload_n C dX8_squareOf_35 3 rfl rfl ?_
      refine j_iretR C ro hQ rfl ?_ dX8_squareOf_36
      rw [hs, show i = 3 by omega, sm3_3]; rfl
    · skip
      have q8 := (kn_nge (a := i) (b := 3) (by omega) (by omega)).mp q8
      refine j_aload_n C dX8_squareOf_11 0 rfl rfl ?_
      refine j_iload_n C dX8_squareOf_12 1 rfl rfl ?_
      refine j_iload C dX8_squareOf_13 4 rfl ?_
      refine j_iload_n C dX8_squareOf_15 2 rfl rfl ?_
      refine j_callSR C (nA := 4) (As := [.ref r0, .int (nI o), .int (nI i), .int (nI tm)]) (c_X8_directionOf (xl X) (xT X) r0 o i tm g (by omega) (by omega)) gX8_squareOf_X8_directionOf rfl (by decide +kernel) rfl ⟨rfl, rfl⟩ (by decide) (by decide) [0] rfl rfl (rest := []) rfl (Nat.le_of_ble_eq_true rfl) dX8_squareOf_16 ?_
      rintro _ rfl
      show jj X 0 0 19 [(0, .ref r0), (1, .int (nI o)), (2, .int (nI tm)), (3, .int s9), (4, .int (nI i))] [.int (st_aim g o i tm)] [(r0, cI (xT X) 37 g)]
      refine j_istore C dX8_squareOf_19 (by decide) (lv' := [(5, .int (st_aim g o i tm)), (0, .ref r0), (1, .int (nI o)), (2, .int (nI tm)), (3, .int s9), (4, .int (nI i))]) rfl ?_
      refine j_iload_n C dX8_squareOf_21 4 rfl rfl ?_
      refine j_iload C dX8_squareOf_22 0 rfl ?_
      refine j_iload C dX8_squareOf_24 0 rfl ?_
      refine j_imul C dX8_squareOf_26 (v := ((st_aim g o i tm) * (st_aim g o i tm))) rfl ?_
      refine j_iadd C dX8_squareOf_27 (v := (s9 + ((st_aim g o i tm) * (st_aim g o i tm)))) rfl ?_
      refine j_istore_n C dX8_squareOf_28 rfl (by decide) (lv' := [(3, .int (s9 + ((st_aim g o i tm) * (st_aim g o i tm)))), (5, .int (st_aim g o i tm)), (0, .ref r0), (1, .int (nI o)), (2, .int (nI tm)), (4, .int (nI i))]) rfl ?_
      refine j_iinc C dX8_squareOf_29 (q := 5) (v := (nI (i + 1))) rfl (kc_inc i) (by decide) (lv' := [(4, .int (nI (i + 1))), (3, .int (s9 + ((st_aim g o i tm) * (st_aim g o i tm)))), (5, .int (st_aim g o i tm)), (0, .ref r0), (1, .int (nI o)), (2, .int (nI tm))]) rfl ?_
      refine j_goto C dX8_squareOf_32 (tgt := 5) (by decide) ?_
      refine j_lv [3, 4, 5, 1, 0] rfl ?_
      refine ih5 _ _ (by omega) ?_ ?_
      · omega
      · rw [hs]; rfl

set_option maxHeartbeats 4000000 in
set_option maxRecDepth 100000 in
/-- squareOfCell(c) -/
theorem c_X8_squareOfCell (l : Launch) (T : jj_T) (h8 rv rn rnw rt rd rk rik rdk rre rle rhe rth rpa ror na nx : Nat) (rf bv bo : Int32) (c : Nat) (hc : c < 150) : jR l T yX8_squareOfCell wsX8_squareOfCell { frames := 0, cells := 0, slots := 0, locals := 0 } [.ref h8, .int (nI c)] [(h8, cO 8 [.int rf, .ref rv, .ref rn, .ref rnw, .ref rt, .ref rd, .int (nI na), .int (nI nx), .ref rk, .ref rik, .ref rdk, .ref rre, .ref rle, .ref rhe, .ref rth, .ref rpa, .ref ror, .int bv, .int bo]), (rv, cI T 450 cvec)] (fun v => v = some (.int (csq c))) := by
  refine jR.of (cc := cX8_squareOfCell) (maxL := 4) (ret := (some .int)) (by decide) rfl (Nat.le_of_ble_eq_true rfl) ?_
  intro X C ro hl hT hQ
  subst hl; subst hT
  have hin8 : ∀ w ∈ u_ws RX8 TX8 19, w ∈ wsX8_squareOfCell := by decide +kernel
  have hl7 : Cond.fieldLink RX8 7 (TX8 1).1 (TX8 1).2.1 (TX8 1).2.2.1 ∈ wsX8_squareOfCell := by decide +kernel
  show jj X 0 0 0 [(0, .ref h8), (1, .int (nI c))] [] [(h8, cO 8 [.int rf, .ref rv, .ref rn, .ref rnw, .ref rt, .ref rd, .int (nI na), .int (nI nx), .ref rk, .ref rik, .ref rdk, .ref rre, .ref rle, .ref rhe, .ref rth, .ref rpa, .ref ror, .int bv, .int bo]), (rv, cI (xT X) 450 cvec)]
  refine j_iconst C dX8_squareOfCell_0 (v := (nI 0)) kc_i_0 ?_
  refine j_istore_n C dX8_squareOfCell_1 rfl (by decide) (lv' := [(2, .int (nI 0)), (0, .ref h8), (1, .int (nI c))]) rfl ?_
  refine j_iconst C dX8_squareOfCell_2 (v := (nI 0)) kc_i_0 ?_
  refine j_istore_n C dX8_squareOfCell_3 rfl (by decide) (lv' := [(3, .int (nI 0)), (2, .int (nI 0)), (0, .ref h8), (1, .int (nI c))]) rfl ?_
  refine j_lv [2, 3, 1, 0] rfl ?_
  suffices hc4 : ∀ (mm : Nat) (i : Nat) (s9 : Int32), 3 - i < mm → (i ≤ 3) → (s9 = sm3 (fun k => cvec (3 * c + k) * cvec (3 * c + k)) i) → jj X 0 0 4 [(0, .ref h8), (1, .int (nI c)), (2, .int s9), (3, .int (nI i))] [] [(h8, cO 8 [.int rf, .ref rv, .ref rn, .ref rnw, .ref rt, .ref rd, .int (nI na), .int (nI nx), .ref rk, .ref rik, .ref rdk, .ref rre, .ref rle, .ref rhe, .ref rth, .ref rpa, .ref ror, .int bv, .int bo]), (rv, cI (xT X) 450 cvec)] by
    refine hc4 _ _ _ (Nat.lt_succ_self _) ?_ ?_
    · omega
    · rfl
  intro mm
  induction mm with
  | zero => intro i s9 hm; exact absurd hm (Nat.not_lt_zero _)
  | succ mm ih4 =>
    intro i s9 hm4 hi hs
    refine j_iload_n C dX8_squareOfCell_4 3 rfl rfl ?_
    refine j_iconst C dX8_squareOfCell_5 (v := (nI 3)) kc_i_3 ?_
    refine j_icmp_ge C dX8_squareOfCell_6 (tgt := 39) (by decide) (fun q6 => ?_) (fun q6 => ?_)
    · skip
      have q6 := (kn_ge (a := i) (b := 3) (by omega) (by omega)).mp q6
      refine j_iload_n C dX8_squareOfCell_39 2 rfl rfl ?_
      refine j_iretR C ro hQ rfl ?_ dX8_squareOfCell_40
      rw [hs, show i = 3 by omega, sm3_3]; rfl
    · skip
      have q6 := (kn_nge (a := i) (b := 3) (by omega) (by omega)).mp q6
      refine j_iload_n C dX8_squareOfCell_9 2 rfl rfl ?_
      refine j_aload_n C dX8_squareOfCell_10 0 rfl rfl ?_
      refine j_get C (hin8) (ci := 8) rfl 1 (by decide) (hl7) 0 rfl (v := .ref rv) rfl dX8_squareOfCell_11 ?_
      refine j_iconst C dX8_squareOfCell_14 (v := (nI 3)) kc_i_3 ?_
      refine j_iload_n C dX8_squareOfCell_15 1 rfl rfl ?_
      refine j_imul C dX8_squareOfCell_16 (v := (nI (3 * c))) (pk_mul _ _) ?_
      refine j_iload_n C dX8_squareOfCell_17 3 rfl rfl ?_
      refine j_iadd C dX8_squareOfCell_18 (v := (nI (3 * c + i))) (nI_add _ _) ?_
      refine j_ialoadN C (3 * c + i) rfl 1 rfl (by omega) (by decide) dX8_squareOfCell_19 ?_
      refine j_aload_n C dX8_squareOfCell_20 0 rfl rfl ?_
      refine j_get C (hin8) (ci := 8) rfl 1 (by decide) (hl7) 0 rfl (v := .ref rv) rfl dX8_squareOfCell_21 ?_
      refine j_iconst C dX8_squareOfCell_24 (v := (nI 3)) kc_i_3 ?_
      refine j_iload_n C dX8_squareOfCell_25 1 rfl rfl ?_
      refine j_imul C dX8_squareOfCell_26 (v := (nI (3 * c))) (pk_mul _ _) ?_
      refine j_iload_n C dX8_squareOfCell_27 3 rfl rfl ?_
      refine j_iadd C dX8_squareOfCell_28 (v := (nI (3 * c + i))) (nI_add _ _) ?_
      refine j_ialoadN C (3 * c + i) rfl 1 rfl (by omega) (by decide) dX8_squareOfCell_29 ?_
      refine j_imul C dX8_squareOfCell_30 (v := ((cvec (3 * c + i)) * (cvec (3 * c + i)))) rfl ?_
      refine j_iadd C dX8_squareOfCell_31 (v := (s9 + ((cvec (3 * c + i)) * (cvec (3 * c + i))))) rfl ?_
      refine j_istore_n C dX8_squareOfCell_32 rfl (by decide) (lv' := [(2, .int (s9 + ((cvec (3 * c + i)) * (cvec (3 * c + i))))), (0, .ref h8), (1, .int (nI c)), (3, .int (nI i))]) rfl ?_
      refine j_iinc C dX8_squareOfCell_33 (q := 3) (v := (nI (i + 1))) rfl (kc_inc i) (by decide) (lv' := [(3, .int (nI (i + 1))), (2, .int (s9 + ((cvec (3 * c + i)) * (cvec (3 * c + i))))), (0, .ref h8), (1, .int (nI c))]) rfl ?_
      refine j_goto C dX8_squareOfCell_36 (tgt := 4) (by decide) ?_
      refine j_lv [2, 3, 1, 0] rfl ?_
      refine ih4 _ _ (by omega) ?_ ?_
      · omega
      · rw [hs]; rfl
