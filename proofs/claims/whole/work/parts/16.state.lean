/-! STATE: clock c, position p, shutter s, requests t; objects ob (21 numbers), requests rq (12 numbers) -/
def st_ob0 : Nat → Int32 := fun j => if j = 0 ∨ j = 8 ∨ j = 16 then 1 else 0
def st_aim (ob : Nat → Int32) (o k t : Nat) : Int32 := ob (7 * o + k) + nI t * ob (7 * o + k + 3)
def st_drop (rq : Nat → Int32) (i t : Nat) : Nat → Int32 := fun j => if 3 * i ≤ j ∧ j < 3 * (t - 1) then rq (j + 3) else rq j
set_option maxHeartbeats 4000000 in
set_option maxRecDepth 100000 in
/-- State() -/
theorem c_X6_init (l : Launch) (T : jj_T) (h0 : Nat) : jM l T yX6_init wsX6_init { frames := 1, cells := 2, slots := 33, locals := 20 } [.ref h0] [(h0, cO 6 [.int (nI 0), .int (nI 0), .int (bI false), .int (nI 0), .null, .null])] (fun v w1 => ∃ qo : Nat, ∃ qr : Nat, v = none ∧ w1 = [(h0, cO 6 [.int (nI 0), .int (nI 0), .int (bI false), .int (nI 0), .ref qo, .ref qr]), (qo, cI T 21 st_ob0), (qr, cI T 12 (fun _ => 0))]) := by
  refine jM.of (cc := cX6_init) (maxL := 2) (ret := none) (by decide) rfl (Nat.le_of_ble_eq_true rfl) ?_
  intro X C rw_ hl hT hQ hnm
  subst hl; subst hT
  have hin6 : ∀ w ∈ u_ws RX6 TX6 6, w ∈ wsX6_init := by decide +kernel
  have hl9 : Cond.fieldLink RX6 9 (TX6 4).1 (TX6 4).2.1 (TX6 4).2.2.1 ∈ wsX6_init := by decide +kernel
  have hl15 : Cond.fieldLink RX6 15 (TX6 5).1 (TX6 5).2.1 (TX6 5).2.2.1 ∈ wsX6_init := by decide +kernel
  show jj X 0 0 0 [(0, .ref h0)] [] [(h0, cO 6 [.int (nI 0), .int (nI 0), .int (bI false), .int (nI 0), .null, .null])]
  refine j_aload_n C dX6_init_0 0 rfl rfl ?_
  refine j_obj C (by decide +kernel) (by decide +kernel) (by decide +kernel) (by decide) (by decide) dX6_init_1 ?_
  refine j_aload_n C dX6_init_4 0 rfl rfl ?_
  refine j_bipush C dX6_init_5 (v := (nI 21)) kc_b_21 ?_
  refine j_newarrI C rw_ (N := 21) rfl (by decide) (by decide +kernel) (by decide) (by decide) dX6_init_7 (fun qo => ?_)
  show jj X 1 21 9 [(0, .ref h0)] [.ref qo, .ref h0] [(h0, cO 6 [.int (nI 0), .int (nI 0), .int (bI false), .int (nI 0), .null, .null]), (qo, cI (xT X) 21 (fun _ => 0))]
  refine j_putF C rw_ hnm (hin6) tyX6 tyX6_ok nmX6 (ci := 6) rfl 4 (by decide) (hl9) (by decide +kernel) rfl (ty := .array .int) (by decide +kernel) rfl rfl 0 rfl (Nat.le_of_ble_eq_true rfl) (w' := [(h0, cO 6 [.int (nI 0), .int (nI 0), .int (bI false), .int (nI 0), .ref qo, .null]), (qo, cI (xT X) 21 (fun _ => 0))]) rfl dX6_init_9 ?_
  refine j_aload_n C dX6_init_12 0 rfl rfl ?_
  refine j_bipush C dX6_init_13 (v := (nI 12)) kc_b_12 ?_
  refine j_newarrI C rw_ (N := 12) rfl (by decide) (by decide +kernel) (by decide) (by decide) dX6_init_15 (fun qr => ?_)
  show jj X 2 33 17 [(0, .ref h0)] [.ref qr, .ref h0] [(h0, cO 6 [.int (nI 0), .int (nI 0), .int (bI false), .int (nI 0), .ref qo, .null]), (qo, cI (xT X) 21 (fun _ => 0)), (qr, cI (xT X) 12 (fun _ => 0))]
  refine j_putF C rw_ hnm (hin6) tyX6 tyX6_ok nmX6 (ci := 6) rfl 5 (by decide) (hl15) (by decide +kernel) rfl (ty := .array .int) (by decide +kernel) rfl rfl 0 rfl (Nat.le_of_ble_eq_true rfl) (w' := [(h0, cO 6 [.int (nI 0), .int (nI 0), .int (bI false), .int (nI 0), .ref qo, .ref qr]), (qo, cI (xT X) 21 (fun _ => 0)), (qr, cI (xT X) 12 (fun _ => 0))]) rfl dX6_init_17 ?_
  refine j_iconst C dX6_init_20 (v := (nI 0)) kc_i_0 ?_
  refine j_istore_n C dX6_init_21 rfl (by decide) (lv' := [(1, .int (nI 0)), (0, .ref h0)]) rfl ?_
  refine j_lv [1, 0] rfl ?_
  suffices hc22 : ∀ (mm : Nat) (i : Nat) (g : Nat → Int32), 3 - i < mm → (i ≤ 3) → (∀ j, g j = if j < 8 * i ∧ j % 8 = 0 then 1 else 0) → jj X 2 33 22 [(0, .ref h0), (1, .int (nI i))] [] [(h0, cO 6 [.int (nI 0), .int (nI 0), .int (bI false), .int (nI 0), .ref qo, .ref qr]), (qo, cI (xT X) 21 g), (qr, cI (xT X) 12 (fun _ => 0))] by
    refine hc22 _ _ (fun _ => 0) (Nat.lt_succ_self _) ?_ ?_
    · omega
    · intro j; rw [if_neg (by omega)]
  intro mm
  induction mm with
  | zero => intro i g hm; exact absurd hm (Nat.not_lt_zero _)
  | succ mm ih22 =>
    intro i g hm22 hi hg
    refine j_iload_n C dX6_init_22 1 rfl rfl ?_
    refine j_iconst C dX6_init_23 (v := (nI 3)) kc_i_3 ?_
    refine j_icmp_ge C dX6_init_24 (tgt := 52) (by decide) (fun c1 => ?_) (fun c1 => ?_)
    · skip
      have c1 := (kn_ge (a := i) (b := 3) (by omega) (by omega)).mp c1
      refine j_extI C st_ob0 1 rfl (fun j hj => ?_) (w' := [(h0, cO 6 [.int (nI 0), .int (nI 0), .int (bI false), .int (nI 0), .ref qo, .ref qr]), (qo, cI (xT X) 21 st_ob0), (qr, cI (xT X) 12 (fun _ => 0))]) rfl ?_
      · rw [hg j]
        unfold st_ob0
        by_cases h : j = 0 ∨ j = 8 ∨ j = 16
        · rw [if_pos h, if_pos (by omega)]
        · rw [if_neg h, if_neg (by omega)]
      refine j_vretM C rw_ hQ (by decide) (by decide) ?_ dX6_init_52
      exact ⟨qo, qr, rfl, rfl⟩
    · skip
      have c1 := (kn_nge (a := i) (b := 3) (by omega) (by omega)).mp c1
      refine j_iload_n C dX6_init_27 1 rfl rfl ?_
      refine j_iconst C dX6_init_28 (v := (nI 3)) kc_i_3 ?_
      refine j_icmp_ge C dX6_init_29 (tgt := 52) (by decide) (fun c2 => ?_) (fun c2 => ?_)
      · skip
        have c2 := (kn_ge (a := i) (b := 3) (by omega) (by omega)).mp c2
        exfalso
        first | exact c2.elim | omega
      · skip
        have c2 := (kn_nge (a := i) (b := 3) (by omega) (by omega)).mp c2
        refine j_aload_n C dX6_init_32 0 rfl rfl ?_
        refine j_get C (hin6) (ci := 6) rfl 4 (by decide) (hl9) 0 rfl (v := .ref qo) rfl dX6_init_33 ?_
        refine j_bipush C dX6_init_36 (v := (nI 7)) kc_b_7 ?_
        refine j_iload_n C dX6_init_38 1 rfl rfl ?_
        refine j_imul C dX6_init_39 (v := (nI (7 * i))) (pk_mul _ _) ?_
        refine j_iconst C dX6_init_40 (v := (nI 0)) kc_i_0 ?_
        refine j_iadd C dX6_init_41 (v := (nI (7 * i + 0))) (nI_add _ _) ?_
        refine j_iload_n C dX6_init_42 1 rfl rfl ?_
        refine j_iadd C dX6_init_43 (v := (nI (7 * i + 0 + i))) (nI_add _ _) ?_
        refine j_iconst C dX6_init_44 (v := (nI 1)) kc_i_1 ?_
        refine j_iastoreN C rw_ (7 * i + 0 + i) rfl 1 rfl (by omega) (by decide) (w' := [(h0, cO 6 [.int (nI 0), .int (nI 0), .int (bI false), .int (nI 0), .ref qo, .ref qr]), (qo, cI (xT X) 21 (upd g (7 * i + 0 + i) (nI 1))), (qr, cI (xT X) 12 (fun _ => 0))]) rfl dX6_init_45 ?_
        refine j_iinc C dX6_init_46 (q := 1) (v := (nI (i + 1))) rfl (kc_inc i) (by decide) (lv' := [(1, .int (nI (i + 1))), (0, .ref h0)]) rfl ?_
        refine j_goto C dX6_init_49 (tgt := 22) (by decide) ?_
        refine j_lv [1, 0] rfl ?_
        refine ih22 _ _ (by omega) ?_ ?_
        · omega
        · intro j
          unfold upd
          by_cases h : j = 7 * i + 0 + i
          · rw [if_pos h, if_pos (by omega)]; rfl
          · rw [if_neg h, hg j]
            by_cases h2 : j < 8 * i ∧ j % 8 = 0
            · rw [if_pos h2, if_pos (by omega)]
            · rw [if_neg h2, if_neg (by omega)]

set_option maxHeartbeats 4000000 in
set_option maxRecDepth 100000 in
/-- copyObjects(other) -/
theorem c_X6_copyObjects (l : Launch) (T : jj_T) (h0 o0 r0 c p t h1 o1 r1 c1 p1 t1 : Nat) (s s1 : Bool) (ob rq ob1 rq1 : Nat → Int32) : jM l T yX6_copyObjects wsX6_copyObjects { frames := 1, cells := 0, slots := 0, locals := 60 } [.ref h0, .ref h1] [(h0, cO 6 [.int (nI c), .int (nI p), .int (bI s), .int (nI t), .ref o0, .ref r0]), (o0, cI T 21 ob), (r0, cI T 12 rq), (h1, cO 6 [.int (nI c1), .int (nI p1), .int (bI s1), .int (nI t1), .ref o1, .ref r1]), (o1, cI T 21 ob1), (r1, cI T 12 rq1)] (fun v w1 => v = none ∧ w1 = [(h0, cO 6 [.int (nI c), .int (nI p), .int (bI s), .int (nI t), .ref o0, .ref r0]), (o0, cI T 21 ob1), (r0, cI T 12 rq), (h1, cO 6 [.int (nI c1), .int (nI p1), .int (bI s1), .int (nI t1), .ref o1, .ref r1]), (o1, cI T 21 ob1), (r1, cI T 12 rq1)]) := by
  refine jM.of (cc := cX6_copyObjects) (maxL := 2) (ret := none) (by decide) rfl (Nat.le_of_ble_eq_true rfl) ?_
  intro X C rw_ hl hT hQ hnm
  subst hl; subst hT
  have hin6 : ∀ w ∈ u_ws RX6 TX6 6, w ∈ wsX6_copyObjects := by decide +kernel
  have hl9 : Cond.fieldLink RX6 9 (TX6 4).1 (TX6 4).2.1 (TX6 4).2.2.1 ∈ wsX6_copyObjects := by decide +kernel
  show jj X 0 0 0 [(0, .ref h0), (1, .ref h1)] [] [(h0, cO 6 [.int (nI c), .int (nI p), .int (bI s), .int (nI t), .ref o0, .ref r0]), (o0, cI (xT X) 21 ob), (r0, cI (xT X) 12 rq), (h1, cO 6 [.int (nI c1), .int (nI p1), .int (bI s1), .int (nI t1), .ref o1, .ref r1]), (o1, cI (xT X) 21 ob1), (r1, cI (xT X) 12 rq1)]
  refine j_aload_n C dX6_copyObjects_0 1 rfl rfl ?_
  refine j_get C (hin6) (ci := 6) rfl 4 (by decide) (hl9) 3 rfl (v := .ref o1) rfl dX6_copyObjects_1 ?_
  refine j_iconst C dX6_copyObjects_4 (v := (nI 0)) kc_i_0 ?_
  refine j_aload_n C dX6_copyObjects_5 0 rfl rfl ?_
  refine j_get C (hin6) (ci := 6) rfl 4 (by decide) (hl9) 0 rfl (v := .ref o0) rfl dX6_copyObjects_6 ?_
  refine j_iconst C dX6_copyObjects_9 (v := (nI 0)) kc_i_0 ?_
  refine j_bipush C dX6_copyObjects_10 (v := (nI 21)) kc_b_21 ?_
  refine j_copyI C rw_ (N := 21) (by decide +kernel) (by decide +kernel) (by decide +kernel) (by decide +kernel) (by decide) 4 1 rfl rfl (by decide) (by decide) (w' := [(h0, cO 6 [.int (nI c), .int (nI p), .int (bI s), .int (nI t), .ref o0, .ref r0]), (o0, cI (xT X) 21 ob1), (r0, cI (xT X) 12 rq), (h1, cO 6 [.int (nI c1), .int (nI p1), .int (bI s1), .int (nI t1), .ref o1, .ref r1]), (o1, cI (xT X) 21 ob1), (r1, cI (xT X) 12 rq1)]) rfl dX6_copyObjects_12 ?_
  refine j_vretM C rw_ hQ (by decide) (by decide) ?_ dX6_copyObjects_15
  exact ⟨rfl, rfl⟩

set_option maxHeartbeats 4000000 in
set_option maxRecDepth 100000 in
/-- copyFrom(other) -/
theorem c_X6_copyFrom (l : Launch) (T : jj_T) (h0 o0 r0 c p t h1 o1 r1 c1 p1 t1 : Nat) (s s1 : Bool) (ob rq ob1 rq1 : Nat → Int32) : jM l T yX6_copyFrom wsX6_copyFrom { frames := 2, cells := 0, slots := 0, locals := 81 } [.ref h0, .ref h1] [(h0, cO 6 [.int (nI c), .int (nI p), .int (bI s), .int (nI t), .ref o0, .ref r0]), (o0, cI T 21 ob), (r0, cI T 12 rq), (h1, cO 6 [.int (nI c1), .int (nI p1), .int (bI s1), .int (nI t1), .ref o1, .ref r1]), (o1, cI T 21 ob1), (r1, cI T 12 rq1)] (fun v w1 => v = none ∧ w1 = [(h0, cO 6 [.int (nI c1), .int (nI p1), .int (bI s1), .int (nI t1), .ref o0, .ref r0]), (o0, cI T 21 ob1), (r0, cI T 12 rq1), (h1, cO 6 [.int (nI c1), .int (nI p1), .int (bI s1), .int (nI t1), .ref o1, .ref r1]), (o1, cI T 21 ob1), (r1, cI T 12 rq1)]) := by
  refine jM.of (cc := cX6_copyFrom) (maxL := 2) (ret := none) (by decide) rfl (Nat.le_of_ble_eq_true rfl) ?_
  intro X C rw_ hl hT hQ hnm
  subst hl; subst hT
  have hin6 : ∀ w ∈ u_ws RX6 TX6 6, w ∈ wsX6_copyFrom := by decide +kernel
  have hl15 : Cond.fieldLink RX6 15 (TX6 5).1 (TX6 5).2.1 (TX6 5).2.2.1 ∈ wsX6_copyFrom := by decide +kernel
  have hl18 : Cond.fieldLink RX6 18 (TX6 0).1 (TX6 0).2.1 (TX6 0).2.2.1 ∈ wsX6_copyFrom := by decide +kernel
  have hl22 : Cond.fieldLink RX6 22 (TX6 1).1 (TX6 1).2.1 (TX6 1).2.2.1 ∈ wsX6_copyFrom := by decide +kernel
  have hl25 : Cond.fieldLink RX6 25 (TX6 2).1 (TX6 2).2.1 (TX6 2).2.2.1 ∈ wsX6_copyFrom := by decide +kernel
  have hl29 : Cond.fieldLink RX6 29 (TX6 3).1 (TX6 3).2.1 (TX6 3).2.2.1 ∈ wsX6_copyFrom := by decide +kernel
  show jj X 0 0 0 [(0, .ref h0), (1, .ref h1)] [] [(h0, cO 6 [.int (nI c), .int (nI p), .int (bI s), .int (nI t), .ref o0, .ref r0]), (o0, cI (xT X) 21 ob), (r0, cI (xT X) 12 rq), (h1, cO 6 [.int (nI c1), .int (nI p1), .int (bI s1), .int (nI t1), .ref o1, .ref r1]), (o1, cI (xT X) 21 ob1), (r1, cI (xT X) 12 rq1)]
  refine j_aload_n C dX6_copyFrom_0 0 rfl rfl ?_
  refine j_aload_n C dX6_copyFrom_1 1 rfl rfl ?_
  refine j_get C (hin6) (ci := 6) rfl 0 (by decide) (hl18) 3 rfl (v := .int (nI c1)) rfl dX6_copyFrom_2 ?_
  refine j_put C rw_ (hin6) tyX6 tyX6_ok nmX6 (ci := 6) rfl 0 (by decide) (hl18) (by decide +kernel) (ty := .int) (by decide +kernel) rfl rfl 0 rfl (Nat.le_of_ble_eq_true rfl) (w' := [(h0, cO 6 [.int (nI c1), .int (nI p), .int (bI s), .int (nI t), .ref o0, .ref r0]), (o0, cI (xT X) 21 ob), (r0, cI (xT X) 12 rq), (h1, cO 6 [.int (nI c1), .int (nI p1), .int (bI s1), .int (nI t1), .ref o1, .ref r1]), (o1, cI (xT X) 21 ob1), (r1, cI (xT X) 12 rq1)]) rfl dX6_copyFrom_5 ?_
  refine j_aload_n C dX6_copyFrom_8 0 rfl rfl ?_
  refine j_aload_n C dX6_copyFrom_9 1 rfl rfl ?_
  refine j_get C (hin6) (ci := 6) rfl 1 (by decide) (hl22) 3 rfl (v := .int (nI p1)) rfl dX6_copyFrom_10 ?_
  refine j_put C rw_ (hin6) tyX6 tyX6_ok nmX6 (ci := 6) rfl 1 (by decide) (hl22) (by decide +kernel) (ty := .int) (by decide +kernel) rfl rfl 0 rfl (Nat.le_of_ble_eq_true rfl) (w' := [(h0, cO 6 [.int (nI c1), .int (nI p1), .int (bI s), .int (nI t), .ref o0, .ref r0]), (o0, cI (xT X) 21 ob), (r0, cI (xT X) 12 rq), (h1, cO 6 [.int (nI c1), .int (nI p1), .int (bI s1), .int (nI t1), .ref o1, .ref r1]), (o1, cI (xT X) 21 ob1), (r1, cI (xT X) 12 rq1)]) rfl dX6_copyFrom_13 ?_
  refine j_aload_n C dX6_copyFrom_16 0 rfl rfl ?_
  refine j_aload_n C dX6_copyFrom_17 1 rfl rfl ?_
  refine j_get C (hin6) (ci := 6) rfl 2 (by decide) (hl25) 3 rfl (v := .int (bI s1)) rfl dX6_copyFrom_18 ?_
  refine j_put C rw_ (hin6) tyX6 tyX6_ok nmX6 (ci := 6) rfl 2 (by decide) (hl25) (by decide +kernel) (ty := .boolean) (by decide +kernel) (bI_nar _) (bI_fits _) 0 rfl (Nat.le_of_ble_eq_true rfl) (w' := [(h0, cO 6 [.int (nI c1), .int (nI p1), .int (bI s1), .int (nI t), .ref o0, .ref r0]), (o0, cI (xT X) 21 ob), (r0, cI (xT X) 12 rq), (h1, cO 6 [.int (nI c1), .int (nI p1), .int (bI s1), .int (nI t1), .ref o1, .ref r1]), (o1, cI (xT X) 21 ob1), (r1, cI (xT X) 12 rq1)]) rfl dX6_copyFrom_21 ?_
  refine j_aload_n C dX6_copyFrom_24 0 rfl rfl ?_
  refine j_aload_n C dX6_copyFrom_25 1 rfl rfl ?_
  refine j_get C (hin6) (ci := 6) rfl 3 (by decide) (hl29) 3 rfl (v := .int (nI t1)) rfl dX6_copyFrom_26 ?_
  refine j_put C rw_ (hin6) tyX6 tyX6_ok nmX6 (ci := 6) rfl 3 (by decide) (hl29) (by decide +kernel) (ty := .int) (by decide +kernel) rfl rfl 0 rfl (Nat.le_of_ble_eq_true rfl) (w' := [(h0, cO 6 [.int (nI c1), .int (nI p1), .int (bI s1), .int (nI t1), .ref o0, .ref r0]), (o0, cI (xT X) 21 ob), (r0, cI (xT X) 12 rq), (h1, cO 6 [.int (nI c1), .int (nI p1), .int (bI s1), .int (nI t1), .ref o1, .ref r1]), (o1, cI (xT X) 21 ob1), (r1, cI (xT X) 12 rq1)]) rfl dX6_copyFrom_29 ?_
  refine j_aload_n C dX6_copyFrom_32 1 rfl rfl ?_
  refine j_get C (hin6) (ci := 6) rfl 5 (by decide) (hl15) 3 rfl (v := .ref r1) rfl dX6_copyFrom_33 ?_
  refine j_iconst C dX6_copyFrom_36 (v := (nI 0)) kc_i_0 ?_
  refine j_aload_n C dX6_copyFrom_37 0 rfl rfl ?_
  refine j_get C (hin6) (ci := 6) rfl 5 (by decide) (hl15) 0 rfl (v := .ref r0) rfl dX6_copyFrom_38 ?_
  refine j_iconst C dX6_copyFrom_41 (v := (nI 0)) kc_i_0 ?_
  refine j_bipush C dX6_copyFrom_42 (v := (nI 12)) kc_b_12 ?_
  refine j_copyI C rw_ (N := 12) (by decide +kernel) (by decide +kernel) (by decide +kernel) (by decide +kernel) (by decide) 5 2 rfl rfl (by decide) (by decide) (w' := [(h0, cO 6 [.int (nI c1), .int (nI p1), .int (bI s1), .int (nI t1), .ref o0, .ref r0]), (o0, cI (xT X) 21 ob), (r0, cI (xT X) 12 rq1), (h1, cO 6 [.int (nI c1), .int (nI p1), .int (bI s1), .int (nI t1), .ref o1, .ref r1]), (o1, cI (xT X) 21 ob1), (r1, cI (xT X) 12 rq1)]) rfl dX6_copyFrom_44 ?_
  refine j_aload_n C dX6_copyFrom_47 0 rfl rfl ?_
  refine j_aload_n C dX6_copyFrom_48 1 rfl rfl ?_
  refine j_callVM C rw_ (nA := 1) (As := [.ref h1]) (wr := []) (c_X6_copyObjects (xl X) (xT X) h0 o0 r0 c1 p1 t1 h1 o1 r1 c1 p1 t1 s1 s1 ob rq1 ob1 rq1 ) gX6_copyFrom_X6_copyObjects rfl (by decide +kernel) rfl (by decide) (by decide) [0, 1, 2, 3, 4, 5] [] rfl rfl rfl rfl (by decide) 0 rfl rfl (rest := []) rfl (Nat.le_of_ble_eq_true rfl) dX6_copyFrom_49 ?_
  rintro _ _ ⟨rfl, rfl⟩
  show jj X 0 0 52 [(0, .ref h0), (1, .ref h1)] [] [(h0, cO 6 [.int (nI c1), .int (nI p1), .int (bI s1), .int (nI t1), .ref o0, .ref r0]), (o0, cI (xT X) 21 ob1), (r0, cI (xT X) 12 rq1), (h1, cO 6 [.int (nI c1), .int (nI p1), .int (bI s1), .int (nI t1), .ref o1, .ref r1]), (o1, cI (xT X) 21 ob1), (r1, cI (xT X) 12 rq1)]
  refine j_vretM C rw_ hQ (by decide) (by decide) ?_ dX6_copyFrom_52
  exact ⟨rfl, rfl⟩

set_option maxHeartbeats 4000000 in
set_option maxRecDepth 100000 in
/-- hasObjectsOf(other) -/
theorem c_X6_hasObjectsOf (l : Launch) (T : jj_T) (h0 o0 r0 c p t h1 o1 r1 c1 p1 t1 : Nat) (s s1 : Bool) (ob rq ob1 rq1 : Nat → Int32) : jR l T yX6_hasObjectsOf wsX6_hasObjectsOf { frames := 0, cells := 0, slots := 0, locals := 0 } [.ref h0, .ref h1] [(h0, cO 6 [.int (nI c), .int (nI p), .int (bI s), .int (nI t), .ref o0, .ref r0]), (o0, cI T 21 ob), (r0, cI T 12 rq), (h1, cO 6 [.int (nI c1), .int (nI p1), .int (bI s1), .int (nI t1), .ref o1, .ref r1]), (o1, cI T 21 ob1), (r1, cI T 12 rq1)] (fun v => ∃ b : Bool, v = some (.int (bI b)) ∧ (b = true ↔ ∀ j, j < 21 → ob j = ob1 j)) := by
  refine jR.of (cc := cX6_hasObjectsOf) (maxL := 3) (ret := (some .boolean)) (by decide) rfl (Nat.le_of_ble_eq_true rfl) ?_
  intro X C ro hl hT hQ
  subst hl; subst hT
  have hin6 : ∀ w ∈ u_ws RX6 TX6 6, w ∈ wsX6_hasObjectsOf := by decide +kernel
  have hl9 : Cond.fieldLink RX6 9 (TX6 4).1 (TX6 4).2.1 (TX6 4).2.2.1 ∈ wsX6_hasObjectsOf := by decide +kernel
  show jj X 0 0 0 [(0, .ref h0), (1, .ref h1)] [] [(h0, cO 6 [.int (nI c), .int (nI p), .int (bI s), .int (nI t), .ref o0, .ref r0]), (o0, cI (xT X) 21 ob), (r0, cI (xT X) 12 rq), (h1, cO 6 [.int (nI c1), .int (nI p1), .int (bI s1), .int (nI t1), .ref o1, .ref r1]), (o1, cI (xT X) 21 ob1), (r1, cI (xT X) 12 rq1)]
  refine j_iconst C dX6_hasObjectsOf_0 (v := (nI 0)) kc_i_0 ?_
  refine j_istore_n C dX6_hasObjectsOf_1 rfl (by decide) (lv' := [(2, .int (nI 0)), (0, .ref h0), (1, .ref h1)]) rfl ?_
  refine j_lv [1, 2, 0] rfl ?_
  suffices hc2 : ∀ (mm : Nat) (i : Nat), 21 - i < mm → (i ≤ 21) → (∀ j, j < i → ob j = ob1 j) → jj X 0 0 2 [(0, .ref h0), (1, .ref h1), (2, .int (nI i))] [] [(h0, cO 6 [.int (nI c), .int (nI p), .int (bI s), .int (nI t), .ref o0, .ref r0]), (o0, cI (xT X) 21 ob), (r0, cI (xT X) 12 rq), (h1, cO 6 [.int (nI c1), .int (nI p1), .int (bI s1), .int (nI t1), .ref o1, .ref r1]), (o1, cI (xT X) 21 ob1), (r1, cI (xT X) 12 rq1)] by
    refine hc2 _ _ (Nat.lt_succ_self _) ?_ ?_
    · omega
    · intro d hd; omega
  intro mm
  induction mm with
  | zero => intro i hm; exact absurd hm (Nat.not_lt_zero _)
  | succ mm ih2 =>
    intro i hm2 hi hf
    refine j_iload_n C dX6_hasObjectsOf_2 2 rfl rfl ?_
    refine j_aload_n C dX6_hasObjectsOf_3 0 rfl rfl ?_
    refine j_get C (hin6) (ci := 6) rfl 4 (by decide) (hl9) 0 rfl (v := .ref o0) rfl dX6_hasObjectsOf_4 ?_
    refine j_alenI C 1 rfl dX6_hasObjectsOf_7 ?_
    refine j_icmp_ge C dX6_hasObjectsOf_8 (tgt := 43) (by decide) (fun c1 => ?_) (fun c1 => ?_)
    · skip
      have c1 := (kn_ge (a := i) (b := 21) (by omega) (by omega)).mp c1
      refine j_iconst C dX6_hasObjectsOf_43 (v := (nI 1)) kc_i_1 ?_
      refine j_iretR C ro hQ (by decide +kernel) ?_ dX6_hasObjectsOf_44
      exact ⟨true, by rw [bI_t], ⟨fun _ j hj => hf j (by omega), fun _ => rfl⟩⟩
    · skip
      have c1 := (kn_nge (a := i) (b := 21) (by omega) (by omega)).mp c1
      refine j_iload_n C dX6_hasObjectsOf_11 2 rfl rfl ?_
      refine j_aload_n C dX6_hasObjectsOf_12 1 rfl rfl ?_
      refine j_get C (hin6) (ci := 6) rfl 4 (by decide) (hl9) 3 rfl (v := .ref o1) rfl dX6_hasObjectsOf_13 ?_
      refine j_alenI C 4 rfl dX6_hasObjectsOf_16 ?_
      refine j_icmp_ge C dX6_hasObjectsOf_17 (tgt := 43) (by decide) (fun c2 => ?_) (fun c2 => ?_)
      · skip
        have c2 := (kn_ge (a := i) (b := 21) (by omega) (by omega)).mp c2
        exfalso
        first | exact c2.elim | omega
      · skip
        have c2 := (kn_nge (a := i) (b := 21) (by omega) (by omega)).mp c2
        refine j_aload_n C dX6_hasObjectsOf_20 0 rfl rfl ?_
        refine j_get C (hin6) (ci := 6) rfl 4 (by decide) (hl9) 0 rfl (v := .ref o0) rfl dX6_hasObjectsOf_21 ?_
        refine j_iload_n C dX6_hasObjectsOf_24 2 rfl rfl ?_
        refine j_ialoadN C i rfl 1 rfl (by omega) (by decide) dX6_hasObjectsOf_25 ?_
        refine j_aload_n C dX6_hasObjectsOf_26 1 rfl rfl ?_
        refine j_get C (hin6) (ci := 6) rfl 4 (by decide) (hl9) 3 rfl (v := .ref o1) rfl dX6_hasObjectsOf_27 ?_
        refine j_iload_n C dX6_hasObjectsOf_30 2 rfl rfl ?_
        refine j_ialoadN C i rfl 4 rfl (by omega) (by decide) dX6_hasObjectsOf_31 ?_
        refine j_icmp_eq C dX6_hasObjectsOf_32 (tgt := 37) (by decide) (fun c3 => ?_) (fun c3 => ?_)
        · skip
          refine j_iinc C dX6_hasObjectsOf_37 (q := 2) (v := (nI (i + 1))) rfl (kc_inc i) (by decide) (lv' := [(2, .int (nI (i + 1))), (0, .ref h0), (1, .ref h1)]) rfl ?_
          refine j_goto C dX6_hasObjectsOf_40 (tgt := 2) (by decide) ?_
          refine j_lv [1, 2, 0] rfl ?_
          refine ih2 _ (by omega) ?_ ?_
          · omega
          · intro j hj
            by_cases h : j = i
            · rw [h]; exact c3
            · exact hf j (by omega)
        · skip
          refine j_iconst C dX6_hasObjectsOf_35 (v := (nI 0)) kc_i_0 ?_
          refine j_iretR C ro hQ (by decide +kernel) ?_ dX6_hasObjectsOf_36
          exact ⟨false, by rw [bI_f], ⟨fun h => (by cases h), fun h => absurd (h i (by omega)) c3⟩⟩

set_option maxHeartbeats 4000000 in
set_option maxRecDepth 100000 in
/-- ofObject(object, part) -/
theorem c_X6_ofObject (l : Launch) (T : jj_T) (h0 o0 r0 c p t o k : Nat) (s : Bool) (ob rq : Nat → Int32) (hk : 7 * o + k < 21) : jR l T yX6_ofObject wsX6_ofObject { frames := 0, cells := 0, slots := 0, locals := 0 } [.ref h0, .int (nI o), .int (nI k)] [(h0, cO 6 [.int (nI c), .int (nI p), .int (bI s), .int (nI t), .ref o0, .ref r0]), (o0, cI T 21 ob), (r0, cI T 12 rq)] (fun v => v = some (.int (ob (7 * o + k)))) := by
  refine jR.of (cc := cX6_ofObject) (maxL := 4) (ret := (some .int)) (by decide) rfl (Nat.le_of_ble_eq_true rfl) ?_
  intro X C ro hl hT hQ
  subst hl; subst hT
  have hin6 : ∀ w ∈ u_ws RX6 TX6 6, w ∈ wsX6_ofObject := by decide +kernel
  have hl9 : Cond.fieldLink RX6 9 (TX6 4).1 (TX6 4).2.1 (TX6 4).2.2.1 ∈ wsX6_ofObject := by decide +kernel
  show jj X 0 0 0 [(0, .ref h0), (1, .int (nI o)), (2, .int (nI k))] [] [(h0, cO 6 [.int (nI c), .int (nI p), .int (bI s), .int (nI t), .ref o0, .ref r0]), (o0, cI (xT X) 21 ob), (r0, cI (xT X) 12 rq)]
  refine j_bipush C dX6_ofObject_0 (v := (nI 7)) kc_b_7 ?_
  refine j_iload_n C dX6_ofObject_2 1 rfl rfl ?_
  refine j_imul C dX6_ofObject_3 (v := (nI (7 * o))) (pk_mul _ _) ?_
  refine j_iload_n C dX6_ofObject_4 2 rfl rfl ?_
  refine j_iadd C dX6_ofObject_5 (v := (nI (7 * o + k))) (nI_add _ _) ?_
  refine j_istore_n C dX6_ofObject_6 rfl (by decide) (lv' := [(3, .int (nI (7 * o + k))), (0, .ref h0), (1, .int (nI o)), (2, .int (nI k))]) rfl ?_
  refine j_iload_n C dX6_ofObject_7 0 rfl rfl ?_
  refine j_if_lt C dX6_ofObject_8 (tgt := 29) (by decide) (fun c1 => ?_) (fun c1 => ?_)
  · skip
    have c1 := (kz_lt (a := 7 * o + k) (by omega)).mp c1
    exfalso
    first | exact c1.elim | omega
  · skip
    have c1 := (kz_nlt (a := 7 * o + k) (by omega)).mp c1
    refine j_iload_n C dX6_ofObject_11 0 rfl rfl ?_
    refine j_aload_n C dX6_ofObject_12 1 rfl rfl ?_
    refine j_get C (hin6) (ci := 6) rfl 4 (by decide) (hl9) 0 rfl (v := .ref o0) rfl dX6_ofObject_13 ?_
    refine j_alenI C 1 rfl dX6_ofObject_16 ?_
    refine j_icmp_ge C dX6_ofObject_17 (tgt := 29) (by decide) (fun c2 => ?_) (fun c2 => ?_)
    · skip
      have c2 := (kn_ge (a := 7 * o + k) (b := 21) (by omega) (by omega)).mp c2
      exfalso
      first | exact c2.elim | omega
    · skip
      have c2 := (kn_nge (a := 7 * o + k) (b := 21) (by omega) (by omega)).mp c2
      refine j_aload_n C dX6_ofObject_20 1 rfl rfl ?_
      refine j_get C (hin6) (ci := 6) rfl 4 (by decide) (hl9) 0 rfl (v := .ref o0) rfl dX6_ofObject_21 ?_
      refine j_iload_n C dX6_ofObject_24 0 rfl rfl ?_
      refine j_ialoadN C (7 * o + k) rfl 1 rfl (by omega) (by decide) dX6_ofObject_25 ?_
      refine j_goto C dX6_ofObject_26 (tgt := 30) (by decide) ?_
      refine j_iretR C ro hQ rfl ?_ dX6_ofObject_30
      rfl

set_option maxHeartbeats 4000000 in
set_option maxRecDepth 100000 in
/-- setObject(object, part, number) -/
theorem c_X6_setObject (l : Launch) (T : jj_T) (h0 o0 r0 c p t o k : Nat) (x : Int32) (s : Bool) (ob rq : Nat → Int32) (hk : 7 * o + k < 21) : jM l T yX6_setObject wsX6_setObject { frames := 0, cells := 0, slots := 0, locals := 0 } [.ref h0, .int (nI o), .int (nI k), .int x] [(h0, cO 6 [.int (nI c), .int (nI p), .int (bI s), .int (nI t), .ref o0, .ref r0]), (o0, cI T 21 ob), (r0, cI T 12 rq)] (fun v w1 => v = none ∧ w1 = [(h0, cO 6 [.int (nI c), .int (nI p), .int (bI s), .int (nI t), .ref o0, .ref r0]), (o0, cI T 21 (upd ob (7 * o + k) x)), (r0, cI T 12 rq)]) := by
  refine jM.of (cc := cX6_setObject) (maxL := 5) (ret := none) (by decide) rfl (Nat.le_of_ble_eq_true rfl) ?_
  intro X C rw_ hl hT hQ hnm
  subst hl; subst hT
  have hin6 : ∀ w ∈ u_ws RX6 TX6 6, w ∈ wsX6_setObject := by decide +kernel
  have hl9 : Cond.fieldLink RX6 9 (TX6 4).1 (TX6 4).2.1 (TX6 4).2.2.1 ∈ wsX6_setObject := by decide +kernel
  show jj X 0 0 0 [(0, .ref h0), (1, .int (nI o)), (2, .int (nI k)), (3, .int x)] [] [(h0, cO 6 [.int (nI c), .int (nI p), .int (bI s), .int (nI t), .ref o0, .ref r0]), (o0, cI (xT X) 21 ob), (r0, cI (xT X) 12 rq)]
  refine j_bipush C dX6_setObject_0 (v := (nI 7)) kc_b_7 ?_
  refine j_iload_n C dX6_setObject_2 1 rfl rfl ?_
  refine j_imul C dX6_setObject_3 (v := (nI (7 * o))) (pk_mul _ _) ?_
  refine j_iload_n C dX6_setObject_4 2 rfl rfl ?_
  refine j_iadd C dX6_setObject_5 (v := (nI (7 * o + k))) (nI_add _ _) ?_
  refine j_istore C dX6_setObject_6 (by decide) (lv' := [(4, .int (nI (7 * o + k))), (0, .ref h0), (1, .int (nI o)), (2, .int (nI k)), (3, .int x)]) rfl ?_
  refine j_iload C dX6_setObject_8 0 rfl ?_
  refine j_if_lt C dX6_setObject_10 (tgt := 31) (by decide) (fun c1 => ?_) (fun c1 => ?_)
  · skip
    have c1 := (kz_lt (a := 7 * o + k) (by omega)).mp c1
    exfalso
    first | exact c1.elim | omega
  · skip
    have c1 := (kz_nlt (a := 7 * o + k) (by omega)).mp c1
    refine j_iload C dX6_setObject_13 0 rfl ?_
    refine j_aload_n C dX6_setObject_15 1 rfl rfl ?_
    refine j_get C (hin6) (ci := 6) rfl 4 (by decide) (hl9) 0 rfl (v := .ref o0) rfl dX6_setObject_16 ?_
    refine j_alenI C 1 rfl dX6_setObject_19 ?_
    refine j_icmp_ge C dX6_setObject_20 (tgt := 31) (by decide) (fun c2 => ?_) (fun c2 => ?_)
    · skip
      have c2 := (kn_ge (a := 7 * o + k) (b := 21) (by omega) (by omega)).mp c2
      exfalso
      first | exact c2.elim | omega
    · skip
      have c2 := (kn_nge (a := 7 * o + k) (b := 21) (by omega) (by omega)).mp c2
      refine j_aload_n C dX6_setObject_23 1 rfl rfl ?_
      refine j_get C (hin6) (ci := 6) rfl 4 (by decide) (hl9) 0 rfl (v := .ref o0) rfl dX6_setObject_24 ?_
      refine j_iload C dX6_setObject_27 0 rfl ?_
      refine j_iload_n C dX6_setObject_29 4 rfl rfl ?_
      refine j_iastoreN C rw_ (7 * o + k) rfl 1 rfl (by omega) (by decide) (w' := [(h0, cO 6 [.int (nI c), .int (nI p), .int (bI s), .int (nI t), .ref o0, .ref r0]), (o0, cI (xT X) 21 (upd ob (7 * o + k) x)), (r0, cI (xT X) 12 rq)]) rfl dX6_setObject_30 ?_
      refine j_vretM C rw_ hQ (by decide) (by decide) ?_ dX6_setObject_31
      exact ⟨rfl, rfl⟩

set_option maxHeartbeats 4000000 in
set_option maxRecDepth 100000 in
/-- setVector(object, part, x, y, z) -/
theorem c_X6_setVector (l : Launch) (T : jj_T) (h0 o0 r0 c p t o k : Nat) (x y z : Int32) (s : Bool) (ob rq : Nat → Int32) (hk : 7 * o + k + 2 < 21) : jM l T yX6_setVector wsX6_setVector { frames := 1, cells := 0, slots := 0, locals := 24 } [.ref h0, .int (nI o), .int (nI k), .int x, .int y, .int z] [(h0, cO 6 [.int (nI c), .int (nI p), .int (bI s), .int (nI t), .ref o0, .ref r0]), (o0, cI T 21 ob), (r0, cI T 12 rq)] (fun v w1 => v = none ∧ w1 = [(h0, cO 6 [.int (nI c), .int (nI p), .int (bI s), .int (nI t), .ref o0, .ref r0]), (o0, cI T 21 (upd (upd (upd ob (7 * o + k) x) (7 * o + (k + 1)) y) (7 * o + (k + 2)) z)), (r0, cI T 12 rq)]) := by
  refine jM.of (cc := cX6_setVector) (maxL := 6) (ret := none) (by decide) rfl (Nat.le_of_ble_eq_true rfl) ?_
  intro X C rw_ hl hT hQ hnm
  subst hl; subst hT
  show jj X 0 0 0 [(0, .ref h0), (1, .int (nI o)), (2, .int (nI k)), (3, .int x), (4, .int y), (5, .int z)] [] [(h0, cO 6 [.int (nI c), .int (nI p), .int (bI s), .int (nI t), .ref o0, .ref r0]), (o0, cI (xT X) 21 ob), (r0, cI (xT X) 12 rq)]
  refine j_aload_n C dX6_setVector_0 0 rfl rfl ?_
  refine j_iload_n C dX6_setVector_1 1 rfl rfl ?_
  refine j_iload_n C dX6_setVector_2 2 rfl rfl ?_
  refine j_iload_n C dX6_setVector_3 3 rfl rfl ?_
  refine j_callVM C rw_ (nA := 3) (As := [.int (nI o), .int (nI k), .int x]) (wr := []) (c_X6_setObject (xl X) (xT X) h0 o0 r0 c p t o k x s ob rq (by omega)) gX6_setVector_X6_setObject rfl (by decide +kernel) rfl (by decide) (by decide) [0, 1, 2] [] rfl rfl rfl rfl (by decide) 0 rfl rfl (rest := []) rfl (Nat.le_of_ble_eq_true rfl) dX6_setVector_4 ?_
  rintro _ _ ⟨rfl, rfl⟩
  show jj X 0 0 7 [(0, .ref h0), (1, .int (nI o)), (2, .int (nI k)), (3, .int x), (4, .int y), (5, .int z)] [] [(h0, cO 6 [.int (nI c), .int (nI p), .int (bI s), .int (nI t), .ref o0, .ref r0]), (o0, cI (xT X) 21 (upd ob (7 * o + k) x)), (r0, cI (xT X) 12 rq)]
  refine j_aload_n C dX6_setVector_7 0 rfl rfl ?_
  refine j_iload_n C dX6_setVector_8 1 rfl rfl ?_
  refine j_iload_n C dX6_setVector_9 2 rfl rfl ?_
  refine j_iconst C dX6_setVector_10 (v := (nI 1)) kc_i_1 ?_
  refine j_iadd C dX6_setVector_11 (v := (nI (k + 1))) (nI_add _ _) ?_
  refine j_iload C dX6_setVector_12 4 rfl ?_
  refine j_callVM C rw_ (nA := 3) (As := [.int (nI o), .int (nI (k + 1)), .int y]) (wr := []) (c_X6_setObject (xl X) (xT X) h0 o0 r0 c p t o (k + 1) y s (upd ob (7 * o + k) x) rq (by omega)) gX6_setVector_X6_setObject rfl (by decide +kernel) rfl (by decide) (by decide) [0, 1, 2] [] rfl rfl rfl rfl (by decide) 0 rfl rfl (rest := []) rfl (Nat.le_of_ble_eq_true rfl) dX6_setVector_14 ?_
  rintro _ _ ⟨rfl, rfl⟩
  show jj X 0 0 17 [(0, .ref h0), (1, .int (nI o)), (2, .int (nI k)), (3, .int x), (4, .int y), (5, .int z)] [] [(h0, cO 6 [.int (nI c), .int (nI p), .int (bI s), .int (nI t), .ref o0, .ref r0]), (o0, cI (xT X) 21 (upd (upd ob (7 * o + k) x) (7 * o + (k + 1)) y)), (r0, cI (xT X) 12 rq)]
  refine j_aload_n C dX6_setVector_17 0 rfl rfl ?_
  refine j_iload_n C dX6_setVector_18 1 rfl rfl ?_
  refine j_iload_n C dX6_setVector_19 2 rfl rfl ?_
  refine j_iconst C dX6_setVector_20 (v := (nI 2)) kc_i_2 ?_
  refine j_iadd C dX6_setVector_21 (v := (nI (k + 2))) (nI_add _ _) ?_
  refine j_iload C dX6_setVector_22 5 rfl ?_
  refine j_callVM C rw_ (nA := 3) (As := [.int (nI o), .int (nI (k + 2)), .int z]) (wr := []) (c_X6_setObject (xl X) (xT X) h0 o0 r0 c p t o (k + 2) z s (upd (upd ob (7 * o + k) x) (7 * o + (k + 1)) y) rq (by omega)) gX6_setVector_X6_setObject rfl (by decide +kernel) rfl (by decide) (by decide) [0, 1, 2] [] rfl rfl rfl rfl (by decide) 0 rfl rfl (rest := []) rfl (Nat.le_of_ble_eq_true rfl) dX6_setVector_24 ?_
  rintro _ _ ⟨rfl, rfl⟩
  show jj X 0 0 27 [(0, .ref h0), (1, .int (nI o)), (2, .int (nI k)), (3, .int x), (4, .int y), (5, .int z)] [] [(h0, cO 6 [.int (nI c), .int (nI p), .int (bI s), .int (nI t), .ref o0, .ref r0]), (o0, cI (xT X) 21 (upd (upd (upd ob (7 * o + k) x) (7 * o + (k + 1)) y) (7 * o + (k + 2)) z)), (r0, cI (xT X) 12 rq)]
  refine j_vretM C rw_ hQ (by decide) (by decide) ?_ dX6_setVector_27
  exact ⟨rfl, rfl⟩

set_option maxHeartbeats 4000000 in
set_option maxRecDepth 100000 in
/-- aimOf(object, coordinate, time) -/
theorem c_X6_aimOf (l : Launch) (T : jj_T) (h0 o0 r0 c p t o k tm : Nat) (s : Bool) (ob rq : Nat → Int32) (hk : 7 * o + k + 3 < 21) : jR l T yX6_aimOf wsX6_aimOf { frames := 0, cells := 0, slots := 0, locals := 0 } [.ref h0, .int (nI o), .int (nI k), .int (nI tm)] [(h0, cO 6 [.int (nI c), .int (nI p), .int (bI s), .int (nI t), .ref o0, .ref r0]), (o0, cI T 21 ob), (r0, cI T 12 rq)] (fun v => v = some (.int (st_aim ob o k tm))) := by
  refine jR.of (cc := cX6_aimOf) (maxL := 5) (ret := (some .int)) (by decide) rfl (Nat.le_of_ble_eq_true rfl) ?_
  intro X C ro hl hT hQ
  subst hl; subst hT
  have hin6 : ∀ w ∈ u_ws RX6 TX6 6, w ∈ wsX6_aimOf := by decide +kernel
  have hl9 : Cond.fieldLink RX6 9 (TX6 4).1 (TX6 4).2.1 (TX6 4).2.2.1 ∈ wsX6_aimOf := by decide +kernel
  show jj X 0 0 0 [(0, .ref h0), (1, .int (nI o)), (2, .int (nI k)), (3, .int (nI tm))] [] [(h0, cO 6 [.int (nI c), .int (nI p), .int (bI s), .int (nI t), .ref o0, .ref r0]), (o0, cI (xT X) 21 ob), (r0, cI (xT X) 12 rq)]
  refine j_bipush C dX6_aimOf_0 (v := (nI 7)) kc_b_7 ?_
  refine j_iload_n C dX6_aimOf_2 1 rfl rfl ?_
  refine j_imul C dX6_aimOf_3 (v := (nI (7 * o))) (pk_mul _ _) ?_
  refine j_iload_n C dX6_aimOf_4 2 rfl rfl ?_
  refine j_iadd C dX6_aimOf_5 (v := (nI (7 * o + k))) (nI_add _ _) ?_
  refine j_istore C dX6_aimOf_6 (by decide) (lv' := [(4, .int (nI (7 * o + k))), (0, .ref h0), (1, .int (nI o)), (2, .int (nI k)), (3, .int (nI tm))]) rfl ?_
  refine j_iload C dX6_aimOf_8 0 rfl ?_
  refine j_if_lt C dX6_aimOf_10 (tgt := 25) (by decide) (fun c1 => ?_) (fun c1 => ?_)
  · skip
    have c1 := (kz_lt (a := 7 * o + k) (by omega)).mp c1
    exfalso
    first | exact c1.elim | omega
  · skip
    have c1 := (kz_nlt (a := 7 * o + k) (by omega)).mp c1
    refine j_iload C dX6_aimOf_13 0 rfl ?_
    refine j_aload_n C dX6_aimOf_15 1 rfl rfl ?_
    refine j_get C (hin6) (ci := 6) rfl 4 (by decide) (hl9) 0 rfl (v := .ref o0) rfl dX6_aimOf_16 ?_
    refine j_alenI C 1 rfl dX6_aimOf_19 ?_
    refine j_iconst C dX6_aimOf_20 (v := (nI 3)) kc_i_3 ?_
    refine j_isub C dX6_aimOf_21 (v := (nI (21 - 3))) (pk_sub (by omega)) ?_
    refine j_icmp_lt C dX6_aimOf_22 (tgt := 27) (by decide) (fun c2 => ?_) (fun c2 => ?_)
    · skip
      have c2 := (kn_lt (a := 7 * o + k) (b := 21 - 3) (by omega) (by omega)).mp c2
      refine j_aload_n C dX6_aimOf_27 1 rfl rfl ?_
      refine j_get C (hin6) (ci := 6) rfl 4 (by decide) (hl9) 0 rfl (v := .ref o0) rfl dX6_aimOf_28 ?_
      refine j_iload C dX6_aimOf_31 0 rfl ?_
      refine j_iconst C dX6_aimOf_33 (v := (nI 0)) kc_i_0 ?_
      refine j_iadd C dX6_aimOf_34 (v := (nI (7 * o + k + 0))) (nI_add _ _) ?_
      refine j_ialoadN C (7 * o + k + 0) rfl 1 rfl (by omega) (by decide) dX6_aimOf_35 ?_
      refine j_iload_n C dX6_aimOf_36 4 rfl rfl ?_
      refine j_aload_n C dX6_aimOf_37 1 rfl rfl ?_
      refine j_get C (hin6) (ci := 6) rfl 4 (by decide) (hl9) 0 rfl (v := .ref o0) rfl dX6_aimOf_38 ?_
      refine j_iload C dX6_aimOf_41 0 rfl ?_
      refine j_iconst C dX6_aimOf_43 (v := (nI 3)) kc_i_3 ?_
      refine j_iadd C dX6_aimOf_44 (v := (nI (7 * o + k + 3))) (nI_add _ _) ?_
      refine j_ialoadN C (7 * o + k + 3) rfl 1 rfl (by omega) (by decide) dX6_aimOf_45 ?_
      refine j_imul C dX6_aimOf_46 (v := ((nI tm) * (ob (7 * o + k + 3)))) rfl ?_
      refine j_iadd C dX6_aimOf_47 (v := ((ob (7 * o + k + 0)) + ((nI tm) * (ob (7 * o + k + 3))))) rfl ?_
      refine j_iretR C ro hQ rfl ?_ dX6_aimOf_48
      rfl
    · skip
      have c2 := (kn_nlt (a := 7 * o + k) (b := 21 - 3) (by omega) (by omega)).mp c2
      exfalso
      first | exact c2.elim | omega

set_option maxHeartbeats 4000000 in
set_option maxRecDepth 100000 in
/-- ofRequest(request, part) -/
theorem c_X6_ofRequest (l : Launch) (T : jj_T) (h0 o0 r0 c p t i k : Nat) (s : Bool) (ob rq : Nat → Int32) (hk : 3 * i + k < 12) : jR l T yX6_ofRequest wsX6_ofRequest { frames := 0, cells := 0, slots := 0, locals := 0 } [.ref h0, .int (nI i), .int (nI k)] [(h0, cO 6 [.int (nI c), .int (nI p), .int (bI s), .int (nI t), .ref o0, .ref r0]), (o0, cI T 21 ob), (r0, cI T 12 rq)] (fun v => v = some (.int (rq (3 * i + k)))) := by
  refine jR.of (cc := cX6_ofRequest) (maxL := 4) (ret := (some .int)) (by decide) rfl (Nat.le_of_ble_eq_true rfl) ?_
  intro X C ro hl hT hQ
  subst hl; subst hT
  have hin6 : ∀ w ∈ u_ws RX6 TX6 6, w ∈ wsX6_ofRequest := by decide +kernel
  have hl15 : Cond.fieldLink RX6 15 (TX6 5).1 (TX6 5).2.1 (TX6 5).2.2.1 ∈ wsX6_ofRequest := by decide +kernel
  show jj X 0 0 0 [(0, .ref h0), (1, .int (nI i)), (2, .int (nI k))] [] [(h0, cO 6 [.int (nI c), .int (nI p), .int (bI s), .int (nI t), .ref o0, .ref r0]), (o0, cI (xT X) 21 ob), (r0, cI (xT X) 12 rq)]
  refine j_iconst C dX6_ofRequest_0 (v := (nI 3)) kc_i_3 ?_
  refine j_iload_n C dX6_ofRequest_1 1 rfl rfl ?_
  refine j_imul C dX6_ofRequest_2 (v := (nI (3 * i))) (pk_mul _ _) ?_
  refine j_iload_n C dX6_ofRequest_3 2 rfl rfl ?_
  refine j_iadd C dX6_ofRequest_4 (v := (nI (3 * i + k))) (nI_add _ _) ?_
  refine j_istore_n C dX6_ofRequest_5 rfl (by decide) (lv' := [(3, .int (nI (3 * i + k))), (0, .ref h0), (1, .int (nI i)), (2, .int (nI k))]) rfl ?_
  refine j_iload_n C dX6_ofRequest_6 0 rfl rfl ?_
  refine j_if_lt C dX6_ofRequest_7 (tgt := 28) (by decide) (fun c1 => ?_) (fun c1 => ?_)
  · skip
    have c1 := (kz_lt (a := 3 * i + k) (by omega)).mp c1
    exfalso
    first | exact c1.elim | omega
  · skip
    have c1 := (kz_nlt (a := 3 * i + k) (by omega)).mp c1
    refine j_iload_n C dX6_ofRequest_10 0 rfl rfl ?_
    refine j_aload_n C dX6_ofRequest_11 1 rfl rfl ?_
    refine j_get C (hin6) (ci := 6) rfl 5 (by decide) (hl15) 0 rfl (v := .ref r0) rfl dX6_ofRequest_12 ?_
    refine j_alenI C 2 rfl dX6_ofRequest_15 ?_
    refine j_icmp_ge C dX6_ofRequest_16 (tgt := 28) (by decide) (fun c2 => ?_) (fun c2 => ?_)
    · skip
      have c2 := (kn_ge (a := 3 * i + k) (b := 12) (by omega) (by omega)).mp c2
      exfalso
      first | exact c2.elim | omega
    · skip
      have c2 := (kn_nge (a := 3 * i + k) (b := 12) (by omega) (by omega)).mp c2
      refine j_aload_n C dX6_ofRequest_19 1 rfl rfl ?_
      refine j_get C (hin6) (ci := 6) rfl 5 (by decide) (hl15) 0 rfl (v := .ref r0) rfl dX6_ofRequest_20 ?_
      refine j_iload_n C dX6_ofRequest_23 0 rfl rfl ?_
      refine j_ialoadN C (3 * i + k) rfl 2 rfl (by omega) (by decide) dX6_ofRequest_24 ?_
      refine j_goto C dX6_ofRequest_25 (tgt := 29) (by decide) ?_
      refine j_iretR C ro hQ rfl ?_ dX6_ofRequest_29
      rfl

set_option maxHeartbeats 4000000 in
set_option maxRecDepth 100000 in
/-- setRequest(request, part, number) -/
theorem c_X6_setRequest (l : Launch) (T : jj_T) (h0 o0 r0 c p t i k : Nat) (x : Int32) (s : Bool) (ob rq : Nat → Int32) (hk : 3 * i + k < 12) : jM l T yX6_setRequest wsX6_setRequest { frames := 0, cells := 0, slots := 0, locals := 0 } [.ref h0, .int (nI i), .int (nI k), .int x] [(h0, cO 6 [.int (nI c), .int (nI p), .int (bI s), .int (nI t), .ref o0, .ref r0]), (o0, cI T 21 ob), (r0, cI T 12 rq)] (fun v w1 => v = none ∧ w1 = [(h0, cO 6 [.int (nI c), .int (nI p), .int (bI s), .int (nI t), .ref o0, .ref r0]), (o0, cI T 21 ob), (r0, cI T 12 (upd rq (3 * i + k) x))]) := by
  refine jM.of (cc := cX6_setRequest) (maxL := 5) (ret := none) (by decide) rfl (Nat.le_of_ble_eq_true rfl) ?_
  intro X C rw_ hl hT hQ hnm
  subst hl; subst hT
  have hin6 : ∀ w ∈ u_ws RX6 TX6 6, w ∈ wsX6_setRequest := by decide +kernel
  have hl15 : Cond.fieldLink RX6 15 (TX6 5).1 (TX6 5).2.1 (TX6 5).2.2.1 ∈ wsX6_setRequest := by decide +kernel
  show jj X 0 0 0 [(0, .ref h0), (1, .int (nI i)), (2, .int (nI k)), (3, .int x)] [] [(h0, cO 6 [.int (nI c), .int (nI p), .int (bI s), .int (nI t), .ref o0, .ref r0]), (o0, cI (xT X) 21 ob), (r0, cI (xT X) 12 rq)]
  refine j_iconst C dX6_setRequest_0 (v := (nI 3)) kc_i_3 ?_
  refine j_iload_n C dX6_setRequest_1 1 rfl rfl ?_
  refine j_imul C dX6_setRequest_2 (v := (nI (3 * i))) (pk_mul _ _) ?_
  refine j_iload_n C dX6_setRequest_3 2 rfl rfl ?_
  refine j_iadd C dX6_setRequest_4 (v := (nI (3 * i + k))) (nI_add _ _) ?_
  refine j_istore C dX6_setRequest_5 (by decide) (lv' := [(4, .int (nI (3 * i + k))), (0, .ref h0), (1, .int (nI i)), (2, .int (nI k)), (3, .int x)]) rfl ?_
  refine j_iload C dX6_setRequest_7 0 rfl ?_
  refine j_if_lt C dX6_setRequest_9 (tgt := 30) (by decide) (fun c1 => ?_) (fun c1 => ?_)
  · skip
    have c1 := (kz_lt (a := 3 * i + k) (by omega)).mp c1
    exfalso
    first | exact c1.elim | omega
  · skip
    have c1 := (kz_nlt (a := 3 * i + k) (by omega)).mp c1
    refine j_iload C dX6_setRequest_12 0 rfl ?_
    refine j_aload_n C dX6_setRequest_14 1 rfl rfl ?_
    refine j_get C (hin6) (ci := 6) rfl 5 (by decide) (hl15) 0 rfl (v := .ref r0) rfl dX6_setRequest_15 ?_
    refine j_alenI C 2 rfl dX6_setRequest_18 ?_
    refine j_icmp_ge C dX6_setRequest_19 (tgt := 30) (by decide) (fun c2 => ?_) (fun c2 => ?_)
    · skip
      have c2 := (kn_ge (a := 3 * i + k) (b := 12) (by omega) (by omega)).mp c2
      exfalso
      first | exact c2.elim | omega
    · skip
      have c2 := (kn_nge (a := 3 * i + k) (b := 12) (by omega) (by omega)).mp c2
      refine j_aload_n C dX6_setRequest_22 1 rfl rfl ?_
      refine j_get C (hin6) (ci := 6) rfl 5 (by decide) (hl15) 0 rfl (v := .ref r0) rfl dX6_setRequest_23 ?_
      refine j_iload C dX6_setRequest_26 0 rfl ?_
      refine j_iload_n C dX6_setRequest_28 4 rfl rfl ?_
      refine j_iastoreN C rw_ (3 * i + k) rfl 2 rfl (by omega) (by decide) (w' := [(h0, cO 6 [.int (nI c), .int (nI p), .int (bI s), .int (nI t), .ref o0, .ref r0]), (o0, cI (xT X) 21 ob), (r0, cI (xT X) 12 (upd rq (3 * i + k) x))]) rfl dX6_setRequest_29 ?_
      refine j_vretM C rw_ hQ (by decide) (by decide) ?_ dX6_setRequest_30
      exact ⟨rfl, rfl⟩

set_option maxHeartbeats 4000000 in
set_option maxRecDepth 100000 in
/-- appendRequest(cell, exposure, value) -/
theorem c_X6_appendRequest (l : Launch) (T : jj_T) (h0 o0 r0 c p t : Nat) (x y z : Int32) (s : Bool) (ob rq : Nat → Int32) (ht : t < 4) : jM l T yX6_appendRequest wsX6_appendRequest { frames := 1, cells := 0, slots := 0, locals := 24 } [.ref h0, .int x, .int y, .int z] [(h0, cO 6 [.int (nI c), .int (nI p), .int (bI s), .int (nI t), .ref o0, .ref r0]), (o0, cI T 21 ob), (r0, cI T 12 rq)] (fun v w1 => v = none ∧ w1 = [(h0, cO 6 [.int (nI c), .int (nI p), .int (bI s), .int (nI (t + 1)), .ref o0, .ref r0]), (o0, cI T 21 ob), (r0, cI T 12 (upd (upd (upd rq (3 * t + 0) x) (3 * t + 1) y) (3 * t + 2) z))]) := by
  refine jM.of (cc := cX6_appendRequest) (maxL := 4) (ret := none) (by decide) rfl (Nat.le_of_ble_eq_true rfl) ?_
  intro X C rw_ hl hT hQ hnm
  subst hl; subst hT
  have hin6 : ∀ w ∈ u_ws RX6 TX6 6, w ∈ wsX6_appendRequest := by decide +kernel
  have hl29 : Cond.fieldLink RX6 29 (TX6 3).1 (TX6 3).2.1 (TX6 3).2.2.1 ∈ wsX6_appendRequest := by decide +kernel
  show jj X 0 0 0 [(0, .ref h0), (1, .int x), (2, .int y), (3, .int z)] [] [(h0, cO 6 [.int (nI c), .int (nI p), .int (bI s), .int (nI t), .ref o0, .ref r0]), (o0, cI (xT X) 21 ob), (r0, cI (xT X) 12 rq)]
  refine j_aload_n C dX6_appendRequest_0 0 rfl rfl ?_
  refine j_aload_n C dX6_appendRequest_1 0 rfl rfl ?_
  refine j_get C (hin6) (ci := 6) rfl 3 (by decide) (hl29) 0 rfl (v := .int (nI t)) rfl dX6_appendRequest_2 ?_
  refine j_iconst C dX6_appendRequest_5 (v := (nI 0)) kc_i_0 ?_
  refine j_iload_n C dX6_appendRequest_6 1 rfl rfl ?_
  refine j_callVM C rw_ (nA := 3) (As := [.int (nI t), .int (nI 0), .int x]) (wr := []) (c_X6_setRequest (xl X) (xT X) h0 o0 r0 c p t t 0 x s ob rq (by omega)) gX6_appendRequest_X6_setRequest rfl (by decide +kernel) rfl (by decide) (by decide) [0, 1, 2] [] rfl rfl rfl rfl (by decide) 0 rfl rfl (rest := []) rfl (Nat.le_of_ble_eq_true rfl) dX6_appendRequest_7 ?_
  rintro _ _ ⟨rfl, rfl⟩
  show jj X 0 0 10 [(0, .ref h0), (1, .int x), (2, .int y), (3, .int z)] [] [(h0, cO 6 [.int (nI c), .int (nI p), .int (bI s), .int (nI t), .ref o0, .ref r0]), (o0, cI (xT X) 21 ob), (r0, cI (xT X) 12 (upd rq (3 * t + 0) x))]
  refine j_aload_n C dX6_appendRequest_10 0 rfl rfl ?_
  refine j_aload_n C dX6_appendRequest_11 0 rfl rfl ?_
  refine j_get C (hin6) (ci := 6) rfl 3 (by decide) (hl29) 0 rfl (v := .int (nI t)) rfl dX6_appendRequest_12 ?_
  refine j_iconst C dX6_appendRequest_15 (v := (nI 1)) kc_i_1 ?_
  refine j_iload_n C dX6_appendRequest_16 2 rfl rfl ?_
  refine j_callVM C rw_ (nA := 3) (As := [.int (nI t), .int (nI 1), .int y]) (wr := []) (c_X6_setRequest (xl X) (xT X) h0 o0 r0 c p t t 1 y s ob (upd rq (3 * t + 0) x) (by omega)) gX6_appendRequest_X6_setRequest rfl (by decide +kernel) rfl (by decide) (by decide) [0, 1, 2] [] rfl rfl rfl rfl (by decide) 0 rfl rfl (rest := []) rfl (Nat.le_of_ble_eq_true rfl) dX6_appendRequest_17 ?_
  rintro _ _ ⟨rfl, rfl⟩
  show jj X 0 0 20 [(0, .ref h0), (1, .int x), (2, .int y), (3, .int z)] [] [(h0, cO 6 [.int (nI c), .int (nI p), .int (bI s), .int (nI t), .ref o0, .ref r0]), (o0, cI (xT X) 21 ob), (r0, cI (xT X) 12 (upd (upd rq (3 * t + 0) x) (3 * t + 1) y))]
  refine j_aload_n C dX6_appendRequest_20 0 rfl rfl ?_
  refine j_aload_n C dX6_appendRequest_21 0 rfl rfl ?_
  refine j_get C (hin6) (ci := 6) rfl 3 (by decide) (hl29) 0 rfl (v := .int (nI t)) rfl dX6_appendRequest_22 ?_
  refine j_iconst C dX6_appendRequest_25 (v := (nI 2)) kc_i_2 ?_
  refine j_iload_n C dX6_appendRequest_26 3 rfl rfl ?_
  refine j_callVM C rw_ (nA := 3) (As := [.int (nI t), .int (nI 2), .int z]) (wr := []) (c_X6_setRequest (xl X) (xT X) h0 o0 r0 c p t t 2 z s ob (upd (upd rq (3 * t + 0) x) (3 * t + 1) y) (by omega)) gX6_appendRequest_X6_setRequest rfl (by decide +kernel) rfl (by decide) (by decide) [0, 1, 2] [] rfl rfl rfl rfl (by decide) 0 rfl rfl (rest := []) rfl (Nat.le_of_ble_eq_true rfl) dX6_appendRequest_27 ?_
  rintro _ _ ⟨rfl, rfl⟩
  show jj X 0 0 30 [(0, .ref h0), (1, .int x), (2, .int y), (3, .int z)] [] [(h0, cO 6 [.int (nI c), .int (nI p), .int (bI s), .int (nI t), .ref o0, .ref r0]), (o0, cI (xT X) 21 ob), (r0, cI (xT X) 12 (upd (upd (upd rq (3 * t + 0) x) (3 * t + 1) y) (3 * t + 2) z))]
  refine j_aload_n C dX6_appendRequest_30 0 rfl rfl ?_
  refine j_dup C dX6_appendRequest_31 rfl ?_
  refine j_get C (hin6) (ci := 6) rfl 3 (by decide) (hl29) 0 rfl (v := .int (nI t)) rfl dX6_appendRequest_32 ?_
  refine j_iconst C dX6_appendRequest_35 (v := (nI 1)) kc_i_1 ?_
  refine j_iadd C dX6_appendRequest_36 (v := (nI (t + 1))) (nI_add _ _) ?_
  refine j_put C rw_ (hin6) tyX6 tyX6_ok nmX6 (ci := 6) rfl 3 (by decide) (hl29) (by decide +kernel) (ty := .int) (by decide +kernel) rfl rfl 0 rfl (Nat.le_of_ble_eq_true rfl) (w' := [(h0, cO 6 [.int (nI c), .int (nI p), .int (bI s), .int (nI (t + 1)), .ref o0, .ref r0]), (o0, cI (xT X) 21 ob), (r0, cI (xT X) 12 (upd (upd (upd rq (3 * t + 0) x) (3 * t + 1) y) (3 * t + 2) z))]) rfl dX6_appendRequest_37 ?_
  refine j_vretM C rw_ hQ (by decide) (by decide) ?_ dX6_appendRequest_40
  exact ⟨rfl, rfl⟩

set_option maxHeartbeats 4000000 in
set_option maxRecDepth 100000 in
/-- dropRequest(request) -/
theorem c_X6_dropRequest (l : Launch) (T : jj_T) (h0 o0 r0 c p t i : Nat) (s : Bool) (ob rq : Nat → Int32) (hi : i < t) (ht : t ≤ 4) : jM l T yX6_dropRequest wsX6_dropRequest { frames := 1, cells := 0, slots := 0, locals := 24 } [.ref h0, .int (nI i)] [(h0, cO 6 [.int (nI c), .int (nI p), .int (bI s), .int (nI t), .ref o0, .ref r0]), (o0, cI T 21 ob), (r0, cI T 12 rq)] (fun v w1 => v = none ∧ w1 = [(h0, cO 6 [.int (nI c), .int (nI p), .int (bI s), .int (nI (t - 1)), .ref o0, .ref r0]), (o0, cI T 21 ob), (r0, cI T 12 (st_drop rq i t))]) := by
  refine jM.of (cc := cX6_dropRequest) (maxL := 4) (ret := none) (by decide) rfl (Nat.le_of_ble_eq_true rfl) ?_
  intro X C rw_ hl hT hQ hnm
  subst hl; subst hT
  have hin6 : ∀ w ∈ u_ws RX6 TX6 6, w ∈ wsX6_dropRequest := by decide +kernel
  have hl29 : Cond.fieldLink RX6 29 (TX6 3).1 (TX6 3).2.1 (TX6 3).2.2.1 ∈ wsX6_dropRequest := by decide +kernel
  show jj X 0 0 0 [(0, .ref h0), (1, .int (nI i))] [] [(h0, cO 6 [.int (nI c), .int (nI p), .int (bI s), .int (nI t), .ref o0, .ref r0]), (o0, cI (xT X) 21 ob), (r0, cI (xT X) 12 rq)]
  refine j_iload_n C dX6_dropRequest_0 1 rfl rfl ?_
  refine j_istore_n C dX6_dropRequest_1 rfl (by decide) (lv' := [(2, .int (nI i)), (0, .ref h0), (1, .int (nI i))]) rfl ?_
  refine j_lv [1, 2, 0] rfl ?_
  suffices hc2 : ∀ (mm : Nat) (j : Nat) (g : Nat → Int32), t - j < mm → (i ≤ j) → (j ≤ t - 1) → (∀ z, g z = if 3 * i ≤ z ∧ z < 3 * j then rq (z + 3) else rq z) → jj X 0 0 2 [(0, .ref h0), (1, .int (nI i)), (2, .int (nI j))] [] [(h0, cO 6 [.int (nI c), .int (nI p), .int (bI s), .int (nI t), .ref o0, .ref r0]), (o0, cI (xT X) 21 ob), (r0, cI (xT X) 12 g)] by
    refine hc2 _ _ rq (Nat.lt_succ_self _) ?_ ?_ ?_
    · omega
    · omega
    · intro z; rw [if_neg (by omega)]
  intro mm
  induction mm with
  | zero => intro j g hm; exact absurd hm (Nat.not_lt_zero _)
  | succ mm ih2 =>
    intro j g hm2 hj hj2 hg
    refine j_iload_n C dX6_dropRequest_2 2 rfl rfl ?_
    refine j_aload_n C dX6_dropRequest_3 0 rfl rfl ?_
    refine j_get C (hin6) (ci := 6) rfl 3 (by decide) (hl29) 0 rfl (v := .int (nI t)) rfl dX6_dropRequest_4 ?_
    refine j_iconst C dX6_dropRequest_7 (v := (nI 1)) kc_i_1 ?_
    refine j_isub C dX6_dropRequest_8 (v := (nI (t - 1))) (pk_sub (by omega)) ?_
    refine j_icmp_ge C dX6_dropRequest_9 (tgt := 45) (by decide) (fun c1 => ?_) (fun c1 => ?_)
    · skip
      have c1 := (kn_ge (a := j) (b := t - 1) (by omega) (by omega)).mp c1
      refine j_extI C (st_drop rq i t) 2 rfl (fun j9 hj9 => ?_) (w' := [(h0, cO 6 [.int (nI c), .int (nI p), .int (bI s), .int (nI t), .ref o0, .ref r0]), (o0, cI (xT X) 21 ob), (r0, cI (xT X) 12 (st_drop rq i t))]) rfl ?_
      · rw [hg j9]
        unfold st_drop
        by_cases h : 3 * i ≤ j9 ∧ j9 < 3 * j
        · rw [if_pos h, if_pos (by omega)]
        · rw [if_neg h, if_neg (by omega)]
      refine j_aload_n C dX6_dropRequest_45 0 rfl rfl ?_
      refine j_dup C dX6_dropRequest_46 rfl ?_
      refine j_get C (hin6) (ci := 6) rfl 3 (by decide) (hl29) 0 rfl (v := .int (nI t)) rfl dX6_dropRequest_47 ?_
      refine j_iconst C dX6_dropRequest_50 (v := (nI 1)) kc_i_1 ?_
      refine j_isub C dX6_dropRequest_51 (v := (nI (t - 1))) (pk_sub (by omega)) ?_
      refine j_put C rw_ (hin6) tyX6 tyX6_ok nmX6 (ci := 6) rfl 3 (by decide) (hl29) (by decide +kernel) (ty := .int) (by decide +kernel) rfl rfl 0 rfl (Nat.le_of_ble_eq_true rfl) (w' := [(h0, cO 6 [.int (nI c), .int (nI p), .int (bI s), .int (nI (t - 1)), .ref o0, .ref r0]), (o0, cI (xT X) 21 ob), (r0, cI (xT X) 12 (st_drop rq i t))]) rfl dX6_dropRequest_52 ?_
      refine j_vretM C rw_ hQ (by decide) (by decide) ?_ dX6_dropRequest_55
      exact ⟨rfl, rfl⟩
    · skip
      have c1 := (kn_nge (a := j) (b := t - 1) (by omega) (by omega)).mp c1
      refine j_iconst C dX6_dropRequest_12 (v := (nI 0)) kc_i_0 ?_
      refine j_istore_n C dX6_dropRequest_13 rfl (by decide) (lv' := [(3, .int (nI 0)), (0, .ref h0), (1, .int (nI i)), (2, .int (nI j))]) rfl ?_
      refine j_lv [1, 2, 3, 0] rfl ?_
      suffices hc14 : ∀ (mm : Nat) (k : Nat) (g2 : Nat → Int32), 3 - k < mm → (k ≤ 3) → (∀ z, g2 z = if 3 * i ≤ z ∧ z < 3 * j + k then rq (z + 3) else rq z) → jj X 0 0 14 [(0, .ref h0), (1, .int (nI i)), (2, .int (nI j)), (3, .int (nI k))] [] [(h0, cO 6 [.int (nI c), .int (nI p), .int (bI s), .int (nI t), .ref o0, .ref r0]), (o0, cI (xT X) 21 ob), (r0, cI (xT X) 12 g2)] by
        refine hc14 _ _ _ (Nat.lt_succ_self _) ?_ ?_
        · omega
        · exact hg
      intro mm
      induction mm with
      | zero => intro k g2 hm; exact absurd hm (Nat.not_lt_zero _)
      | succ mm ih14 =>
        intro k g2 hm14 hk hg2
        refine j_iload_n C dX6_dropRequest_14 3 rfl rfl ?_
        refine j_iconst C dX6_dropRequest_15 (v := (nI 3)) kc_i_3 ?_
        refine j_icmp_ge C dX6_dropRequest_16 (tgt := 39) (by decide) (fun c2 => ?_) (fun c2 => ?_)
        · skip
          have c2 := (kn_ge (a := k) (b := 3) (by omega) (by omega)).mp c2
          refine j_iinc C dX6_dropRequest_39 (q := 2) (v := (nI (j + 1))) rfl (kc_inc j) (by decide) (lv' := [(2, .int (nI (j + 1))), (0, .ref h0), (1, .int (nI i)), (3, .int (nI k))]) rfl ?_
          refine j_goto C dX6_dropRequest_42 (tgt := 2) (by decide) ?_
          refine j_lv [1, 2, 0] rfl ?_
          refine ih2 _ _ (by omega) ?_ ?_ ?_
          · omega
          · omega
          · intro z; rw [hg2 z]; by_cases h : 3 * i ≤ z ∧ z < 3 * j + k
            · rw [if_pos h, if_pos (by omega)]
            · rw [if_neg h, if_neg (by omega)]
        · skip
          have c2 := (kn_nge (a := k) (b := 3) (by omega) (by omega)).mp c2
          refine j_aload_n C dX6_dropRequest_19 0 rfl rfl ?_
          refine j_iload_n C dX6_dropRequest_20 2 rfl rfl ?_
          refine j_iload_n C dX6_dropRequest_21 3 rfl rfl ?_
          refine j_aload_n C dX6_dropRequest_22 0 rfl rfl ?_
          refine j_iload_n C dX6_dropRequest_23 2 rfl rfl ?_
          refine j_iconst C dX6_dropRequest_24 (v := (nI 1)) kc_i_1 ?_
          refine j_iadd C dX6_dropRequest_25 (v := (nI (j + 1))) (nI_add _ _) ?_
          refine j_iload_n C dX6_dropRequest_26 3 rfl rfl ?_
          refine j_callVR C (nA := 2) (As := [.int (nI (j + 1)), .int (nI k)]) (c_X6_ofRequest (xl X) (xT X) h0 o0 r0 c p t (j + 1) k s ob g2 (by omega)) gX6_dropRequest_X6_ofRequest rfl (by decide +kernel) rfl ⟨rfl, rfl⟩ (by decide) (by decide) [0, 1, 2] rfl rfl 0 rfl rfl (rest := [.int (nI k), .int (nI j), .ref h0]) rfl (Nat.le_of_ble_eq_true rfl) dX6_dropRequest_27 ?_
          rintro _ rfl
          show jj X 0 0 30 [(0, .ref h0), (1, .int (nI i)), (2, .int (nI j)), (3, .int (nI k))] [.int (g2 (3 * (j + 1) + k)), .int (nI k), .int (nI j), .ref h0] [(h0, cO 6 [.int (nI c), .int (nI p), .int (bI s), .int (nI t), .ref o0, .ref r0]), (o0, cI (xT X) 21 ob), (r0, cI (xT X) 12 g2)]
          refine j_callVM C rw_ (nA := 3) (As := [.int (nI j), .int (nI k), .int (g2 (3 * (j + 1) + k))]) (wr := []) (c_X6_setRequest (xl X) (xT X) h0 o0 r0 c p t j k (g2 (3 * (j + 1) + k)) s ob g2 (by omega)) gX6_dropRequest_X6_setRequest rfl (by decide +kernel) rfl (by decide) (by decide) [0, 1, 2] [] rfl rfl rfl rfl (by decide) 0 rfl rfl (rest := []) rfl (Nat.le_of_ble_eq_true rfl) dX6_dropRequest_30 ?_
          rintro _ _ ⟨rfl, rfl⟩
          show jj X 0 0 33 [(0, .ref h0), (1, .int (nI i)), (2, .int (nI j)), (3, .int (nI k))] [] [(h0, cO 6 [.int (nI c), .int (nI p), .int (bI s), .int (nI t), .ref o0, .ref r0]), (o0, cI (xT X) 21 ob), (r0, cI (xT X) 12 (upd g2 (3 * j + k) (g2 (3 * (j + 1) + k))))]
          refine j_iinc C dX6_dropRequest_33 (q := 3) (v := (nI (k + 1))) rfl (kc_inc k) (by decide) (lv' := [(3, .int (nI (k + 1))), (0, .ref h0), (1, .int (nI i)), (2, .int (nI j))]) rfl ?_
          refine j_goto C dX6_dropRequest_36 (tgt := 14) (by decide) ?_
          refine j_lv [1, 2, 3, 0] rfl ?_
          refine ih14 _ _ (by omega) ?_ ?_
          · omega
          · intro z
            unfold upd
            by_cases h : z = 3 * j + k
            · rw [if_pos h, if_pos (by omega), hg2, if_neg (by omega), h, show 3 * (j + 1) + k = 3 * j + k + 3 by omega]
            · rw [if_neg h, hg2 z]
              by_cases h2 : 3 * i ≤ z ∧ z < 3 * j + k
              · rw [if_pos h2, if_pos (by omega)]
              · rw [if_neg h2, if_neg (by omega)]
