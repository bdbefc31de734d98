/-! SKY: which cells are bright -/
def br_lim (ob : Nat → Int32) (o t : Nat) : Int64 := (ob (7 * o + 6)).toInt64 * (ob (7 * o + 6)).toInt64 * (st_aim ob o 0 t * st_aim ob o 0 t + st_aim ob o 1 t * st_aim ob o 1 t + st_aim ob o 2 t * st_aim ob o 2 t).toInt64
def br_hit (x y z : Int32) (lim : Int64) (c : Nat) : Bool := decide (lN 0 < (cvec (3 * c) * x + cvec (3 * c + 1) * y + cvec (3 * c + 2) * z).toInt64) && decide (lim * (csq c).toInt64 < lN 10000 * (cvec (3 * c) * x + cvec (3 * c + 1) * y + cvec (3 * c + 2) * z).toInt64 * (cvec (3 * c) * x + cvec (3 * c + 1) * y + cvec (3 * c + 2) * z).toInt64)
def br_on (ob : Nat → Int32) (o : Nat) : Bool := decide ((ob (7 * o + 6)).toInt64 ≠ lN 0)
def br_o (ob : Nat → Int32) (c t o : Nat) : Bool := br_on ob o && br_hit (st_aim ob o 0 t) (st_aim ob o 1 t) (st_aim ob o 2 t) (br_lim ob o t) c
def brn (ob : Nat → Int32) (c t : Nat) : Nat → Bool
  | 0 => false
  | o + 1 => brn ob c t o || br_o ob c t o
/-- the cell c is bright at the time t -/
def br (ob : Nat → Int32) (c t : Nat) : Bool := brn ob c t 3
theorem br_cong {ob ob1 : Nat → Int32} (h : ∀ j, j < 21 → ob j = ob1 j) (c t : Nat) : br ob c t = br ob1 c t := by
  have ha : ∀ o k, o < 3 → k < 3 → st_aim ob o k t = st_aim ob1 o k t := fun o k ho hk => by
    unfold st_aim; rw [h _ (by omega), h _ (by omega)]
  have hb : ∀ o, o < 3 → br_o ob c t o = br_o ob1 c t o := fun o ho => by
    unfold br_o br_on br_lim
    rw [h (7 * o + 6) (by omega), ha o 0 ho (by decide), ha o 1 ho (by decide), ha o 2 ho (by decide)]
  show (((false || br_o ob c t 0) || br_o ob c t 1) || br_o ob c t 2) = (((false || br_o ob1 c t 0) || br_o ob1 c t 1) || br_o ob1 c t 2)
  rw [hb 0 (by decide), hb 1 (by decide), hb 2 (by decide)]
theorem brn_t {ob : Nat → Int32} {c t o : Nat} (ho : o < 3) (h : br_o ob c t o = true) : br ob c t = true := by
  unfold br
  rcases (show o = 0 ∨ o = 1 ∨ o = 2 by omega) with rfl | rfl | rfl
  · show (((false || br_o ob c t 0) || br_o ob c t 1) || br_o ob c t 2) = true
    rw [h]; simp
  · show (((false || br_o ob c t 0) || br_o ob c t 1) || br_o ob c t 2) = true
    rw [h]; simp
  · show (((false || br_o ob c t 0) || br_o ob c t 1) || br_o ob c t 2) = true
    rw [h]; simp
/-- the drawn rows are right -/
def skI (ob : Nat → Int32) (dr : Nat → Bool) (LW : Nat → Int64) : Prop := ∀ t, t < 301 → dr t = true → ∀ c, c < 192 → cs_b LW t c = (decide (c < 150) && br ob c t)
/-- x is the first time from a to b with p, or NONE -/
def ft_is (p : Nat → Bool) (a b : Nat) (x : Int32) : Prop := (∃ t, a ≤ t ∧ t ≤ b ∧ p t = true ∧ (∀ d, a ≤ d → d < t → p d = false) ∧ x = nI t) ∨ ((∀ t, a ≤ t → t ≤ b → p t = false) ∧ x = -9)
theorem ft_uniq {p : Nat → Bool} {a b : Nat} {x y : Int32} (hx : ft_is p a b x) (hy : ft_is p a b y) : x = y := by
  rcases hx with ⟨c, h0, h1, h2, h3, rfl⟩ | ⟨h1, rfl⟩ <;> rcases hy with ⟨d, g0, g1, g2, g3, rfl⟩ | ⟨g1, rfl⟩
  · rcases Nat.lt_trichotomy c d with h | h | h
    · rw [g3 c h0 h] at h2; cases h2
    · rw [h]
    · rw [h3 d g0 h] at g2; cases g2
  · rw [g1 c h0 h1] at h2; cases h2
  · rw [h1 d g0 g1] at g2; cases g2
  · rfl
theorem ct_150 (p : Nat → Bool) : fb_ct (fun c => decide (c < 150) && p c) 192 = fb_ct p 150 := by
  rw [show (192 : Nat) = 150 + 42 from rfl, fb_ct_split]
  rw [fb_ct_cong (p := fun c => decide (c < 150) && p c) (q := p) (n := 150) (fun k hk => by simp [hk])]
  have hz : fb_ct (fun k => (fun c => decide (c < 150) && p c) (150 + k)) 42 = 0 := fb_ct_zero.mpr (fun k _ => by
    show (decide (150 + k < 150) && p (150 + k)) = false
    rw [decide_eq_false (by omega)]; rfl)
  rw [hz, Nat.add_zero]
set_option maxHeartbeats 4000000 in
set_option maxRecDepth 100000 in
/-- aim(object, time) -/
theorem c_X4_aim (l : Launch) (T : jj_T) (h4 hS hs so sr hl hlw hdr hh hv hq ha sc sp st : Nat) (ss : Bool) (ob rq : Nat → Int32) (ax ay az : Int32) (lim : Int64) (LW : Nat → Int64) (dr : Nat → Bool) (o tm : Nat) (ho : o < 3) : jM l T yX4_aim wsX4_aim { frames := 1, cells := 0, slots := 0, locals := 24 } [.ref h4, .int (nI o), .int (nI tm)] [(h4, cO 4 [.ref hS, .ref hs, .ref hl, .ref hdr, .int ax, .int ay, .int az, .long lim]), (hs, cO 6 [.int (nI sc), .int (nI sp), .int (bI ss), .int (nI st), .ref so, .ref sr]), (so, cI T 21 ob), (sr, cI T 12 rq), (hl, cO 0 [.ref hlw]), (hlw, cJ T 903 LW), (hdr, cZ T 301 (fun j => bI (dr j))), (hS, cO 5 [.ref hh, .ref hv, .ref hq, .ref ha]), (hv, cI T 450 cvec), (hq, cI T 150 csq)] (fun v w1 => v = some (.int (bI (br_on ob o))) ∧ w1 = [(h4, cO 4 [.ref hS, .ref hs, .ref hl, .ref hdr, .int (st_aim ob o 0 tm), .int (st_aim ob o 1 tm), .int (st_aim ob o 2 tm), .long (br_lim ob o tm)]), (hs, cO 6 [.int (nI sc), .int (nI sp), .int (bI ss), .int (nI st), .ref so, .ref sr]), (so, cI T 21 ob), (sr, cI T 12 rq), (hl, cO 0 [.ref hlw]), (hlw, cJ T 903 LW), (hdr, cZ T 301 (fun j => bI (dr j))), (hS, cO 5 [.ref hh, .ref hv, .ref hq, .ref ha]), (hv, cI T 450 cvec), (hq, cI T 150 csq)]) := by
  refine jM.of (cc := cX4_aim) (maxL := 5) (ret := (some .boolean)) (by decide) rfl (Nat.le_of_ble_eq_true rfl) ?_
  intro X C rw_ hl hT hQ hnm
  subst hl; subst hT
  have hin4 : ∀ w ∈ u_ws RX4 TX4 8, w ∈ wsX4_aim := by decide +kernel
  have hl12 : Cond.fieldLink RX4 12 (TX4 1).1 (TX4 1).2.1 (TX4 1).2.2.1 ∈ wsX4_aim := by decide +kernel
  have hl79 : Cond.fieldLink RX4 79 (TX4 4).1 (TX4 4).2.1 (TX4 4).2.2.1 ∈ wsX4_aim := by decide +kernel
  have hl83 : Cond.fieldLink RX4 83 (TX4 5).1 (TX4 5).2.1 (TX4 5).2.2.1 ∈ wsX4_aim := by decide +kernel
  have hl86 : Cond.fieldLink RX4 86 (TX4 6).1 (TX4 6).2.1 (TX4 6).2.2.1 ∈ wsX4_aim := by decide +kernel
  have hl89 : Cond.fieldLink RX4 89 (TX4 7).1 (TX4 7).2.1 (TX4 7).2.2.1 ∈ wsX4_aim := by decide +kernel
  show jj X 0 0 0 [(0, .ref h4), (1, .int (nI o)), (2, .int (nI tm))] [] [(h4, cO 4 [.ref hS, .ref hs, .ref hl, .ref hdr, .int ax, .int ay, .int az, .long lim]), (hs, cO 6 [.int (nI sc), .int (nI sp), .int (bI ss), .int (nI st), .ref so, .ref sr]), (so, cI (xT X) 21 ob), (sr, cI (xT X) 12 rq), (hl, cO 0 [.ref hlw]), (hlw, cJ (xT X) 903 LW), (hdr, cZ (xT X) 301 (fun j => bI (dr j))), (hS, cO 5 [.ref hh, .ref hv, .ref hq, .ref ha]), (hv, cI (xT X) 450 cvec), (hq, cI (xT X) 150 csq)]
  refine j_aload_n C dX4_aim_0 0 rfl rfl ?_
  refine j_get C (hin4) (ci := 4) rfl 1 (by decide) (hl12) 0 rfl (v := .ref hs) rfl dX4_aim_1 ?_
  refine j_iload_n C dX4_aim_4 1 rfl rfl ?_
  refine j_bipush C dX4_aim_5 (v := (nI 6)) kc_b_6 ?_
  refine j_callVR C (nA := 2) (As := [.int (nI o), .int (nI 6)]) (c_X6_ofObject (xl X) (xT X) hs so sr sc sp st o 6 ss ob rq (by omega)) gX4_aim_X6_ofObject rfl (by decide +kernel) rfl ⟨rfl, rfl⟩ (by decide) (by decide) [1, 2, 3] rfl rfl 1 rfl rfl (rest := []) rfl (Nat.le_of_ble_eq_true rfl) dX4_aim_7 ?_
  rintro _ rfl
  show jj X 0 0 10 [(0, .ref h4), (1, .int (nI o)), (2, .int (nI tm))] [.int (ob (7 * o + 6))] [(h4, cO 4 [.ref hS, .ref hs, .ref hl, .ref hdr, .int ax, .int ay, .int az, .long lim]), (hs, cO 6 [.int (nI sc), .int (nI sp), .int (bI ss), .int (nI st), .ref so, .ref sr]), (so, cI (xT X) 21 ob), (sr, cI (xT X) 12 rq), (hl, cO 0 [.ref hlw]), (hlw, cJ (xT X) 903 LW), (hdr, cZ (xT X) 301 (fun j => bI (dr j))), (hS, cO 5 [.ref hh, .ref hv, .ref hq, .ref ha]), (hv, cI (xT X) 450 cvec), (hq, cI (xT X) 150 csq)]
  refine j_i2l C dX4_aim_10 (v := ((ob (7 * o + 6)).toInt64)) rfl ?_
  refine j_lstore_n C dX4_aim_11 rfl (by decide) (lv' := [(3, .long ((ob (7 * o + 6)).toInt64)), (0, .ref h4), (1, .int (nI o)), (2, .int (nI tm))]) rfl ?_
  refine j_aload_n C dX4_aim_12 1 rfl rfl ?_
  refine j_aload_n C dX4_aim_13 1 rfl rfl ?_
  refine j_get C (hin4) (ci := 4) rfl 1 (by decide) (hl12) 0 rfl (v := .ref hs) rfl dX4_aim_14 ?_
  refine j_iload_n C dX4_aim_17 2 rfl rfl ?_
  refine j_iconst C dX4_aim_18 (v := (nI 0)) kc_i_0 ?_
  refine j_iload_n C dX4_aim_19 3 rfl rfl ?_
  refine j_callVR C (nA := 3) (As := [.int (nI o), .int (nI 0), .int (nI tm)]) (c_X6_aimOf (xl X) (xT X) hs so sr sc sp st o 0 tm ss ob rq (by omega)) gX4_aim_X6_aimOf rfl (by decide +kernel) rfl ⟨rfl, rfl⟩ (by decide) (by decide) [1, 2, 3] rfl rfl 1 rfl rfl (rest := [.ref h4]) rfl (Nat.le_of_ble_eq_true rfl) dX4_aim_20 ?_
  rintro _ rfl
  show jj X 0 0 23 [(3, .long ((ob (7 * o + 6)).toInt64)), (0, .ref h4), (1, .int (nI o)), (2, .int (nI tm))] [.int (st_aim ob o 0 tm), .ref h4] [(h4, cO 4 [.ref hS, .ref hs, .ref hl, .ref hdr, .int ax, .int ay, .int az, .long lim]), (hs, cO 6 [.int (nI sc), .int (nI sp), .int (bI ss), .int (nI st), .ref so, .ref sr]), (so, cI (xT X) 21 ob), (sr, cI (xT X) 12 rq), (hl, cO 0 [.ref hlw]), (hlw, cJ (xT X) 903 LW), (hdr, cZ (xT X) 301 (fun j => bI (dr j))), (hS, cO 5 [.ref hh, .ref hv, .ref hq, .ref ha]), (hv, cI (xT X) 450 cvec), (hq, cI (xT X) 150 csq)]
  refine j_put C rw_ (hin4) tyX4 tyX4_ok nmX4 (ci := 4) rfl 4 (by decide) (hl79) (by decide +kernel) (ty := .int) (by decide +kernel) rfl rfl 0 rfl (Nat.le_of_ble_eq_true rfl) (w' := [(h4, cO 4 [.ref hS, .ref hs, .ref hl, .ref hdr, .int (st_aim ob o 0 tm), .int ay, .int az, .long lim]), (hs, cO 6 [.int (nI sc), .int (nI sp), .int (bI ss), .int (nI st), .ref so, .ref sr]), (so, cI (xT X) 21 ob), (sr, cI (xT X) 12 rq), (hl, cO 0 [.ref hlw]), (hlw, cJ (xT X) 903 LW), (hdr, cZ (xT X) 301 (fun j => bI (dr j))), (hS, cO 5 [.ref hh, .ref hv, .ref hq, .ref ha]), (hv, cI (xT X) 450 cvec), (hq, cI (xT X) 150 csq)]) rfl dX4_aim_23 ?_
  refine j_aload_n C dX4_aim_26 1 rfl rfl ?_
  refine j_aload_n C dX4_aim_27 1 rfl rfl ?_
  refine j_get C (hin4) (ci := 4) rfl 1 (by decide) (hl12) 0 rfl (v := .ref hs) rfl dX4_aim_28 ?_
  refine j_iload_n C dX4_aim_31 2 rfl rfl ?_
  refine j_iconst C dX4_aim_32 (v := (nI 1)) kc_i_1 ?_
  refine j_iload_n C dX4_aim_33 3 rfl rfl ?_
  refine j_callVR C (nA := 3) (As := [.int (nI o), .int (nI 1), .int (nI tm)]) (c_X6_aimOf (xl X) (xT X) hs so sr sc sp st o 1 tm ss ob rq (by omega)) gX4_aim_X6_aimOf rfl (by decide +kernel) rfl ⟨rfl, rfl⟩ (by decide) (by decide) [1, 2, 3] rfl rfl 1 rfl rfl (rest := [.ref h4]) rfl (Nat.le_of_ble_eq_true rfl) dX4_aim_34 ?_
  rintro _ rfl
  show jj X 0 0 37 [(3, .long ((ob (7 * o + 6)).toInt64)), (0, .ref h4), (1, .int (nI o)), (2, .int (nI tm))] [.int (st_aim ob o 1 tm), .ref h4] [(h4, cO 4 [.ref hS, .ref hs, .ref hl, .ref hdr, .int (st_aim ob o 0 tm), .int ay, .int az, .long lim]), (hs, cO 6 [.int (nI sc), .int (nI sp), .int (bI ss), .int (nI st), .ref so, .ref sr]), (so, cI (xT X) 21 ob), (sr, cI (xT X) 12 rq), (hl, cO 0 [.ref hlw]), (hlw, cJ (xT X) 903 LW), (hdr, cZ (xT X) 301 (fun j => bI (dr j))), (hS, cO 5 [.ref hh, .ref hv, .ref hq, .ref ha]), (hv, cI (xT X) 450 cvec), (hq, cI (xT X) 150 csq)]
  refine j_put C rw_ (hin4) tyX4 tyX4_ok nmX4 (ci := 4) rfl 5 (by decide) (hl83) (by decide +kernel) (ty := .int) (by decide +kernel) rfl rfl 0 rfl (Nat.le_of_ble_eq_true rfl) (w' := [(h4, cO 4 [.ref hS, .ref hs, .ref hl, .ref hdr, .int (st_aim ob o 0 tm), .int (st_aim ob o 1 tm), .int az, .long lim]), (hs, cO 6 [.int (nI sc), .int (nI sp), .int (bI ss), .int (nI st), .ref so, .ref sr]), (so, cI (xT X) 21 ob), (sr, cI (xT X) 12 rq), (hl, cO 0 [.ref hlw]), (hlw, cJ (xT X) 903 LW), (hdr, cZ (xT X) 301 (fun j => bI (dr j))), (hS, cO 5 [.ref hh, .ref hv, .ref hq, .ref ha]), (hv, cI (xT X) 450 cvec), (hq, cI (xT X) 150 csq)]) rfl dX4_aim_37 ?_
  refine j_aload_n C dX4_aim_40 1 rfl rfl ?_
  refine j_aload_n C dX4_aim_41 1 rfl rfl ?_
  refine j_get C (hin4) (ci := 4) rfl 1 (by decide) (hl12) 0 rfl (v := .ref hs) rfl dX4_aim_42 ?_
  refine j_iload_n C dX4_aim_45 2 rfl rfl ?_
  refine j_iconst C dX4_aim_46 (v := (nI 2)) kc_i_2 ?_
  refine j_iload_n C dX4_aim_47 3 rfl rfl ?_
  refine j_callVR C (nA := 3) (As := [.int (nI o), .int (nI 2), .int (nI tm)]) (c_X6_aimOf (xl X) (xT X) hs so sr sc sp st o 2 tm ss ob rq (by omega)) gX4_aim_X6_aimOf rfl (by decide +kernel) rfl ⟨rfl, rfl⟩ (by decide) (by decide) [1, 2, 3] rfl rfl 1 rfl rfl (rest := [.ref h4]) rfl (Nat.le_of_ble_eq_true rfl) dX4_aim_48 ?_
  rintro _ rfl
  show jj X 0 0 51 [(3, .long ((ob (7 * o + 6)).toInt64)), (0, .ref h4), (1, .int (nI o)), (2, .int (nI tm))] [.int (st_aim ob o 2 tm), .ref h4] [(h4, cO 4 [.ref hS, .ref hs, .ref hl, .ref hdr, .int (st_aim ob o 0 tm), .int (st_aim ob o 1 tm), .int az, .long lim]), (hs, cO 6 [.int (nI sc), .int (nI sp), .int (bI ss), .int (nI st), .ref so, .ref sr]), (so, cI (xT X) 21 ob), (sr, cI (xT X) 12 rq), (hl, cO 0 [.ref hlw]), (hlw, cJ (xT X) 903 LW), (hdr, cZ (xT X) 301 (fun j => bI (dr j))), (hS, cO 5 [.ref hh, .ref hv, .ref hq, .ref ha]), (hv, cI (xT X) 450 cvec), (hq, cI (xT X) 150 csq)]
  refine j_put C rw_ (hin4) tyX4 tyX4_ok nmX4 (ci := 4) rfl 6 (by decide) (hl86) (by decide +kernel) (ty := .int) (by decide +kernel) rfl rfl 0 rfl (Nat.le_of_ble_eq_true rfl) (w' := [(h4, cO 4 [.ref hS, .ref hs, .ref hl, .ref hdr, .int (st_aim ob o 0 tm), .int (st_aim ob o 1 tm), .int (st_aim ob o 2 tm), .long lim]), (hs, cO 6 [.int (nI sc), .int (nI sp), .int (bI ss), .int (nI st), .ref so, .ref sr]), (so, cI (xT X) 21 ob), (sr, cI (xT X) 12 rq), (hl, cO 0 [.ref hlw]), (hlw, cJ (xT X) 903 LW), (hdr, cZ (xT X) 301 (fun j => bI (dr j))), (hS, cO 5 [.ref hh, .ref hv, .ref hq, .ref ha]), (hv, cI (xT X) 450 cvec), (hq, cI (xT X) 150 csq)]) rfl dX4_aim_51 ?_
  refine j_aload_n C dX4_aim_54 1 rfl rfl ?_
  refine j_lload_n C dX4_aim_55 0 rfl rfl ?_
  refine j_lload_n C dX4_aim_56 0 rfl rfl ?_
  refine j_lmul C dX4_aim_57 (v := (((ob (7 * o + 6)).toInt64) * ((ob (7 * o + 6)).toInt64))) rfl ?_
  refine j_aload_n C dX4_aim_58 1 rfl rfl ?_
  refine j_get C (hin4) (ci := 4) rfl 4 (by decide) (hl79) 0 rfl (v := .int (st_aim ob o 0 tm)) rfl dX4_aim_59 ?_
  refine j_aload_n C dX4_aim_62 1 rfl rfl ?_
  refine j_get C (hin4) (ci := 4) rfl 4 (by decide) (hl79) 0 rfl (v := .int (st_aim ob o 0 tm)) rfl dX4_aim_63 ?_
  refine j_imul C dX4_aim_66 (v := ((st_aim ob o 0 tm) * (st_aim ob o 0 tm))) rfl ?_
  refine j_aload_n C dX4_aim_67 1 rfl rfl ?_
  refine j_get C (hin4) (ci := 4) rfl 5 (by decide) (hl83) 0 rfl (v := .int (st_aim ob o 1 tm)) rfl dX4_aim_68 ?_
  refine j_aload_n C dX4_aim_71 1 rfl rfl ?_
  refine j_get C (hin4) (ci := 4) rfl 5 (by decide) (hl83) 0 rfl (v := .int (st_aim ob o 1 tm)) rfl dX4_aim_72 ?_
  refine j_imul C dX4_aim_75 (v := ((st_aim ob o 1 tm) * (st_aim ob o 1 tm))) rfl ?_
  refine j_iadd C dX4_aim_76 (v := (((st_aim ob o 0 tm) * (st_aim ob o 0 tm)) + ((st_aim ob o 1 tm) * (st_aim ob o 1 tm)))) rfl ?_
  refine j_aload_n C dX4_aim_77 1 rfl rfl ?_
  refine j_get C (hin4) (ci := 4) rfl 6 (by decide) (hl86) 0 rfl (v := .int (st_aim ob o 2 tm)) rfl dX4_aim_78 ?_
  refine j_aload_n C dX4_aim_81 1 rfl rfl ?_
  refine j_get C (hin4) (ci := 4) rfl 6 (by decide) (hl86) 0 rfl (v := .int (st_aim ob o 2 tm)) rfl dX4_aim_82 ?_
  refine j_imul C dX4_aim_85 (v := ((st_aim ob o 2 tm) * (st_aim ob o 2 tm))) rfl ?_
  refine j_iadd C dX4_aim_86 (v := ((((st_aim ob o 0 tm) * (st_aim ob o 0 tm)) + ((st_aim ob o 1 tm) * (st_aim ob o 1 tm))) + ((st_aim ob o 2 tm) * (st_aim ob o 2 tm)))) rfl ?_
  refine j_i2l C dX4_aim_87 (v := (((((st_aim ob o 0 tm) * (st_aim ob o 0 tm)) + ((st_aim ob o 1 tm) * (st_aim ob o 1 tm))) + ((st_aim ob o 2 tm) * (st_aim ob o 2 tm))).toInt64)) rfl ?_
  refine j_lmul C dX4_aim_88 (v := ((((ob (7 * o + 6)).toInt64) * ((ob (7 * o + 6)).toInt64)) * (((((st_aim ob o 0 tm) * (st_aim ob o 0 tm)) + ((st_aim ob o 1 tm) * (st_aim ob o 1 tm))) + ((st_aim ob o 2 tm) * (st_aim ob o 2 tm))).toInt64))) rfl ?_
  refine j_put C rw_ (hin4) tyX4 tyX4_ok nmX4 (ci := 4) rfl 7 (by decide) (hl89) (by decide +kernel) (ty := .long) (by decide +kernel) rfl rfl 0 rfl (Nat.le_of_ble_eq_true rfl) (w' := [(h4, cO 4 [.ref hS, .ref hs, .ref hl, .ref hdr, .int (st_aim ob o 0 tm), .int (st_aim ob o 1 tm), .int (st_aim ob o 2 tm), .long ((((ob (7 * o + 6)).toInt64) * ((ob (7 * o + 6)).toInt64)) * (((((st_aim ob o 0 tm) * (st_aim ob o 0 tm)) + ((st_aim ob o 1 tm) * (st_aim ob o 1 tm))) + ((st_aim ob o 2 tm) * (st_aim ob o 2 tm))).toInt64))]), (hs, cO 6 [.int (nI sc), .int (nI sp), .int (bI ss), .int (nI st), .ref so, .ref sr]), (so, cI (xT X) 21 ob), (sr, cI (xT X) 12 rq), (hl, cO 0 [.ref hlw]), (hlw, cJ (xT X) 903 LW), (hdr, cZ (xT X) 301 (fun j => bI (dr j))), (hS, cO 5 [.ref hh, .ref hv, .ref hq, .ref ha]), (hv, cI (xT X) 450 cvec), (hq, cI (xT X) 150 csq)]) rfl dX4_aim_89 ?_
  refine j_lload_n C dX4_aim_92 0 rfl rfl ?_
  refine j_lconst C dX4_aim_93 (v := lN 0) rfl ?_
  refine j_lcmp C dX4_aim_94 ?_
  refine j_if_eq C dX4_aim_95 (tgt := 102) (by decide) (fun q95 => ?_) (fun q95 => ?_)
  · skip
    have q95 := (kl_eq).mp q95
    refine j_iconst C dX4_aim_102 (v := (nI 0)) kc_i_0 ?_
    refine j_iretM C rw_ hQ (by decide) (by decide) (by decide +kernel) ?_ dX4_aim_103
    refine ⟨kb_f ?_, rfl⟩
    unfold br_on; exact decide_eq_false (fun h => h q95)
  · skip
    have q95 := (kl_neq).mp q95
    refine j_iconst C dX4_aim_98 (v := (nI 1)) kc_i_1 ?_
    refine j_goto C dX4_aim_99 (tgt := 103) (by decide) ?_
    refine j_iretM C rw_ hQ (by decide) (by decide) (by decide +kernel) ?_ dX4_aim_103
    refine ⟨kb_t ?_, rfl⟩
    unfold br_on; exact decide_eq_true q95

set_option maxHeartbeats 4000000 in
set_option maxRecDepth 100000 in
/-- hits(cell) -/
theorem c_X4_hits (l : Launch) (T : jj_T) (h4 hS hs so sr hl hlw hdr hh hv hq ha sc sp st : Nat) (ss : Bool) (ob rq : Nat → Int32) (ax ay az : Int32) (lim : Int64) (LW : Nat → Int64) (dr : Nat → Bool) (c : Nat) (hc : c < 150) : jR l T yX4_hits wsX4_hits { frames := 1, cells := 0, slots := 0, locals := 25 } [.ref h4, .int (nI c)] [(h4, cO 4 [.ref hS, .ref hs, .ref hl, .ref hdr, .int ax, .int ay, .int az, .long lim]), (hs, cO 6 [.int (nI sc), .int (nI sp), .int (bI ss), .int (nI st), .ref so, .ref sr]), (so, cI T 21 ob), (sr, cI T 12 rq), (hl, cO 0 [.ref hlw]), (hlw, cJ T 903 LW), (hdr, cZ T 301 (fun j => bI (dr j))), (hS, cO 5 [.ref hh, .ref hv, .ref hq, .ref ha]), (hv, cI T 450 cvec), (hq, cI T 150 csq)] (fun v => v = some (.int (bI (br_hit ax ay az lim c)))) := by
  refine jR.of (cc := cX4_hits) (maxL := 4) (ret := (some .boolean)) (by decide) rfl (Nat.le_of_ble_eq_true rfl) ?_
  intro X C ro hl hT hQ
  subst hl; subst hT
  have hin4 : ∀ w ∈ u_ws RX4 TX4 8, w ∈ wsX4_hits := by decide +kernel
  have hl31 : Cond.fieldLink RX4 31 (TX4 0).1 (TX4 0).2.1 (TX4 0).2.2.1 ∈ wsX4_hits := by decide +kernel
  have hl79 : Cond.fieldLink RX4 79 (TX4 4).1 (TX4 4).2.1 (TX4 4).2.2.1 ∈ wsX4_hits := by decide +kernel
  have hl83 : Cond.fieldLink RX4 83 (TX4 5).1 (TX4 5).2.1 (TX4 5).2.2.1 ∈ wsX4_hits := by decide +kernel
  have hl86 : Cond.fieldLink RX4 86 (TX4 6).1 (TX4 6).2.1 (TX4 6).2.2.1 ∈ wsX4_hits := by decide +kernel
  have hl89 : Cond.fieldLink RX4 89 (TX4 7).1 (TX4 7).2.1 (TX4 7).2.2.1 ∈ wsX4_hits := by decide +kernel
  show jj X 0 0 0 [(0, .ref h4), (1, .int (nI c))] [] [(h4, cO 4 [.ref hS, .ref hs, .ref hl, .ref hdr, .int ax, .int ay, .int az, .long lim]), (hs, cO 6 [.int (nI sc), .int (nI sp), .int (bI ss), .int (nI st), .ref so, .ref sr]), (so, cI (xT X) 21 ob), (sr, cI (xT X) 12 rq), (hl, cO 0 [.ref hlw]), (hlw, cJ (xT X) 903 LW), (hdr, cZ (xT X) 301 (fun j => bI (dr j))), (hS, cO 5 [.ref hh, .ref hv, .ref hq, .ref ha]), (hv, cI (xT X) 450 cvec), (hq, cI (xT X) 150 csq)]
  refine j_aload_n C dX4_hits_0 0 rfl rfl ?_
  refine j_get C (hin4) (ci := 4) rfl 0 (by decide) (hl31) 0 rfl (v := .ref hS) rfl dX4_hits_1 ?_
  refine j_iload_n C dX4_hits_4 1 rfl rfl ?_
  refine j_aload_n C dX4_hits_5 0 rfl rfl ?_
  refine j_get C (hin4) (ci := 4) rfl 4 (by decide) (hl79) 0 rfl (v := .int ax) rfl dX4_hits_6 ?_
  refine j_aload_n C dX4_hits_9 0 rfl rfl ?_
  refine j_get C (hin4) (ci := 4) rfl 5 (by decide) (hl83) 0 rfl (v := .int ay) rfl dX4_hits_10 ?_
  refine j_aload_n C dX4_hits_13 0 rfl rfl ?_
  refine j_get C (hin4) (ci := 4) rfl 6 (by decide) (hl86) 0 rfl (v := .int az) rfl dX4_hits_14 ?_
  refine j_callVR C (nA := 4) (As := [.int (nI c), .int ax, .int ay, .int az]) (c_X5_scalar (xl X) (xT X) hS hh hv hq ha c ax ay az cvec (by omega)) gX4_hits_X5_scalar rfl (by decide +kernel) rfl ⟨rfl, rfl⟩ (by decide) (by decide) [7, 8] rfl rfl 7 rfl rfl (rest := []) rfl (Nat.le_of_ble_eq_true rfl) dX4_hits_17 ?_
  rintro _ rfl
  show jj X 0 0 20 [(0, .ref h4), (1, .int (nI c))] [.int (cvec (3 * c) * ax + cvec (3 * c + 1) * ay + cvec (3 * c + 2) * az)] [(h4, cO 4 [.ref hS, .ref hs, .ref hl, .ref hdr, .int ax, .int ay, .int az, .long lim]), (hs, cO 6 [.int (nI sc), .int (nI sp), .int (bI ss), .int (nI st), .ref so, .ref sr]), (so, cI (xT X) 21 ob), (sr, cI (xT X) 12 rq), (hl, cO 0 [.ref hlw]), (hlw, cJ (xT X) 903 LW), (hdr, cZ (xT X) 301 (fun j => bI (dr j))), (hS, cO 5 [.ref hh, .ref hv, .ref hq, .ref ha]), (hv, cI (xT X) 450 cvec), (hq, cI (xT X) 150 csq)]
  refine j_i2l C dX4_hits_20 (v := ((cvec (3 * c) * ax + cvec (3 * c + 1) * ay + cvec (3 * c + 2) * az).toInt64)) rfl ?_
  refine j_lstore_n C dX4_hits_21 rfl (by decide) (lv' := [(2, .long ((cvec (3 * c) * ax + cvec (3 * c + 1) * ay + cvec (3 * c + 2) * az).toInt64)), (0, .ref h4), (1, .int (nI c))]) rfl ?_
  refine j_lload_n C dX4_hits_22 0 rfl rfl ?_
  refine j_lconst C dX4_hits_23 (v := lN 0) rfl ?_
  refine j_lcmp C dX4_hits_24 ?_
  refine j_if_le C dX4_hits_25 (tgt := 57) (by decide) (fun q25 => ?_) (fun q25 => ?_)
  · skip
    have q25 := (kl_le).mp q25
    refine j_iconst C dX4_hits_57 (v := (nI 0)) kc_i_0 ?_
    refine j_iretR C ro hQ (by decide +kernel) ?_ dX4_hits_58
    refine kb_f ?_
    unfold br_hit; rw [decide_eq_false (Int64.not_lt.mpr q25)]; rfl
  · skip
    have q25 := (kl_nle).mp q25
    refine j_ldc2l C dX4_hits_28 (v := lN 10000) (by decide +kernel) ?_
    refine j_lload_n C dX4_hits_31 0 rfl rfl ?_
    refine j_lmul C dX4_hits_32 (v := ((lN 10000) * ((cvec (3 * c) * ax + cvec (3 * c + 1) * ay + cvec (3 * c + 2) * az).toInt64))) rfl ?_
    refine j_lload_n C dX4_hits_33 0 rfl rfl ?_
    refine j_lmul C dX4_hits_34 (v := (((lN 10000) * ((cvec (3 * c) * ax + cvec (3 * c + 1) * ay + cvec (3 * c + 2) * az).toInt64)) * ((cvec (3 * c) * ax + cvec (3 * c + 1) * ay + cvec (3 * c + 2) * az).toInt64))) rfl ?_
    refine j_aload_n C dX4_hits_35 1 rfl rfl ?_
    refine j_get C (hin4) (ci := 4) rfl 7 (by decide) (hl89) 0 rfl (v := .long lim) rfl dX4_hits_36 ?_
    refine j_aload_n C dX4_hits_39 1 rfl rfl ?_
    refine j_get C (hin4) (ci := 4) rfl 0 (by decide) (hl31) 0 rfl (v := .ref hS) rfl dX4_hits_40 ?_
    refine j_iload_n C dX4_hits_43 2 rfl rfl ?_
    refine j_callVR C (nA := 1) (As := [.int (nI c)]) (c_X5_square (xl X) (xT X) hS hh hv hq ha c csq (by omega)) gX4_hits_X5_square rfl (by decide +kernel) rfl ⟨rfl, rfl⟩ (by decide) (by decide) [7, 9] rfl rfl 7 rfl rfl (rest := [.long lim, .long (((lN 10000) * ((cvec (3 * c) * ax + cvec (3 * c + 1) * ay + cvec (3 * c + 2) * az).toInt64)) * ((cvec (3 * c) * ax + cvec (3 * c + 1) * ay + cvec (3 * c + 2) * az).toInt64))]) rfl (Nat.le_of_ble_eq_true rfl) dX4_hits_44 ?_
    rintro _ rfl
    show jj X 0 0 47 [(2, .long ((cvec (3 * c) * ax + cvec (3 * c + 1) * ay + cvec (3 * c + 2) * az).toInt64)), (0, .ref h4), (1, .int (nI c))] [.int (csq c), .long lim, .long (((lN 10000) * ((cvec (3 * c) * ax + cvec (3 * c + 1) * ay + cvec (3 * c + 2) * az).toInt64)) * ((cvec (3 * c) * ax + cvec (3 * c + 1) * ay + cvec (3 * c + 2) * az).toInt64))] [(h4, cO 4 [.ref hS, .ref hs, .ref hl, .ref hdr, .int ax, .int ay, .int az, .long lim]), (hs, cO 6 [.int (nI sc), .int (nI sp), .int (bI ss), .int (nI st), .ref so, .ref sr]), (so, cI (xT X) 21 ob), (sr, cI (xT X) 12 rq), (hl, cO 0 [.ref hlw]), (hlw, cJ (xT X) 903 LW), (hdr, cZ (xT X) 301 (fun j => bI (dr j))), (hS, cO 5 [.ref hh, .ref hv, .ref hq, .ref ha]), (hv, cI (xT X) 450 cvec), (hq, cI (xT X) 150 csq)]
    refine j_i2l C dX4_hits_47 (v := ((csq c).toInt64)) rfl ?_
    refine j_lmul C dX4_hits_48 (v := (lim * ((csq c).toInt64))) rfl ?_
    refine j_lcmp C dX4_hits_49 ?_
    refine j_if_le C dX4_hits_50 (tgt := 57) (by decide) (fun q50 => ?_) (fun q50 => ?_)
    · skip
      have q50 := (kl_le).mp q50
      refine j_iconst C dX4_hits_57 (v := (nI 0)) kc_i_0 ?_
      refine j_iretR C ro hQ (by decide +kernel) ?_ dX4_hits_58
      refine kb_f ?_
      unfold br_hit; rw [decide_eq_false (Int64.not_lt.mpr q50), Bool.and_false]
    · skip
      have q50 := (kl_nle).mp q50
      refine j_iconst C dX4_hits_53 (v := (nI 1)) kc_i_1 ?_
      refine j_goto C dX4_hits_54 (tgt := 58) (by decide) ?_
      refine j_iretR C ro hQ (by decide +kernel) ?_ dX4_hits_58
      refine kb_t ?_
      unfold br_hit; rw [decide_eq_true q25, decide_eq_true q50]; rfl

set_option maxHeartbeats 4000000 in
set_option maxRecDepth 100000 in
/-- isLit(cell, time) -/
theorem c_X4_isLit (l : Launch) (T : jj_T) (h4 hS hs so sr hl hlw hdr hh hv hq ha sc sp st : Nat) (ss : Bool) (ob rq : Nat → Int32) (ax ay az : Int32) (lim : Int64) (LW : Nat → Int64) (dr : Nat → Bool) (c tm : Nat) (hc : c < 150) (htm : tm < 100000) (hI : skI ob dr LW) : jM l T yX4_isLit wsX4_isLit { frames := 2, cells := 0, slots := 0, locals := 48 } [.ref h4, .int (nI c), .int (nI tm)] [(h4, cO 4 [.ref hS, .ref hs, .ref hl, .ref hdr, .int ax, .int ay, .int az, .long lim]), (hs, cO 6 [.int (nI sc), .int (nI sp), .int (bI ss), .int (nI st), .ref so, .ref sr]), (so, cI T 21 ob), (sr, cI T 12 rq), (hl, cO 0 [.ref hlw]), (hlw, cJ T 903 LW), (hdr, cZ T 301 (fun j => bI (dr j))), (hS, cO 5 [.ref hh, .ref hv, .ref hq, .ref ha]), (hv, cI T 450 cvec), (hq, cI T 150 csq)] (fun v w1 => ∃ ax' : Int32, ∃ ay' : Int32, ∃ az' : Int32, ∃ lim' : Int64, v = some (.int (bI (br ob c tm))) ∧ w1 = [(h4, cO 4 [.ref hS, .ref hs, .ref hl, .ref hdr, .int ax', .int ay', .int az', .long lim']), (hs, cO 6 [.int (nI sc), .int (nI sp), .int (bI ss), .int (nI st), .ref so, .ref sr]), (so, cI T 21 ob), (sr, cI T 12 rq), (hl, cO 0 [.ref hlw]), (hlw, cJ T 903 LW), (hdr, cZ T 301 (fun j => bI (dr j))), (hS, cO 5 [.ref hh, .ref hv, .ref hq, .ref ha]), (hv, cI T 450 cvec), (hq, cI T 150 csq)]) := by
  refine jM.of (cc := cX4_isLit) (maxL := 4) (ret := (some .boolean)) (by decide) rfl (Nat.le_of_ble_eq_true rfl) ?_
  intro X C rw_ hl hT hQ hnm
  subst hl; subst hT
  have hin4 : ∀ w ∈ u_ws RX4 TX4 8, w ∈ wsX4_isLit := by decide +kernel
  have hl23 : Cond.fieldLink RX4 23 (TX4 2).1 (TX4 2).2.1 (TX4 2).2.2.1 ∈ wsX4_isLit := by decide +kernel
  have hl27 : Cond.fieldLink RX4 27 (TX4 3).1 (TX4 3).2.1 (TX4 3).2.2.1 ∈ wsX4_isLit := by decide +kernel
  show jj X 0 0 0 [(0, .ref h4), (1, .int (nI c)), (2, .int (nI tm))] [] [(h4, cO 4 [.ref hS, .ref hs, .ref hl, .ref hdr, .int ax, .int ay, .int az, .long lim]), (hs, cO 6 [.int (nI sc), .int (nI sp), .int (bI ss), .int (nI st), .ref so, .ref sr]), (so, cI (xT X) 21 ob), (sr, cI (xT X) 12 rq), (hl, cO 0 [.ref hlw]), (hlw, cJ (xT X) 903 LW), (hdr, cZ (xT X) 301 (fun j => bI (dr j))), (hS, cO 5 [.ref hh, .ref hv, .ref hq, .ref ha]), (hv, cI (xT X) 450 cvec), (hq, cI (xT X) 150 csq)]
  refine j_iload_n C dX4_isLit_0 2 rfl rfl ?_
  refine j_if_lt C dX4_isLit_1 (tgt := 32) (by decide) (fun q1 => ?_) (fun q1 => ?_)
  · skip
    have q1 := (kz_lt (a := tm) (by omega)).mp q1
    exfalso
    first | exact q1.elim | omega
  · skip
    have q1 := (kz_nlt (a := tm) (by omega)).mp q1
    have hc32 : jj X 0 0 32 [(0, .ref h4), (1, .int (nI c)), (2, .int (nI tm))] [] [(h4, cO 4 [.ref hS, .ref hs, .ref hl, .ref hdr, .int ax, .int ay, .int az, .long lim]), (hs, cO 6 [.int (nI sc), .int (nI sp), .int (bI ss), .int (nI st), .ref so, .ref sr]), (so, cI (xT X) 21 ob), (sr, cI (xT X) 12 rq), (hl, cO 0 [.ref hlw]), (hlw, cJ (xT X) 903 LW), (hdr, cZ (xT X) 301 (fun j => bI (dr j))), (hS, cO 5 [.ref hh, .ref hv, .ref hq, .ref ha]), (hv, cI (xT X) 450 cvec), (hq, cI (xT X) 150 csq)] := by
      refine j_iconst C dX4_isLit_32 (v := (nI 0)) kc_i_0 ?_
      refine j_istore_n C dX4_isLit_33 rfl (by decide) (lv' := [(3, .int (nI 0)), (0, .ref h4), (1, .int (nI c)), (2, .int (nI tm))]) rfl ?_
      refine j_lv [1, 2, 3, 0] rfl ?_
      suffices hc34 : ∀ (mm : Nat) (o : Nat) (ax ay az : Int32) (lim : Int64), 3 - o < mm → (o ≤ 3) → (brn ob c tm o = false) → jj X 0 0 34 [(0, .ref h4), (1, .int (nI c)), (2, .int (nI tm)), (3, .int (nI o))] [] [(h4, cO 4 [.ref hS, .ref hs, .ref hl, .ref hdr, .int ax, .int ay, .int az, .long lim]), (hs, cO 6 [.int (nI sc), .int (nI sp), .int (bI ss), .int (nI st), .ref so, .ref sr]), (so, cI (xT X) 21 ob), (sr, cI (xT X) 12 rq), (hl, cO 0 [.ref hlw]), (hlw, cJ (xT X) 903 LW), (hdr, cZ (xT X) 301 (fun j => bI (dr j))), (hS, cO 5 [.ref hh, .ref hv, .ref hq, .ref ha]), (hv, cI (xT X) 450 cvec), (hq, cI (xT X) 150 csq)] by
        refine hc34 _ _ _ _ _ _ (Nat.lt_succ_self _) ?_ ?_
        · omega
        · rfl
      intro mm
      induction mm with
      | zero => intro o ax ay az lim hm; exact absurd hm (Nat.not_lt_zero _)
      | succ mm ih34 =>
        intro o ax ay az lim hm34 ho hb
        refine j_iload_n C dX4_isLit_34 3 rfl rfl ?_
        refine j_iconst C dX4_isLit_35 (v := (nI 3)) kc_i_3 ?_
        refine j_icmp_ge C dX4_isLit_36 (tgt := 64) (by decide) (fun q36 => ?_) (fun q36 => ?_)
        · skip
          have q36 := (kn_ge (a := o) (b := 3) (by omega) (by omega)).mp q36
          refine j_iconst C dX4_isLit_64 (v := (nI 0)) kc_i_0 ?_
          refine j_iretM C rw_ hQ (by decide) (by decide) (by decide +kernel) ?_ dX4_isLit_65
          refine ⟨_, _, _, _, kb_f ?_, rfl⟩
          unfold br; rw [show 3 = o by omega]; exact hb
        · skip
          have q36 := (kn_nge (a := o) (b := 3) (by omega) (by omega)).mp q36
          refine j_aload_n C dX4_isLit_39 0 rfl rfl ?_
          refine j_iload_n C dX4_isLit_40 3 rfl rfl ?_
          refine j_iload_n C dX4_isLit_41 2 rfl rfl ?_
          refine j_callVM C rw_ (nA := 2) (As := [.int (nI o), .int (nI tm)]) (wr := []) (c_X4_aim (xl X) (xT X) h4 hS hs so sr hl hlw hdr hh hv hq ha sc sp st ss ob rq ax ay az lim LW dr o tm (by omega)) gX4_isLit_X4_aim rfl (by decide +kernel) rfl (by decide) (by decide) [0, 1, 2, 3, 4, 5, 6, 7, 8, 9] [] rfl rfl rfl rfl (by decide) 0 rfl rfl (rest := []) rfl (Nat.le_of_ble_eq_true rfl) dX4_isLit_42 ?_
          rintro _ _ ⟨rfl, rfl⟩
          show jj X 0 0 45 [(0, .ref h4), (1, .int (nI c)), (2, .int (nI tm)), (3, .int (nI o))] [.int (bI (br_on ob o))] [(h4, cO 4 [.ref hS, .ref hs, .ref hl, .ref hdr, .int (st_aim ob o 0 tm), .int (st_aim ob o 1 tm), .int (st_aim ob o 2 tm), .long (br_lim ob o tm)]), (hs, cO 6 [.int (nI sc), .int (nI sp), .int (bI ss), .int (nI st), .ref so, .ref sr]), (so, cI (xT X) 21 ob), (sr, cI (xT X) 12 rq), (hl, cO 0 [.ref hlw]), (hlw, cJ (xT X) 903 LW), (hdr, cZ (xT X) 301 (fun j => bI (dr j))), (hS, cO 5 [.ref hh, .ref hv, .ref hq, .ref ha]), (hv, cI (xT X) 450 cvec), (hq, cI (xT X) 150 csq)]
          refine j_if_eq C dX4_isLit_45 (tgt := 58) (by decide) (fun q45 => ?_) (fun q45 => ?_)
          · skip
            have q45 := (kb_eq).mp q45
            refine j_iinc C dX4_isLit_58 (q := 3) (v := (nI (o + 1))) rfl (kc_inc o) (by decide) (lv' := [(3, .int (nI (o + 1))), (0, .ref h4), (1, .int (nI c)), (2, .int (nI tm))]) rfl ?_
            refine j_goto C dX4_isLit_61 (tgt := 34) (by decide) ?_
            refine j_lv [1, 2, 3, 0] rfl ?_
            refine ih34 _ _ _ _ _ (by omega) ?_ ?_
            · omega
            · rw [brn, hb]; unfold br_o; rw [q45]; rfl
          · skip
            have q45 := (kb_neq).mp q45
            refine j_aload_n C dX4_isLit_48 0 rfl rfl ?_
            refine j_iload_n C dX4_isLit_49 1 rfl rfl ?_
            refine j_callVR C (nA := 1) (As := [.int (nI c)]) (c_X4_hits (xl X) (xT X) h4 hS hs so sr hl hlw hdr hh hv hq ha sc sp st ss ob rq (st_aim ob o 0 tm) (st_aim ob o 1 tm) (st_aim ob o 2 tm) (br_lim ob o tm) LW dr c (by omega)) gX4_isLit_X4_hits rfl (by decide +kernel) rfl ⟨rfl, rfl⟩ (by decide) (by decide) [0, 1, 2, 3, 4, 5, 6, 7, 8, 9] rfl rfl 0 rfl rfl (rest := []) rfl (Nat.le_of_ble_eq_true rfl) dX4_isLit_50 ?_
            rintro _ rfl
            show jj X 0 0 53 [(0, .ref h4), (1, .int (nI c)), (2, .int (nI tm)), (3, .int (nI o))] [.int (bI (br_hit (st_aim ob o 0 tm) (st_aim ob o 1 tm) (st_aim ob o 2 tm) (br_lim ob o tm) c))] [(h4, cO 4 [.ref hS, .ref hs, .ref hl, .ref hdr, .int (st_aim ob o 0 tm), .int (st_aim ob o 1 tm), .int (st_aim ob o 2 tm), .long (br_lim ob o tm)]), (hs, cO 6 [.int (nI sc), .int (nI sp), .int (bI ss), .int (nI st), .ref so, .ref sr]), (so, cI (xT X) 21 ob), (sr, cI (xT X) 12 rq), (hl, cO 0 [.ref hlw]), (hlw, cJ (xT X) 903 LW), (hdr, cZ (xT X) 301 (fun j => bI (dr j))), (hS, cO 5 [.ref hh, .ref hv, .ref hq, .ref ha]), (hv, cI (xT X) 450 cvec), (hq, cI (xT X) 150 csq)]
            refine j_if_eq C dX4_isLit_53 (tgt := 58) (by decide) (fun q53 => ?_) (fun q53 => ?_)
            · skip
              have q53 := (kb_eq).mp q53
              refine j_iinc C dX4_isLit_58 (q := 3) (v := (nI (o + 1))) rfl (kc_inc o) (by decide) (lv' := [(3, .int (nI (o + 1))), (0, .ref h4), (1, .int (nI c)), (2, .int (nI tm))]) rfl ?_
              refine j_goto C dX4_isLit_61 (tgt := 34) (by decide) ?_
              refine j_lv [1, 2, 3, 0] rfl ?_
              refine ih34 _ _ _ _ _ (by omega) ?_ ?_
              · omega
              · rw [brn, hb]; unfold br_o; rw [q53, Bool.and_false]; rfl
            · skip
              have q53 := (kb_neq).mp q53
              refine j_iconst C dX4_isLit_56 (v := (nI 1)) kc_i_1 ?_
              refine j_iretM C rw_ hQ (by decide) (by decide) (by decide +kernel) ?_ dX4_isLit_57
              refine ⟨_, _, _, _, kb_t (brn_t (o := o) (by omega) ?_), rfl⟩
              unfold br_o; rw [q45, q53]; rfl
    refine j_iload_n C dX4_isLit_4 2 rfl rfl ?_
    refine j_aload_n C dX4_isLit_5 0 rfl rfl ?_
    refine j_get C (hin4) (ci := 4) rfl 3 (by decide) (hl27) 0 rfl (v := .ref hdr) rfl dX4_isLit_6 ?_
    refine j_alenZ C 6 rfl dX4_isLit_9 ?_
    refine j_icmp_ge C dX4_isLit_10 (tgt := 32) (by decide) (fun q10 => ?_) (fun q10 => ?_)
    · skip
      have q10 := (kn_ge (a := tm) (b := 301) (by omega) (by omega)).mp q10
      refine hc32 
    · skip
      have q10 := (kn_nge (a := tm) (b := 301) (by omega) (by omega)).mp q10
      refine j_aload_n C dX4_isLit_13 0 rfl rfl ?_
      refine j_get C (hin4) (ci := 4) rfl 3 (by decide) (hl27) 0 rfl (v := .ref hdr) rfl dX4_isLit_14 ?_
      refine j_iload_n C dX4_isLit_17 2 rfl rfl ?_
      refine j_zaloadN C tm rfl 6 rfl (by omega) (by decide) dX4_isLit_18 ?_
      refine j_if_eq C dX4_isLit_19 (tgt := 32) (by decide) (fun q19 => ?_) (fun q19 => ?_)
      · skip
        have q19 := (kb_eq).mp q19
        refine hc32 
      · skip
        have q19 := (kb_neq).mp q19
        refine j_aload_n C dX4_isLit_22 0 rfl rfl ?_
        refine j_get C (hin4) (ci := 4) rfl 2 (by decide) (hl23) 0 rfl (v := .ref hl) rfl dX4_isLit_23 ?_
        refine j_iload_n C dX4_isLit_26 2 rfl rfl ?_
        refine j_iload_n C dX4_isLit_27 1 rfl rfl ?_
        refine j_callVR C (nA := 2) (As := [.int (nI tm), .int (nI c)]) (c_X0_has (xl X) (xT X) hl hlw 903 tm c LW (by omega) (by omega) (by omega)) gX4_isLit_X0_has rfl (by decide +kernel) rfl ⟨rfl, rfl⟩ (by decide) (by decide) [4, 5] rfl rfl 4 rfl rfl (rest := []) rfl (Nat.le_of_ble_eq_true rfl) dX4_isLit_28 ?_
        rintro _ rfl
        show jj X 0 0 31 [(0, .ref h4), (1, .int (nI c)), (2, .int (nI tm))] [.int (bI (cs_b LW tm c))] [(h4, cO 4 [.ref hS, .ref hs, .ref hl, .ref hdr, .int ax, .int ay, .int az, .long lim]), (hs, cO 6 [.int (nI sc), .int (nI sp), .int (bI ss), .int (nI st), .ref so, .ref sr]), (so, cI (xT X) 21 ob), (sr, cI (xT X) 12 rq), (hl, cO 0 [.ref hlw]), (hlw, cJ (xT X) 903 LW), (hdr, cZ (xT X) 301 (fun j => bI (dr j))), (hS, cO 5 [.ref hh, .ref hv, .ref hq, .ref ha]), (hv, cI (xT X) 450 cvec), (hq, cI (xT X) 150 csq)]
        refine j_iretM C rw_ hQ (by decide) (by decide) (bI_nar _) ?_ dX4_isLit_31
        refine ⟨_, _, _, _, ?_, rfl⟩
        rw [hI tm (by omega) q19 c (by omega), decide_eq_true hc, Bool.true_and]

set_option maxHeartbeats 4000000 in
set_option maxRecDepth 100000 in
/-- firstLit(cell, from, until) -/
theorem c_X4_firstLit (l : Launch) (T : jj_T) (h4 hS hs so sr hl hlw hdr hh hv hq ha sc sp st : Nat) (ss : Bool) (ob rq : Nat → Int32) (ax ay az : Int32) (lim : Int64) (LW : Nat → Int64) (dr : Nat → Bool) (c fr un : Nat) (hc : c < 150) (hfr : fr ≤ 90000) (hun : un ≤ 90000) (hI : skI ob dr LW) : jM l T yX4_firstLit wsX4_firstLit { frames := 3, cells := 0, slots := 0, locals := 71 } [.ref h4, .int (nI c), .int (nI fr), .int (nI un)] [(h4, cO 4 [.ref hS, .ref hs, .ref hl, .ref hdr, .int ax, .int ay, .int az, .long lim]), (hs, cO 6 [.int (nI sc), .int (nI sp), .int (bI ss), .int (nI st), .ref so, .ref sr]), (so, cI T 21 ob), (sr, cI T 12 rq), (hl, cO 0 [.ref hlw]), (hlw, cJ T 903 LW), (hdr, cZ T 301 (fun j => bI (dr j))), (hS, cO 5 [.ref hh, .ref hv, .ref hq, .ref ha]), (hv, cI T 450 cvec), (hq, cI T 150 csq)] (fun v w1 => ∃ ax' : Int32, ∃ ay' : Int32, ∃ az' : Int32, ∃ lim' : Int64, ∃ r : Int32, v = some (.int r) ∧ w1 = [(h4, cO 4 [.ref hS, .ref hs, .ref hl, .ref hdr, .int ax', .int ay', .int az', .long lim']), (hs, cO 6 [.int (nI sc), .int (nI sp), .int (bI ss), .int (nI st), .ref so, .ref sr]), (so, cI T 21 ob), (sr, cI T 12 rq), (hl, cO 0 [.ref hlw]), (hlw, cJ T 903 LW), (hdr, cZ T 301 (fun j => bI (dr j))), (hS, cO 5 [.ref hh, .ref hv, .ref hq, .ref ha]), (hv, cI T 450 cvec), (hq, cI T 150 csq)] ∧ (ft_is (br ob c) fr un r)) := by
  refine jM.of (cc := cX4_firstLit) (maxL := 5) (ret := (some .int)) (by decide) rfl (Nat.le_of_ble_eq_true rfl) ?_
  intro X C rw_ hl hT hQ hnm
  subst hl; subst hT
  show jj X 0 0 0 [(0, .ref h4), (1, .int (nI c)), (2, .int (nI fr)), (3, .int (nI un))] [] [(h4, cO 4 [.ref hS, .ref hs, .ref hl, .ref hdr, .int ax, .int ay, .int az, .long lim]), (hs, cO 6 [.int (nI sc), .int (nI sp), .int (bI ss), .int (nI st), .ref so, .ref sr]), (so, cI (xT X) 21 ob), (sr, cI (xT X) 12 rq), (hl, cO 0 [.ref hlw]), (hlw, cJ (xT X) 903 LW), (hdr, cZ (xT X) 301 (fun j => bI (dr j))), (hS, cO 5 [.ref hh, .ref hv, .ref hq, .ref ha]), (hv, cI (xT X) 450 cvec), (hq, cI (xT X) 150 csq)]
  refine j_iload_n C dX4_firstLit_0 2 rfl rfl ?_
  refine j_istore C dX4_firstLit_1 (by decide) (lv' := [(4, .int (nI fr)), (0, .ref h4), (1, .int (nI c)), (2, .int (nI fr)), (3, .int (nI un))]) rfl ?_
  refine j_lv [1, 2, 3, 4, 0] rfl ?_
  suffices hc3 : ∀ (mm : Nat) (tm : Nat) (ax ay az : Int32) (lim : Int64), 90001 - tm < mm → (fr ≤ tm) → (tm ≤ 90001) → (∀ d, fr ≤ d → d < tm → br ob c d = false) → jj X 0 0 3 [(0, .ref h4), (1, .int (nI c)), (2, .int (nI fr)), (3, .int (nI un)), (4, .int (nI tm))] [] [(h4, cO 4 [.ref hS, .ref hs, .ref hl, .ref hdr, .int ax, .int ay, .int az, .long lim]), (hs, cO 6 [.int (nI sc), .int (nI sp), .int (bI ss), .int (nI st), .ref so, .ref sr]), (so, cI (xT X) 21 ob), (sr, cI (xT X) 12 rq), (hl, cO 0 [.ref hlw]), (hlw, cJ (xT X) 903 LW), (hdr, cZ (xT X) 301 (fun j => bI (dr j))), (hS, cO 5 [.ref hh, .ref hv, .ref hq, .ref ha]), (hv, cI (xT X) 450 cvec), (hq, cI (xT X) 150 csq)] by
    refine hc3 _ _ _ _ _ _ (Nat.lt_succ_self _) ?_ ?_ ?_
    · omega
    · omega
    · intro d h1 h2; omega
  intro mm
  induction mm with
  | zero => intro tm ax ay az lim hm; exact absurd hm (Nat.not_lt_zero _)
  | succ mm ih3 =>
    intro tm ax ay az lim hm3 ht1 ht2 hf
    refine j_iload C dX4_firstLit_3 4 rfl ?_
    refine j_iload_n C dX4_firstLit_5 3 rfl rfl ?_
    refine j_icmp_gt C dX4_firstLit_6 (tgt := 28) (by decide) (fun q6 => ?_) (fun q6 => ?_)
    · skip
      have q6 := (kn_gt (a := tm) (b := un) (by omega) (by omega)).mp q6
      refine j_bipush C dX4_firstLit_28 (v := (-9)) kc_b_m9 ?_
      refine j_iretM C rw_ hQ (by decide) (by decide) rfl ?_ dX4_firstLit_30
      exact ⟨_, _, _, _, _, rfl, rfl, Or.inr ⟨fun t h1 h2 => hf t h1 (by omega), rfl⟩⟩
    · skip
      have q6 := (kn_ngt (a := tm) (b := un) (by omega) (by omega)).mp q6
      refine j_aload_n C dX4_firstLit_9 0 rfl rfl ?_
      refine j_iload_n C dX4_firstLit_10 1 rfl rfl ?_
      refine j_iload C dX4_firstLit_11 4 rfl ?_
      refine j_callVM C rw_ (nA := 2) (As := [.int (nI c), .int (nI tm)]) (wr := []) (c_X4_isLit (xl X) (xT X) h4 hS hs so sr hl hlw hdr hh hv hq ha sc sp st ss ob rq ax ay az lim LW dr c tm (by omega) (by omega) (by omega)) gX4_firstLit_X4_isLit rfl (by decide +kernel) rfl (by decide) (by decide) [0, 1, 2, 3, 4, 5, 6, 7, 8, 9] [] rfl rfl rfl rfl (by decide) 0 rfl rfl (rest := []) rfl (Nat.le_of_ble_eq_true rfl) dX4_firstLit_13 ?_
      rintro _ _ ⟨ax'_1, ay'_2, az'_3, lim'_4, rfl, rfl⟩
      show jj X 0 0 16 [(0, .ref h4), (1, .int (nI c)), (2, .int (nI fr)), (3, .int (nI un)), (4, .int (nI tm))] [.int (bI (br ob c tm))] [(h4, cO 4 [.ref hS, .ref hs, .ref hl, .ref hdr, .int ax'_1, .int ay'_2, .int az'_3, .long lim'_4]), (hs, cO 6 [.int (nI sc), .int (nI sp), .int (bI ss), .int (nI st), .ref so, .ref sr]), (so, cI (xT X) 21 ob), (sr, cI (xT X) 12 rq), (hl, cO 0 [.ref hlw]), (hlw, cJ (xT X) 903 LW), (hdr, cZ (xT X) 301 (fun j => bI (dr j))), (hS, cO 5 [.ref hh, .ref hv, .ref hq, .ref ha]), (hv, cI (xT X) 450 cvec), (hq, cI (xT X) 150 csq)]
      refine j_if_eq C dX4_firstLit_16 (tgt := 22) (by decide) (fun q16 => ?_) (fun q16 => ?_)
      · skip
        have q16 := (kb_eq).mp q16
        refine j_iinc C dX4_firstLit_22 (q := 4) (v := (nI (tm + 1))) rfl (kc_inc tm) (by decide) (lv' := [(4, .int (nI (tm + 1))), (0, .ref h4), (1, .int (nI c)), (2, .int (nI fr)), (3, .int (nI un))]) rfl ?_
        refine j_goto C dX4_firstLit_25 (tgt := 3) (by decide) ?_
        refine j_lv [1, 2, 3, 4, 0] rfl ?_
        refine ih3 _ _ _ _ _ (by omega) ?_ ?_ ?_
        · omega
        · omega
        · intro d h1 h2
          by_cases h : d = tm
          · rw [h]; exact q16
          · exact hf d h1 (by omega)
      · skip
        have q16 := (kb_neq).mp q16
        refine j_iload C dX4_firstLit_19 4 rfl ?_
        refine j_iretM C rw_ hQ (by decide) (by decide) rfl ?_ dX4_firstLit_21
        exact ⟨_, _, _, _, _, rfl, rfl, Or.inl ⟨tm, ht1, q6, q16, hf, rfl⟩⟩

set_option maxHeartbeats 4000000 in
set_option maxRecDepth 100000 in
/-- draw(time) -/
theorem c_X4_draw (l : Launch) (T : jj_T) (h4 hS hs so sr hl hlw hdr hh hv hq ha sc sp st : Nat) (ss : Bool) (ob rq : Nat → Int32) (ax ay az : Int32) (lim : Int64) (LW : Nat → Int64) (dr : Nat → Bool) (tm : Nat) (htm : tm < 100000) (hI : skI ob dr LW) : jM l T yX4_draw wsX4_draw { frames := 2, cells := 0, slots := 0, locals := 48 } [.ref h4, .int (nI tm)] [(h4, cO 4 [.ref hS, .ref hs, .ref hl, .ref hdr, .int ax, .int ay, .int az, .long lim]), (hs, cO 6 [.int (nI sc), .int (nI sp), .int (bI ss), .int (nI st), .ref so, .ref sr]), (so, cI T 21 ob), (sr, cI T 12 rq), (hl, cO 0 [.ref hlw]), (hlw, cJ T 903 LW), (hdr, cZ T 301 (fun j => bI (dr j))), (hS, cO 5 [.ref hh, .ref hv, .ref hq, .ref ha]), (hv, cI T 450 cvec), (hq, cI T 150 csq)] (fun v w1 => ∃ ax' : Int32, ∃ ay' : Int32, ∃ az' : Int32, ∃ lim' : Int64, ∃ LW' : Nat → Int64, ∃ dr' : Nat → Bool, v = none ∧ w1 = [(h4, cO 4 [.ref hS, .ref hs, .ref hl, .ref hdr, .int ax', .int ay', .int az', .long lim']), (hs, cO 6 [.int (nI sc), .int (nI sp), .int (bI ss), .int (nI st), .ref so, .ref sr]), (so, cI T 21 ob), (sr, cI T 12 rq), (hl, cO 0 [.ref hlw]), (hlw, cJ T 903 LW'), (hdr, cZ T 301 (fun j => bI (dr' j))), (hS, cO 5 [.ref hh, .ref hv, .ref hq, .ref ha]), (hv, cI T 450 cvec), (hq, cI T 150 csq)] ∧ (skI ob dr' LW') ∧ (tm < 301 → dr' tm = true)) := by
  refine jM.of (cc := cX4_draw) (maxL := 4) (ret := none) (by decide) rfl (Nat.le_of_ble_eq_true rfl) ?_
  intro X C rw_ hl hT hQ hnm
  subst hl; subst hT
  have hin4 : ∀ w ∈ u_ws RX4 TX4 8, w ∈ wsX4_draw := by decide +kernel
  have hl23 : Cond.fieldLink RX4 23 (TX4 2).1 (TX4 2).2.1 (TX4 2).2.2.1 ∈ wsX4_draw := by decide +kernel
  have hl27 : Cond.fieldLink RX4 27 (TX4 3).1 (TX4 3).2.1 (TX4 3).2.2.1 ∈ wsX4_draw := by decide +kernel
  show jj X 0 0 0 [(0, .ref h4), (1, .int (nI tm))] [] [(h4, cO 4 [.ref hS, .ref hs, .ref hl, .ref hdr, .int ax, .int ay, .int az, .long lim]), (hs, cO 6 [.int (nI sc), .int (nI sp), .int (bI ss), .int (nI st), .ref so, .ref sr]), (so, cI (xT X) 21 ob), (sr, cI (xT X) 12 rq), (hl, cO 0 [.ref hlw]), (hlw, cJ (xT X) 903 LW), (hdr, cZ (xT X) 301 (fun j => bI (dr j))), (hS, cO 5 [.ref hh, .ref hv, .ref hq, .ref ha]), (hv, cI (xT X) 450 cvec), (hq, cI (xT X) 150 csq)]
  refine j_iload_n C dX4_draw_0 1 rfl rfl ?_
  refine j_if_lt C dX4_draw_1 (tgt := 22) (by decide) (fun q1 => ?_) (fun q1 => ?_)
  · skip
    have q1 := (kz_lt (a := tm) (by omega)).mp q1
    exfalso
    first | exact q1.elim | omega
  · skip
    have q1 := (kz_nlt (a := tm) (by omega)).mp q1
    refine j_iload_n C dX4_draw_4 1 rfl rfl ?_
    refine j_aload_n C dX4_draw_5 0 rfl rfl ?_
    refine j_get C (hin4) (ci := 4) rfl 3 (by decide) (hl27) 0 rfl (v := .ref hdr) rfl dX4_draw_6 ?_
    refine j_alenZ C 6 rfl dX4_draw_9 ?_
    refine j_icmp_ge C dX4_draw_10 (tgt := 22) (by decide) (fun q10 => ?_) (fun q10 => ?_)
    · skip
      have q10 := (kn_ge (a := tm) (b := 301) (by omega) (by omega)).mp q10
      refine j_vretM C rw_ hQ (by decide) (by decide) ?_ dX4_draw_22
      exact ⟨_, _, _, _, _, _, rfl, rfl, hI, fun h => by omega⟩
    · skip
      have q10 := (kn_nge (a := tm) (b := 301) (by omega) (by omega)).mp q10
      refine j_aload_n C dX4_draw_13 0 rfl rfl ?_
      refine j_get C (hin4) (ci := 4) rfl 3 (by decide) (hl27) 0 rfl (v := .ref hdr) rfl dX4_draw_14 ?_
      refine j_iload_n C dX4_draw_17 1 rfl rfl ?_
      refine j_zaloadN C tm rfl 6 rfl (by omega) (by decide) dX4_draw_18 ?_
      refine j_if_eq C dX4_draw_19 (tgt := 23) (by decide) (fun q19 => ?_) (fun q19 => ?_)
      · skip
        have q19 := (kb_eq).mp q19
        refine j_aload_n C dX4_draw_23 0 rfl rfl ?_
        refine j_get C (hin4) (ci := 4) rfl 3 (by decide) (hl27) 0 rfl (v := .ref hdr) rfl dX4_draw_24 ?_
        refine j_iload_n C dX4_draw_27 1 rfl rfl ?_
        refine j_iconst C dX4_draw_28 (v := (nI 1)) kc_i_1 ?_
        refine j_zastoreN C rw_ tm rfl 6 rfl (by omega) (by decide) (w' := [(h4, cO 4 [.ref hS, .ref hs, .ref hl, .ref hdr, .int ax, .int ay, .int az, .long lim]), (hs, cO 6 [.int (nI sc), .int (nI sp), .int (bI ss), .int (nI st), .ref so, .ref sr]), (so, cI (xT X) 21 ob), (sr, cI (xT X) 12 rq), (hl, cO 0 [.ref hlw]), (hlw, cJ (xT X) 903 LW), (hdr, cZ (xT X) 301 (upd (fun j => bI (dr j)) tm (vp_nar .boolean (nI 1)))), (hS, cO 5 [.ref hh, .ref hv, .ref hq, .ref ha]), (hv, cI (xT X) 450 cvec), (hq, cI (xT X) 150 csq)]) rfl dX4_draw_29 ?_
        refine j_extZ C (fun j => bI (va_up dr tm true j)) 6 rfl (fun j hj => ?_) (w' := [(h4, cO 4 [.ref hS, .ref hs, .ref hl, .ref hdr, .int ax, .int ay, .int az, .long lim]), (hs, cO 6 [.int (nI sc), .int (nI sp), .int (bI ss), .int (nI st), .ref so, .ref sr]), (so, cI (xT X) 21 ob), (sr, cI (xT X) 12 rq), (hl, cO 0 [.ref hlw]), (hlw, cJ (xT X) 903 LW), (hdr, cZ (xT X) 301 (fun j => bI (va_up dr tm true j))), (hS, cO 5 [.ref hh, .ref hv, .ref hq, .ref ha]), (hv, cI (xT X) 450 cvec), (hq, cI (xT X) 150 csq)]) rfl ?_
        · by_cases h9 : j = tm
          · simp [upd, va_up, h9, bI_n1]
          · simp [upd, va_up, h9]
        refine j_aload_n C dX4_draw_30 0 rfl rfl ?_
        refine j_get C (hin4) (ci := 4) rfl 2 (by decide) (hl23) 0 rfl (v := .ref hl) rfl dX4_draw_31 ?_
        refine j_iload_n C dX4_draw_34 1 rfl rfl ?_
        refine j_callVM C rw_ (nA := 1) (As := [.int (nI tm)]) (wr := [(h4, cO 4 [.ref hS, .ref hs, .ref hl, .ref hdr, .int ax, .int ay, .int az, .long lim]), (hs, cO 6 [.int (nI sc), .int (nI sp), .int (bI ss), .int (nI st), .ref so, .ref sr]), (so, cI (xT X) 21 ob), (sr, cI (xT X) 12 rq), (hdr, cZ (xT X) 301 (fun j => bI (va_up dr tm true j))), (hS, cO 5 [.ref hh, .ref hv, .ref hq, .ref ha]), (hv, cI (xT X) 450 cvec), (hq, cI (xT X) 150 csq)]) (c_X0_clear (xl X) (xT X) hl hlw 903 tm LW (by omega) (by omega)) gX4_draw_X0_clear rfl (by decide +kernel) rfl (by decide) (by decide) [4, 5] [0, 1, 2, 3, 6, 7, 8, 9] rfl rfl rfl rfl (by decide) 4 rfl rfl (rest := []) rfl (Nat.le_of_ble_eq_true rfl) dX4_draw_35 ?_
        rintro _ _ ⟨g_1, rfl, rfl, hcl⟩
        show jj X 0 0 38 [(0, .ref h4), (1, .int (nI tm))] [] [(h4, cO 4 [.ref hS, .ref hs, .ref hl, .ref hdr, .int ax, .int ay, .int az, .long lim]), (hs, cO 6 [.int (nI sc), .int (nI sp), .int (bI ss), .int (nI st), .ref so, .ref sr]), (so, cI (xT X) 21 ob), (sr, cI (xT X) 12 rq), (hdr, cZ (xT X) 301 (fun j => bI (va_up dr tm true j))), (hS, cO 5 [.ref hh, .ref hv, .ref hq, .ref ha]), (hv, cI (xT X) 450 cvec), (hq, cI (xT X) 150 csq), (hl, cO 0 [.ref hlw]), (hlw, cJ (xT X) 903 g_1)]
        refine j_iconst C dX4_draw_38 (v := (nI 0)) kc_i_0 ?_
        refine j_istore_n C dX4_draw_39 rfl (by decide) (lv' := [(2, .int (nI 0)), (0, .ref h4), (1, .int (nI tm))]) rfl ?_
        refine j_lv [1, 2, 0] rfl ?_
        refine j_perm C (w' := [(h4, cO 4 [.ref hS, .ref hs, .ref hl, .ref hdr, .int ax, .int ay, .int az, .long lim]), (hs, cO 6 [.int (nI sc), .int (nI sp), .int (bI ss), .int (nI st), .ref so, .ref sr]), (so, cI (xT X) 21 ob), (sr, cI (xT X) 12 rq), (hl, cO 0 [.ref hlw]), (hlw, cJ (xT X) 903 g_1), (hdr, cZ (xT X) 301 (fun j => bI (va_up dr tm true j))), (hS, cO 5 [.ref hh, .ref hv, .ref hq, .ref ha]), (hv, cI (xT X) 450 cvec), (hq, cI (xT X) 150 csq)]) [0, 1, 2, 3, 8, 9, 4, 5, 6, 7] rfl rfl ?_
        suffices hc40 : ∀ (mm : Nat) (o : Nat) (ax ay az : Int32) (lim : Int64) (W : Nat → Int64), 3 - o < mm → (o ≤ 3) → (∀ r', r' ≠ tm → ∀ c', c' < 192 → cs_b W r' c' = cs_b LW r' c') → (∀ c', c' < 192 → cs_b W tm c' = (decide (c' < 150) && brn ob c' tm o)) → jj X 0 0 40 [(0, .ref h4), (1, .int (nI tm)), (2, .int (nI o))] [] [(h4, cO 4 [.ref hS, .ref hs, .ref hl, .ref hdr, .int ax, .int ay, .int az, .long lim]), (hs, cO 6 [.int (nI sc), .int (nI sp), .int (bI ss), .int (nI st), .ref so, .ref sr]), (so, cI (xT X) 21 ob), (sr, cI (xT X) 12 rq), (hl, cO 0 [.ref hlw]), (hlw, cJ (xT X) 903 W), (hdr, cZ (xT X) 301 (fun j => bI (va_up dr tm true j))), (hS, cO 5 [.ref hh, .ref hv, .ref hq, .ref ha]), (hv, cI (xT X) 450 cvec), (hq, cI (xT X) 150 csq)] by
          refine hc40 _ _ _ _ _ _ _ (Nat.lt_succ_self _) ?_ ?_ ?_
          · omega
          · intro r' hr' c' hc'; rw [hcl r' c' hc', decide_eq_true hr', Bool.true_and]
          · intro c' hc'; rw [hcl tm c' hc', decide_eq_false (fun h => h rfl)]; simp [brn]
        intro mm
        induction mm with
        | zero => intro o ax ay az lim W hm; exact absurd hm (Nat.not_lt_zero _)
        | succ mm ih40 =>
          intro o ax ay az lim W hm40 ho hw1 hw2
          refine j_iload_n C dX4_draw_40 2 rfl rfl ?_
          refine j_iconst C dX4_draw_41 (v := (nI 3)) kc_i_3 ?_
          refine j_icmp_ge C dX4_draw_42 (tgt := 92) (by decide) (fun q42 => ?_) (fun q42 => ?_)
          · skip
            have q42 := (kn_ge (a := o) (b := 3) (by omega) (by omega)).mp q42
            refine j_vretM C rw_ hQ (by decide) (by decide) ?_ dX4_draw_92
            refine ⟨_, _, _, _, _, _, rfl, rfl, fun t ht hd c' hc' => ?_, fun _ => by simp [va_up]⟩
            by_cases h : t = tm
            · subst h; rw [hw2 c' hc', show o = 3 by omega]; rfl
            · rw [hw1 t h c' hc']; exact hI t ht (by simpa [va_up, h] using hd) c' hc'
          · skip
            have q42 := (kn_nge (a := o) (b := 3) (by omega) (by omega)).mp q42
            refine j_aload_n C dX4_draw_45 0 rfl rfl ?_
            refine j_iload_n C dX4_draw_46 2 rfl rfl ?_
            refine j_iload_n C dX4_draw_47 1 rfl rfl ?_
            refine j_callVM C rw_ (nA := 2) (As := [.int (nI o), .int (nI tm)]) (wr := []) (c_X4_aim (xl X) (xT X) h4 hS hs so sr hl hlw hdr hh hv hq ha sc sp st ss ob rq ax ay az lim W (va_up dr tm true) o tm (by omega)) gX4_draw_X4_aim rfl (by decide +kernel) rfl (by decide) (by decide) [0, 1, 2, 3, 4, 5, 6, 7, 8, 9] [] rfl rfl rfl rfl (by decide) 0 rfl rfl (rest := []) rfl (Nat.le_of_ble_eq_true rfl) dX4_draw_48 ?_
            rintro _ _ ⟨rfl, rfl⟩
            show jj X 0 0 51 [(0, .ref h4), (1, .int (nI tm)), (2, .int (nI o))] [.int (bI (br_on ob o))] [(h4, cO 4 [.ref hS, .ref hs, .ref hl, .ref hdr, .int (st_aim ob o 0 tm), .int (st_aim ob o 1 tm), .int (st_aim ob o 2 tm), .long (br_lim ob o tm)]), (hs, cO 6 [.int (nI sc), .int (nI sp), .int (bI ss), .int (nI st), .ref so, .ref sr]), (so, cI (xT X) 21 ob), (sr, cI (xT X) 12 rq), (hl, cO 0 [.ref hlw]), (hlw, cJ (xT X) 903 W), (hdr, cZ (xT X) 301 (fun j => bI ((va_up dr tm true) j))), (hS, cO 5 [.ref hh, .ref hv, .ref hq, .ref ha]), (hv, cI (xT X) 450 cvec), (hq, cI (xT X) 150 csq)]
            refine j_if_eq C dX4_draw_51 (tgt := 86) (by decide) (fun q51 => ?_) (fun q51 => ?_)
            · skip
              have q51 := (kb_eq).mp q51
              refine j_iinc C dX4_draw_86 (q := 2) (v := (nI (o + 1))) rfl (kc_inc o) (by decide) (lv' := [(2, .int (nI (o + 1))), (0, .ref h4), (1, .int (nI tm))]) rfl ?_
              refine j_goto C dX4_draw_89 (tgt := 40) (by decide) ?_
              refine j_lv [1, 2, 0] rfl ?_
              refine ih40 _ _ _ _ _ _ (by omega) ?_ ?_ ?_
              · omega
              · exact hw1
              · intro c' hc'; rw [hw2 c' hc', brn]; unfold br_o; rw [q51]; simp
            · skip
              have q51 := (kb_neq).mp q51
              refine j_iconst C dX4_draw_54 (v := (nI 0)) kc_i_0 ?_
              refine j_istore_n C dX4_draw_55 rfl (by decide) (lv' := [(3, .int (nI 0)), (0, .ref h4), (1, .int (nI tm)), (2, .int (nI o))]) rfl ?_
              refine j_lv [1, 2, 3, 0] rfl ?_
              suffices hc56 : ∀ (mm : Nat) (c : Nat) (W : Nat → Int64), 150 - c < mm → (c ≤ 150) → (∀ r', r' ≠ tm → ∀ c', c' < 192 → cs_b W r' c' = cs_b LW r' c') → (∀ c', c' < 192 → cs_b W tm c' = (decide (c' < 150) && (brn ob c' tm o || (decide (c' < c) && br_hit (st_aim ob o 0 tm) (st_aim ob o 1 tm) (st_aim ob o 2 tm) (br_lim ob o tm) c')))) → jj X 0 0 56 [(0, .ref h4), (1, .int (nI tm)), (2, .int (nI o)), (3, .int (nI c))] [] [(h4, cO 4 [.ref hS, .ref hs, .ref hl, .ref hdr, .int (st_aim ob o 0 tm), .int (st_aim ob o 1 tm), .int (st_aim ob o 2 tm), .long (br_lim ob o tm)]), (hs, cO 6 [.int (nI sc), .int (nI sp), .int (bI ss), .int (nI st), .ref so, .ref sr]), (so, cI (xT X) 21 ob), (sr, cI (xT X) 12 rq), (hl, cO 0 [.ref hlw]), (hlw, cJ (xT X) 903 W), (hdr, cZ (xT X) 301 (fun j => bI (va_up dr tm true j))), (hS, cO 5 [.ref hh, .ref hv, .ref hq, .ref ha]), (hv, cI (xT X) 450 cvec), (hq, cI (xT X) 150 csq)] by
                refine hc56 _ _ _ (Nat.lt_succ_self _) ?_ ?_ ?_
                · omega
                · exact hw1
                · intro c' hc'; rw [hw2 c' hc']; simp
              intro mm
              induction mm with
              | zero => intro c W hm; exact absurd hm (Nat.not_lt_zero _)
              | succ mm ih56 =>
                intro c W hm56 hc hv1 hv2
                refine j_iload_n C dX4_draw_56 3 rfl rfl ?_
                refine j_sipush C dX4_draw_57 (v := (nI 150)) kc_s_150 ?_
                refine j_icmp_ge C dX4_draw_60 (tgt := 86) (by decide) (fun q60 => ?_) (fun q60 => ?_)
                · skip
                  have q60 := (kn_ge (a := c) (b := 150) (by omega) (by omega)).mp q60
                  refine j_iinc C dX4_draw_86 (q := 2) (v := (nI (o + 1))) rfl (kc_inc o) (by decide) (lv' := [(2, .int (nI (o + 1))), (0, .ref h4), (1, .int (nI tm)), (3, .int (nI c))]) rfl ?_
                  refine j_goto C dX4_draw_89 (tgt := 40) (by decide) ?_
                  refine j_lv [1, 2, 0] rfl ?_
                  refine ih40 _ _ _ _ _ _ (by omega) ?_ ?_ ?_
                  · omega
                  · exact hv1
                  · intro c' hc'; rw [hv2 c' hc', brn]; unfold br_o; rw [q51]
                    by_cases h : c' < 150
                    · rw [decide_eq_true h, decide_eq_true (show c' < c by omega)]
                    · rw [decide_eq_false h]; simp
                · skip
                  have q60 := (kn_nge (a := c) (b := 150) (by omega) (by omega)).mp q60
                  refine j_aload_n C dX4_draw_63 0 rfl rfl ?_
                  refine j_iload_n C dX4_draw_64 3 rfl rfl ?_
                  refine j_callVR C (nA := 1) (As := [.int (nI c)]) (c_X4_hits (xl X) (xT X) h4 hS hs so sr hl hlw hdr hh hv hq ha sc sp st ss ob rq (st_aim ob o 0 tm) (st_aim ob o 1 tm) (st_aim ob o 2 tm) (br_lim ob o tm) W (va_up dr tm true) c (by omega)) gX4_draw_X4_hits rfl (by decide +kernel) rfl ⟨rfl, rfl⟩ (by decide) (by decide) [0, 1, 2, 3, 4, 5, 6, 7, 8, 9] rfl rfl 0 rfl rfl (rest := []) rfl (Nat.le_of_ble_eq_true rfl) dX4_draw_65 ?_
                  rintro _ rfl
                  show jj X 0 0 68 [(0, .ref h4), (1, .int (nI tm)), (2, .int (nI o)), (3, .int (nI c))] [.int (bI (br_hit (st_aim ob o 0 tm) (st_aim ob o 1 tm) (st_aim ob o 2 tm) (br_lim ob o tm) c))] [(h4, cO 4 [.ref hS, .ref hs, .ref hl, .ref hdr, .int (st_aim ob o 0 tm), .int (st_aim ob o 1 tm), .int (st_aim ob o 2 tm), .long (br_lim ob o tm)]), (hs, cO 6 [.int (nI sc), .int (nI sp), .int (bI ss), .int (nI st), .ref so, .ref sr]), (so, cI (xT X) 21 ob), (sr, cI (xT X) 12 rq), (hl, cO 0 [.ref hlw]), (hlw, cJ (xT X) 903 W), (hdr, cZ (xT X) 301 (fun j => bI (va_up dr tm true j))), (hS, cO 5 [.ref hh, .ref hv, .ref hq, .ref ha]), (hv, cI (xT X) 450 cvec), (hq, cI (xT X) 150 csq)]
                  refine j_if_eq C dX4_draw_68 (tgt := 80) (by decide) (fun q68 => ?_) (fun q68 => ?_)
                  · skip
                    have q68 := (kb_eq).mp q68
                    refine j_iinc C dX4_draw_80 (q := 3) (v := (nI (c + 1))) rfl (kc_inc c) (by decide) (lv' := [(3, .int (nI (c + 1))), (0, .ref h4), (1, .int (nI tm)), (2, .int (nI o))]) rfl ?_
                    refine j_goto C dX4_draw_83 (tgt := 56) (by decide) ?_
                    refine j_lv [1, 2, 3, 0] rfl ?_
                    refine ih56 _ _ (by omega) ?_ ?_ ?_
                    · omega
                    · exact hv1
                    · intro c' hc'; rw [hv2 c' hc']
                      by_cases h : c' = c
                      · subst h; rw [q68]; simp
                      · rw [show decide (c' < c + 1) = decide (c' < c) from decide_eq_decide.mpr (by omega)]
                  · skip
                    have q68 := (kb_neq).mp q68
                    refine j_aload_n C dX4_draw_71 0 rfl rfl ?_
                    refine j_get C (hin4) (ci := 4) rfl 2 (by decide) (hl23) 0 rfl (v := .ref hl) rfl dX4_draw_72 ?_
                    refine j_iload_n C dX4_draw_75 1 rfl rfl ?_
                    refine j_iload_n C dX4_draw_76 3 rfl rfl ?_
                    refine j_callVM C rw_ (nA := 2) (As := [.int (nI tm), .int (nI c)]) (wr := [(h4, cO 4 [.ref hS, .ref hs, .ref hl, .ref hdr, .int (st_aim ob o 0 tm), .int (st_aim ob o 1 tm), .int (st_aim ob o 2 tm), .long (br_lim ob o tm)]), (hs, cO 6 [.int (nI sc), .int (nI sp), .int (bI ss), .int (nI st), .ref so, .ref sr]), (so, cI (xT X) 21 ob), (sr, cI (xT X) 12 rq), (hdr, cZ (xT X) 301 (fun j => bI (va_up dr tm true j))), (hS, cO 5 [.ref hh, .ref hv, .ref hq, .ref ha]), (hv, cI (xT X) 450 cvec), (hq, cI (xT X) 150 csq)]) (c_X0_add (xl X) (xT X) hl hlw 903 tm c W (by omega) (by omega) (by omega)) gX4_draw_X0_add rfl (by decide +kernel) rfl (by decide) (by decide) [4, 5] [0, 1, 2, 3, 6, 7, 8, 9] rfl rfl rfl rfl (by decide) 4 rfl rfl (rest := []) rfl (Nat.le_of_ble_eq_true rfl) dX4_draw_77 ?_
                    rintro _ _ ⟨g_2, rfl, rfl, hadd⟩
                    show jj X 0 0 80 [(0, .ref h4), (1, .int (nI tm)), (2, .int (nI o)), (3, .int (nI c))] [] [(h4, cO 4 [.ref hS, .ref hs, .ref hl, .ref hdr, .int (st_aim ob o 0 tm), .int (st_aim ob o 1 tm), .int (st_aim ob o 2 tm), .long (br_lim ob o tm)]), (hs, cO 6 [.int (nI sc), .int (nI sp), .int (bI ss), .int (nI st), .ref so, .ref sr]), (so, cI (xT X) 21 ob), (sr, cI (xT X) 12 rq), (hdr, cZ (xT X) 301 (fun j => bI (va_up dr tm true j))), (hS, cO 5 [.ref hh, .ref hv, .ref hq, .ref ha]), (hv, cI (xT X) 450 cvec), (hq, cI (xT X) 150 csq), (hl, cO 0 [.ref hlw]), (hlw, cJ (xT X) 903 g_2)]
                    refine j_iinc C dX4_draw_80 (q := 3) (v := (nI (c + 1))) rfl (kc_inc c) (by decide) (lv' := [(3, .int (nI (c + 1))), (0, .ref h4), (1, .int (nI tm)), (2, .int (nI o))]) rfl ?_
                    refine j_goto C dX4_draw_83 (tgt := 56) (by decide) ?_
                    refine j_lv [1, 2, 3, 0] rfl ?_
                    refine j_perm C (w' := [(h4, cO 4 [.ref hS, .ref hs, .ref hl, .ref hdr, .int (st_aim ob o 0 tm), .int (st_aim ob o 1 tm), .int (st_aim ob o 2 tm), .long (br_lim ob o tm)]), (hs, cO 6 [.int (nI sc), .int (nI sp), .int (bI ss), .int (nI st), .ref so, .ref sr]), (so, cI (xT X) 21 ob), (sr, cI (xT X) 12 rq), (hl, cO 0 [.ref hlw]), (hlw, cJ (xT X) 903 g_2), (hdr, cZ (xT X) 301 (fun j => bI (va_up dr tm true j))), (hS, cO 5 [.ref hh, .ref hv, .ref hq, .ref ha]), (hv, cI (xT X) 450 cvec), (hq, cI (xT X) 150 csq)]) [0, 1, 2, 3, 8, 9, 4, 5, 6, 7] rfl rfl ?_
                    refine ih56 _ _ (by omega) ?_ ?_ ?_
                    · omega
                    · intro r' hr' c' hc'; rw [hadd r' c' hc', decide_eq_false (fun h => hr' h.1), Bool.false_or]; exact hv1 r' hr' c' hc'
                    · intro c' hc'; rw [hadd tm c' hc', hv2 c' hc']
                      by_cases h : c' = c
                      · subst h; rw [q68]; simp; omega
                      · rw [decide_eq_false (fun q => h q.2), Bool.false_or, show decide (c' < c + 1) = decide (c' < c) from decide_eq_decide.mpr (by omega)]
      · skip
        have q19 := (kb_neq).mp q19
        refine j_vretM C rw_ hQ (by decide) (by decide) ?_ dX4_draw_22
        exact ⟨_, _, _, _, _, _, rfl, rfl, hI, fun _ => q19⟩

set_option maxHeartbeats 4000000 in
set_option maxRecDepth 100000 in
/-- countLit(time) -/
theorem c_X4_countLit (l : Launch) (T : jj_T) (h4 hS hs so sr hl hlw hdr hh hv hq ha sc sp st : Nat) (ss : Bool) (ob rq : Nat → Int32) (ax ay az : Int32) (lim : Int64) (LW : Nat → Int64) (dr : Nat → Bool) (tm : Nat) (htm : tm < 301) (hI : skI ob dr LW) : jM l T yX4_countLit wsX4_countLit { frames := 3, cells := 0, slots := 0, locals := 71 } [.ref h4, .int (nI tm)] [(h4, cO 4 [.ref hS, .ref hs, .ref hl, .ref hdr, .int ax, .int ay, .int az, .long lim]), (hs, cO 6 [.int (nI sc), .int (nI sp), .int (bI ss), .int (nI st), .ref so, .ref sr]), (so, cI T 21 ob), (sr, cI T 12 rq), (hl, cO 0 [.ref hlw]), (hlw, cJ T 903 LW), (hdr, cZ T 301 (fun j => bI (dr j))), (hS, cO 5 [.ref hh, .ref hv, .ref hq, .ref ha]), (hv, cI T 450 cvec), (hq, cI T 150 csq)] (fun v w1 => ∃ ax' : Int32, ∃ ay' : Int32, ∃ az' : Int32, ∃ lim' : Int64, ∃ LW' : Nat → Int64, ∃ dr' : Nat → Bool, v = some (.int (nI (fb_ct (fun c => br ob c tm) 150))) ∧ w1 = [(h4, cO 4 [.ref hS, .ref hs, .ref hl, .ref hdr, .int ax', .int ay', .int az', .long lim']), (hs, cO 6 [.int (nI sc), .int (nI sp), .int (bI ss), .int (nI st), .ref so, .ref sr]), (so, cI T 21 ob), (sr, cI T 12 rq), (hl, cO 0 [.ref hlw]), (hlw, cJ T 903 LW'), (hdr, cZ T 301 (fun j => bI (dr' j))), (hS, cO 5 [.ref hh, .ref hv, .ref hq, .ref ha]), (hv, cI T 450 cvec), (hq, cI T 150 csq)] ∧ (skI ob dr' LW')) := by
  refine jM.of (cc := cX4_countLit) (maxL := 2) (ret := (some .int)) (by decide) rfl (Nat.le_of_ble_eq_true rfl) ?_
  intro X C rw_ hl hT hQ hnm
  subst hl; subst hT
  have hin4 : ∀ w ∈ u_ws RX4 TX4 8, w ∈ wsX4_countLit := by decide +kernel
  have hl23 : Cond.fieldLink RX4 23 (TX4 2).1 (TX4 2).2.1 (TX4 2).2.2.1 ∈ wsX4_countLit := by decide +kernel
  show jj X 0 0 0 [(0, .ref h4), (1, .int (nI tm))] [] [(h4, cO 4 [.ref hS, .ref hs, .ref hl, .ref hdr, .int ax, .int ay, .int az, .long lim]), (hs, cO 6 [.int (nI sc), .int (nI sp), .int (bI ss), .int (nI st), .ref so, .ref sr]), (so, cI (xT X) 21 ob), (sr, cI (xT X) 12 rq), (hl, cO 0 [.ref hlw]), (hlw, cJ (xT X) 903 LW), (hdr, cZ (xT X) 301 (fun j => bI (dr j))), (hS, cO 5 [.ref hh, .ref hv, .ref hq, .ref ha]), (hv, cI (xT X) 450 cvec), (hq, cI (xT X) 150 csq)]
  refine j_aload_n C dX4_countLit_0 0 rfl rfl ?_
  refine j_iload_n C dX4_countLit_1 1 rfl rfl ?_
  refine j_callVM C rw_ (nA := 1) (As := [.int (nI tm)]) (wr := []) (c_X4_draw (xl X) (xT X) h4 hS hs so sr hl hlw hdr hh hv hq ha sc sp st ss ob rq ax ay az lim LW dr tm (by omega) (by omega)) gX4_countLit_X4_draw rfl (by decide +kernel) rfl (by decide) (by decide) [0, 1, 2, 3, 4, 5, 6, 7, 8, 9] [] rfl rfl rfl rfl (by decide) 0 rfl rfl (rest := []) rfl (Nat.le_of_ble_eq_true rfl) dX4_countLit_2 ?_
  rintro _ _ ⟨ax'_1, ay'_2, az'_3, lim'_4, LW'_5, dr'_6, rfl, rfl, hI2, hdr2⟩
  show jj X 0 0 5 [(0, .ref h4), (1, .int (nI tm))] [] [(h4, cO 4 [.ref hS, .ref hs, .ref hl, .ref hdr, .int ax'_1, .int ay'_2, .int az'_3, .long lim'_4]), (hs, cO 6 [.int (nI sc), .int (nI sp), .int (bI ss), .int (nI st), .ref so, .ref sr]), (so, cI (xT X) 21 ob), (sr, cI (xT X) 12 rq), (hl, cO 0 [.ref hlw]), (hlw, cJ (xT X) 903 LW'_5), (hdr, cZ (xT X) 301 (fun j => bI (dr'_6 j))), (hS, cO 5 [.ref hh, .ref hv, .ref hq, .ref ha]), (hv, cI (xT X) 450 cvec), (hq, cI (xT X) 150 csq)]
  refine j_aload_n C dX4_countLit_5 0 rfl rfl ?_
  refine j_get C (hin4) (ci := 4) rfl 2 (by decide) (hl23) 0 rfl (v := .ref hl) rfl dX4_countLit_6 ?_
  refine j_iload_n C dX4_countLit_9 1 rfl rfl ?_
  refine j_callVR C (nA := 1) (As := [.int (nI tm)]) (c_X0_size (xl X) (xT X) hl hlw 903 tm LW'_5 (by omega) (by omega)) gX4_countLit_X0_size rfl (by decide +kernel) rfl ⟨rfl, rfl⟩ (by decide) (by decide) [4, 5] rfl rfl 4 rfl rfl (rest := []) rfl (Nat.le_of_ble_eq_true rfl) dX4_countLit_10 ?_
  rintro _ rfl
  show jj X 0 0 13 [(0, .ref h4), (1, .int (nI tm))] [.int (nI (fb_ct (cs_b LW'_5 tm) 192))] [(h4, cO 4 [.ref hS, .ref hs, .ref hl, .ref hdr, .int ax'_1, .int ay'_2, .int az'_3, .long lim'_4]), (hs, cO 6 [.int (nI sc), .int (nI sp), .int (bI ss), .int (nI st), .ref so, .ref sr]), (so, cI (xT X) 21 ob), (sr, cI (xT X) 12 rq), (hl, cO 0 [.ref hlw]), (hlw, cJ (xT X) 903 LW'_5), (hdr, cZ (xT X) 301 (fun j => bI (dr'_6 j))), (hS, cO 5 [.ref hh, .ref hv, .ref hq, .ref ha]), (hv, cI (xT X) 450 cvec), (hq, cI (xT X) 150 csq)]
  refine j_iretM C rw_ hQ (by decide) (by decide) rfl ?_ dX4_countLit_13
  refine ⟨_, _, _, _, _, _, kn_e ?_, rfl, hI2⟩
  rw [← ct_150]
  exact fb_ct_cong (fun c hc => hI2 tm htm (hdr2 htm) c hc)

set_option maxHeartbeats 4000000 in
set_option maxRecDepth 100000 in
/-- show(state) -/
theorem c_X4_show (l : Launch) (T : jj_T) (h4 hS hs so sr hl hlw hdr hh hv hq ha sc sp st : Nat) (ss : Bool) (ob rq : Nat → Int32) (ax ay az : Int32) (lim : Int64) (LW : Nat → Int64) (dr : Nat → Bool) (h1 o1 r1 c1 p1 t1 : Nat) (s1 : Bool) (ob1 rq1 : Nat → Int32) (hI : skI ob dr LW) : jM l T yX4_show wsX4_show { frames := 2, cells := 0, slots := 0, locals := 81 } [.ref h4, .ref h1] [(h4, cO 4 [.ref hS, .ref hs, .ref hl, .ref hdr, .int ax, .int ay, .int az, .long lim]), (hs, cO 6 [.int (nI sc), .int (nI sp), .int (bI ss), .int (nI st), .ref so, .ref sr]), (so, cI T 21 ob), (sr, cI T 12 rq), (hl, cO 0 [.ref hlw]), (hlw, cJ T 903 LW), (hdr, cZ T 301 (fun j => bI (dr j))), (hS, cO 5 [.ref hh, .ref hv, .ref hq, .ref ha]), (hv, cI T 450 cvec), (hq, cI T 150 csq), (h1, cO 6 [.int (nI c1), .int (nI p1), .int (bI s1), .int (nI t1), .ref o1, .ref r1]), (o1, cI T 21 ob1), (r1, cI T 12 rq1)] (fun v w1 => ∃ dr' : Nat → Bool, v = none ∧ w1 = [(h4, cO 4 [.ref hS, .ref hs, .ref hl, .ref hdr, .int ax, .int ay, .int az, .long lim]), (hs, cO 6 [.int (nI sc), .int (nI sp), .int (bI ss), .int (nI st), .ref so, .ref sr]), (so, cI T 21 ob1), (sr, cI T 12 rq), (hl, cO 0 [.ref hlw]), (hlw, cJ T 903 LW), (hdr, cZ T 301 (fun j => bI (dr' j))), (hS, cO 5 [.ref hh, .ref hv, .ref hq, .ref ha]), (hv, cI T 450 cvec), (hq, cI T 150 csq), (h1, cO 6 [.int (nI c1), .int (nI p1), .int (bI s1), .int (nI t1), .ref o1, .ref r1]), (o1, cI T 21 ob1), (r1, cI T 12 rq1)] ∧ (skI ob1 dr' LW)) := by
  refine jM.of (cc := cX4_show) (maxL := 3) (ret := none) (by decide) rfl (Nat.le_of_ble_eq_true rfl) ?_
  intro X C rw_ hl hT hQ hnm
  subst hl; subst hT
  have hin4 : ∀ w ∈ u_ws RX4 TX4 8, w ∈ wsX4_show := by decide +kernel
  have hl12 : Cond.fieldLink RX4 12 (TX4 1).1 (TX4 1).2.1 (TX4 1).2.2.1 ∈ wsX4_show := by decide +kernel
  have hl27 : Cond.fieldLink RX4 27 (TX4 3).1 (TX4 3).2.1 (TX4 3).2.2.1 ∈ wsX4_show := by decide +kernel
  show jj X 0 0 0 [(0, .ref h4), (1, .ref h1)] [] [(h4, cO 4 [.ref hS, .ref hs, .ref hl, .ref hdr, .int ax, .int ay, .int az, .long lim]), (hs, cO 6 [.int (nI sc), .int (nI sp), .int (bI ss), .int (nI st), .ref so, .ref sr]), (so, cI (xT X) 21 ob), (sr, cI (xT X) 12 rq), (hl, cO 0 [.ref hlw]), (hlw, cJ (xT X) 903 LW), (hdr, cZ (xT X) 301 (fun j => bI (dr j))), (hS, cO 5 [.ref hh, .ref hv, .ref hq, .ref ha]), (hv, cI (xT X) 450 cvec), (hq, cI (xT X) 150 csq), (h1, cO 6 [.int (nI c1), .int (nI p1), .int (bI s1), .int (nI t1), .ref o1, .ref r1]), (o1, cI (xT X) 21 ob1), (r1, cI (xT X) 12 rq1)]
  refine j_aload_n C dX4_show_0 0 rfl rfl ?_
  refine j_get C (hin4) (ci := 4) rfl 1 (by decide) (hl12) 0 rfl (v := .ref hs) rfl dX4_show_1 ?_
  refine j_aload_n C dX4_show_4 1 rfl rfl ?_
  refine j_callVR C (nA := 1) (As := [.ref h1]) (c_X6_hasObjectsOf (xl X) (xT X) hs so sr sc sp st h1 o1 r1 c1 p1 t1 ss s1 ob rq ob1 rq1 ) gX4_show_X6_hasObjectsOf rfl (by decide +kernel) rfl ⟨rfl, rfl⟩ (by decide) (by decide) [1, 2, 3, 10, 11, 12] rfl rfl 1 rfl rfl (rest := []) rfl (Nat.le_of_ble_eq_true rfl) dX4_show_5 ?_
  rintro _ ⟨b_1, rfl, hb⟩
  show jj X 0 0 8 [(0, .ref h4), (1, .ref h1)] [.int (bI b_1)] [(h4, cO 4 [.ref hS, .ref hs, .ref hl, .ref hdr, .int ax, .int ay, .int az, .long lim]), (hs, cO 6 [.int (nI sc), .int (nI sp), .int (bI ss), .int (nI st), .ref so, .ref sr]), (so, cI (xT X) 21 ob), (sr, cI (xT X) 12 rq), (hl, cO 0 [.ref hlw]), (hlw, cJ (xT X) 903 LW), (hdr, cZ (xT X) 301 (fun j => bI (dr j))), (hS, cO 5 [.ref hh, .ref hv, .ref hq, .ref ha]), (hv, cI (xT X) 450 cvec), (hq, cI (xT X) 150 csq), (h1, cO 6 [.int (nI c1), .int (nI p1), .int (bI s1), .int (nI t1), .ref o1, .ref r1]), (o1, cI (xT X) 21 ob1), (r1, cI (xT X) 12 rq1)]
  refine j_if_eq C dX4_show_8 (tgt := 12) (by decide) (fun q8 => ?_) (fun q8 => ?_)
  · skip
    have q8 := (kb_eq).mp q8
    refine j_aload_n C dX4_show_12 0 rfl rfl ?_
    refine j_get C (hin4) (ci := 4) rfl 1 (by decide) (hl12) 0 rfl (v := .ref hs) rfl dX4_show_13 ?_
    refine j_aload_n C dX4_show_16 1 rfl rfl ?_
    refine j_callVM C rw_ (nA := 1) (As := [.ref h1]) (wr := [(h4, cO 4 [.ref hS, .ref hs, .ref hl, .ref hdr, .int ax, .int ay, .int az, .long lim]), (hl, cO 0 [.ref hlw]), (hlw, cJ (xT X) 903 LW), (hdr, cZ (xT X) 301 (fun j => bI (dr j))), (hS, cO 5 [.ref hh, .ref hv, .ref hq, .ref ha]), (hv, cI (xT X) 450 cvec), (hq, cI (xT X) 150 csq)]) (c_X6_copyObjects (xl X) (xT X) hs so sr sc sp st h1 o1 r1 c1 p1 t1 ss s1 ob rq ob1 rq1 ) gX4_show_X6_copyObjects rfl (by decide +kernel) rfl (by decide) (by decide) [1, 2, 3, 10, 11, 12] [0, 4, 5, 6, 7, 8, 9] rfl rfl rfl rfl (by decide) 1 rfl rfl (rest := []) rfl (Nat.le_of_ble_eq_true rfl) dX4_show_17 ?_
    rintro _ _ ⟨rfl, rfl⟩
    show jj X 0 0 20 [(0, .ref h4), (1, .ref h1)] [] [(h4, cO 4 [.ref hS, .ref hs, .ref hl, .ref hdr, .int ax, .int ay, .int az, .long lim]), (hl, cO 0 [.ref hlw]), (hlw, cJ (xT X) 903 LW), (hdr, cZ (xT X) 301 (fun j => bI (dr j))), (hS, cO 5 [.ref hh, .ref hv, .ref hq, .ref ha]), (hv, cI (xT X) 450 cvec), (hq, cI (xT X) 150 csq), (hs, cO 6 [.int (nI sc), .int (nI sp), .int (bI ss), .int (nI st), .ref so, .ref sr]), (so, cI (xT X) 21 ob1), (sr, cI (xT X) 12 rq), (h1, cO 6 [.int (nI c1), .int (nI p1), .int (bI s1), .int (nI t1), .ref o1, .ref r1]), (o1, cI (xT X) 21 ob1), (r1, cI (xT X) 12 rq1)]
    refine j_iconst C dX4_show_20 (v := (nI 0)) kc_i_0 ?_
    refine j_istore_n C dX4_show_21 rfl (by decide) (lv' := [(2, .int (nI 0)), (0, .ref h4), (1, .ref h1)]) rfl ?_
    refine j_lv [1, 2, 0] rfl ?_
    refine j_perm C (w' := [(h4, cO 4 [.ref hS, .ref hs, .ref hl, .ref hdr, .int ax, .int ay, .int az, .long lim]), (hs, cO 6 [.int (nI sc), .int (nI sp), .int (bI ss), .int (nI st), .ref so, .ref sr]), (so, cI (xT X) 21 ob1), (sr, cI (xT X) 12 rq), (hl, cO 0 [.ref hlw]), (hlw, cJ (xT X) 903 LW), (hdr, cZ (xT X) 301 (fun j => bI (dr j))), (hS, cO 5 [.ref hh, .ref hv, .ref hq, .ref ha]), (hv, cI (xT X) 450 cvec), (hq, cI (xT X) 150 csq), (h1, cO 6 [.int (nI c1), .int (nI p1), .int (bI s1), .int (nI t1), .ref o1, .ref r1]), (o1, cI (xT X) 21 ob1), (r1, cI (xT X) 12 rq1)]) [0, 7, 8, 9, 1, 2, 3, 4, 5, 6, 10, 11, 12] rfl rfl ?_
    suffices hc22 : ∀ (mm : Nat) (i : Nat) (D : Nat → Bool), 301 - i < mm → (i ≤ 301) → (∀ t, t < i → D t = false) → jj X 0 0 22 [(0, .ref h4), (1, .ref h1), (2, .int (nI i))] [] [(h4, cO 4 [.ref hS, .ref hs, .ref hl, .ref hdr, .int ax, .int ay, .int az, .long lim]), (hs, cO 6 [.int (nI sc), .int (nI sp), .int (bI ss), .int (nI st), .ref so, .ref sr]), (so, cI (xT X) 21 ob1), (sr, cI (xT X) 12 rq), (hl, cO 0 [.ref hlw]), (hlw, cJ (xT X) 903 LW), (hdr, cZ (xT X) 301 (fun j => bI (D j))), (hS, cO 5 [.ref hh, .ref hv, .ref hq, .ref ha]), (hv, cI (xT X) 450 cvec), (hq, cI (xT X) 150 csq), (h1, cO 6 [.int (nI c1), .int (nI p1), .int (bI s1), .int (nI t1), .ref o1, .ref r1]), (o1, cI (xT X) 21 ob1), (r1, cI (xT X) 12 rq1)] by
      refine hc22 _ _ dr (Nat.lt_succ_self _) ?_ ?_
      · omega
      · intro t ht; omega
    intro mm
    induction mm with
    | zero => intro i D hm; exact absurd hm (Nat.not_lt_zero _)
    | succ mm ih22 =>
      intro i D hm22 hi hD
      refine j_iload_n C dX4_show_22 2 rfl rfl ?_
      refine j_aload_n C dX4_show_23 0 rfl rfl ?_
      refine j_get C (hin4) (ci := 4) rfl 3 (by decide) (hl27) 0 rfl (v := .ref hdr) rfl dX4_show_24 ?_
      refine j_alenZ C 6 rfl dX4_show_27 ?_
      refine j_icmp_ge C dX4_show_28 (tgt := 44) (by decide) (fun q28 => ?_) (fun q28 => ?_)
      · skip
        have q28 := (kn_ge (a := i) (b := 301) (by omega) (by omega)).mp q28
        refine j_vretM C rw_ hQ (by decide) (by decide) ?_ dX4_show_44
        exact ⟨_, rfl, rfl, fun t ht hd c hc => by rw [hD t (by omega)] at hd; cases hd⟩
      · skip
        have q28 := (kn_nge (a := i) (b := 301) (by omega) (by omega)).mp q28
        refine j_aload_n C dX4_show_31 0 rfl rfl ?_
        refine j_get C (hin4) (ci := 4) rfl 3 (by decide) (hl27) 0 rfl (v := .ref hdr) rfl dX4_show_32 ?_
        refine j_iload_n C dX4_show_35 2 rfl rfl ?_
        refine j_iconst C dX4_show_36 (v := (nI 0)) kc_i_0 ?_
        refine j_zastoreN C rw_ i rfl 6 rfl (by omega) (by decide) (w' := [(h4, cO 4 [.ref hS, .ref hs, .ref hl, .ref hdr, .int ax, .int ay, .int az, .long lim]), (hs, cO 6 [.int (nI sc), .int (nI sp), .int (bI ss), .int (nI st), .ref so, .ref sr]), (so, cI (xT X) 21 ob1), (sr, cI (xT X) 12 rq), (hl, cO 0 [.ref hlw]), (hlw, cJ (xT X) 903 LW), (hdr, cZ (xT X) 301 (upd (fun j => bI (D j)) i (vp_nar .boolean (nI 0)))), (hS, cO 5 [.ref hh, .ref hv, .ref hq, .ref ha]), (hv, cI (xT X) 450 cvec), (hq, cI (xT X) 150 csq), (h1, cO 6 [.int (nI c1), .int (nI p1), .int (bI s1), .int (nI t1), .ref o1, .ref r1]), (o1, cI (xT X) 21 ob1), (r1, cI (xT X) 12 rq1)]) rfl dX4_show_37 ?_
        refine j_extZ C (fun j => bI (va_up D i false j)) 6 rfl (fun j hj => ?_) (w' := [(h4, cO 4 [.ref hS, .ref hs, .ref hl, .ref hdr, .int ax, .int ay, .int az, .long lim]), (hs, cO 6 [.int (nI sc), .int (nI sp), .int (bI ss), .int (nI st), .ref so, .ref sr]), (so, cI (xT X) 21 ob1), (sr, cI (xT X) 12 rq), (hl, cO 0 [.ref hlw]), (hlw, cJ (xT X) 903 LW), (hdr, cZ (xT X) 301 (fun j => bI (va_up D i false j))), (hS, cO 5 [.ref hh, .ref hv, .ref hq, .ref ha]), (hv, cI (xT X) 450 cvec), (hq, cI (xT X) 150 csq), (h1, cO 6 [.int (nI c1), .int (nI p1), .int (bI s1), .int (nI t1), .ref o1, .ref r1]), (o1, cI (xT X) 21 ob1), (r1, cI (xT X) 12 rq1)]) rfl ?_
        · by_cases h9 : j = i
          · simp [upd, va_up, h9, bI_n0]
          · simp [upd, va_up, h9]
        refine j_iinc C dX4_show_38 (q := 2) (v := (nI (i + 1))) rfl (kc_inc i) (by decide) (lv' := [(2, .int (nI (i + 1))), (0, .ref h4), (1, .ref h1)]) rfl ?_
        refine j_goto C dX4_show_41 (tgt := 22) (by decide) ?_
        refine j_lv [1, 2, 0] rfl ?_
        refine ih22 _ _ (by omega) ?_ ?_
        · omega
        · intro t ht; unfold va_up
          by_cases h : t = i
          · rw [if_pos h]
          · rw [if_neg h]; exact hD t (by omega)
  · skip
    have q8 := (kb_neq).mp q8
    have heq := hb.mp q8
    refine j_extI C ob1 2 rfl (fun j hj => ?_) (w' := [(h4, cO 4 [.ref hS, .ref hs, .ref hl, .ref hdr, .int ax, .int ay, .int az, .long lim]), (hs, cO 6 [.int (nI sc), .int (nI sp), .int (bI ss), .int (nI st), .ref so, .ref sr]), (so, cI (xT X) 21 ob1), (sr, cI (xT X) 12 rq), (hl, cO 0 [.ref hlw]), (hlw, cJ (xT X) 903 LW), (hdr, cZ (xT X) 301 (fun j => bI (dr j))), (hS, cO 5 [.ref hh, .ref hv, .ref hq, .ref ha]), (hv, cI (xT X) 450 cvec), (hq, cI (xT X) 150 csq), (h1, cO 6 [.int (nI c1), .int (nI p1), .int (bI s1), .int (nI t1), .ref o1, .ref r1]), (o1, cI (xT X) 21 ob1), (r1, cI (xT X) 12 rq1)]) rfl ?_
    · exact heq j hj
    refine j_vretM C rw_ hQ (by decide) (by decide) ?_ dX4_show_11
    exact ⟨_, rfl, rfl, fun t ht hd c hc => by rw [← br_cong heq]; exact hI t ht hd c hc⟩

set_option maxHeartbeats 4000000 in
set_option maxRecDepth 100000 in
/-- Sky(cells) -/
theorem c_X4_init (l : Launch) (T : jj_T) (h4 hS : Nat) : jM l T yX4_init wsX4_init { frames := 2, cells := 6, slots := 1244, locals := 41 } [.ref h4, .ref hS] [(h4, cO 4 [.null, .null, .null, .null, .int (nI 0), .int (nI 0), .int (nI 0), .long (lN 0)])] (fun v w1 => ∃ hs : Nat, ∃ so : Nat, ∃ sr : Nat, ∃ hl : Nat, ∃ hlw : Nat, ∃ hdr : Nat, v = none ∧ w1 = [(h4, cO 4 [.ref hS, .ref hs, .ref hl, .ref hdr, .int (nI 0), .int (nI 0), .int (nI 0), .long (lN 0)]), (hs, cO 6 [.int (nI 0), .int (nI 0), .int (bI false), .int (nI 0), .ref so, .ref sr]), (so, cI T 21 st_ob0), (sr, cI T 12 (fun _ => 0)), (hl, cO 0 [.ref hlw]), (hlw, cJ T (3 * 301) (fun _ => 0)), (hdr, cZ T 301 (fun _ => 0))]) := by
  refine jM.of (cc := cX4_init) (maxL := 2) (ret := none) (by decide) rfl (Nat.le_of_ble_eq_true rfl) ?_
  intro X C rw_ hl hT hQ hnm
  subst hl; subst hT
  have hin0 : ∀ w ∈ u_ws RX0 TX0 1, w ∈ wsX4_init := by decide +kernel
  have hin4 : ∀ w ∈ u_ws RX4 TX4 8, w ∈ wsX4_init := by decide +kernel
  have hin6 : ∀ w ∈ u_ws RX6 TX6 6, w ∈ wsX4_init := by decide +kernel
  have hl12 : Cond.fieldLink RX4 12 (TX4 1).1 (TX4 1).2.1 (TX4 1).2.2.1 ∈ wsX4_init := by decide +kernel
  have hl23 : Cond.fieldLink RX4 23 (TX4 2).1 (TX4 2).2.1 (TX4 2).2.2.1 ∈ wsX4_init := by decide +kernel
  have hl27 : Cond.fieldLink RX4 27 (TX4 3).1 (TX4 3).2.1 (TX4 3).2.2.1 ∈ wsX4_init := by decide +kernel
  have hl31 : Cond.fieldLink RX4 31 (TX4 0).1 (TX4 0).2.1 (TX4 0).2.2.1 ∈ wsX4_init := by decide +kernel
  show jj X 0 0 0 [(0, .ref h4), (1, .ref hS)] [] [(h4, cO 4 [.null, .null, .null, .null, .int (nI 0), .int (nI 0), .int (nI 0), .long (lN 0)])]
  refine j_aload_n C dX4_init_0 0 rfl rfl ?_
  refine j_obj C (by decide +kernel) (by decide +kernel) (by decide +kernel) (by decide) (by decide) dX4_init_1 ?_
  refine j_aload_n C dX4_init_4 0 rfl rfl ?_
  refine j_new C rw_ (hin6) tyX6 tyX6_ok (ci := 6) rfl (by decide +kernel) (by decide +kernel) (by decide +kernel) (fs := [.int (nI 0), .int (nI 0), .int (bI false), .int (nI 0), .null, .null]) (by decide +kernel) (by decide) (by decide) dX4_init_5 (fun hs => ?_)
  show jj X 1 6 8 [(0, .ref h4), (1, .ref hS)] [.ref hs, .ref h4] [(h4, cO 4 [.null, .null, .null, .null, .int (nI 0), .int (nI 0), .int (nI 0), .long (lN 0)]), (hs, cO 6 [.int (nI 0), .int (nI 0), .int (bI false), .int (nI 0), .null, .null])]
  refine j_dup C dX4_init_8 rfl ?_
  refine j_callIM C rw_ (nA := 0) (As := []) (wr := [(h4, cO 4 [.null, .null, .null, .null, .int (nI 0), .int (nI 0), .int (nI 0), .long (lN 0)])]) (c_X6_init (xl X) (xT X) hs ) gX4_init_X6_init rfl (by decide +kernel) (by decide +kernel) (by decide +kernel) rfl (by decide +kernel) rfl (by decide) (by decide) [1] [0] rfl rfl rfl rfl (by decide) (rest := [.ref hs, .ref h4]) rfl (Nat.le_of_ble_eq_true rfl) dX4_init_9 ?_
  rintro _ _ ⟨qo_1, qr_2, rfl, rfl⟩
  show jj X 3 39 12 [(0, .ref h4), (1, .ref hS)] [.ref hs, .ref h4] [(h4, cO 4 [.null, .null, .null, .null, .int (nI 0), .int (nI 0), .int (nI 0), .long (lN 0)]), (hs, cO 6 [.int (nI 0), .int (nI 0), .int (bI false), .int (nI 0), .ref qo_1, .ref qr_2]), (qo_1, cI (xT X) 21 st_ob0), (qr_2, cI (xT X) 12 (fun _ => 0))]
  refine j_putF C rw_ hnm (hin4) tyX4 tyX4_ok nmX4 (ci := 4) rfl 1 (by decide) (hl12) (by decide +kernel) rfl (ty := .object "SlewPlanner$State") (by decide +kernel) rfl rfl 0 rfl (Nat.le_of_ble_eq_true rfl) (w' := [(h4, cO 4 [.null, .ref hs, .null, .null, .int (nI 0), .int (nI 0), .int (nI 0), .long (lN 0)]), (hs, cO 6 [.int (nI 0), .int (nI 0), .int (bI false), .int (nI 0), .ref qo_1, .ref qr_2]), (qo_1, cI (xT X) 21 st_ob0), (qr_2, cI (xT X) 12 (fun _ => 0))]) rfl dX4_init_12 ?_
  refine j_aload_n C dX4_init_15 0 rfl rfl ?_
  refine j_new C rw_ (hin0) tyX0 tyX0_ok (ci := 0) rfl (by decide +kernel) (by decide +kernel) (by decide +kernel) (fs := [.null]) (by decide +kernel) (by decide) (by decide) dX4_init_16 (fun hl => ?_)
  show jj X 4 40 19 [(0, .ref h4), (1, .ref hS)] [.ref hl, .ref h4] [(h4, cO 4 [.null, .ref hs, .null, .null, .int (nI 0), .int (nI 0), .int (nI 0), .long (lN 0)]), (hs, cO 6 [.int (nI 0), .int (nI 0), .int (bI false), .int (nI 0), .ref qo_1, .ref qr_2]), (qo_1, cI (xT X) 21 st_ob0), (qr_2, cI (xT X) 12 (fun _ => 0)), (hl, cO 0 [.null])]
  refine j_dup C dX4_init_19 rfl ?_
  refine j_sipush C dX4_init_20 (v := (nI 301)) kc_s_301 ?_
  refine j_callIM C rw_ (nA := 1) (As := [.int (nI 301)]) (wr := [(h4, cO 4 [.null, .ref hs, .null, .null, .int (nI 0), .int (nI 0), .int (nI 0), .long (lN 0)]), (hs, cO 6 [.int (nI 0), .int (nI 0), .int (bI false), .int (nI 0), .ref qo_1, .ref qr_2]), (qo_1, cI (xT X) 21 st_ob0), (qr_2, cI (xT X) 12 (fun _ => 0))]) (c_X0_init (xl X) (xT X) hl 301 (by omega) (by omega)) gX4_init_X0_init rfl (by decide +kernel) (by decide +kernel) (by decide +kernel) rfl (by decide +kernel) rfl (by decide) (by decide) [4] [0, 1, 2, 3] rfl rfl rfl rfl (by decide) (rest := [.ref hl, .ref h4]) rfl (Nat.le_of_ble_eq_true rfl) dX4_init_23 ?_
  rintro _ _ ⟨q_3, rfl, rfl⟩
  show jj X 5 943 26 [(0, .ref h4), (1, .ref hS)] [.ref hl, .ref h4] [(h4, cO 4 [.null, .ref hs, .null, .null, .int (nI 0), .int (nI 0), .int (nI 0), .long (lN 0)]), (hs, cO 6 [.int (nI 0), .int (nI 0), .int (bI false), .int (nI 0), .ref qo_1, .ref qr_2]), (qo_1, cI (xT X) 21 st_ob0), (qr_2, cI (xT X) 12 (fun _ => 0)), (hl, cO 0 [.ref q_3]), (q_3, cJ (xT X) (3 * 301) (fun _ => 0))]
  refine j_putF C rw_ hnm (hin4) tyX4 tyX4_ok nmX4 (ci := 4) rfl 2 (by decide) (hl23) (by decide +kernel) rfl (ty := .object "SlewPlanner$CellSets") (by decide +kernel) rfl rfl 0 rfl (Nat.le_of_ble_eq_true rfl) (w' := [(h4, cO 4 [.null, .ref hs, .ref hl, .null, .int (nI 0), .int (nI 0), .int (nI 0), .long (lN 0)]), (hs, cO 6 [.int (nI 0), .int (nI 0), .int (bI false), .int (nI 0), .ref qo_1, .ref qr_2]), (qo_1, cI (xT X) 21 st_ob0), (qr_2, cI (xT X) 12 (fun _ => 0)), (hl, cO 0 [.ref q_3]), (q_3, cJ (xT X) (3 * 301) (fun _ => 0))]) rfl dX4_init_26 ?_
  refine j_aload_n C dX4_init_29 0 rfl rfl ?_
  refine j_sipush C dX4_init_30 (v := (nI 301)) kc_s_301 ?_
  refine j_newarrZ C rw_ (N := 301) rfl (by decide) (by decide +kernel) (by decide) (by decide) dX4_init_33 (fun hdr => ?_)
  show jj X 6 1244 35 [(0, .ref h4), (1, .ref hS)] [.ref hdr, .ref h4] [(h4, cO 4 [.null, .ref hs, .ref hl, .null, .int (nI 0), .int (nI 0), .int (nI 0), .long (lN 0)]), (hs, cO 6 [.int (nI 0), .int (nI 0), .int (bI false), .int (nI 0), .ref qo_1, .ref qr_2]), (qo_1, cI (xT X) 21 st_ob0), (qr_2, cI (xT X) 12 (fun _ => 0)), (hl, cO 0 [.ref q_3]), (q_3, cJ (xT X) (3 * 301) (fun _ => 0)), (hdr, cZ (xT X) 301 (fun _ => 0))]
  refine j_putF C rw_ hnm (hin4) tyX4 tyX4_ok nmX4 (ci := 4) rfl 3 (by decide) (hl27) (by decide +kernel) rfl (ty := .array .boolean) (by decide +kernel) rfl rfl 0 rfl (Nat.le_of_ble_eq_true rfl) (w' := [(h4, cO 4 [.null, .ref hs, .ref hl, .ref hdr, .int (nI 0), .int (nI 0), .int (nI 0), .long (lN 0)]), (hs, cO 6 [.int (nI 0), .int (nI 0), .int (bI false), .int (nI 0), .ref qo_1, .ref qr_2]), (qo_1, cI (xT X) 21 st_ob0), (qr_2, cI (xT X) 12 (fun _ => 0)), (hl, cO 0 [.ref q_3]), (q_3, cJ (xT X) (3 * 301) (fun _ => 0)), (hdr, cZ (xT X) 301 (fun _ => 0))]) rfl dX4_init_35 ?_
  refine j_aload_n C dX4_init_38 0 rfl rfl ?_
  refine j_aload_n C dX4_init_39 1 rfl rfl ?_
  refine j_putF C rw_ hnm (hin4) tyX4 tyX4_ok nmX4 (ci := 4) rfl 0 (by decide) (hl31) (by decide +kernel) rfl (ty := .object "SlewPlanner$Sphere") (by decide +kernel) rfl rfl 0 rfl (Nat.le_of_ble_eq_true rfl) (w' := [(h4, cO 4 [.ref hS, .ref hs, .ref hl, .ref hdr, .int (nI 0), .int (nI 0), .int (nI 0), .long (lN 0)]), (hs, cO 6 [.int (nI 0), .int (nI 0), .int (bI false), .int (nI 0), .ref qo_1, .ref qr_2]), (qo_1, cI (xT X) 21 st_ob0), (qr_2, cI (xT X) 12 (fun _ => 0)), (hl, cO 0 [.ref q_3]), (q_3, cJ (xT X) (3 * 301) (fun _ => 0)), (hdr, cZ (xT X) 301 (fun _ => 0))]) rfl dX4_init_40 ?_
  refine j_vretM C rw_ hQ (by decide) (by decide) ?_ dX4_init_43
  exact ⟨_, _, _, _, _, _, rfl, rfl⟩
