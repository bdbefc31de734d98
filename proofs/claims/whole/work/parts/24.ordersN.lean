/-! ORDERS: all orders of the requests, and the best of them (numbers alone) -/
def fndN (P : Nat → Bool) : Nat → Nat → Option Nat
  | 0, _ => none
  | f + 1, k => if P k then some k else fndN P f (k + 1)
theorem fndN_some {P : Nat → Bool} {k0 : Nat} (h : P k0 = true) : ∀ {f k : Nat}, k ≤ k0 → k0 < k + f → (∀ j, k ≤ j → j < k0 → P j = false) → fndN P f k = some k0
  | 0, k, h1, h2, _ => by omega
  | f + 1, k, h1, h2, h3 => by
    unfold fndN
    by_cases e : k = k0
    · rw [e, if_pos h]
    · rw [h3 k (Nat.le_refl _) (by omega)]
      exact fndN_some h (by omega) (by omega) (fun j q1 q2 => h3 j (by omega) q2)
theorem fndN_none {P : Nat → Bool} : ∀ {f k : Nat}, (∀ j, k ≤ j → j < k + f → P j = false) → fndN P f k = none
  | 0, k, _ => rfl
  | f + 1, k, h => by
    unfold fndN
    rw [h k (Nat.le_refl _) (by omega)]
    exact fndN_none (fun j q1 q2 => h j (by omega) (by omega))
def rqN (rq : Nat → Int32) (j : Nat) : Nat := (rq j).toNatClampNeg
/-- when the request is finished, if it can be -/
def fnd (ob : Nat → Int32) (t0 p tg e dl : Nat) : Option Nat := (fndN (fun k => decide (t0 + k + e ≤ dl) && fok ob t0 p tg e k) 61 0).map (fun k => t0 + k + e)
theorem fin_fnd {ob : Nat → Int32} {t0 p tg e dl : Nat} {x : Int32} (h : fin_is ob t0 p tg e dl x) : (x = -9 ∧ fnd ob t0 p tg e dl = none) ∨ ∃ f, x = nI f ∧ fnd ob t0 p tg e dl = some f ∧ f ≤ dl ∧ t0 ≤ f := by
  rcases h with ⟨k, h0, h1, h2, h3, rfl⟩ | ⟨h1, rfl⟩
  · refine Or.inr ⟨t0 + k + e, rfl, ?_, h0, by omega⟩
    unfold fnd
    rw [fndN_some (k0 := k) (by rw [decide_eq_true h0, h2]; rfl) (Nat.zero_le _) (by omega) (fun j _ hj => by rw [h3 j hj, Bool.and_false])]
    rfl
  · refine Or.inl ⟨rfl, ?_⟩
    unfold fnd
    rw [fndN_none (fun j _ hj => by
      by_cases q : t0 + j + e ≤ dl
      · rw [h1 j q (by omega), Bool.and_false]
      · rw [decide_eq_false q, Bool.false_and])]
    rfl
/-- all orders from here on: the best (its sum plus 1, its digits) of b and them -/
def tF (ob rq : Nat → Int32) (ck n : Nat) : Nat → Nat → Nat → Nat → Nat → Nat → Nat × Nat → Nat × Nat
  | 0, _, _, _, sum, dig, b => if b.1 ≤ sum then (sum + 1, dig) else b
  | d + 1, used, ce, time, sum, dig, b => (List.range n).foldl (fun b i => if used / 2 ^ i % 2 ≠ 0 then b else match fnd ob time ce (rqN rq (3 * i)) (rqN rq (3 * i + 1)) (ck + 60) with
    | none => tF ob rq ck n d (used ||| 2 ^ i) ce time sum (10 * dig + i + 1) b
    | some f => tF ob rq ck n d (used ||| 2 ^ i) (rqN rq (3 * i)) f (sum + rqN rq (3 * i + 2)) (10 * dig + i + 1) b) b
def tS (ob rq : Nat → Int32) (ck n d used ce time sum dig : Nat) (b : Nat × Nat) (i : Nat) : Nat × Nat := if used / 2 ^ i % 2 ≠ 0 then b else match fnd ob time ce (rqN rq (3 * i)) (rqN rq (3 * i + 1)) (ck + 60) with
    | none => tF ob rq ck n d (used ||| 2 ^ i) ce time sum (10 * dig + i + 1) b
    | some f => tF ob rq ck n d (used ||| 2 ^ i) (rqN rq (3 * i)) f (sum + rqN rq (3 * i + 2)) (10 * dig + i + 1) b
def tL (ob rq : Nat → Int32) (ck n d used ce time sum dig i : Nat) (b : Nat × Nat) : Nat × Nat := (List.range i).foldl (tS ob rq ck n d used ce time sum dig) b
theorem tF_s (ob rq : Nat → Int32) (ck n d used ce time sum dig : Nat) (b : Nat × Nat) : tF ob rq ck n (d + 1) used ce time sum dig b = tL ob rq ck n d used ce time sum dig n b := by
  rw [tF]; rfl
theorem tL_s (ob rq : Nat → Int32) (ck n d used ce time sum dig i : Nat) (b : Nat × Nat) : tL ob rq ck n d used ce time sum dig (i + 1) b = tS ob rq ck n d used ce time sum dig (tL ob rq ck n d used ce time sum dig i b) i := by
  unfold tL
  rw [List.range_succ, List.foldl_append]
  rfl
/-- the requests are sound -/
def rqI (rq : Nat → Int32) (n : Nat) : Prop := ∀ i, i < n → (rq (3 * i) = nI (rqN rq (3 * i)) ∧ rqN rq (3 * i) < 150) ∧ (rq (3 * i + 1) = nI (rqN rq (3 * i + 1)) ∧ 1 ≤ rqN rq (3 * i + 1) ∧ rqN rq (3 * i + 1) ≤ 20) ∧ rq (3 * i + 2) = nI (rqN rq (3 * i + 2)) ∧ rqN rq (3 * i + 2) ≤ 99
theorem tF_le {ob rq : Nat → Int32} {ck n : Nat} (hq : rqI rq n) : ∀ {d used ce time sum dig : Nat} {b : Nat × Nat}, b.1 ≤ 500 → sum + 99 * d ≤ 499 → (tF ob rq ck n d used ce time sum dig b).1 ≤ 500
  | 0, used, ce, time, sum, dig, b, h1, h2 => by
    rw [tF]
    by_cases h : b.1 ≤ sum
    · rw [if_pos h]; show sum + 1 ≤ 500; omega
    · rw [if_neg h]; exact h1
  | d + 1, used, ce, time, sum, dig, b, h1, h2 => by
    rw [tF_s]
    have key : ∀ i, i ≤ n → (tL ob rq ck n d used ce time sum dig i b).1 ≤ 500 := by
      intro i
      induction i with
      | zero => intro _; exact h1
      | succ i ih =>
        intro hi
        have hb := ih (by omega)
        rw [tL_s]
        generalize tL ob rq ck n d used ce time sum dig i b = c at hb ⊢
        have hv := (hq i (by omega)).2.2.2
        unfold tS
        split
        · exact hb
        · split
          · exact tF_le hq hb (by omega)
          · exact tF_le hq hb (by omega)
    exact key n (Nat.le_refl _)
def oV (b : Nat) : Int32 := if b = 0 then -9 else nI (b - 1)
theorem oV_0 : oV 0 = -9 := rfl
theorem oV_s (s : Nat) : oV (s + 1) = nI s := by unfold oV; rw [if_neg (by omega)]; rfl
theorem oV_le {s b : Nat} (hs : s ≤ 100000) (hb : b ≤ 100000) : nI s ≤ oV b ↔ s + 1 ≤ b := by
  unfold oV
  by_cases h : b = 0
  · rw [if_pos h, Int32.le_iff_toInt_le, nI_toInt (by omega)]
    have h9 : (-9 : Int32).toInt = -9 := by decide +kernel
    omega
  · rw [if_neg h, nI_leI (by omega) (by omega)]; omega
theorem nI_or (a b : Nat) : nI a ||| nI b = nI (a ||| b) := by
  unfold nI
  apply Int32.toBitVec_inj.mp
  rw [Int32.toBitVec_or]
  show BitVec.ofNat 32 a ||| BitVec.ofNat 32 b = BitVec.ofNat 32 (a ||| b)
  exact BitVec.ofNat_or.symm
theorem used_lt {u i : Nat} (hu : u < 16) (hi : i < 4) : u ||| 2 ^ i < 16 := Nat.or_lt_two_pow (n := 4) hu (by rcases (show i = 0 ∨ i = 1 ∨ i = 2 ∨ i = 3 by omega) with rfl | rfl | rfl | rfl <;> decide)
set_option maxHeartbeats 4000000 in
set_option maxRecDepth 100000 in
/-- begin(state) -/
theorem c_X2_begin (l : Launch) (T : jj_T) (h2 ga go gr ck gp n h3 h1 o1 r1 c1 p1 t1 : Nat) (bs bd : Int32) (gs s1 : Bool) (gob rq ob1 rq1 : Nat → Int32) : jM l T yX2_begin wsX2_begin { frames := 3, cells := 0, slots := 0, locals := 102 } [.ref h2, .ref h1] [(h2, cO 2 [.int bs, .int bd, .ref h3, .ref ga]), (ga, cO 6 [.int (nI ck), .int (nI gp), .int (bI gs), .int (nI n), .ref go, .ref gr]), (go, cI T 21 gob), (gr, cI T 12 rq), (h1, cO 6 [.int (nI c1), .int (nI p1), .int (bI s1), .int (nI t1), .ref o1, .ref r1]), (o1, cI T 21 ob1), (r1, cI T 12 rq1)] (fun v w1 => v = none ∧ w1 = [(h2, cO 2 [.int (oV 0), .int (nI 0), .ref h3, .ref ga]), (ga, cO 6 [.int (nI c1), .int (nI p1), .int (bI s1), .int (nI t1), .ref go, .ref gr]), (go, cI T 21 ob1), (gr, cI T 12 rq1), (h1, cO 6 [.int (nI c1), .int (nI p1), .int (bI s1), .int (nI t1), .ref o1, .ref r1]), (o1, cI T 21 ob1), (r1, cI T 12 rq1)]) := by
  refine jM.of (cc := cX2_begin) (maxL := 2) (ret := none) (by decide) rfl (Nat.le_of_ble_eq_true rfl) ?_
  intro X C rw_ hl hT hQ hnm
  subst hl; subst hT
  have hin2 : ∀ w ∈ u_ws RX2 TX2 4, w ∈ wsX2_begin := by decide +kernel
  have hl12 : Cond.fieldLink RX2 12 (TX2 3).1 (TX2 3).2.1 (TX2 3).2.2.1 ∈ wsX2_begin := by decide +kernel
  have hl26 : Cond.fieldLink RX2 26 (TX2 0).1 (TX2 0).2.1 (TX2 0).2.2.1 ∈ wsX2_begin := by decide +kernel
  have hl30 : Cond.fieldLink RX2 30 (TX2 1).1 (TX2 1).2.1 (TX2 1).2.2.1 ∈ wsX2_begin := by decide +kernel
  show jj X 0 0 0 [(0, .ref h2), (1, .ref h1)] [] [(h2, cO 2 [.int bs, .int bd, .ref h3, .ref ga]), (ga, cO 6 [.int (nI ck), .int (nI gp), .int (bI gs), .int (nI n), .ref go, .ref gr]), (go, cI (xT X) 21 gob), (gr, cI (xT X) 12 rq), (h1, cO 6 [.int (nI c1), .int (nI p1), .int (bI s1), .int (nI t1), .ref o1, .ref r1]), (o1, cI (xT X) 21 ob1), (r1, cI (xT X) 12 rq1)]
  refine j_aload_n C dX2_begin_0 0 rfl rfl ?_
  refine j_get C (hin2) (ci := 2) rfl 3 (by decide) (hl12) 0 rfl (v := .ref ga) rfl dX2_begin_1 ?_
  refine j_aload_n C dX2_begin_4 1 rfl rfl ?_
  refine j_callVM C rw_ (nA := 1) (As := [.ref h1]) (wr := [(h2, cO 2 [.int bs, .int bd, .ref h3, .ref ga])]) (c_X6_copyFrom (xl X) (xT X) ga go gr ck gp n h1 o1 r1 c1 p1 t1 gs s1 gob rq ob1 rq1 ) gX2_begin_X6_copyFrom rfl (by decide +kernel) rfl (by decide) (by decide) [1, 2, 3, 4, 5, 6] [0] rfl rfl rfl rfl (by decide) 1 rfl rfl (rest := []) rfl (Nat.le_of_ble_eq_true rfl) dX2_begin_5 ?_
  rintro _ _ ⟨rfl, rfl⟩
  show jj X 0 0 8 [(0, .ref h2), (1, .ref h1)] [] [(h2, cO 2 [.int bs, .int bd, .ref h3, .ref ga]), (ga, cO 6 [.int (nI c1), .int (nI p1), .int (bI s1), .int (nI t1), .ref go, .ref gr]), (go, cI (xT X) 21 ob1), (gr, cI (xT X) 12 rq1), (h1, cO 6 [.int (nI c1), .int (nI p1), .int (bI s1), .int (nI t1), .ref o1, .ref r1]), (o1, cI (xT X) 21 ob1), (r1, cI (xT X) 12 rq1)]
  refine j_aload_n C dX2_begin_8 0 rfl rfl ?_
  refine j_bipush C dX2_begin_9 (v := (-9)) kc_b_m9 ?_
  refine j_put C rw_ (hin2) tyX2 tyX2_ok nmX2 (ci := 2) rfl 0 (by decide) (hl26) (by decide +kernel) (ty := .int) (by decide +kernel) rfl rfl 0 rfl (Nat.le_of_ble_eq_true rfl) (w' := [(h2, cO 2 [.int (-9), .int bd, .ref h3, .ref ga]), (ga, cO 6 [.int (nI c1), .int (nI p1), .int (bI s1), .int (nI t1), .ref go, .ref gr]), (go, cI (xT X) 21 ob1), (gr, cI (xT X) 12 rq1), (h1, cO 6 [.int (nI c1), .int (nI p1), .int (bI s1), .int (nI t1), .ref o1, .ref r1]), (o1, cI (xT X) 21 ob1), (r1, cI (xT X) 12 rq1)]) rfl dX2_begin_11 ?_
  refine j_aload_n C dX2_begin_14 0 rfl rfl ?_
  refine j_iconst C dX2_begin_15 (v := (nI 0)) kc_i_0 ?_
  refine j_put C rw_ (hin2) tyX2 tyX2_ok nmX2 (ci := 2) rfl 1 (by decide) (hl30) (by decide +kernel) (ty := .int) (by decide +kernel) rfl rfl 0 rfl (Nat.le_of_ble_eq_true rfl) (w' := [(h2, cO 2 [.int (-9), .int (nI 0), .ref h3, .ref ga]), (ga, cO 6 [.int (nI c1), .int (nI p1), .int (bI s1), .int (nI t1), .ref go, .ref gr]), (go, cI (xT X) 21 ob1), (gr, cI (xT X) 12 rq1), (h1, cO 6 [.int (nI c1), .int (nI p1), .int (bI s1), .int (nI t1), .ref o1, .ref r1]), (o1, cI (xT X) 21 ob1), (r1, cI (xT X) 12 rq1)]) rfl dX2_begin_16 ?_
  refine j_vretM C rw_ hQ (by decide) (by decide) ?_ dX2_begin_19
  exact ⟨rfl, rfl⟩

set_option maxHeartbeats 4000000 in
set_option maxRecDepth 100000 in
/-- Orders(found) -/
theorem c_X2_init (l : Launch) (T : jj_T) (h2 h3 : Nat) : jM l T yX2_init wsX2_init { frames := 2, cells := 3, slots := 39, locals := 41 } [.ref h2, .ref h3] [(h2, cO 2 [.int (nI 0), .int (nI 0), .null, .null])] (fun v w1 => ∃ ga : Nat, ∃ go : Nat, ∃ gr : Nat, v = none ∧ w1 = [(h2, cO 2 [.int (nI 0), .int (nI 0), .ref h3, .ref ga]), (ga, cO 6 [.int (nI 0), .int (nI 0), .int (bI false), .int (nI 0), .ref go, .ref gr]), (go, cI T 21 st_ob0), (gr, cI T 12 (fun _ => 0))]) := by
  refine jM.of (cc := cX2_init) (maxL := 2) (ret := none) (by decide) rfl (Nat.le_of_ble_eq_true rfl) ?_
  intro X C rw_ hl hT hQ hnm
  subst hl; subst hT
  have hin2 : ∀ w ∈ u_ws RX2 TX2 4, w ∈ wsX2_init := by decide +kernel
  have hin6 : ∀ w ∈ u_ws RX6 TX6 6, w ∈ wsX2_init := by decide +kernel
  have hl12 : Cond.fieldLink RX2 12 (TX2 3).1 (TX2 3).2.1 (TX2 3).2.2.1 ∈ wsX2_init := by decide +kernel
  have hl18 : Cond.fieldLink RX2 18 (TX2 2).1 (TX2 2).2.1 (TX2 2).2.2.1 ∈ wsX2_init := by decide +kernel
  show jj X 0 0 0 [(0, .ref h2), (1, .ref h3)] [] [(h2, cO 2 [.int (nI 0), .int (nI 0), .null, .null])]
  refine j_aload_n C dX2_init_0 0 rfl rfl ?_
  refine j_obj C (by decide +kernel) (by decide +kernel) (by decide +kernel) (by decide) (by decide) dX2_init_1 ?_
  refine j_aload_n C dX2_init_4 0 rfl rfl ?_
  refine j_new C rw_ (hin6) tyX6 tyX6_ok (ci := 6) rfl (by decide +kernel) (by decide +kernel) (by decide +kernel) (fs := [.int (nI 0), .int (nI 0), .int (bI false), .int (nI 0), .null, .null]) (by decide +kernel) (by decide) (by decide) dX2_init_5 (fun ga => ?_)
  show jj X 1 6 8 [(0, .ref h2), (1, .ref h3)] [.ref ga, .ref h2] [(h2, cO 2 [.int (nI 0), .int (nI 0), .null, .null]), (ga, cO 6 [.int (nI 0), .int (nI 0), .int (bI false), .int (nI 0), .null, .null])]
  refine j_dup C dX2_init_8 rfl ?_
  refine j_callIM C rw_ (nA := 0) (As := []) (wr := [(h2, cO 2 [.int (nI 0), .int (nI 0), .null, .null])]) (c_X6_init (xl X) (xT X) ga ) gX2_init_X6_init rfl (by decide +kernel) (by decide +kernel) (by decide +kernel) rfl (by decide +kernel) rfl (by decide) (by decide) [1] [0] rfl rfl rfl rfl (by decide) (rest := [.ref ga, .ref h2]) rfl (Nat.le_of_ble_eq_true rfl) dX2_init_9 ?_
  rintro _ _ ⟨qo_1, qr_2, rfl, rfl⟩
  show jj X 3 39 12 [(0, .ref h2), (1, .ref h3)] [.ref ga, .ref h2] [(h2, cO 2 [.int (nI 0), .int (nI 0), .null, .null]), (ga, cO 6 [.int (nI 0), .int (nI 0), .int (bI false), .int (nI 0), .ref qo_1, .ref qr_2]), (qo_1, cI (xT X) 21 st_ob0), (qr_2, cI (xT X) 12 (fun _ => 0))]
  refine j_putF C rw_ hnm (hin2) tyX2 tyX2_ok nmX2 (ci := 2) rfl 3 (by decide) (hl12) (by decide +kernel) rfl (ty := .object "SlewPlanner$State") (by decide +kernel) rfl rfl 0 rfl (Nat.le_of_ble_eq_true rfl) (w' := [(h2, cO 2 [.int (nI 0), .int (nI 0), .null, .ref ga]), (ga, cO 6 [.int (nI 0), .int (nI 0), .int (bI false), .int (nI 0), .ref qo_1, .ref qr_2]), (qo_1, cI (xT X) 21 st_ob0), (qr_2, cI (xT X) 12 (fun _ => 0))]) rfl dX2_init_12 ?_
  refine j_aload_n C dX2_init_15 0 rfl rfl ?_
  refine j_aload_n C dX2_init_16 1 rfl rfl ?_
  refine j_putF C rw_ hnm (hin2) tyX2 tyX2_ok nmX2 (ci := 2) rfl 2 (by decide) (hl18) (by decide +kernel) rfl (ty := .object "SlewPlanner$Plans") (by decide +kernel) rfl rfl 0 rfl (Nat.le_of_ble_eq_true rfl) (w' := [(h2, cO 2 [.int (nI 0), .int (nI 0), .ref h3, .ref ga]), (ga, cO 6 [.int (nI 0), .int (nI 0), .int (bI false), .int (nI 0), .ref qo_1, .ref qr_2]), (qo_1, cI (xT X) 21 st_ob0), (qr_2, cI (xT X) 12 (fun _ => 0))]) rfl dX2_init_17 ?_
  refine j_vretM C rw_ hQ (by decide) (by decide) ?_ dX2_init_20
  exact ⟨_, _, _, rfl, rfl⟩

set_option maxHeartbeats 4000000 in
set_option maxRecDepth 100000 in
/-- tryAll, where all requests are placed -/
theorem c_X2_tryAll_0 (l : Launch) (T : jj_T) (h2 ga go gr ck gp n b1 b2 : Nat) (gs : Bool) (gob rq : Nat → Int32) (h3 h4 he hew hy hyw hc hcw hS hs so sr hl hlw hdr hh hv hq ha hhw sc sp st mk p t0 : Nat) (ss : Bool) (ob rq2 : Nat → Int32) (ax ay az : Int32) (lim : Int64) (LW E Y Ch hd : Nat → Int64) (dr : Nat → Bool) (dep used ce time sum dig : Nat) (hn : n ≤ 4) (hcell : ce < 150) (htime : time ≤ ck + 60) (hck : ck ≤ 200) (hsum : sum + 99 * 0 ≤ 499) (hused : used < 16) (hb1 : b1 ≤ 500) (hrq : rqI rq n) (hI : skI ob dr LW) (hH : hdI hd) (hdep : dep = n) : jM l T yX2_tryAll wsX2_tryAll { frames := 12 + (0), cells := 0, slots := 0, locals := 400 + 40 * (0) } [.ref h2, .int (nI dep), .int (nI used), .int (nI ce), .int (nI time), .int (nI sum), .int (nI dig)] [(h2, cO 2 [.int (oV b1), .int (nI b2), .ref h3, .ref ga]), (ga, cO 6 [.int (nI ck), .int (nI gp), .int (bI gs), .int (nI n), .ref go, .ref gr]), (go, cI T 21 gob), (gr, cI T 12 rq), (h3, cO 3 [.ref hS, .ref h4, .ref he, .ref hy, .ref hc, .int (nI mk), .int (nI p), .int (nI t0)]), (he, cO 0 [.ref hew]), (hew, cJ T 183 E), (hy, cO 0 [.ref hyw]), (hyw, cJ T 183 Y), (hc, cO 0 [.ref hcw]), (hcw, cJ T 3 Ch), (h4, cO 4 [.ref hS, .ref hs, .ref hl, .ref hdr, .int ax, .int ay, .int az, .long lim]), (hs, cO 6 [.int (nI sc), .int (nI sp), .int (bI ss), .int (nI st), .ref so, .ref sr]), (so, cI T 21 ob), (sr, cI T 12 rq2), (hl, cO 0 [.ref hlw]), (hlw, cJ T 903 LW), (hdr, cZ T 301 (fun j => bI (dr j))), (hS, cO 5 [.ref hh, .ref hv, .ref hq, .ref ha]), (hv, cI T 450 cvec), (hq, cI T 150 csq), (hh, cO 0 [.ref hhw]), (hhw, cJ T 450 hd)] (fun v w1 => ∃ ax' : Int32, ∃ ay' : Int32, ∃ az' : Int32, ∃ lim' : Int64, ∃ LW' : Nat → Int64, ∃ dr' : Nat → Bool, ∃ E' : Nat → Int64, ∃ mk' : Nat, ∃ p' : Nat, ∃ t0' : Nat, v = none ∧ w1 = [(h2, cO 2 [.int (oV (tF ob rq ck n 0 used ce time sum dig (b1, b2)).1), .int (nI ((tF ob rq ck n 0 used ce time sum dig (b1, b2)).2)), .ref h3, .ref ga]), (ga, cO 6 [.int (nI ck), .int (nI gp), .int (bI gs), .int (nI n), .ref go, .ref gr]), (go, cI T 21 gob), (gr, cI T 12 rq), (h3, cO 3 [.ref hS, .ref h4, .ref he, .ref hy, .ref hc, .int (nI mk'), .int (nI p'), .int (nI t0')]), (he, cO 0 [.ref hew]), (hew, cJ T 183 E'), (hy, cO 0 [.ref hyw]), (hyw, cJ T 183 Y), (hc, cO 0 [.ref hcw]), (hcw, cJ T 3 Ch), (h4, cO 4 [.ref hS, .ref hs, .ref hl, .ref hdr, .int ax', .int ay', .int az', .long lim']), (hs, cO 6 [.int (nI sc), .int (nI sp), .int (bI ss), .int (nI st), .ref so, .ref sr]), (so, cI T 21 ob), (sr, cI T 12 rq2), (hl, cO 0 [.ref hlw]), (hlw, cJ T 903 LW'), (hdr, cZ T 301 (fun j => bI (dr' j))), (hS, cO 5 [.ref hh, .ref hv, .ref hq, .ref ha]), (hv, cI T 450 cvec), (hq, cI T 150 csq), (hh, cO 0 [.ref hhw]), (hhw, cJ T 450 hd)] ∧ (skI ob dr' LW')) := by
  refine jM.of (cc := cX2_tryAll) (maxL := 15) (ret := none) (by decide) rfl (Nat.le_of_ble_eq_true rfl) ?_
  intro X C rw_ hl hT hQ hnm
  subst hl; subst hT
  have hin2 : ∀ w ∈ u_ws RX2 TX2 4, w ∈ wsX2_tryAll := by decide +kernel
  have hin6 : ∀ w ∈ u_ws RX6 TX6 6, w ∈ wsX2_tryAll := by decide +kernel
  have hl12 : Cond.fieldLink RX2 12 (TX2 3).1 (TX2 3).2.1 (TX2 3).2.2.1 ∈ wsX2_tryAll := by decide +kernel
  have hl18 : Cond.fieldLink RX2 18 (TX2 2).1 (TX2 2).2.1 (TX2 2).2.2.1 ∈ wsX2_tryAll := by decide +kernel
  have hl26 : Cond.fieldLink RX2 26 (TX2 0).1 (TX2 0).2.1 (TX2 0).2.2.1 ∈ wsX2_tryAll := by decide +kernel
  have hl30 : Cond.fieldLink RX2 30 (TX2 1).1 (TX2 1).2.1 (TX2 1).2.2.1 ∈ wsX2_tryAll := by decide +kernel
  have hl33 : Cond.fieldLink RX2 33 (TX6 3).1 (TX6 3).2.1 (TX6 3).2.2.1 ∈ wsX2_tryAll := by decide +kernel
  have hl40 : Cond.fieldLink RX2 40 (TX6 0).1 (TX6 0).2.1 (TX6 0).2.2.1 ∈ wsX2_tryAll := by decide +kernel
  show jj X 0 0 0 [(0, .ref h2), (1, .int (nI dep)), (2, .int (nI used)), (3, .int (nI ce)), (4, .int (nI time)), (5, .int (nI sum)), (6, .int (nI dig))] [] [(h2, cO 2 [.int (oV b1), .int (nI b2), .ref h3, .ref ga]), (ga, cO 6 [.int (nI ck), .int (nI gp), .int (bI gs), .int (nI n), .ref go, .ref gr]), (go, cI (xT X) 21 gob), (gr, cI (xT X) 12 rq), (h3, cO 3 [.ref hS, .ref h4, .ref he, .ref hy, .ref hc, .int (nI mk), .int (nI p), .int (nI t0)]), (he, cO 0 [.ref hew]), (hew, cJ (xT X) 183 E), (hy, cO 0 [.ref hyw]), (hyw, cJ (xT X) 183 Y), (hc, cO 0 [.ref hcw]), (hcw, cJ (xT X) 3 Ch), (h4, cO 4 [.ref hS, .ref hs, .ref hl, .ref hdr, .int ax, .int ay, .int az, .long lim]), (hs, cO 6 [.int (nI sc), .int (nI sp), .int (bI ss), .int (nI st), .ref so, .ref sr]), (so, cI (xT X) 21 ob), (sr, cI (xT X) 12 rq2), (hl, cO 0 [.ref hlw]), (hlw, cJ (xT X) 903 LW), (hdr, cZ (xT X) 301 (fun j => bI (dr j))), (hS, cO 5 [.ref hh, .ref hv, .ref hq, .ref ha]), (hv, cI (xT X) 450 cvec), (hq, cI (xT X) 150 csq), (hh, cO 0 [.ref hhw]), (hhw, cJ (xT X) 450 hd)]
  refine j_aload_n C dX2_tryAll_0 0 rfl rfl ?_
  refine j_get C (hin2) (ci := 2) rfl 3 (by decide) (hl12) 0 rfl (v := .ref ga) rfl dX2_tryAll_1 ?_
  refine j_astore C dX2_tryAll_4 (by decide) (lv' := [(7, .ref ga), (0, .ref h2), (1, .int (nI dep)), (2, .int (nI used)), (3, .int (nI ce)), (4, .int (nI time)), (5, .int (nI sum)), (6, .int (nI dig))]) rfl ?_
  refine j_iload_n C dX2_tryAll_6 2 rfl rfl ?_
  refine j_aload C dX2_tryAll_7 0 rfl ?_
  refine j_get C (hin6) (ci := 6) rfl 3 (by decide) (hl33) 1 rfl (v := .int (nI n)) rfl dX2_tryAll_9 ?_
  refine j_icmp_ge C dX2_tryAll_12 (tgt := 20) (by decide) (fun q12 => ?_) (fun q12 => ?_)
  · skip
    have q12 := (kn_ge (a := dep) (b := n) (by omega) (by omega)).mp q12
    refine j_iload C dX2_tryAll_20 6 rfl ?_
    refine j_aload_n C dX2_tryAll_22 1 rfl rfl ?_
    refine j_get C (hin2) (ci := 2) rfl 0 (by decide) (hl26) 0 rfl (v := .int (oV b1)) rfl dX2_tryAll_23 ?_
    refine j_icmp_le C dX2_tryAll_26 (tgt := 41) (by decide) (fun q26 => ?_) (fun q26 => ?_)
    · skip
      have hle := (oV_le (by omega) (by omega)).mp q26
      refine j_vretM C rw_ hQ (Nat.le_of_ble_eq_true rfl) (Nat.le_of_ble_eq_true rfl) ?_ dX2_tryAll_41
      exact ⟨_, _, _, _, _, _, _, _, _, _, rfl, by rw [tF, if_neg (show ¬ (b1, b2).1 ≤ sum from by show ¬ b1 ≤ sum; omega)], hI⟩
    · skip
      have hgt := mt (oV_le (by omega) (by omega)).mpr q26
      refine j_aload_n C dX2_tryAll_29 1 rfl rfl ?_
      refine j_iload C dX2_tryAll_30 6 rfl ?_
      refine j_put C rw_ (hin2) tyX2 tyX2_ok nmX2 (ci := 2) rfl 0 (by decide) (hl26) (by decide +kernel) (ty := .int) (by decide +kernel) rfl rfl 0 rfl (Nat.le_of_ble_eq_true rfl) (w' := [(h2, cO 2 [.int (nI sum), .int (nI b2), .ref h3, .ref ga]), (ga, cO 6 [.int (nI ck), .int (nI gp), .int (bI gs), .int (nI n), .ref go, .ref gr]), (go, cI (xT X) 21 gob), (gr, cI (xT X) 12 rq), (h3, cO 3 [.ref hS, .ref h4, .ref he, .ref hy, .ref hc, .int (nI mk), .int (nI p), .int (nI t0)]), (he, cO 0 [.ref hew]), (hew, cJ (xT X) 183 E), (hy, cO 0 [.ref hyw]), (hyw, cJ (xT X) 183 Y), (hc, cO 0 [.ref hcw]), (hcw, cJ (xT X) 3 Ch), (h4, cO 4 [.ref hS, .ref hs, .ref hl, .ref hdr, .int ax, .int ay, .int az, .long lim]), (hs, cO 6 [.int (nI sc), .int (nI sp), .int (bI ss), .int (nI st), .ref so, .ref sr]), (so, cI (xT X) 21 ob), (sr, cI (xT X) 12 rq2), (hl, cO 0 [.ref hlw]), (hlw, cJ (xT X) 903 LW), (hdr, cZ (xT X) 301 (fun j => bI (dr j))), (hS, cO 5 [.ref hh, .ref hv, .ref hq, .ref ha]), (hv, cI (xT X) 450 cvec), (hq, cI (xT X) 150 csq), (hh, cO 0 [.ref hhw]), (hhw, cJ (xT X) 450 hd)]) rfl dX2_tryAll_32 ?_
      refine j_aload_n C dX2_tryAll_35 1 rfl rfl ?_
      refine j_iload C dX2_tryAll_36 7 rfl ?_
      refine j_put C rw_ (hin2) tyX2 tyX2_ok nmX2 (ci := 2) rfl 1 (by decide) (hl30) (by decide +kernel) (ty := .int) (by decide +kernel) rfl rfl 0 rfl (Nat.le_of_ble_eq_true rfl) (w' := [(h2, cO 2 [.int (nI sum), .int (nI dig), .ref h3, .ref ga]), (ga, cO 6 [.int (nI ck), .int (nI gp), .int (bI gs), .int (nI n), .ref go, .ref gr]), (go, cI (xT X) 21 gob), (gr, cI (xT X) 12 rq), (h3, cO 3 [.ref hS, .ref h4, .ref he, .ref hy, .ref hc, .int (nI mk), .int (nI p), .int (nI t0)]), (he, cO 0 [.ref hew]), (hew, cJ (xT X) 183 E), (hy, cO 0 [.ref hyw]), (hyw, cJ (xT X) 183 Y), (hc, cO 0 [.ref hcw]), (hcw, cJ (xT X) 3 Ch), (h4, cO 4 [.ref hS, .ref hs, .ref hl, .ref hdr, .int ax, .int ay, .int az, .long lim]), (hs, cO 6 [.int (nI sc), .int (nI sp), .int (bI ss), .int (nI st), .ref so, .ref sr]), (so, cI (xT X) 21 ob), (sr, cI (xT X) 12 rq2), (hl, cO 0 [.ref hlw]), (hlw, cJ (xT X) 903 LW), (hdr, cZ (xT X) 301 (fun j => bI (dr j))), (hS, cO 5 [.ref hh, .ref hv, .ref hq, .ref ha]), (hv, cI (xT X) 450 cvec), (hq, cI (xT X) 150 csq), (hh, cO 0 [.ref hhw]), (hhw, cJ (xT X) 450 hd)]) rfl dX2_tryAll_38 ?_
      refine j_vretM C rw_ hQ (Nat.le_of_ble_eq_true rfl) (Nat.le_of_ble_eq_true rfl) ?_ dX2_tryAll_41
      exact ⟨_, _, _, _, _, _, _, _, _, _, rfl, by rw [tF, if_pos (show (b1, b2).1 ≤ sum from by show b1 ≤ sum; omega), oV_s], hI⟩
  · skip
    have q12 := (kn_nge (a := dep) (b := n) (by omega) (by omega)).mp q12
    exfalso
    first | exact q12.elim | omega
