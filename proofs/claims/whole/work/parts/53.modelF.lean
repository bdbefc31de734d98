/-! THE MODEL: orders, the best plan -/
/-- one request of an order, begun at x = (cell, time behind the clock, sum) -/
def voS (ob rq : Nat → Int32) (ck i : Nat) (x : Nat × Nat × Nat) : Nat × Nat × Nat := match fnd ob (ck + x.2.1) x.1 (rqN rq (3 * i)) (rqN rq (3 * i + 1)) (ck + 60) with
  | none => x
  | some f => (rqN rq (3 * i), f - ck, x.2.2 + rqN rq (3 * i + 2))
theorem voS_n {ob rq : Nat → Int32} {ck i a t s : Nat} (h : fnd ob (ck + t) a (rqN rq (3 * i)) (rqN rq (3 * i + 1)) (ck + 60) = none) : voS ob rq ck i (a, t, s) = (a, t, s) := by
  unfold voS
  show (match fnd ob (ck + t) a (rqN rq (3 * i)) (rqN rq (3 * i + 1)) (ck + 60) with
    | none => (a, t, s)
    | some f => (rqN rq (3 * i), f - ck, s + rqN rq (3 * i + 2))) = _
  rw [h]
theorem voS_s {ob rq : Nat → Int32} {ck i a t s f : Nat} (h : fnd ob (ck + t) a (rqN rq (3 * i)) (rqN rq (3 * i + 1)) (ck + 60) = some (ck + f)) : voS ob rq ck i (a, t, s) = (rqN rq (3 * i), f, s + rqN rq (3 * i + 2)) := by
  unfold voS
  show (match fnd ob (ck + t) a (rqN rq (3 * i)) (rqN rq (3 * i + 1)) (ck + 60) with
    | none => (a, t, s)
    | some f => (rqN rq (3 * i), f - ck, s + rqN rq (3 * i + 2))) = _
  rw [h]
  show (rqN rq (3 * i), ck + f - ck, s + rqN rq (3 * i + 2)) = _
  rw [Nat.add_sub_cancel_left]
/-- the requests of an order, one after another -/
def voN (ob rq : Nat → Int32) (ck p : Nat) (og : Nat → Nat) : Nat → Nat × Nat × Nat
  | 0 => (p, 0, 0)
  | k + 1 => voS ob rq ck (og k) (voN ob rq ck p og k)
/-- the digits of a row -/
def odg (n row k : Nat) : Nat := row / n ^ (n - 1 - k) % n
def ohad (n row : Nat) : Nat → Nat
  | 0 => 0
  | j + 1 => ohad n row j ||| 2 ^ (odg n row (n - 1 - j))
def oOK (n row : Nat) : Bool := decide (ohad n row n = 2 ^ n - 1)
def odig (n row : Nat) : Nat → Nat
  | 0 => 0
  | k + 1 => 10 * odig n row k + odg n row k + 1
def moS (ob rq : Nat → Int32) (ck p n row : Nat) (b : Nat × Nat) : Nat × Nat := if oOK n row then (if b.1 ≤ (voN ob rq ck p (odg n row) n).2.2 then ((voN ob rq ck p (odg n row) n).2.2 + 1, odig n row n) else b) else b
def moF (ob rq : Nat → Int32) (ck p n : Nat) : Nat → Nat × Nat
  | 0 => (0, 0)
  | row + 1 => moS ob rq ck p n row (moF ob rq ck p n row)
/-- what the rows find: the best value plus 1, the digits -/
def moE (ob rq : Nat → Int32) (ck p n : Nat) : Nat × Nat := if n = 0 then (1, 0) else moF ob rq ck p n (n ^ n)
theorem odg_lt {n row k : Nat} (h : 0 < n) : odg n row k < n := Nat.mod_lt _ h
theorem p16 : ∀ n < 5, 1 ≤ 2 ^ n ∧ 2 ^ n ≤ 16 := by decide
theorem pn4 : ∀ n < 5, n ^ n ≤ 256 ∧ ∀ k < 5, k ≤ n → n ^ k ≤ 256 := by decide
theorem pw_lt4 {i : Nat} (h : i < 4) : 1 * 2 ^ i < 2 ^ 32 := by
  rcases (show i = 0 ∨ i = 1 ∨ i = 2 ∨ i = 3 by omega) with rfl | rfl | rfl | rfl <;> decide
theorem pw_lt5 {i : Nat} (h : i < 5) : 1 * 2 ^ i < 2 ^ 32 := by
  rcases (show i = 0 ∨ i = 1 ∨ i = 2 ∨ i = 3 ∨ i = 4 by omega) with rfl | rfl | rfl | rfl | rfl <;> decide
set_option maxHeartbeats 4000000 in
set_option maxRecDepth 100000 in
/-- valueOfOrder() -/
theorem c_X8_valueOfOrder (l : Launch) (T : jj_T) (h8 rv rn rnw rt rd rk rik rdk rre rle rhe rth rpa ror na nx : Nat) (rf bv bo : Int32) (ac ap an : Nat) (ash : Bool) (aob arq : Nat → Int32) (og : Nat → Nat) (oq : Nat → Int32) (dk he th : Nat → Bool) (hap : ap < 150) (hac : ac ≤ 200) (han : an ≤ 4) (hrq : rqI arq an) (hor : ∀ k, k < an → oq k = nI (og k) ∧ og k < an) (hdk : ∀ t, t ≤ 60 → ∀ c, c < 150 → dk (150 * t + c) = !br aob c (ac + t)) : jM l T yX8_valueOfOrder wsX8_valueOfOrder { frames := 2, cells := 0, slots := 0, locals := 54 } [.ref h8] [(h8, cO 8 [.int rf, .ref rv, .ref rn, .ref rnw, .ref rt, .ref rd, .int (nI na), .int (nI nx), .ref rk, .ref rik, .ref rdk, .ref rre, .ref rle, .ref rhe, .ref rth, .ref rpa, .ref ror, .int bv, .int bo]), (rn, cI T 600 (fun j => nI (near4 j))), (rnw, cI T 37 (rowF ac ap ash an aob arq)), (rdk, cZ T 15300 (fun j => bI (dk j))), (rhe, cZ T 150 (fun j => bI (he j))), (rth, cZ T 150 (fun j => bI (th j))), (ror, cI T 4 oq)] (fun v w1 => ∃ he' : Nat → Bool, ∃ th' : Nat → Bool, ∃ vv : Nat, v = some (.int (nI vv)) ∧ w1 = [(h8, cO 8 [.int rf, .ref rv, .ref rn, .ref rnw, .ref rt, .ref rd, .int (nI na), .int (nI nx), .ref rk, .ref rik, .ref rdk, .ref rre, .ref rle, .ref rhe, .ref rth, .ref rpa, .ref ror, .int bv, .int bo]), (rn, cI T 600 (fun j => nI (near4 j))), (rnw, cI T 37 (rowF ac ap ash an aob arq)), (rdk, cZ T 15300 (fun j => bI (dk j))), (rhe, cZ T 150 (fun j => bI (he' j))), (rth, cZ T 150 (fun j => bI (th' j))), (ror, cI T 4 oq)] ∧ (vv = (voN aob arq ac ap og an).2.2) ∧ (vv ≤ 400)) := by
  refine jM.of (cc := cX8_valueOfOrder) (maxL := 6) (ret := (some .int)) (by decide) rfl (Nat.le_of_ble_eq_true rfl) ?_
  intro X C rw_ hl hT hQ hnm
  subst hl; subst hT
  have hin8 : ∀ w ∈ u_ws RX8 TX8 19, w ∈ wsX8_valueOfOrder := by decide +kernel
  have hl16 : Cond.fieldLink RX8 16 (TX8 3).1 (TX8 3).2.1 (TX8 3).2.2.1 ∈ wsX8_valueOfOrder := by decide +kernel
  have hl50 : Cond.fieldLink RX8 50 (TX8 16).1 (TX8 16).2.1 (TX8 16).2.2.1 ∈ wsX8_valueOfOrder := by decide +kernel
  show jj X 0 0 0 [(0, .ref h8)] [] [(h8, cO 8 [.int rf, .ref rv, .ref rn, .ref rnw, .ref rt, .ref rd, .int (nI na), .int (nI nx), .ref rk, .ref rik, .ref rdk, .ref rre, .ref rle, .ref rhe, .ref rth, .ref rpa, .ref ror, .int bv, .int bo]), (rn, cI (xT X) 600 (fun j => nI (near4 j))), (rnw, cI (xT X) 37 (rowF ac ap ash an aob arq)), (rdk, cZ (xT X) 15300 (fun j => bI (dk j))), (rhe, cZ (xT X) 150 (fun j => bI (he j))), (rth, cZ (xT X) 150 (fun j => bI (th j))), (ror, cI (xT X) 4 oq)]
  refine j_aload_n C dX8_valueOfOrder_0 0 rfl rfl ?_
  refine j_get C (hin8) (ci := 8) rfl 3 (by decide) (hl16) 0 rfl (v := .ref rnw) rfl dX8_valueOfOrder_1 ?_
  refine j_bipush C dX8_valueOfOrder_4 (v := (nI 22)) kc_b_22 ?_
  refine j_ialoadN C 22 rfl 2 rfl (by omega) (by decide) dX8_valueOfOrder_6 ?_
  show jj X 0 0 7 [(0, .ref h8)] [.int (nI ap)] [(h8, cO 8 [.int rf, .ref rv, .ref rn, .ref rnw, .ref rt, .ref rd, .int (nI na), .int (nI nx), .ref rk, .ref rik, .ref rdk, .ref rre, .ref rle, .ref rhe, .ref rth, .ref rpa, .ref ror, .int bv, .int bo]), (rn, cI (xT X) 600 (fun j => nI (near4 j))), (rnw, cI (xT X) 37 (rowF ac ap ash an aob arq)), (rdk, cZ (xT X) 15300 (fun j => bI (dk j))), (rhe, cZ (xT X) 150 (fun j => bI (he j))), (rth, cZ (xT X) 150 (fun j => bI (th j))), (ror, cI (xT X) 4 oq)]
  refine j_istore_n C dX8_valueOfOrder_7 rfl (by decide) (lv' := [(1, .int (nI ap)), (0, .ref h8)]) rfl ?_
  refine j_iconst C dX8_valueOfOrder_8 (v := (nI 0)) kc_i_0 ?_
  refine j_istore_n C dX8_valueOfOrder_9 rfl (by decide) (lv' := [(2, .int (nI 0)), (1, .int (nI ap)), (0, .ref h8)]) rfl ?_
  refine j_iconst C dX8_valueOfOrder_10 (v := (nI 0)) kc_i_0 ?_
  refine j_istore_n C dX8_valueOfOrder_11 rfl (by decide) (lv' := [(3, .int (nI 0)), (2, .int (nI 0)), (1, .int (nI ap)), (0, .ref h8)]) rfl ?_
  refine j_iconst C dX8_valueOfOrder_12 (v := (nI 0)) kc_i_0 ?_
  refine j_istore C dX8_valueOfOrder_13 (by decide) (lv' := [(4, .int (nI 0)), (3, .int (nI 0)), (2, .int (nI 0)), (1, .int (nI ap)), (0, .ref h8)]) rfl ?_
  refine j_lv [4, 3, 2, 1, 0] rfl ?_
  suffices hc15 : ∀ (mm : Nat) (k a tm sm : Nat) (he th : Nat → Bool), an - k < mm → (k ≤ an) → (a < 150) → (tm ≤ 60) → (sm ≤ 99 * k) → (voN aob arq ac ap og k = (a, tm, sm)) → jj X 0 0 15 [(0, .ref h8), (1, .int (nI a)), (2, .int (nI tm)), (3, .int (nI sm)), (4, .int (nI k))] [] [(h8, cO 8 [.int rf, .ref rv, .ref rn, .ref rnw, .ref rt, .ref rd, .int (nI na), .int (nI nx), .ref rk, .ref rik, .ref rdk, .ref rre, .ref rle, .ref rhe, .ref rth, .ref rpa, .ref ror, .int bv, .int bo]), (rn, cI (xT X) 600 (fun j => nI (near4 j))), (rnw, cI (xT X) 37 (rowF ac ap ash an aob arq)), (rdk, cZ (xT X) 15300 (fun j => bI (dk j))), (rhe, cZ (xT X) 150 (fun j => bI (he j))), (rth, cZ (xT X) 150 (fun j => bI (th j))), (ror, cI (xT X) 4 oq)] by
    refine hc15 _ _ _ _ _ _ _ (Nat.lt_succ_self _) ?_ ?_ ?_ ?_ ?_
    · omega
    · exact hap
    · omega
    · omega
    · rfl
  intro mm
  induction mm with
  | zero => intro k a tm sm he th hm; exact absurd hm (Nat.not_lt_zero _)
  | succ mm ih15 =>
    intro k a tm sm he th hm15 hk ha htm hsm hvo
    refine j_iload C dX8_valueOfOrder_15 4 rfl ?_
    refine j_aload_n C dX8_valueOfOrder_17 0 rfl rfl ?_
    refine j_get C (hin8) (ci := 8) rfl 3 (by decide) (hl16) 0 rfl (v := .ref rnw) rfl dX8_valueOfOrder_18 ?_
    refine j_bipush C dX8_valueOfOrder_21 (v := (nI 24)) kc_b_24 ?_
    refine j_ialoadN C 24 rfl 2 rfl (by omega) (by decide) dX8_valueOfOrder_23 ?_
    show jj X 0 0 24 [(0, .ref h8), (1, .int (nI a)), (2, .int (nI tm)), (3, .int (nI sm)), (4, .int (nI k))] [.int (nI an), .int (nI k)] [(h8, cO 8 [.int rf, .ref rv, .ref rn, .ref rnw, .ref rt, .ref rd, .int (nI na), .int (nI nx), .ref rk, .ref rik, .ref rdk, .ref rre, .ref rle, .ref rhe, .ref rth, .ref rpa, .ref ror, .int bv, .int bo]), (rn, cI (xT X) 600 (fun j => nI (near4 j))), (rnw, cI (xT X) 37 (rowF ac ap ash an aob arq)), (rdk, cZ (xT X) 15300 (fun j => bI (dk j))), (rhe, cZ (xT X) 150 (fun j => bI (he j))), (rth, cZ (xT X) 150 (fun j => bI (th j))), (ror, cI (xT X) 4 oq)]
    refine j_icmp_ge C dX8_valueOfOrder_24 (tgt := 98) (by decide) (fun q24 => ?_) (fun q24 => ?_)
    · skip
      have q24 := (kn_ge (a := k) (b := an) (by omega) (by omega)).mp q24
      refine j_iload_n C dX8_valueOfOrder_98 3 rfl rfl ?_
      refine j_iretM C rw_ hQ (by decide) (by decide) rfl ?_ dX8_valueOfOrder_99
      exact ⟨_, _, _, rfl, rfl, by rw [← show k = an by omega, hvo], by omega⟩
    · skip
      have q24 := (kn_nge (a := k) (b := an) (by omega) (by omega)).mp q24
      have hog := (hor k (by omega)).2
      have hqi := hrq (og k) hog
      refine j_aload_n C dX8_valueOfOrder_27 0 rfl rfl ?_
      refine j_iload_n C dX8_valueOfOrder_28 1 rfl rfl ?_
      refine j_iload_n C dX8_valueOfOrder_29 2 rfl rfl ?_
      refine j_aload_n C dX8_valueOfOrder_30 0 rfl rfl ?_
      refine j_get C (hin8) (ci := 8) rfl 16 (by decide) (hl50) 0 rfl (v := .ref ror) rfl dX8_valueOfOrder_31 ?_
      refine j_iload C dX8_valueOfOrder_34 4 rfl ?_
      refine j_ialoadN C k rfl 6 rfl (by omega) (by decide) dX8_valueOfOrder_36 ?_
      refine j_ieq (nI (og k)) (by exact (hor k (by omega)).1) ?_
      refine j_callVM C rw_ (nA := 3) (As := [.int (nI a), .int (nI tm), .int (nI (og k))]) (wr := [(ror, cI (xT X) 4 oq)]) (c_X8_finish (xl X) (xT X) h8 rv rn rnw rt rd rk rik rdk rre rle rhe rth rpa ror na nx rf bv bo ac ap an ash aob arq a tm (og k) (rqN arq (3 * og k)) (rqN arq (3 * og k + 1)) dk he th (by omega) (by omega) (by omega) (by exact hqi.1) (by exact hqi.2.1) (by exact hdk)) gX8_valueOfOrder_X8_finish rfl (by decide +kernel) rfl (by decide) (by decide) [0, 1, 2, 3, 4, 5] [6] rfl rfl rfl rfl (by decide) 0 rfl rfl (rest := []) rfl (Nat.le_of_ble_eq_true rfl) dX8_valueOfOrder_37 ?_
      rintro _ _ ⟨he'_1, th'_2, r_3, rfl, rfl, hr⟩
      show jj X 0 0 40 [(0, .ref h8), (1, .int (nI a)), (2, .int (nI tm)), (3, .int (nI sm)), (4, .int (nI k))] [.int r_3] [(ror, cI (xT X) 4 oq), (h8, cO 8 [.int rf, .ref rv, .ref rn, .ref rnw, .ref rt, .ref rd, .int (nI na), .int (nI nx), .ref rk, .ref rik, .ref rdk, .ref rre, .ref rle, .ref rhe, .ref rth, .ref rpa, .ref ror, .int bv, .int bo]), (rn, cI (xT X) 600 (fun j => nI (near4 j))), (rnw, cI (xT X) 37 (rowF ac ap ash an aob arq)), (rdk, cZ (xT X) 15300 (fun j => bI (dk j))), (rhe, cZ (xT X) 150 (fun j => bI (he'_1 j))), (rth, cZ (xT X) 150 (fun j => bI (th'_2 j)))]
      refine j_istore C dX8_valueOfOrder_40 (by decide) (lv' := [(5, .int r_3), (0, .ref h8), (1, .int (nI a)), (2, .int (nI tm)), (3, .int (nI sm)), (4, .int (nI k))]) rfl ?_
      refine j_iload C dX8_valueOfOrder_42 0 rfl ?_
      refine j_bipush C dX8_valueOfOrder_44 (v := (-9)) kc_b_m9 ?_
      refine j_icmp_eq C dX8_valueOfOrder_46 (tgt := 92) (by decide) (fun q46 => ?_) (fun q46 => ?_)
      · skip
        have hfn : fnd aob (ac + tm) a (rqN arq (3 * og k)) (rqN arq (3 * og k + 1)) (ac + 60) = none := by
          rcases hr with ⟨f, e9, hf1, hf2, -⟩ | ⟨-, hf3⟩
          · exact absurd (e9.symm.trans q46) (nI_n9 (by omega))
          · rcases fin_fnd hf3 with ⟨-, h⟩ | ⟨g, e9, -, h8_, -⟩
            · exact h
            · exact absurd e9.symm (nI_n9 (by omega))
        refine j_iinc C dX8_valueOfOrder_92 (q := 5) (v := (nI (k + 1))) rfl (kc_inc k) (by decide) (lv' := [(4, .int (nI (k + 1))), (5, .int r_3), (0, .ref h8), (1, .int (nI a)), (2, .int (nI tm)), (3, .int (nI sm))]) rfl ?_
        refine j_goto C dX8_valueOfOrder_95 (tgt := 15) (by decide) ?_
        refine j_lv [2, 3, 4, 5, 0] rfl ?_
        refine j_perm C (w' := [(h8, cO 8 [.int rf, .ref rv, .ref rn, .ref rnw, .ref rt, .ref rd, .int (nI na), .int (nI nx), .ref rk, .ref rik, .ref rdk, .ref rre, .ref rle, .ref rhe, .ref rth, .ref rpa, .ref ror, .int bv, .int bo]), (rn, cI (xT X) 600 (fun j => nI (near4 j))), (rnw, cI (xT X) 37 (rowF ac ap ash an aob arq)), (rdk, cZ (xT X) 15300 (fun j => bI (dk j))), (rhe, cZ (xT X) 150 (fun j => bI (he'_1 j))), (rth, cZ (xT X) 150 (fun j => bI (th'_2 j))), (ror, cI (xT X) 4 oq)]) [1, 2, 3, 4, 5, 6, 0] rfl rfl ?_
        refine ih15 _ _ _ _ _ _ (by omega) ?_ ?_ ?_ ?_ ?_
        · omega
        · exact ha
        · omega
        · omega
        · rw [voN, hvo]; exact voS_n hfn
      · skip
        rcases hr with ⟨f, rfl, hf1, hf2, hf3⟩ | ⟨e9, -⟩
        rotate_left
        · exact absurd e9 q46
        have hfs : fnd aob (ac + tm) a (rqN arq (3 * og k)) (rqN arq (3 * og k + 1)) (ac + 60) = some (ac + f) := by
          rcases fin_fnd hf3 with ⟨e9, -⟩ | ⟨g, e9, h9, h8_, -⟩
          · exact absurd e9 (nI_n9 (by omega))
          · rw [h9, (kn_eq (by omega) (by omega)).mp e9]
        refine j_aload_n C dX8_valueOfOrder_49 1 rfl rfl ?_
        refine j_get C (hin8) (ci := 8) rfl 3 (by decide) (hl16) 1 rfl (v := .ref rnw) rfl dX8_valueOfOrder_50 ?_
        refine j_bipush C dX8_valueOfOrder_53 (v := (nI 25)) kc_b_25 ?_
        refine j_iconst C dX8_valueOfOrder_55 (v := (nI 3)) kc_i_3 ?_
        refine j_aload_n C dX8_valueOfOrder_56 1 rfl rfl ?_
        refine j_get C (hin8) (ci := 8) rfl 16 (by decide) (hl50) 1 rfl (v := .ref ror) rfl dX8_valueOfOrder_57 ?_
        refine j_iload C dX8_valueOfOrder_60 5 rfl ?_
        refine j_ialoadN C k rfl 0 rfl (by omega) (by decide) dX8_valueOfOrder_62 ?_
        refine j_ieq (nI (og k)) (by exact (hor k (by omega)).1) ?_
        refine j_imul C dX8_valueOfOrder_63 (v := (nI (3 * (og k)))) (pk_mul _ _) ?_
        refine j_iadd C dX8_valueOfOrder_64 (v := (nI (25 + 3 * (og k)))) (nI_add _ _) ?_
        refine j_ialoadN C (25 + 3 * (og k)) rfl 3 rfl (by omega) (by decide) dX8_valueOfOrder_65 ?_
        refine j_ieq (nI (rqN arq (3 * og k))) (by rw [row_rq]; exact hqi.1.1) ?_
        refine j_istore_n C dX8_valueOfOrder_66 rfl (by decide) (lv' := [(1, .int (nI (rqN arq (3 * og k)))), (5, .int (nI f)), (0, .ref h8), (2, .int (nI tm)), (3, .int (nI sm)), (4, .int (nI k))]) rfl ?_
        refine j_iload C dX8_valueOfOrder_67 1 rfl ?_
        refine j_istore_n C dX8_valueOfOrder_69 rfl (by decide) (lv' := [(2, .int (nI f)), (1, .int (nI (rqN arq (3 * og k)))), (5, .int (nI f)), (0, .ref h8), (3, .int (nI sm)), (4, .int (nI k))]) rfl ?_
        refine j_iload_n C dX8_valueOfOrder_70 4 rfl rfl ?_
        refine j_aload_n C dX8_valueOfOrder_71 3 rfl rfl ?_
        refine j_get C (hin8) (ci := 8) rfl 3 (by decide) (hl16) 1 rfl (v := .ref rnw) rfl dX8_valueOfOrder_72 ?_
        refine j_bipush C dX8_valueOfOrder_75 (v := (nI 25)) kc_b_25 ?_
        refine j_iconst C dX8_valueOfOrder_77 (v := (nI 3)) kc_i_3 ?_
        refine j_aload_n C dX8_valueOfOrder_78 3 rfl rfl ?_
        refine j_get C (hin8) (ci := 8) rfl 16 (by decide) (hl50) 1 rfl (v := .ref ror) rfl dX8_valueOfOrder_79 ?_
        refine j_iload C dX8_valueOfOrder_82 5 rfl ?_
        refine j_ialoadN C k rfl 0 rfl (by omega) (by decide) dX8_valueOfOrder_84 ?_
        refine j_ieq (nI (og k)) (by exact (hor k (by omega)).1) ?_
        refine j_imul C dX8_valueOfOrder_85 (v := (nI (3 * (og k)))) (pk_mul _ _) ?_
        refine j_iadd C dX8_valueOfOrder_86 (v := (nI (25 + 3 * (og k)))) (nI_add _ _) ?_
        refine j_iconst C dX8_valueOfOrder_87 (v := (nI 2)) kc_i_2 ?_
        refine j_iadd C dX8_valueOfOrder_88 (v := (nI (25 + 3 * (og k) + 2))) (nI_add _ _) ?_
        refine j_ialoadN C (25 + 3 * (og k) + 2) rfl 3 rfl (by omega) (by decide) dX8_valueOfOrder_89 ?_
        refine j_ieq (nI (rqN arq (3 * og k + 2))) (by rw [show 25 + 3 * og k + 2 = 25 + (3 * og k + 2) by omega, row_rq]; exact hqi.2.2.1) ?_
        refine j_iadd C dX8_valueOfOrder_90 (v := (nI (sm + (rqN arq (3 * og k + 2))))) (nI_add _ _) ?_
        refine j_istore_n C dX8_valueOfOrder_91 rfl (by decide) (lv' := [(3, .int (nI (sm + (rqN arq (3 * og k + 2))))), (2, .int (nI f)), (1, .int (nI (rqN arq (3 * og k)))), (5, .int (nI f)), (0, .ref h8), (4, .int (nI k))]) rfl ?_
        refine j_iinc C dX8_valueOfOrder_92 (q := 5) (v := (nI (k + 1))) rfl (kc_inc k) (by decide) (lv' := [(4, .int (nI (k + 1))), (3, .int (nI (sm + (rqN arq (3 * og k + 2))))), (2, .int (nI f)), (1, .int (nI (rqN arq (3 * og k)))), (5, .int (nI f)), (0, .ref h8)]) rfl ?_
        refine j_goto C dX8_valueOfOrder_95 (tgt := 15) (by decide) ?_
        refine j_lv [5, 3, 2, 1, 0] rfl ?_
        refine j_perm C (w' := [(h8, cO 8 [.int rf, .ref rv, .ref rn, .ref rnw, .ref rt, .ref rd, .int (nI na), .int (nI nx), .ref rk, .ref rik, .ref rdk, .ref rre, .ref rle, .ref rhe, .ref rth, .ref rpa, .ref ror, .int bv, .int bo]), (rn, cI (xT X) 600 (fun j => nI (near4 j))), (rnw, cI (xT X) 37 (rowF ac ap ash an aob arq)), (rdk, cZ (xT X) 15300 (fun j => bI (dk j))), (rhe, cZ (xT X) 150 (fun j => bI (he'_1 j))), (rth, cZ (xT X) 150 (fun j => bI (th'_2 j))), (ror, cI (xT X) 4 oq)]) [1, 2, 3, 4, 5, 6, 0] rfl rfl ?_
        refine ih15 _ _ _ _ _ _ (by omega) ?_ ?_ ?_ ?_ ?_
        · omega
        · exact hqi.1.2
        · omega
        · have := hqi.2.2.2; omega
        · rw [voN, hvo]; exact voS_s hfs

set_option maxHeartbeats 4000000 in
set_option maxRecDepth 100000 in
/-- isOrder(row) -/
theorem c_X8_isOrder (l : Launch) (T : jj_T) (h8 rv rn rnw rt rd rk rik rdk rre rle rhe rth rpa ror na nx : Nat) (rf bv bo : Int32) (ac ap an : Nat) (ash : Bool) (aob arq : Nat → Int32) (row : Nat) (oq : Nat → Int32) (han0 : 0 < an) (han : an ≤ 4) (hrow : row ≤ 1000) : jM l T yX8_isOrder wsX8_isOrder { frames := 0, cells := 0, slots := 0, locals := 0 } [.ref h8, .int (nI row)] [(h8, cO 8 [.int rf, .ref rv, .ref rn, .ref rnw, .ref rt, .ref rd, .int (nI na), .int (nI nx), .ref rk, .ref rik, .ref rdk, .ref rre, .ref rle, .ref rhe, .ref rth, .ref rpa, .ref ror, .int bv, .int bo]), (rnw, cI T 37 (rowF ac ap ash an aob arq)), (ror, cI T 4 oq)] (fun v w1 => ∃ oq' : Nat → Int32, v = some (.int (bI (oOK an row))) ∧ w1 = [(h8, cO 8 [.int rf, .ref rv, .ref rn, .ref rnw, .ref rt, .ref rd, .int (nI na), .int (nI nx), .ref rk, .ref rik, .ref rdk, .ref rre, .ref rle, .ref rhe, .ref rth, .ref rpa, .ref ror, .int bv, .int bo]), (rnw, cI T 37 (rowF ac ap ash an aob arq)), (ror, cI T 4 oq')] ∧ (∀ k, k < an → oq' k = nI (odg an row k))) := by
  refine jM.of (cc := cX8_isOrder) (maxL := 6) (ret := (some .boolean)) (by decide) rfl (Nat.le_of_ble_eq_true rfl) ?_
  intro X C rw_ hl hT hQ hnm
  subst hl; subst hT
  have hin8 : ∀ w ∈ u_ws RX8 TX8 19, w ∈ wsX8_isOrder := by decide +kernel
  have hl16 : Cond.fieldLink RX8 16 (TX8 3).1 (TX8 3).2.1 (TX8 3).2.2.1 ∈ wsX8_isOrder := by decide +kernel
  have hl50 : Cond.fieldLink RX8 50 (TX8 16).1 (TX8 16).2.1 (TX8 16).2.2.1 ∈ wsX8_isOrder := by decide +kernel
  show jj X 0 0 0 [(0, .ref h8), (1, .int (nI row))] [] [(h8, cO 8 [.int rf, .ref rv, .ref rn, .ref rnw, .ref rt, .ref rd, .int (nI na), .int (nI nx), .ref rk, .ref rik, .ref rdk, .ref rre, .ref rle, .ref rhe, .ref rth, .ref rpa, .ref ror, .int bv, .int bo]), (rnw, cI (xT X) 37 (rowF ac ap ash an aob arq)), (ror, cI (xT X) 4 oq)]
  refine j_aload_n C dX8_isOrder_0 0 rfl rfl ?_
  refine j_get C (hin8) (ci := 8) rfl 3 (by decide) (hl16) 0 rfl (v := .ref rnw) rfl dX8_isOrder_1 ?_
  refine j_bipush C dX8_isOrder_4 (v := (nI 24)) kc_b_24 ?_
  refine j_ialoadN C 24 rfl 1 rfl (by omega) (by decide) dX8_isOrder_6 ?_
  show jj X 0 0 7 [(0, .ref h8), (1, .int (nI row))] [.int (nI an)] [(h8, cO 8 [.int rf, .ref rv, .ref rn, .ref rnw, .ref rt, .ref rd, .int (nI na), .int (nI nx), .ref rk, .ref rik, .ref rdk, .ref rre, .ref rle, .ref rhe, .ref rth, .ref rpa, .ref ror, .int bv, .int bo]), (rnw, cI (xT X) 37 (rowF ac ap ash an aob arq)), (ror, cI (xT X) 4 oq)]
  refine j_istore_n C dX8_isOrder_7 rfl (by decide) (lv' := [(2, .int (nI an)), (0, .ref h8), (1, .int (nI row))]) rfl ?_
  refine j_iload_n C dX8_isOrder_8 2 rfl rfl ?_
  refine j_istore_n C dX8_isOrder_9 rfl (by decide) (lv' := [(3, .int (nI row)), (2, .int (nI an)), (0, .ref h8), (1, .int (nI row))]) rfl ?_
  refine j_iconst C dX8_isOrder_10 (v := (nI 0)) kc_i_0 ?_
  refine j_istore C dX8_isOrder_11 (by decide) (lv' := [(4, .int (nI 0)), (3, .int (nI row)), (2, .int (nI an)), (0, .ref h8), (1, .int (nI row))]) rfl ?_
  refine j_iload_n C dX8_isOrder_13 2 rfl rfl ?_
  refine j_iconst C dX8_isOrder_14 (v := (nI 1)) kc_i_1 ?_
  refine j_isub C dX8_isOrder_15 (v := (nI an - nI 1)) rfl ?_
  refine j_istore C dX8_isOrder_16 (by decide) (lv' := [(5, .int (nI an - nI 1)), (4, .int (nI 0)), (3, .int (nI row)), (2, .int (nI an)), (0, .ref h8), (1, .int (nI row))]) rfl ?_
  refine j_lv [4, 5, 3, 2, 1, 0] rfl ?_
  suffices hc18 : ∀ (mm : Nat) (q hd lf : Nat) (oq : Nat → Int32), q + 1 < mm → (q ≤ an) → (lf = row / an ^ (an - q)) → (lf ≤ 1000) → (hd = ohad an row (an - q)) → (hd < 16) → (∀ k, q ≤ k → k < an → oq k = nI (odg an row k)) → jj X 0 0 18 [(0, .ref h8), (1, .int (nI row)), (2, .int (nI an)), (3, .int (nI lf)), (4, .int (nI hd)), (5, .int (nI q - nI 1))] [] [(h8, cO 8 [.int rf, .ref rv, .ref rn, .ref rnw, .ref rt, .ref rd, .int (nI na), .int (nI nx), .ref rk, .ref rik, .ref rdk, .ref rre, .ref rle, .ref rhe, .ref rth, .ref rpa, .ref ror, .int bv, .int bo]), (rnw, cI (xT X) 37 (rowF ac ap ash an aob arq)), (ror, cI (xT X) 4 oq)] by
    refine hc18 _ an _ _ _ (Nat.lt_succ_self _) ?_ ?_ ?_ ?_ ?_ ?_
    · omega
    · rw [Nat.sub_self, Nat.pow_zero, Nat.div_one]
    · exact hrow
    · rw [Nat.sub_self]; rfl
    · decide
    · intro k h1 h2; omega
  intro mm
  induction mm with
  | zero => intro q hd lf oq hm; exact absurd hm (Nat.not_lt_zero _)
  | succ mm ih18 =>
    intro q hd lf oq hm18 hq hlf hlf2 hhd hh16 hoq
    refine j_iload C dX8_isOrder_18 5 rfl ?_
    refine j_if_lt C dX8_isOrder_20 (tgt := 57) (by decide) (fun q20 => ?_) (fun q20 => ?_)
    · skip
      have hq0 := (qm_lt q (by omega)).mp q20
      have h2n := p16 an (by omega)
      rw [hq0, Nat.sub_zero] at hhd
      refine j_iload C dX8_isOrder_57 4 rfl ?_
      refine j_iconst C dX8_isOrder_59 (v := (nI 1)) kc_i_1 ?_
      refine j_iload_n C dX8_isOrder_60 2 rfl rfl ?_
      refine j_ishl C dX8_isOrder_61 (v := (nI (1 * 2 ^ an))) (pk_shlN _ an (s_l _ (by omega)) (pw_lt5 (by omega))) ?_
      refine j_iconst C dX8_isOrder_62 (v := (nI 1)) kc_i_1 ?_
      refine j_isub C dX8_isOrder_63 (v := (nI (1 * 2 ^ an - 1))) (pk_sub (by omega)) ?_
      refine j_icmp_ne C dX8_isOrder_64 (tgt := 71) (by decide) (fun q64 => ?_) (fun q64 => ?_)
      · skip
        have q64 := (kn_ne (a := hd) (b := 1 * 2 ^ an - 1) (by omega) (by omega)).mp q64
        refine j_iconst C dX8_isOrder_71 (v := (nI 0)) kc_i_0 ?_
        refine j_iretM C rw_ hQ (by decide) (by decide) (by decide +kernel) ?_ dX8_isOrder_72
        exact ⟨_, kb_f (decide_eq_false (fun h9 => q64 (by rw [hhd, Nat.one_mul]; exact h9))), rfl, fun k hk => hoq k (by omega) hk⟩
      · skip
        have q64 := (kn_nne (a := hd) (b := 1 * 2 ^ an - 1) (by omega) (by omega)).mp q64
        refine j_iconst C dX8_isOrder_67 (v := (nI 1)) kc_i_1 ?_
        refine j_goto C dX8_isOrder_68 (tgt := 72) (by decide) ?_
        refine j_iretM C rw_ hQ (by decide) (by decide) (by decide +kernel) ?_ dX8_isOrder_72
        exact ⟨_, kb_t (decide_eq_true (by rw [hhd, Nat.one_mul] at q64; exact q64)), rfl, fun k hk => hoq k (by omega) hk⟩
    · skip
      obtain ⟨s, rfl⟩ : ∃ s, q = s + 1 := ⟨q - 1, by have := mt (qm_lt q (by omega)).mpr q20; omega⟩
      rw [show nI (s + 1) - nI 1 = nI s from pk_sub (by omega)]
      have e8 : lf % an = odg an row s := by rw [hlf, odg, show an - (s + 1) = an - 1 - s by omega]
      have hdl := odg_lt (n := an) (row := row) (k := s) (by omega)
      show jj X 0 0 23 [(0, .ref h8), (1, .int (nI row)), (2, .int (nI an)), (3, .int (nI lf)), (4, .int (nI hd)), (5, .int (nI s))] [] [(h8, cO 8 [.int rf, .ref rv, .ref rn, .ref rnw, .ref rt, .ref rd, .int (nI na), .int (nI nx), .ref rk, .ref rik, .ref rdk, .ref rre, .ref rle, .ref rhe, .ref rth, .ref rpa, .ref ror, .int bv, .int bo]), (rnw, cI (xT X) 37 (rowF ac ap ash an aob arq)), (ror, cI (xT X) 4 oq)]
      refine j_aload_n C dX8_isOrder_23 0 rfl rfl ?_
      refine j_get C (hin8) (ci := 8) rfl 16 (by decide) (hl50) 0 rfl (v := .ref ror) rfl dX8_isOrder_24 ?_
      refine j_iload C dX8_isOrder_27 5 rfl ?_
      refine j_iload_n C dX8_isOrder_29 3 rfl rfl ?_
      refine j_iload_n C dX8_isOrder_30 2 rfl rfl ?_
      refine j_irem C dX8_isOrder_31 (fun e9 => absurd ((kn_eq (b := 0) (by omega) (by decide)).mp e9) (by omega)) (v := (nI (lf % an))) (pk_rem (by omega) (by omega) (by omega)) ?_
      refine j_iastoreN C rw_ s rfl 2 rfl (by omega) (by decide) (w' := [(h8, cO 8 [.int rf, .ref rv, .ref rn, .ref rnw, .ref rt, .ref rd, .int (nI na), .int (nI nx), .ref rk, .ref rik, .ref rdk, .ref rre, .ref rle, .ref rhe, .ref rth, .ref rpa, .ref ror, .int bv, .int bo]), (rnw, cI (xT X) 37 (rowF ac ap ash an aob arq)), (ror, cI (xT X) 4 (upd oq s (nI (lf % an))))]) rfl dX8_isOrder_32 ?_
      refine j_iload C dX8_isOrder_33 4 rfl ?_
      refine j_iconst C dX8_isOrder_35 (v := (nI 1)) kc_i_1 ?_
      refine j_aload_n C dX8_isOrder_36 0 rfl rfl ?_
      refine j_get C (hin8) (ci := 8) rfl 16 (by decide) (hl50) 0 rfl (v := .ref ror) rfl dX8_isOrder_37 ?_
      refine j_iload C dX8_isOrder_40 5 rfl ?_
      refine j_ialoadN C s rfl 2 rfl (by omega) (by decide) dX8_isOrder_42 ?_
      refine j_ieq (nI (lf % an)) (by unfold upd; rw [if_pos rfl]) ?_
      refine j_ishl C dX8_isOrder_43 (v := (nI (1 * 2 ^ (lf % an)))) (pk_shlN _ (lf % an) (s_l _ (by omega)) (pw_lt4 (by omega))) ?_
      refine j_ior C dX8_isOrder_44 (v := (nI (hd ||| 1 * 2 ^ (lf % an)))) (nI_or _ _) ?_
      refine j_istore C dX8_isOrder_45 (by decide) (lv' := [(4, .int (nI (hd ||| 1 * 2 ^ (lf % an)))), (0, .ref h8), (1, .int (nI row)), (2, .int (nI an)), (3, .int (nI lf)), (5, .int (nI s))]) rfl ?_
      refine j_iload_n C dX8_isOrder_47 4 rfl rfl ?_
      refine j_iload_n C dX8_isOrder_48 3 rfl rfl ?_
      refine j_idiv C dX8_isOrder_49 (fun e9 => absurd ((kn_eq (b := 0) (by omega) (by decide)).mp e9) (by omega)) (v := (nI (lf / an))) (pk_div (by omega) (by omega) (by omega)) ?_
      refine j_istore_n C dX8_isOrder_50 rfl (by decide) (lv' := [(3, .int (nI (lf / an))), (4, .int (nI (hd ||| 1 * 2 ^ (lf % an)))), (0, .ref h8), (1, .int (nI row)), (2, .int (nI an)), (5, .int (nI s))]) rfl ?_
      refine j_iinc C dX8_isOrder_51 (q := 5) (v := (nI s - nI 1)) rfl (kc_decI s) (by decide) (lv' := [(5, .int (nI s - nI 1)), (3, .int (nI (lf / an))), (4, .int (nI (hd ||| 1 * 2 ^ (lf % an)))), (0, .ref h8), (1, .int (nI row)), (2, .int (nI an))]) rfl ?_
      refine j_goto C dX8_isOrder_54 (tgt := 18) (by decide) ?_
      refine j_lv [3, 4, 5, 1, 2, 0] rfl ?_
      refine ih18 s _ _ _ (by omega) ?_ ?_ ?_ ?_ ?_ ?_
      · omega
      · rw [hlf, Nat.div_div_eq_div_mul, ← Nat.pow_succ, show (an - (s + 1)).succ = an - s by omega]
      · exact Nat.le_trans (Nat.div_le_self _ _) hlf2
      · rw [show an - s = (an - (s + 1)) + 1 by omega, ohad, ← hhd, show an - 1 - (an - (s + 1)) = s by omega, e8, Nat.one_mul]
      · rw [Nat.one_mul]; exact used_lt hh16 (by omega)
      · intro k h1 h2; unfold upd
        by_cases h : k = s
        · rw [if_pos h, h, e8]
        · rw [if_neg h]; exact hoq k (by omega) h2

set_option maxHeartbeats 4000000 in
set_option maxRecDepth 100000 in
/-- findOrder() -/
theorem c_X8_findOrder (l : Launch) (T : jj_T) (h8 rv rn rnw rt rd rk rik rdk rre rle rhe rth rpa ror na nx : Nat) (rf bv bo : Int32) (ac ap an : Nat) (ash : Bool) (aob arq : Nat → Int32) (oq : Nat → Int32) (dk he th : Nat → Bool) (hap : ap < 150) (hac : ac ≤ 200) (hco : coI aob) (han : an ≤ 4) (hrq : rqI arq an) : jM l T yX8_findOrder wsX8_findOrder { frames := 4, cells := 0, slots := 0, locals := 101 } [.ref h8] [(h8, cO 8 [.int rf, .ref rv, .ref rn, .ref rnw, .ref rt, .ref rd, .int (nI na), .int (nI nx), .ref rk, .ref rik, .ref rdk, .ref rre, .ref rle, .ref rhe, .ref rth, .ref rpa, .ref ror, .int bv, .int bo]), (rv, cI T 450 cvec), (rn, cI T 600 (fun j => nI (near4 j))), (rnw, cI T 37 (rowF ac ap ash an aob arq)), (rdk, cZ T 15300 (fun j => bI (dk j))), (rhe, cZ T 150 (fun j => bI (he j))), (rth, cZ T 150 (fun j => bI (th j))), (ror, cI T 4 oq)] (fun v w1 => ∃ b1 : Nat, ∃ b2 : Nat, ∃ he' : Nat → Bool, ∃ th' : Nat → Bool, ∃ oq' : Nat → Int32, v = none ∧ w1 = [(h8, cO 8 [.int rf, .ref rv, .ref rn, .ref rnw, .ref rt, .ref rd, .int (nI na), .int (nI nx), .ref rk, .ref rik, .ref rdk, .ref rre, .ref rle, .ref rhe, .ref rth, .ref rpa, .ref ror, .int (oV b1), .int (nI b2)]), (rv, cI T 450 cvec), (rn, cI T 600 (fun j => nI (near4 j))), (rnw, cI T 37 (rowF ac ap ash an aob arq)), (rdk, cZ T 15300 (fun j => bI (flB (dkP aob ac) dk (150 * (60 + 1)) j))), (rhe, cZ T 150 (fun j => bI (he' j))), (rth, cZ T 150 (fun j => bI (th' j))), (ror, cI T 4 oq')] ∧ (moE aob arq ac ap an = (b1, b2)) ∧ (b1 ≤ 500)) := by
  refine jM.of (cc := cX8_findOrder) (maxL := 6) (ret := none) (by decide) rfl (Nat.le_of_ble_eq_true rfl) ?_
  intro X C rw_ hl hT hQ hnm
  subst hl; subst hT
  have hin8 : ∀ w ∈ u_ws RX8 TX8 19, w ∈ wsX8_findOrder := by decide +kernel
  have hl16 : Cond.fieldLink RX8 16 (TX8 3).1 (TX8 3).2.1 (TX8 3).2.2.1 ∈ wsX8_findOrder := by decide +kernel
  have hl50 : Cond.fieldLink RX8 50 (TX8 16).1 (TX8 16).2.1 (TX8 16).2.2.1 ∈ wsX8_findOrder := by decide +kernel
  have hl202 : Cond.fieldLink RX8 202 (TX8 17).1 (TX8 17).2.1 (TX8 17).2.2.1 ∈ wsX8_findOrder := by decide +kernel
  have hl205 : Cond.fieldLink RX8 205 (TX8 18).1 (TX8 18).2.1 (TX8 18).2.2.1 ∈ wsX8_findOrder := by decide +kernel
  show jj X 0 0 0 [(0, .ref h8)] [] [(h8, cO 8 [.int rf, .ref rv, .ref rn, .ref rnw, .ref rt, .ref rd, .int (nI na), .int (nI nx), .ref rk, .ref rik, .ref rdk, .ref rre, .ref rle, .ref rhe, .ref rth, .ref rpa, .ref ror, .int bv, .int bo]), (rv, cI (xT X) 450 cvec), (rn, cI (xT X) 600 (fun j => nI (near4 j))), (rnw, cI (xT X) 37 (rowF ac ap ash an aob arq)), (rdk, cZ (xT X) 15300 (fun j => bI (dk j))), (rhe, cZ (xT X) 150 (fun j => bI (he j))), (rth, cZ (xT X) 150 (fun j => bI (th j))), (ror, cI (xT X) 4 oq)]
  refine j_aload_n C dX8_findOrder_0 0 rfl rfl ?_
  refine j_bipush C dX8_findOrder_1 (v := (nI 60)) kc_b_60 ?_
  refine j_callVM C rw_ (nA := 1) (As := [.int (nI 60)]) (wr := [(rn, cI (xT X) 600 (fun j => nI (near4 j))), (rhe, cZ (xT X) 150 (fun j => bI (he j))), (rth, cZ (xT X) 150 (fun j => bI (th j))), (ror, cI (xT X) 4 oq)]) (c_X8_layDark (xl X) (xT X) h8 rv rn rnw rt rd rk rik rdk rre rle rhe rth rpa ror na nx rf bv bo ac ap an ash aob arq 60 dk (by omega) (by omega) (by exact hco)) gX8_findOrder_X8_layDark rfl (by decide +kernel) rfl (by decide) (by decide) [0, 1, 3, 4] [2, 5, 6, 7] rfl rfl rfl rfl (by decide) 0 rfl rfl (rest := []) rfl (Nat.le_of_ble_eq_true rfl) dX8_findOrder_3 ?_
  rintro _ _ ⟨rfl, rfl⟩
  show jj X 0 0 6 [(0, .ref h8)] [] [(rn, cI (xT X) 600 (fun j => nI (near4 j))), (rhe, cZ (xT X) 150 (fun j => bI (he j))), (rth, cZ (xT X) 150 (fun j => bI (th j))), (ror, cI (xT X) 4 oq), (h8, cO 8 [.int rf, .ref rv, .ref rn, .ref rnw, .ref rt, .ref rd, .int (nI na), .int (nI nx), .ref rk, .ref rik, .ref rdk, .ref rre, .ref rle, .ref rhe, .ref rth, .ref rpa, .ref ror, .int bv, .int bo]), (rv, cI (xT X) 450 cvec), (rnw, cI (xT X) 37 (rowF ac ap ash an aob arq)), (rdk, cZ (xT X) 15300 (fun j => bI (flB (dkP aob ac) dk (150 * (60 + 1)) j)))]
  refine j_aload_n C dX8_findOrder_6 0 rfl rfl ?_
  refine j_get C (hin8) (ci := 8) rfl 3 (by decide) (hl16) 4 rfl (v := .ref rnw) rfl dX8_findOrder_7 ?_
  refine j_bipush C dX8_findOrder_10 (v := (nI 24)) kc_b_24 ?_
  refine j_ialoadN C 24 rfl 6 rfl (by omega) (by decide) dX8_findOrder_12 ?_
  show jj X 0 0 13 [(0, .ref h8)] [.int (nI an)] [(rn, cI (xT X) 600 (fun j => nI (near4 j))), (rhe, cZ (xT X) 150 (fun j => bI (he j))), (rth, cZ (xT X) 150 (fun j => bI (th j))), (ror, cI (xT X) 4 oq), (h8, cO 8 [.int rf, .ref rv, .ref rn, .ref rnw, .ref rt, .ref rd, .int (nI na), .int (nI nx), .ref rk, .ref rik, .ref rdk, .ref rre, .ref rle, .ref rhe, .ref rth, .ref rpa, .ref ror, .int bv, .int bo]), (rv, cI (xT X) 450 cvec), (rnw, cI (xT X) 37 (rowF ac ap ash an aob arq)), (rdk, cZ (xT X) 15300 (fun j => bI (flB (dkP aob ac) dk (150 * (60 + 1)) j)))]
  refine j_istore_n C dX8_findOrder_13 rfl (by decide) (lv' := [(1, .int (nI an)), (0, .ref h8)]) rfl ?_
  refine j_iconst C dX8_findOrder_14 (v := (nI 1)) kc_i_1 ?_
  refine j_istore_n C dX8_findOrder_15 rfl (by decide) (lv' := [(2, .int (nI 1)), (1, .int (nI an)), (0, .ref h8)]) rfl ?_
  refine j_iconst C dX8_findOrder_16 (v := (nI 0)) kc_i_0 ?_
  refine j_istore_n C dX8_findOrder_17 rfl (by decide) (lv' := [(3, .int (nI 0)), (2, .int (nI 1)), (1, .int (nI an)), (0, .ref h8)]) rfl ?_
  refine j_lv [3, 2, 1, 0] rfl ?_
  suffices hc18 : ∀ (mm : Nat) (k rw9 : Nat), an - k < mm → (k ≤ an) → (rw9 = an ^ k) → jj X 0 0 18 [(0, .ref h8), (1, .int (nI an)), (2, .int (nI rw9)), (3, .int (nI k))] [] [(rn, cI (xT X) 600 (fun j => nI (near4 j))), (rhe, cZ (xT X) 150 (fun j => bI (he j))), (rth, cZ (xT X) 150 (fun j => bI (th j))), (ror, cI (xT X) 4 oq), (h8, cO 8 [.int rf, .ref rv, .ref rn, .ref rnw, .ref rt, .ref rd, .int (nI na), .int (nI nx), .ref rk, .ref rik, .ref rdk, .ref rre, .ref rle, .ref rhe, .ref rth, .ref rpa, .ref ror, .int bv, .int bo]), (rv, cI (xT X) 450 cvec), (rnw, cI (xT X) 37 (rowF ac ap ash an aob arq)), (rdk, cZ (xT X) 15300 (fun j => bI (flB (dkP aob ac) dk (150 * (60 + 1)) j)))] by
    refine hc18 _ _ _ (Nat.lt_succ_self _) ?_ ?_
    · omega
    · rfl
  intro mm
  induction mm with
  | zero => intro k rw9 hm; exact absurd hm (Nat.not_lt_zero _)
  | succ mm ih18 =>
    intro k rw9 hm18 hk hr9
    refine j_iload_n C dX8_findOrder_18 3 rfl rfl ?_
    refine j_iload_n C dX8_findOrder_19 1 rfl rfl ?_
    refine j_icmp_ge C dX8_findOrder_20 (tgt := 33) (by decide) (fun q20 => ?_) (fun q20 => ?_)
    · skip
      have q20 := (kn_ge (a := k) (b := an) (by omega) (by omega)).mp q20
      have hre : rw9 = an ^ an := by rw [hr9, show k = an by omega]
      have hrb : rw9 ≤ 256 := by rw [hre]; exact (pn4 an (by omega)).1
      have hc44 : ∀ (b0 : Nat), (b0 = if an = 0 then 1 else 0) → jj X 0 0 44 [(0, .ref h8), (1, .int (nI an)), (2, .int (nI rw9))] [.int (oV b0), .ref h8] [(rn, cI (xT X) 600 (fun j => nI (near4 j))), (rhe, cZ (xT X) 150 (fun j => bI (he j))), (rth, cZ (xT X) 150 (fun j => bI (th j))), (ror, cI (xT X) 4 oq), (h8, cO 8 [.int rf, .ref rv, .ref rn, .ref rnw, .ref rt, .ref rd, .int (nI na), .int (nI nx), .ref rk, .ref rik, .ref rdk, .ref rre, .ref rle, .ref rhe, .ref rth, .ref rpa, .ref ror, .int bv, .int bo]), (rv, cI (xT X) 450 cvec), (rnw, cI (xT X) 37 (rowF ac ap ash an aob arq)), (rdk, cZ (xT X) 15300 (fun j => bI (flB (dkP aob ac) dk (150 * (60 + 1)) j)))] := by
        intro b0 hb0
        refine j_put C rw_ (hin8) tyX8 tyX8_ok nmX8 (ci := 8) rfl 17 (by decide) (hl202) (by decide +kernel) (ty := .int) (by decide +kernel) rfl rfl 4 rfl (Nat.le_of_ble_eq_true rfl) (w' := [(rn, cI (xT X) 600 (fun j => nI (near4 j))), (rhe, cZ (xT X) 150 (fun j => bI (he j))), (rth, cZ (xT X) 150 (fun j => bI (th j))), (ror, cI (xT X) 4 oq), (h8, cO 8 [.int rf, .ref rv, .ref rn, .ref rnw, .ref rt, .ref rd, .int (nI na), .int (nI nx), .ref rk, .ref rik, .ref rdk, .ref rre, .ref rle, .ref rhe, .ref rth, .ref rpa, .ref ror, .int (oV b0), .int bo]), (rv, cI (xT X) 450 cvec), (rnw, cI (xT X) 37 (rowF ac ap ash an aob arq)), (rdk, cZ (xT X) 15300 (fun j => bI (flB (dkP aob ac) dk (150 * (60 + 1)) j)))]) rfl dX8_findOrder_44 ?_
        refine j_aload_n C dX8_findOrder_47 0 rfl rfl ?_
        refine j_iconst C dX8_findOrder_48 (v := (nI 0)) kc_i_0 ?_
        refine j_put C rw_ (hin8) tyX8 tyX8_ok nmX8 (ci := 8) rfl 18 (by decide) (hl205) (by decide +kernel) (ty := .int) (by decide +kernel) rfl rfl 4 rfl (Nat.le_of_ble_eq_true rfl) (w' := [(rn, cI (xT X) 600 (fun j => nI (near4 j))), (rhe, cZ (xT X) 150 (fun j => bI (he j))), (rth, cZ (xT X) 150 (fun j => bI (th j))), (ror, cI (xT X) 4 oq), (h8, cO 8 [.int rf, .ref rv, .ref rn, .ref rnw, .ref rt, .ref rd, .int (nI na), .int (nI nx), .ref rk, .ref rik, .ref rdk, .ref rre, .ref rle, .ref rhe, .ref rth, .ref rpa, .ref ror, .int (oV b0), .int (nI 0)]), (rv, cI (xT X) 450 cvec), (rnw, cI (xT X) 37 (rowF ac ap ash an aob arq)), (rdk, cZ (xT X) 15300 (fun j => bI (flB (dkP aob ac) dk (150 * (60 + 1)) j)))]) rfl dX8_findOrder_49 ?_
        refine j_iconst C dX8_findOrder_52 (v := (nI 0)) kc_i_0 ?_
        refine j_istore_n C dX8_findOrder_53 rfl (by decide) (lv' := [(3, .int (nI 0)), (0, .ref h8), (1, .int (nI an)), (2, .int (nI rw9))]) rfl ?_
        refine j_lv [1, 2, 3, 0] rfl ?_
        refine j_perm C (w' := [(h8, cO 8 [.int rf, .ref rv, .ref rn, .ref rnw, .ref rt, .ref rd, .int (nI na), .int (nI nx), .ref rk, .ref rik, .ref rdk, .ref rre, .ref rle, .ref rhe, .ref rth, .ref rpa, .ref ror, .int (oV b0), .int (nI 0)]), (rv, cI (xT X) 450 cvec), (rn, cI (xT X) 600 (fun j => nI (near4 j))), (rnw, cI (xT X) 37 (rowF ac ap ash an aob arq)), (rdk, cZ (xT X) 15300 (fun j => bI (flB (dkP aob ac) dk (150 * (60 + 1)) j))), (rhe, cZ (xT X) 150 (fun j => bI (he j))), (rth, cZ (xT X) 150 (fun j => bI (th j))), (ror, cI (xT X) 4 oq)]) [4, 5, 0, 6, 7, 1, 2, 3] rfl rfl ?_
        suffices hc54 : ∀ (mm : Nat) (row b1 b2 : Nat) (he th : Nat → Bool) (oq : Nat → Int32), 257 - row < mm → (row ≤ 256) → (0 < an → row ≤ rw9) → (b1 ≤ 500) → ((an = 0 ∧ row = 0 ∧ b1 = 1 ∧ b2 = 0) ∨ (0 < an ∧ moF aob arq ac ap an row = (b1, b2))) → jj X 0 0 54 [(0, .ref h8), (1, .int (nI an)), (2, .int (nI rw9)), (3, .int (nI row))] [] [(h8, cO 8 [.int rf, .ref rv, .ref rn, .ref rnw, .ref rt, .ref rd, .int (nI na), .int (nI nx), .ref rk, .ref rik, .ref rdk, .ref rre, .ref rle, .ref rhe, .ref rth, .ref rpa, .ref ror, .int (oV b1), .int (nI b2)]), (rv, cI (xT X) 450 cvec), (rn, cI (xT X) 600 (fun j => nI (near4 j))), (rnw, cI (xT X) 37 (rowF ac ap ash an aob arq)), (rdk, cZ (xT X) 15300 (fun j => bI (flB (dkP aob ac) dk (150 * (60 + 1)) j))), (rhe, cZ (xT X) 150 (fun j => bI (he j))), (rth, cZ (xT X) 150 (fun j => bI (th j))), (ror, cI (xT X) 4 oq)] by
          refine hc54 _ 0 b0 0 _ _ _ (Nat.lt_succ_self _) ?_ ?_ ?_ ?_
          · omega
          · omega
          · rw [hb0]; split <;> omega
          · by_cases h0 : an = 0
            · exact Or.inl ⟨h0, rfl, by rw [hb0, if_pos h0], rfl⟩
            · exact Or.inr ⟨by omega, by rw [hb0, if_neg h0]; rfl⟩
        intro mm
        induction mm with
        | zero => intro row b1 b2 he th oq hm; exact absurd hm (Nat.not_lt_zero _)
        | succ mm ih54 =>
          intro row b1 b2 he th oq hm54 hrow hrw hb5 hmo
          refine j_iload_n C dX8_findOrder_54 3 rfl rfl ?_
          refine j_iload_n C dX8_findOrder_55 2 rfl rfl ?_
          refine j_icmp_ge C dX8_findOrder_56 (tgt := 139) (by decide) (fun q56 => ?_) (fun q56 => ?_)
          · skip
            have q56 := (kn_ge (a := row) (b := rw9) (by omega) (by omega)).mp q56
            refine j_vretM C rw_ hQ (by decide) (by decide) ?_ dX8_findOrder_139
            exact ⟨_, _, _, _, _, rfl, rfl, (by
              rcases hmo with ⟨h0, h1, h2, h3⟩ | ⟨h0, h1⟩
              · unfold moE; rw [if_pos h0, h2, h3]
              · have h9 := hrw h0
                unfold moE; rw [if_neg (by omega), ← hre, show rw9 = row by omega]; exact h1), hb5⟩
          · skip
            have q56 := (kn_nge (a := row) (b := rw9) (by omega) (by omega)).mp q56
            refine j_iload_n C dX8_findOrder_59 1 rfl rfl ?_
            refine j_if_le C dX8_findOrder_60 (tgt := 139) (by decide) (fun q60 => ?_) (fun q60 => ?_)
            · skip
              have q60 := (kz_le (a := an) (by omega)).mp q60
              refine j_vretM C rw_ hQ (by decide) (by decide) ?_ dX8_findOrder_139
              exact ⟨_, _, _, _, _, rfl, rfl, (by
                rcases hmo with ⟨h0, h1, h2, h3⟩ | ⟨h0, h1⟩
                · unfold moE; rw [if_pos h0, h2, h3]
                · have h9 := hrw h0
                  unfold moE; rw [if_neg (by omega), ← hre, show rw9 = row by omega]; exact h1), hb5⟩
            · skip
              have q60 := (kz_nle (a := an) (by omega)).mp q60
              have hmf : moF aob arq ac ap an row = (b1, b2) := by
                rcases hmo with ⟨h0, -⟩ | ⟨-, h1⟩
                · omega
                · exact h1
              refine j_aload_n C dX8_findOrder_63 0 rfl rfl ?_
              refine j_iload_n C dX8_findOrder_64 3 rfl rfl ?_
              refine j_callVM C rw_ (nA := 1) (As := [.int (nI row)]) (wr := [(rv, cI (xT X) 450 cvec), (rn, cI (xT X) 600 (fun j => nI (near4 j))), (rdk, cZ (xT X) 15300 (fun j => bI (flB (dkP aob ac) dk (150 * (60 + 1)) j))), (rhe, cZ (xT X) 150 (fun j => bI (he j))), (rth, cZ (xT X) 150 (fun j => bI (th j)))]) (c_X8_isOrder (xl X) (xT X) h8 rv rn rnw rt rd rk rik rdk rre rle rhe rth rpa ror na nx rf (oV b1) (nI b2) ac ap an ash aob arq row oq (by omega) (by omega) (by omega)) gX8_findOrder_X8_isOrder rfl (by decide +kernel) rfl (by decide) (by decide) [0, 3, 7] [1, 2, 4, 5, 6] rfl rfl rfl rfl (by decide) 0 rfl rfl (rest := []) rfl (Nat.le_of_ble_eq_true rfl) dX8_findOrder_65 ?_
              rintro _ _ ⟨oqr, rfl, rfl, hoq⟩
              show jj X 0 0 68 [(0, .ref h8), (1, .int (nI an)), (2, .int (nI rw9)), (3, .int (nI row))] [.int (bI (oOK an row))] [(rv, cI (xT X) 450 cvec), (rn, cI (xT X) 600 (fun j => nI (near4 j))), (rdk, cZ (xT X) 15300 (fun j => bI (flB (dkP aob ac) dk (150 * (60 + 1)) j))), (rhe, cZ (xT X) 150 (fun j => bI (he j))), (rth, cZ (xT X) 150 (fun j => bI (th j))), (h8, cO 8 [.int rf, .ref rv, .ref rn, .ref rnw, .ref rt, .ref rd, .int (nI na), .int (nI nx), .ref rk, .ref rik, .ref rdk, .ref rre, .ref rle, .ref rhe, .ref rth, .ref rpa, .ref ror, .int (oV b1), .int (nI b2)]), (rnw, cI (xT X) 37 (rowF ac ap ash an aob arq)), (ror, cI (xT X) 4 oqr)]
              refine j_if_eq C dX8_findOrder_68 (tgt := 133) (by decide) (fun q68 => ?_) (fun q68 => ?_)
              · skip
                have q68 := (kb_eq).mp q68
                refine j_iinc C dX8_findOrder_133 (q := 3) (v := (nI (row + 1))) rfl (kc_inc row) (by decide) (lv' := [(3, .int (nI (row + 1))), (0, .ref h8), (1, .int (nI an)), (2, .int (nI rw9))]) rfl ?_
                refine j_goto C dX8_findOrder_136 (tgt := 54) (by decide) ?_
                refine j_lv [1, 2, 3, 0] rfl ?_
                refine j_perm C (w' := [(h8, cO 8 [.int rf, .ref rv, .ref rn, .ref rnw, .ref rt, .ref rd, .int (nI na), .int (nI nx), .ref rk, .ref rik, .ref rdk, .ref rre, .ref rle, .ref rhe, .ref rth, .ref rpa, .ref ror, .int (oV b1), .int (nI b2)]), (rv, cI (xT X) 450 cvec), (rn, cI (xT X) 600 (fun j => nI (near4 j))), (rnw, cI (xT X) 37 (rowF ac ap ash an aob arq)), (rdk, cZ (xT X) 15300 (fun j => bI (flB (dkP aob ac) dk (150 * (60 + 1)) j))), (rhe, cZ (xT X) 150 (fun j => bI (he j))), (rth, cZ (xT X) 150 (fun j => bI (th j))), (ror, cI (xT X) 4 oqr)]) [5, 0, 1, 6, 2, 3, 4, 7] rfl rfl ?_
                refine ih54 (row + 1) b1 b2 _ _ _ (by omega) ?_ ?_ ?_ ?_
                · omega
                · intro _; omega
                · exact hb5
                · exact Or.inr ⟨by omega, by rw [moF, hmf]; unfold moS; rw [q68]; rfl⟩
              · skip
                have q68 := (kb_neq).mp q68
                refine j_aload_n C dX8_findOrder_71 0 rfl rfl ?_
                refine j_callVM C rw_ (nA := 0) (As := []) (wr := [(rv, cI (xT X) 450 cvec)]) (c_X8_valueOfOrder (xl X) (xT X) h8 rv rn rnw rt rd rk rik rdk rre rle rhe rth rpa ror na nx rf (oV b1) (nI b2) ac ap an ash aob arq (odg an row) oqr (flB (dkP aob ac) dk (150 * (60 + 1))) he th (by exact hap) (by exact hac) (by exact han) (by exact hrq) (by exact fun k hk => ⟨hoq k hk, odg_lt (by omega)⟩) (by intro t ht c hc; rw [flB_v (by omega), dkP_v hc])) gX8_findOrder_X8_valueOfOrder rfl (by decide +kernel) rfl (by decide) (by decide) [5, 1, 6, 2, 3, 4, 7] [0] rfl rfl rfl rfl (by decide) 5 rfl rfl (rest := []) rfl (Nat.le_of_ble_eq_true rfl) dX8_findOrder_72 ?_
                rintro _ _ ⟨he2, th2, v9, rfl, rfl, hv9, hv49⟩
                show jj X 0 0 75 [(0, .ref h8), (1, .int (nI an)), (2, .int (nI rw9)), (3, .int (nI row))] [.int (nI v9)] [(rv, cI (xT X) 450 cvec), (h8, cO 8 [.int rf, .ref rv, .ref rn, .ref rnw, .ref rt, .ref rd, .int (nI na), .int (nI nx), .ref rk, .ref rik, .ref rdk, .ref rre, .ref rle, .ref rhe, .ref rth, .ref rpa, .ref ror, .int (oV b1), .int (nI b2)]), (rn, cI (xT X) 600 (fun j => nI (near4 j))), (rnw, cI (xT X) 37 (rowF ac ap ash an aob arq)), (rdk, cZ (xT X) 15300 (fun j => bI ((flB (dkP aob ac) dk (150 * (60 + 1))) j))), (rhe, cZ (xT X) 150 (fun j => bI (he2 j))), (rth, cZ (xT X) 150 (fun j => bI (th2 j))), (ror, cI (xT X) 4 oqr)]
                refine j_istore C dX8_findOrder_75 (by decide) (lv' := [(4, .int (nI v9)), (0, .ref h8), (1, .int (nI an)), (2, .int (nI rw9)), (3, .int (nI row))]) rfl ?_
                refine j_iload C dX8_findOrder_77 0 rfl ?_
                refine j_aload_n C dX8_findOrder_79 1 rfl rfl ?_
                refine j_get C (hin8) (ci := 8) rfl 17 (by decide) (hl202) 1 rfl (v := .int (oV b1)) rfl dX8_findOrder_80 ?_
                refine j_icmp_le C dX8_findOrder_83 (tgt := 133) (by decide) (fun q83 => ?_) (fun q83 => ?_)
                · skip
                  have hle := (oV_le (by omega) (by omega)).mp q83
                  refine j_iinc C dX8_findOrder_133 (q := 4) (v := (nI (row + 1))) rfl (kc_inc row) (by decide) (lv' := [(3, .int (nI (row + 1))), (4, .int (nI v9)), (0, .ref h8), (1, .int (nI an)), (2, .int (nI rw9))]) rfl ?_
                  refine j_goto C dX8_findOrder_136 (tgt := 54) (by decide) ?_
                  refine j_lv [2, 3, 4, 0] rfl ?_
                  refine j_perm C (w' := [(h8, cO 8 [.int rf, .ref rv, .ref rn, .ref rnw, .ref rt, .ref rd, .int (nI na), .int (nI nx), .ref rk, .ref rik, .ref rdk, .ref rre, .ref rle, .ref rhe, .ref rth, .ref rpa, .ref ror, .int (oV b1), .int (nI b2)]), (rv, cI (xT X) 450 cvec), (rn, cI (xT X) 600 (fun j => nI (near4 j))), (rnw, cI (xT X) 37 (rowF ac ap ash an aob arq)), (rdk, cZ (xT X) 15300 (fun j => bI ((flB (dkP aob ac) dk (150 * (60 + 1))) j))), (rhe, cZ (xT X) 150 (fun j => bI (he2 j))), (rth, cZ (xT X) 150 (fun j => bI (th2 j))), (ror, cI (xT X) 4 oqr)]) [1, 0, 2, 3, 4, 5, 6, 7] rfl rfl ?_
                  refine ih54 (row + 1) b1 b2 _ _ _ (by omega) ?_ ?_ ?_ ?_
                  · omega
                  · intro _; omega
                  · exact hb5
                  · exact Or.inr ⟨by omega, by rw [moF, hmf]; unfold moS; rw [if_pos q68, if_neg (show ¬ (b1, b2).1 ≤ _ by rw [← hv9]; show ¬ b1 ≤ v9; omega)]⟩
                · skip
                  have hgt := mt (oV_le (by omega) (by omega)).mpr q83
                  refine j_aload_n C dX8_findOrder_86 1 rfl rfl ?_
                  refine j_iload C dX8_findOrder_87 0 rfl ?_
                  refine j_put C rw_ (hin8) tyX8 tyX8_ok nmX8 (ci := 8) rfl 17 (by decide) (hl202) (by decide +kernel) (ty := .int) (by decide +kernel) rfl rfl 1 rfl (Nat.le_of_ble_eq_true rfl) (w' := [(rv, cI (xT X) 450 cvec), (h8, cO 8 [.int rf, .ref rv, .ref rn, .ref rnw, .ref rt, .ref rd, .int (nI na), .int (nI nx), .ref rk, .ref rik, .ref rdk, .ref rre, .ref rle, .ref rhe, .ref rth, .ref rpa, .ref ror, .int (nI v9), .int (nI b2)]), (rn, cI (xT X) 600 (fun j => nI (near4 j))), (rnw, cI (xT X) 37 (rowF ac ap ash an aob arq)), (rdk, cZ (xT X) 15300 (fun j => bI ((flB (dkP aob ac) dk (150 * (60 + 1))) j))), (rhe, cZ (xT X) 150 (fun j => bI (he2 j))), (rth, cZ (xT X) 150 (fun j => bI (th2 j))), (ror, cI (xT X) 4 oqr)]) rfl dX8_findOrder_89 ?_
                  show jj X 0 0 92 [(4, .int (nI v9)), (0, .ref h8), (1, .int (nI an)), (2, .int (nI rw9)), (3, .int (nI row))] [] [(rv, cI (xT X) 450 cvec), (h8, cO 8 [.int rf, .ref rv, .ref rn, .ref rnw, .ref rt, .ref rd, .int (nI na), .int (nI nx), .ref rk, .ref rik, .ref rdk, .ref rre, .ref rle, .ref rhe, .ref rth, .ref rpa, .ref ror, .int (oV (v9 + 1)), .int (nI b2)]), (rn, cI (xT X) 600 (fun j => nI (near4 j))), (rnw, cI (xT X) 37 (rowF ac ap ash an aob arq)), (rdk, cZ (xT X) 15300 (fun j => bI ((flB (dkP aob ac) dk (150 * (60 + 1))) j))), (rhe, cZ (xT X) 150 (fun j => bI (he2 j))), (rth, cZ (xT X) 150 (fun j => bI (th2 j))), (ror, cI (xT X) 4 oqr)]
                  refine j_aload_n C dX8_findOrder_92 1 rfl rfl ?_
                  refine j_iconst C dX8_findOrder_93 (v := (nI 0)) kc_i_0 ?_
                  refine j_put C rw_ (hin8) tyX8 tyX8_ok nmX8 (ci := 8) rfl 18 (by decide) (hl205) (by decide +kernel) (ty := .int) (by decide +kernel) rfl rfl 1 rfl (Nat.le_of_ble_eq_true rfl) (w' := [(rv, cI (xT X) 450 cvec), (h8, cO 8 [.int rf, .ref rv, .ref rn, .ref rnw, .ref rt, .ref rd, .int (nI na), .int (nI nx), .ref rk, .ref rik, .ref rdk, .ref rre, .ref rle, .ref rhe, .ref rth, .ref rpa, .ref ror, .int (oV (v9 + 1)), .int (nI 0)]), (rn, cI (xT X) 600 (fun j => nI (near4 j))), (rnw, cI (xT X) 37 (rowF ac ap ash an aob arq)), (rdk, cZ (xT X) 15300 (fun j => bI ((flB (dkP aob ac) dk (150 * (60 + 1))) j))), (rhe, cZ (xT X) 150 (fun j => bI (he2 j))), (rth, cZ (xT X) 150 (fun j => bI (th2 j))), (ror, cI (xT X) 4 oqr)]) rfl dX8_findOrder_94 ?_
                  refine j_iconst C dX8_findOrder_97 (v := (nI 0)) kc_i_0 ?_
                  refine j_istore C dX8_findOrder_98 (by decide) (lv' := [(5, .int (nI 0)), (4, .int (nI v9)), (0, .ref h8), (1, .int (nI an)), (2, .int (nI rw9)), (3, .int (nI row))]) rfl ?_
                  refine j_lv [2, 3, 4, 5, 1, 0] rfl ?_
                  refine j_perm C (w' := [(h8, cO 8 [.int rf, .ref rv, .ref rn, .ref rnw, .ref rt, .ref rd, .int (nI na), .int (nI nx), .ref rk, .ref rik, .ref rdk, .ref rre, .ref rle, .ref rhe, .ref rth, .ref rpa, .ref ror, .int (oV (v9 + 1)), .int (nI 0)]), (rv, cI (xT X) 450 cvec), (rn, cI (xT X) 600 (fun j => nI (near4 j))), (rnw, cI (xT X) 37 (rowF ac ap ash an aob arq)), (rdk, cZ (xT X) 15300 (fun j => bI ((flB (dkP aob ac) dk (150 * (60 + 1))) j))), (rhe, cZ (xT X) 150 (fun j => bI (he2 j))), (rth, cZ (xT X) 150 (fun j => bI (th2 j))), (ror, cI (xT X) 4 oqr)]) [1, 0, 2, 3, 4, 5, 6, 7] rfl rfl ?_
                  suffices hc100 : ∀ (mm : Nat) (k : Nat), an - k < mm → (k ≤ an) → jj X 0 0 100 [(0, .ref h8), (1, .int (nI an)), (2, .int (nI rw9)), (3, .int (nI row)), (4, .int (nI v9)), (5, .int (nI k))] [] [(h8, cO 8 [.int rf, .ref rv, .ref rn, .ref rnw, .ref rt, .ref rd, .int (nI na), .int (nI nx), .ref rk, .ref rik, .ref rdk, .ref rre, .ref rle, .ref rhe, .ref rth, .ref rpa, .ref ror, .int (oV (v9 + 1)), .int (nI (odig an row k))]), (rv, cI (xT X) 450 cvec), (rn, cI (xT X) 600 (fun j => nI (near4 j))), (rnw, cI (xT X) 37 (rowF ac ap ash an aob arq)), (rdk, cZ (xT X) 15300 (fun j => bI (flB (dkP aob ac) dk (150 * (60 + 1)) j))), (rhe, cZ (xT X) 150 (fun j => bI (he2 j))), (rth, cZ (xT X) 150 (fun j => bI (th2 j))), (ror, cI (xT X) 4 oqr)] by
                    refine hc100 _ 0 (Nat.lt_succ_self _) ?_
                    · omega
                  intro mm
                  induction mm with
                  | zero => intro k hm; exact absurd hm (Nat.not_lt_zero _)
                  | succ mm ih100 =>
                    intro k hm100 hk
                    refine j_iload C dX8_findOrder_100 5 rfl ?_
                    refine j_iload_n C dX8_findOrder_102 1 rfl rfl ?_
                    refine j_icmp_ge C dX8_findOrder_103 (tgt := 133) (by decide) (fun q103 => ?_) (fun q103 => ?_)
                    · skip
                      have q103 := (kn_ge (a := k) (b := an) (by omega) (by omega)).mp q103
                      refine j_iinc C dX8_findOrder_133 (q := 3) (v := (nI (row + 1))) rfl (kc_inc row) (by decide) (lv' := [(3, .int (nI (row + 1))), (0, .ref h8), (1, .int (nI an)), (2, .int (nI rw9)), (4, .int (nI v9)), (5, .int (nI k))]) rfl ?_
                      refine j_goto C dX8_findOrder_136 (tgt := 54) (by decide) ?_
                      refine j_lv [1, 2, 3, 0] rfl ?_
                      refine ih54 (row + 1) (v9 + 1) (odig an row k) _ _ _ (by omega) ?_ ?_ ?_ ?_
                      · omega
                      · intro _; omega
                      · omega
                      · exact Or.inr ⟨by omega, by rw [moF, hmf]; unfold moS; rw [if_pos q68, if_pos (show (b1, b2).1 ≤ _ by rw [← hv9]; show b1 ≤ v9; omega), ← hv9, show k = an by omega]⟩
                    · skip
                      have q103 := (kn_nge (a := k) (b := an) (by omega) (by omega)).mp q103
                      refine j_aload_n C dX8_findOrder_106 0 rfl rfl ?_
                      refine j_bipush C dX8_findOrder_107 (v := (nI 10)) kc_b_10 ?_
                      refine j_aload_n C dX8_findOrder_109 0 rfl rfl ?_
                      refine j_get C (hin8) (ci := 8) rfl 18 (by decide) (hl205) 0 rfl (v := .int (nI (odig an row k))) rfl dX8_findOrder_110 ?_
                      refine j_imul C dX8_findOrder_113 (v := (nI (10 * (odig an row k)))) (pk_mul _ _) ?_
                      refine j_aload_n C dX8_findOrder_114 0 rfl rfl ?_
                      refine j_get C (hin8) (ci := 8) rfl 16 (by decide) (hl50) 0 rfl (v := .ref ror) rfl dX8_findOrder_115 ?_
                      refine j_iload C dX8_findOrder_118 5 rfl ?_
                      refine j_ialoadN C k rfl 7 rfl (by omega) (by decide) dX8_findOrder_120 ?_
                      refine j_ieq (nI (odg an row k)) (by exact hoq k (by omega)) ?_
                      refine j_iadd C dX8_findOrder_121 (v := (nI (10 * (odig an row k) + odg an row k))) (nI_add _ _) ?_
                      refine j_iconst C dX8_findOrder_122 (v := (nI 1)) kc_i_1 ?_
                      refine j_iadd C dX8_findOrder_123 (v := (nI (10 * (odig an row k) + odg an row k + 1))) (nI_add _ _) ?_
                      refine j_put C rw_ (hin8) tyX8 tyX8_ok nmX8 (ci := 8) rfl 18 (by decide) (hl205) (by decide +kernel) (ty := .int) (by decide +kernel) rfl rfl 0 rfl (Nat.le_of_ble_eq_true rfl) (w' := [(h8, cO 8 [.int rf, .ref rv, .ref rn, .ref rnw, .ref rt, .ref rd, .int (nI na), .int (nI nx), .ref rk, .ref rik, .ref rdk, .ref rre, .ref rle, .ref rhe, .ref rth, .ref rpa, .ref ror, .int (oV (v9 + 1)), .int (nI (10 * (odig an row k) + odg an row k + 1))]), (rv, cI (xT X) 450 cvec), (rn, cI (xT X) 600 (fun j => nI (near4 j))), (rnw, cI (xT X) 37 (rowF ac ap ash an aob arq)), (rdk, cZ (xT X) 15300 (fun j => bI (flB (dkP aob ac) dk (150 * (60 + 1)) j))), (rhe, cZ (xT X) 150 (fun j => bI (he2 j))), (rth, cZ (xT X) 150 (fun j => bI (th2 j))), (ror, cI (xT X) 4 oqr)]) rfl dX8_findOrder_124 ?_
                      refine j_iinc C dX8_findOrder_127 (q := 5) (v := (nI (k + 1))) rfl (kc_inc k) (by decide) (lv' := [(5, .int (nI (k + 1))), (0, .ref h8), (1, .int (nI an)), (2, .int (nI rw9)), (3, .int (nI row)), (4, .int (nI v9))]) rfl ?_
                      refine j_goto C dX8_findOrder_130 (tgt := 100) (by decide) ?_
                      refine j_lv [1, 2, 3, 4, 5, 0] rfl ?_
                      refine ih100 (k + 1) (by omega) ?_
                      · omega
      refine j_aload_n C dX8_findOrder_33 0 rfl rfl ?_
      refine j_iload_n C dX8_findOrder_34 1 rfl rfl ?_
      refine j_if_ne C dX8_findOrder_35 (tgt := 42) (by decide) (fun q35 => ?_) (fun q35 => ?_)
      · skip
        have q35 := (kz_ne (a := an) (by omega)).mp q35
        refine j_bipush C dX8_findOrder_42 (v := (-9)) kc_b_m9 ?_
        refine j_lv [0, 1, 2] rfl ?_
        refine hc44 0 ?_
        · rw [if_neg (by omega)]
      · skip
        have q35 := (kz_nne (a := an) (by omega)).mp q35
        refine j_iconst C dX8_findOrder_38 (v := (nI 0)) kc_i_0 ?_
        refine j_goto C dX8_findOrder_39 (tgt := 44) (by decide) ?_
        refine j_lv [0, 1, 2] rfl ?_
        refine hc44 1 ?_
        · rw [if_pos (by omega)]
    · skip
      have q20 := (kn_nge (a := k) (b := an) (by omega) (by omega)).mp q20
      refine j_iload_n C dX8_findOrder_23 2 rfl rfl ?_
      refine j_iload_n C dX8_findOrder_24 1 rfl rfl ?_
      refine j_imul C dX8_findOrder_25 (v := (nI (rw9 * an))) (pk_mul _ _) ?_
      refine j_istore_n C dX8_findOrder_26 rfl (by decide) (lv' := [(2, .int (nI (rw9 * an))), (0, .ref h8), (1, .int (nI an)), (3, .int (nI k))]) rfl ?_
      refine j_iinc C dX8_findOrder_27 (q := 3) (v := (nI (k + 1))) rfl (kc_inc k) (by decide) (lv' := [(3, .int (nI (k + 1))), (2, .int (nI (rw9 * an))), (0, .ref h8), (1, .int (nI an))]) rfl ?_
      refine j_goto C dX8_findOrder_30 (tgt := 18) (by decide) ?_
      refine j_lv [2, 3, 1, 0] rfl ?_
      refine ih18 _ _ (by omega) ?_ ?_
      · omega
      · rw [hr9, Nat.pow_succ]

set_option maxHeartbeats 4000000 in
set_option maxRecDepth 100000 in
/-- bestValue() -/
theorem c_X8_bestValue (l : Launch) (T : jj_T) (h8 rv rn rnw rt rd rk rik rdk rre rle rhe rth rpa ror na nx : Nat) (rf bv bo : Int32) (ac ap an : Nat) (ash : Bool) (aob arq : Nat → Int32) (oq : Nat → Int32) (dk he th : Nat → Bool) (hap : ap < 150) (hac : ac ≤ 200) (hco : coI aob) (han : an ≤ 4) (hrq : rqI arq an) : jM l T yX8_bestValue wsX8_bestValue { frames := 5, cells := 0, slots := 0, locals := 126 } [.ref h8] [(h8, cO 8 [.int rf, .ref rv, .ref rn, .ref rnw, .ref rt, .ref rd, .int (nI na), .int (nI nx), .ref rk, .ref rik, .ref rdk, .ref rre, .ref rle, .ref rhe, .ref rth, .ref rpa, .ref ror, .int bv, .int bo]), (rv, cI T 450 cvec), (rn, cI T 600 (fun j => nI (near4 j))), (rnw, cI T 37 (rowF ac ap ash an aob arq)), (rdk, cZ T 15300 (fun j => bI (dk j))), (rhe, cZ T 150 (fun j => bI (he j))), (rth, cZ T 150 (fun j => bI (th j))), (ror, cI T 4 oq)] (fun v w1 => ∃ (k8 : Nat) (r : Int32), v = some (.int r) ∧ ((w1 = [(h8, cO 8 [.int (nI k8), .ref rv, .ref rn, .ref rnw, .ref rt, .ref rd, .int (nI na), .int (nI nx), .ref rk, .ref rik, .ref rdk, .ref rre, .ref rle, .ref rhe, .ref rth, .ref rpa, .ref ror, .int bv, .int bo]), (rv, cI T 450 cvec), (rn, cI T 600 (fun j => nI (near4 j))), (rnw, cI T 37 (rowF ac ap ash an aob arq)), (rdk, cZ T 15300 (fun j => bI (dk j))), (rhe, cZ T 150 (fun j => bI (he j))), (rth, cZ T 150 (fun j => bI (th j))), (ror, cI T 4 oq)] ∧ k8 = 1 ∧ ash = true) ∨ (k8 = 0 ∧ ∃ (b1 b2 : Nat) (he' th' : Nat → Bool) (oq' : Nat → Int32), w1 = [(h8, cO 8 [.int (nI 0), .ref rv, .ref rn, .ref rnw, .ref rt, .ref rd, .int (nI na), .int (nI nx), .ref rk, .ref rik, .ref rdk, .ref rre, .ref rle, .ref rhe, .ref rth, .ref rpa, .ref ror, .int (oV b1), .int (nI b2)]), (rv, cI T 450 cvec), (rn, cI T 600 (fun j => nI (near4 j))), (rnw, cI T 37 (rowF ac ap ash an aob arq)), (rdk, cZ T 15300 (fun j => bI (flB (dkP aob ac) dk (150 * (60 + 1)) j))), (rhe, cZ T 150 (fun j => bI (he' j))), (rth, cZ T 150 (fun j => bI (th' j))), (ror, cI T 4 oq')] ∧ ash = false ∧ moE aob arq ac ap an = (b1, b2) ∧ b1 ≤ 500 ∧ r = oV b1))) := by
  refine jM.of (cc := cX8_bestValue) (maxL := 1) (ret := (some .int)) (by decide) rfl (Nat.le_of_ble_eq_true rfl) ?_
  intro X C rw_ hl hT hQ hnm
  subst hl; subst hT
  have hin8 : ∀ w ∈ u_ws RX8 TX8 19, w ∈ wsX8_bestValue := by decide +kernel
  have hl16 : Cond.fieldLink RX8 16 (TX8 3).1 (TX8 3).2.1 (TX8 3).2.2.1 ∈ wsX8_bestValue := by decide +kernel
  have hl202 : Cond.fieldLink RX8 202 (TX8 17).1 (TX8 17).2.1 (TX8 17).2.2.1 ∈ wsX8_bestValue := by decide +kernel
  show jj X 0 0 0 [(0, .ref h8)] [] [(h8, cO 8 [.int rf, .ref rv, .ref rn, .ref rnw, .ref rt, .ref rd, .int (nI na), .int (nI nx), .ref rk, .ref rik, .ref rdk, .ref rre, .ref rle, .ref rhe, .ref rth, .ref rpa, .ref ror, .int bv, .int bo]), (rv, cI (xT X) 450 cvec), (rn, cI (xT X) 600 (fun j => nI (near4 j))), (rnw, cI (xT X) 37 (rowF ac ap ash an aob arq)), (rdk, cZ (xT X) 15300 (fun j => bI (dk j))), (rhe, cZ (xT X) 150 (fun j => bI (he j))), (rth, cZ (xT X) 150 (fun j => bI (th j))), (ror, cI (xT X) 4 oq)]
  refine j_aload_n C dX8_bestValue_0 0 rfl rfl ?_
  refine j_aload_n C dX8_bestValue_1 0 rfl rfl ?_
  refine j_get C (hin8) (ci := 8) rfl 3 (by decide) (hl16) 0 rfl (v := .ref rnw) rfl dX8_bestValue_2 ?_
  refine j_bipush C dX8_bestValue_5 (v := (nI 23)) kc_b_23 ?_
  refine j_ialoadN C 23 rfl 3 rfl (by omega) (by decide) dX8_bestValue_7 ?_
  show jj X 0 0 8 [(0, .ref h8)] [.int (bI ash), .ref h8] [(h8, cO 8 [.int rf, .ref rv, .ref rn, .ref rnw, .ref rt, .ref rd, .int (nI na), .int (nI nx), .ref rk, .ref rik, .ref rdk, .ref rre, .ref rle, .ref rhe, .ref rth, .ref rpa, .ref ror, .int bv, .int bo]), (rv, cI (xT X) 450 cvec), (rn, cI (xT X) 600 (fun j => nI (near4 j))), (rnw, cI (xT X) 37 (rowF ac ap ash an aob arq)), (rdk, cZ (xT X) 15300 (fun j => bI (dk j))), (rhe, cZ (xT X) 150 (fun j => bI (he j))), (rth, cZ (xT X) 150 (fun j => bI (th j))), (ror, cI (xT X) 4 oq)]
  refine j_iconst C dX8_bestValue_8 (v := (nI 1)) kc_i_1 ?_
  refine j_icmp_ne C dX8_bestValue_9 (tgt := 16) (by decide) (fun q9 => ?_) (fun q9 => ?_)
  · skip
    refine j_iconst C dX8_bestValue_16 (v := (nI 0)) kc_i_0 ?_
    refine j_callVM C rw_ (nA := 1) (As := [.int (nI 0)]) (wr := [(rv, cI (xT X) 450 cvec), (rn, cI (xT X) 600 (fun j => nI (near4 j))), (rnw, cI (xT X) 37 (rowF ac ap ash an aob arq)), (rdk, cZ (xT X) 15300 (fun j => bI (dk j))), (rhe, cZ (xT X) 150 (fun j => bI (he j))), (rth, cZ (xT X) 150 (fun j => bI (th j))), (ror, cI (xT X) 4 oq)]) (c_X8_refused_0 (xl X) (xT X) h8 rv rn rnw rt rd rk rik rdk rre rle rhe rth rpa ror na nx rf bv bo ) gX8_bestValue_X8_refused rfl (by decide +kernel) rfl (by decide) (by decide) [0] [1, 2, 3, 4, 5, 6, 7] rfl rfl rfl rfl (by decide) 0 rfl rfl (rest := []) rfl (Nat.le_of_ble_eq_true rfl) dX8_bestValue_17 ?_
    rintro _ _ ⟨rfl, rfl⟩
    show jj X 0 0 20 [(0, .ref h8)] [.int (bI false)] [(rv, cI (xT X) 450 cvec), (rn, cI (xT X) 600 (fun j => nI (near4 j))), (rnw, cI (xT X) 37 (rowF ac ap ash an aob arq)), (rdk, cZ (xT X) 15300 (fun j => bI (dk j))), (rhe, cZ (xT X) 150 (fun j => bI (he j))), (rth, cZ (xT X) 150 (fun j => bI (th j))), (ror, cI (xT X) 4 oq), (h8, cO 8 [.int (nI 0), .ref rv, .ref rn, .ref rnw, .ref rt, .ref rd, .int (nI na), .int (nI nx), .ref rk, .ref rik, .ref rdk, .ref rre, .ref rle, .ref rhe, .ref rth, .ref rpa, .ref ror, .int bv, .int bo])]
    refine j_if_eq C dX8_bestValue_20 (tgt := 25) (by decide) (fun _ => ?_) (fun h9 => absurd h9 (by decide +kernel))
    refine j_aload_n C dX8_bestValue_25 0 rfl rfl ?_
    refine j_callVM C rw_ (nA := 0) (As := []) (wr := []) (c_X8_findOrder (xl X) (xT X) h8 rv rn rnw rt rd rk rik rdk rre rle rhe rth rpa ror na nx (nI 0) bv bo ac ap an ash aob arq oq dk he th (by exact hap) (by exact hac) (by exact hco) (by exact han) (by exact hrq)) gX8_bestValue_X8_findOrder rfl (by decide +kernel) rfl (by decide) (by decide) [7, 0, 1, 2, 3, 4, 5, 6] [] rfl rfl rfl rfl (by decide) 7 rfl rfl (rest := []) rfl (Nat.le_of_ble_eq_true rfl) dX8_bestValue_26 ?_
    rintro _ _ ⟨b1, b2, he'_1, th'_2, oq'_3, rfl, rfl, hmo, hb5⟩
    show jj X 0 0 29 [(0, .ref h8)] [] [(h8, cO 8 [.int (nI 0), .ref rv, .ref rn, .ref rnw, .ref rt, .ref rd, .int (nI na), .int (nI nx), .ref rk, .ref rik, .ref rdk, .ref rre, .ref rle, .ref rhe, .ref rth, .ref rpa, .ref ror, .int (oV b1), .int (nI b2)]), (rv, cI (xT X) 450 cvec), (rn, cI (xT X) 600 (fun j => nI (near4 j))), (rnw, cI (xT X) 37 (rowF ac ap ash an aob arq)), (rdk, cZ (xT X) 15300 (fun j => bI (flB (dkP aob ac) dk (150 * (60 + 1)) j))), (rhe, cZ (xT X) 150 (fun j => bI (he'_1 j))), (rth, cZ (xT X) 150 (fun j => bI (th'_2 j))), (ror, cI (xT X) 4 oq'_3)]
    refine j_aload_n C dX8_bestValue_29 0 rfl rfl ?_
    refine j_get C (hin8) (ci := 8) rfl 17 (by decide) (hl202) 0 rfl (v := .int (oV b1)) rfl dX8_bestValue_30 ?_
    refine j_iretM C rw_ hQ (by decide) (by decide) rfl ?_ dX8_bestValue_33
    exact ⟨0, _, rfl, Or.inr ⟨rfl, b1, b2, _, _, _, rfl, bI_ne1 q9, hmo, hb5, rfl⟩⟩
  · skip
    refine j_iconst C dX8_bestValue_12 (v := (nI 1)) kc_i_1 ?_
    refine j_goto C dX8_bestValue_13 (tgt := 17) (by decide) ?_
    refine j_callVM C rw_ (nA := 1) (As := [.int (nI 1)]) (wr := [(rv, cI (xT X) 450 cvec), (rn, cI (xT X) 600 (fun j => nI (near4 j))), (rnw, cI (xT X) 37 (rowF ac ap ash an aob arq)), (rdk, cZ (xT X) 15300 (fun j => bI (dk j))), (rhe, cZ (xT X) 150 (fun j => bI (he j))), (rth, cZ (xT X) 150 (fun j => bI (th j))), (ror, cI (xT X) 4 oq)]) (c_X8_refused_s (xl X) (xT X) h8 rv rn rnw rt rd rk rik rdk rre rle rhe rth rpa ror na nx rf bv bo 1 (by omega) (by omega)) gX8_bestValue_X8_refused rfl (by decide +kernel) rfl (by decide) (by decide) [0] [1, 2, 3, 4, 5, 6, 7] rfl rfl rfl rfl (by decide) 0 rfl rfl (rest := []) rfl (Nat.le_of_ble_eq_true rfl) dX8_bestValue_17 ?_
    rintro _ _ ⟨rfl, rfl⟩
    show jj X 0 0 20 [(0, .ref h8)] [.int (bI true)] [(rv, cI (xT X) 450 cvec), (rn, cI (xT X) 600 (fun j => nI (near4 j))), (rnw, cI (xT X) 37 (rowF ac ap ash an aob arq)), (rdk, cZ (xT X) 15300 (fun j => bI (dk j))), (rhe, cZ (xT X) 150 (fun j => bI (he j))), (rth, cZ (xT X) 150 (fun j => bI (th j))), (ror, cI (xT X) 4 oq), (h8, cO 8 [.int (nI 1), .ref rv, .ref rn, .ref rnw, .ref rt, .ref rd, .int (nI na), .int (nI nx), .ref rk, .ref rik, .ref rdk, .ref rre, .ref rle, .ref rhe, .ref rth, .ref rpa, .ref ror, .int bv, .int bo])]
    refine j_if_eq C dX8_bestValue_20 (tgt := 25) (by decide) (fun h9 => absurd h9 (by decide +kernel)) (fun _ => ?_)
    refine j_iconst C dX8_bestValue_23 (v := (nI 0)) kc_i_0 ?_
    refine j_perm C (w' := [(h8, cO 8 [.int (nI 1), .ref rv, .ref rn, .ref rnw, .ref rt, .ref rd, .int (nI na), .int (nI nx), .ref rk, .ref rik, .ref rdk, .ref rre, .ref rle, .ref rhe, .ref rth, .ref rpa, .ref ror, .int bv, .int bo]), (rv, cI (xT X) 450 cvec), (rn, cI (xT X) 600 (fun j => nI (near4 j))), (rnw, cI (xT X) 37 (rowF ac ap ash an aob arq)), (rdk, cZ (xT X) 15300 (fun j => bI (dk j))), (rhe, cZ (xT X) 150 (fun j => bI (he j))), (rth, cZ (xT X) 150 (fun j => bI (th j))), (ror, cI (xT X) 4 oq)]) [7, 0, 1, 2, 3, 4, 5, 6] rfl rfl ?_
    refine j_iretM C rw_ hQ (by decide) (by decide) rfl ?_ dX8_bestValue_24
    exact ⟨1, _, rfl, Or.inl ⟨rfl, rfl, bI_eq1 q9⟩⟩

set_option maxHeartbeats 4000000 in
set_option maxRecDepth 100000 in
/-- bestOrder() -/
theorem c_X8_bestOrder (l : Launch) (T : jj_T) (h8 rv rn rnw rt rd rk rik rdk rre rle rhe rth rpa ror na nx : Nat) (rf bv bo : Int32) (ac ap an : Nat) (ash : Bool) (aob arq : Nat → Int32) (oq : Nat → Int32) (dk he th : Nat → Bool) (hap : ap < 150) (hac : ac ≤ 200) (hco : coI aob) (han : an ≤ 4) (hrq : rqI arq an) : jM l T yX8_bestOrder wsX8_bestOrder { frames := 5, cells := 0, slots := 0, locals := 126 } [.ref h8] [(h8, cO 8 [.int rf, .ref rv, .ref rn, .ref rnw, .ref rt, .ref rd, .int (nI na), .int (nI nx), .ref rk, .ref rik, .ref rdk, .ref rre, .ref rle, .ref rhe, .ref rth, .ref rpa, .ref ror, .int bv, .int bo]), (rv, cI T 450 cvec), (rn, cI T 600 (fun j => nI (near4 j))), (rnw, cI T 37 (rowF ac ap ash an aob arq)), (rdk, cZ T 15300 (fun j => bI (dk j))), (rhe, cZ T 150 (fun j => bI (he j))), (rth, cZ T 150 (fun j => bI (th j))), (ror, cI T 4 oq)] (fun v w1 => ∃ (k8 : Nat) (r : Int32), v = some (.int r) ∧ ((w1 = [(h8, cO 8 [.int (nI k8), .ref rv, .ref rn, .ref rnw, .ref rt, .ref rd, .int (nI na), .int (nI nx), .ref rk, .ref rik, .ref rdk, .ref rre, .ref rle, .ref rhe, .ref rth, .ref rpa, .ref ror, .int bv, .int bo]), (rv, cI T 450 cvec), (rn, cI T 600 (fun j => nI (near4 j))), (rnw, cI T 37 (rowF ac ap ash an aob arq)), (rdk, cZ T 15300 (fun j => bI (dk j))), (rhe, cZ T 150 (fun j => bI (he j))), (rth, cZ T 150 (fun j => bI (th j))), (ror, cI T 4 oq)] ∧ k8 = 1 ∧ ash = true) ∨ (k8 = 0 ∧ ∃ (b1 b2 : Nat) (he' th' : Nat → Bool) (oq' : Nat → Int32), w1 = [(h8, cO 8 [.int (nI 0), .ref rv, .ref rn, .ref rnw, .ref rt, .ref rd, .int (nI na), .int (nI nx), .ref rk, .ref rik, .ref rdk, .ref rre, .ref rle, .ref rhe, .ref rth, .ref rpa, .ref ror, .int (oV b1), .int (nI b2)]), (rv, cI T 450 cvec), (rn, cI T 600 (fun j => nI (near4 j))), (rnw, cI T 37 (rowF ac ap ash an aob arq)), (rdk, cZ T 15300 (fun j => bI (flB (dkP aob ac) dk (150 * (60 + 1)) j))), (rhe, cZ T 150 (fun j => bI (he' j))), (rth, cZ T 150 (fun j => bI (th' j))), (ror, cI T 4 oq')] ∧ ash = false ∧ moE aob arq ac ap an = (b1, b2) ∧ b1 ≤ 500 ∧ r = nI b2))) := by
  refine jM.of (cc := cX8_bestOrder) (maxL := 1) (ret := (some .int)) (by decide) rfl (Nat.le_of_ble_eq_true rfl) ?_
  intro X C rw_ hl hT hQ hnm
  subst hl; subst hT
  have hin8 : ∀ w ∈ u_ws RX8 TX8 19, w ∈ wsX8_bestOrder := by decide +kernel
  have hl16 : Cond.fieldLink RX8 16 (TX8 3).1 (TX8 3).2.1 (TX8 3).2.2.1 ∈ wsX8_bestOrder := by decide +kernel
  have hl205 : Cond.fieldLink RX8 205 (TX8 18).1 (TX8 18).2.1 (TX8 18).2.2.1 ∈ wsX8_bestOrder := by decide +kernel
  show jj X 0 0 0 [(0, .ref h8)] [] [(h8, cO 8 [.int rf, .ref rv, .ref rn, .ref rnw, .ref rt, .ref rd, .int (nI na), .int (nI nx), .ref rk, .ref rik, .ref rdk, .ref rre, .ref rle, .ref rhe, .ref rth, .ref rpa, .ref ror, .int bv, .int bo]), (rv, cI (xT X) 450 cvec), (rn, cI (xT X) 600 (fun j => nI (near4 j))), (rnw, cI (xT X) 37 (rowF ac ap ash an aob arq)), (rdk, cZ (xT X) 15300 (fun j => bI (dk j))), (rhe, cZ (xT X) 150 (fun j => bI (he j))), (rth, cZ (xT X) 150 (fun j => bI (th j))), (ror, cI (xT X) 4 oq)]
  refine j_aload_n C dX8_bestOrder_0 0 rfl rfl ?_
  refine j_aload_n C dX8_bestOrder_1 0 rfl rfl ?_
  refine j_get C (hin8) (ci := 8) rfl 3 (by decide) (hl16) 0 rfl (v := .ref rnw) rfl dX8_bestOrder_2 ?_
  refine j_bipush C dX8_bestOrder_5 (v := (nI 23)) kc_b_23 ?_
  refine j_ialoadN C 23 rfl 3 rfl (by omega) (by decide) dX8_bestOrder_7 ?_
  show jj X 0 0 8 [(0, .ref h8)] [.int (bI ash), .ref h8] [(h8, cO 8 [.int rf, .ref rv, .ref rn, .ref rnw, .ref rt, .ref rd, .int (nI na), .int (nI nx), .ref rk, .ref rik, .ref rdk, .ref rre, .ref rle, .ref rhe, .ref rth, .ref rpa, .ref ror, .int bv, .int bo]), (rv, cI (xT X) 450 cvec), (rn, cI (xT X) 600 (fun j => nI (near4 j))), (rnw, cI (xT X) 37 (rowF ac ap ash an aob arq)), (rdk, cZ (xT X) 15300 (fun j => bI (dk j))), (rhe, cZ (xT X) 150 (fun j => bI (he j))), (rth, cZ (xT X) 150 (fun j => bI (th j))), (ror, cI (xT X) 4 oq)]
  refine j_iconst C dX8_bestOrder_8 (v := (nI 1)) kc_i_1 ?_
  refine j_icmp_ne C dX8_bestOrder_9 (tgt := 16) (by decide) (fun q9 => ?_) (fun q9 => ?_)
  · skip
    refine j_iconst C dX8_bestOrder_16 (v := (nI 0)) kc_i_0 ?_
    refine j_callVM C rw_ (nA := 1) (As := [.int (nI 0)]) (wr := [(rv, cI (xT X) 450 cvec), (rn, cI (xT X) 600 (fun j => nI (near4 j))), (rnw, cI (xT X) 37 (rowF ac ap ash an aob arq)), (rdk, cZ (xT X) 15300 (fun j => bI (dk j))), (rhe, cZ (xT X) 150 (fun j => bI (he j))), (rth, cZ (xT X) 150 (fun j => bI (th j))), (ror, cI (xT X) 4 oq)]) (c_X8_refused_0 (xl X) (xT X) h8 rv rn rnw rt rd rk rik rdk rre rle rhe rth rpa ror na nx rf bv bo ) gX8_bestOrder_X8_refused rfl (by decide +kernel) rfl (by decide) (by decide) [0] [1, 2, 3, 4, 5, 6, 7] rfl rfl rfl rfl (by decide) 0 rfl rfl (rest := []) rfl (Nat.le_of_ble_eq_true rfl) dX8_bestOrder_17 ?_
    rintro _ _ ⟨rfl, rfl⟩
    show jj X 0 0 20 [(0, .ref h8)] [.int (bI false)] [(rv, cI (xT X) 450 cvec), (rn, cI (xT X) 600 (fun j => nI (near4 j))), (rnw, cI (xT X) 37 (rowF ac ap ash an aob arq)), (rdk, cZ (xT X) 15300 (fun j => bI (dk j))), (rhe, cZ (xT X) 150 (fun j => bI (he j))), (rth, cZ (xT X) 150 (fun j => bI (th j))), (ror, cI (xT X) 4 oq), (h8, cO 8 [.int (nI 0), .ref rv, .ref rn, .ref rnw, .ref rt, .ref rd, .int (nI na), .int (nI nx), .ref rk, .ref rik, .ref rdk, .ref rre, .ref rle, .ref rhe, .ref rth, .ref rpa, .ref ror, .int bv, .int bo])]
    refine j_if_eq C dX8_bestOrder_20 (tgt := 25) (by decide) (fun _ => ?_) (fun h9 => absurd h9 (by decide +kernel))
    refine j_aload_n C dX8_bestOrder_25 0 rfl rfl ?_
    refine j_callVM C rw_ (nA := 0) (As := []) (wr := []) (c_X8_findOrder (xl X) (xT X) h8 rv rn rnw rt rd rk rik rdk rre rle rhe rth rpa ror na nx (nI 0) bv bo ac ap an ash aob arq oq dk he th (by exact hap) (by exact hac) (by exact hco) (by exact han) (by exact hrq)) gX8_bestOrder_X8_findOrder rfl (by decide +kernel) rfl (by decide) (by decide) [7, 0, 1, 2, 3, 4, 5, 6] [] rfl rfl rfl rfl (by decide) 7 rfl rfl (rest := []) rfl (Nat.le_of_ble_eq_true rfl) dX8_bestOrder_26 ?_
    rintro _ _ ⟨b1, b2, he'_1, th'_2, oq'_3, rfl, rfl, hmo, hb5⟩
    show jj X 0 0 29 [(0, .ref h8)] [] [(h8, cO 8 [.int (nI 0), .ref rv, .ref rn, .ref rnw, .ref rt, .ref rd, .int (nI na), .int (nI nx), .ref rk, .ref rik, .ref rdk, .ref rre, .ref rle, .ref rhe, .ref rth, .ref rpa, .ref ror, .int (oV b1), .int (nI b2)]), (rv, cI (xT X) 450 cvec), (rn, cI (xT X) 600 (fun j => nI (near4 j))), (rnw, cI (xT X) 37 (rowF ac ap ash an aob arq)), (rdk, cZ (xT X) 15300 (fun j => bI (flB (dkP aob ac) dk (150 * (60 + 1)) j))), (rhe, cZ (xT X) 150 (fun j => bI (he'_1 j))), (rth, cZ (xT X) 150 (fun j => bI (th'_2 j))), (ror, cI (xT X) 4 oq'_3)]
    refine j_aload_n C dX8_bestOrder_29 0 rfl rfl ?_
    refine j_get C (hin8) (ci := 8) rfl 18 (by decide) (hl205) 0 rfl (v := .int (nI b2)) rfl dX8_bestOrder_30 ?_
    refine j_iretM C rw_ hQ (by decide) (by decide) rfl ?_ dX8_bestOrder_33
    exact ⟨0, _, rfl, Or.inr ⟨rfl, b1, b2, _, _, _, rfl, bI_ne1 q9, hmo, hb5, rfl⟩⟩
  · skip
    refine j_iconst C dX8_bestOrder_12 (v := (nI 1)) kc_i_1 ?_
    refine j_goto C dX8_bestOrder_13 (tgt := 17) (by decide) ?_
    refine j_callVM C rw_ (nA := 1) (As := [.int (nI 1)]) (wr := [(rv, cI (xT X) 450 cvec), (rn, cI (xT X) 600 (fun j => nI (near4 j))), (rnw, cI (xT X) 37 (rowF ac ap ash an aob arq)), (rdk, cZ (xT X) 15300 (fun j => bI (dk j))), (rhe, cZ (xT X) 150 (fun j => bI (he j))), (rth, cZ (xT X) 150 (fun j => bI (th j))), (ror, cI (xT X) 4 oq)]) (c_X8_refused_s (xl X) (xT X) h8 rv rn rnw rt rd rk rik rdk rre rle rhe rth rpa ror na nx rf bv bo 1 (by omega) (by omega)) gX8_bestOrder_X8_refused rfl (by decide +kernel) rfl (by decide) (by decide) [0] [1, 2, 3, 4, 5, 6, 7] rfl rfl rfl rfl (by decide) 0 rfl rfl (rest := []) rfl (Nat.le_of_ble_eq_true rfl) dX8_bestOrder_17 ?_
    rintro _ _ ⟨rfl, rfl⟩
    show jj X 0 0 20 [(0, .ref h8)] [.int (bI true)] [(rv, cI (xT X) 450 cvec), (rn, cI (xT X) 600 (fun j => nI (near4 j))), (rnw, cI (xT X) 37 (rowF ac ap ash an aob arq)), (rdk, cZ (xT X) 15300 (fun j => bI (dk j))), (rhe, cZ (xT X) 150 (fun j => bI (he j))), (rth, cZ (xT X) 150 (fun j => bI (th j))), (ror, cI (xT X) 4 oq), (h8, cO 8 [.int (nI 1), .ref rv, .ref rn, .ref rnw, .ref rt, .ref rd, .int (nI na), .int (nI nx), .ref rk, .ref rik, .ref rdk, .ref rre, .ref rle, .ref rhe, .ref rth, .ref rpa, .ref ror, .int bv, .int bo])]
    refine j_if_eq C dX8_bestOrder_20 (tgt := 25) (by decide) (fun h9 => absurd h9 (by decide +kernel)) (fun _ => ?_)
    refine j_iconst C dX8_bestOrder_23 (v := (nI 0)) kc_i_0 ?_
    refine j_perm C (w' := [(h8, cO 8 [.int (nI 1), .ref rv, .ref rn, .ref rnw, .ref rt, .ref rd, .int (nI na), .int (nI nx), .ref rk, .ref rik, .ref rdk, .ref rre, .ref rle, .ref rhe, .ref rth, .ref rpa, .ref ror, .int bv, .int bo]), (rv, cI (xT X) 450 cvec), (rn, cI (xT X) 600 (fun j => nI (near4 j))), (rnw, cI (xT X) 37 (rowF ac ap ash an aob arq)), (rdk, cZ (xT X) 15300 (fun j => bI (dk j))), (rhe, cZ (xT X) 150 (fun j => bI (he j))), (rth, cZ (xT X) 150 (fun j => bI (th j))), (ror, cI (xT X) 4 oq)]) [7, 0, 1, 2, 3, 4, 5, 6] rfl rfl ?_
    refine j_iretM C rw_ hQ (by decide) (by decide) rfl ?_ dX8_bestOrder_24
    exact ⟨1, _, rfl, Or.inl ⟨rfl, rfl, bI_eq1 q9⟩⟩

set_option maxHeartbeats 4000000 in
set_option maxRecDepth 100000 in
/-- planCell(cell, i) -/
theorem c_X8_planCell (l : Launch) (T : jj_T) (h8 rv rn rnw rt rd rk rik rdk rre rle rhe rth rpa ror na nx : Nat) (rf bv bo : Int32) (ac ap an : Nat) (ash : Bool) (aob arq : Nat → Int32) (dk re : Nat → Bool) (le : Nat → Bool) (pt : Nat → Int32) (x y : Int32) (hap : ap < 150) (hac : ac ≤ 200) (hco : coI aob) : jM l T yX8_planCell wsX8_planCell { frames := 6, cells := 0, slots := 0, locals := 143 } [.ref h8, .int x, .int y] [(h8, cO 8 [.int rf, .ref rv, .ref rn, .ref rnw, .ref rt, .ref rd, .int (nI na), .int (nI nx), .ref rk, .ref rik, .ref rdk, .ref rre, .ref rle, .ref rhe, .ref rth, .ref rpa, .ref ror, .int bv, .int bo]), (rv, cI T 450 cvec), (rn, cI T 600 (fun j => nI (near4 j))), (rnw, cI T 37 (rowF ac ap ash an aob arq)), (rdk, cZ T 15300 (fun j => bI (dk j))), (rre, cZ T 9150 (fun j => bI (re j))), (rle, cZ T 9150 (fun j => bI (le j))), (rpa, cI T 61 pt)] (fun v w1 => ∃ (k8 : Nat) (r : Int32), v = some (.int r) ∧ ((w1 = [(h8, cO 8 [.int (nI k8), .ref rv, .ref rn, .ref rnw, .ref rt, .ref rd, .int (nI na), .int (nI nx), .ref rk, .ref rik, .ref rdk, .ref rre, .ref rle, .ref rhe, .ref rth, .ref rpa, .ref ror, .int bv, .int bo]), (rv, cI T 450 cvec), (rn, cI T 600 (fun j => nI (near4 j))), (rnw, cI T 37 (rowF ac ap ash an aob arq)), (rdk, cZ T 15300 (fun j => bI (dk j))), (rre, cZ T 9150 (fun j => bI (re j))), (rle, cZ T 9150 (fun j => bI (le j))), (rpa, cI T 61 pt)] ∧ ((k8 = 1 ∧ inR x 0 149 = false) ∨ (k8 = 2 ∧ inR x 0 149 = true ∧ inR y 0 60 = false) ∨ (k8 = 3 ∧ inR x 0 149 = true ∧ inR y 0 60 = true ∧ ash = true))) ∨ (k8 = 0 ∧ ∃ (c i : Nat) (le' : Nat → Bool) (pt' : Nat → Int32), w1 = [(h8, cO 8 [.int (nI 0), .ref rv, .ref rn, .ref rnw, .ref rt, .ref rd, .int (nI na), .int (nI nx), .ref rk, .ref rik, .ref rdk, .ref rre, .ref rle, .ref rhe, .ref rth, .ref rpa, .ref ror, .int bv, .int bo]), (rv, cI T 450 cvec), (rn, cI T 600 (fun j => nI (near4 j))), (rnw, cI T 37 (rowF ac ap ash an aob arq)), (rdk, cZ T 15300 (fun j => bI (flB (dkP aob ac) dk (150 * (60 + 1)) j))), (rre, cZ T 9150 (fun j => bI (flB (rcP aob ac ap) re (150 * (60 + 1)) j))), (rle, cZ T 9150 (fun j => bI (le' j))), (rpa, cI T 61 pt')] ∧ x = nI c ∧ c < 150 ∧ y = nI i ∧ i ≤ 60 ∧ ash = false ∧ bp_is aob ac ap c i r))) := by
  refine jM.of (cc := cX8_planCell) (maxL := 4) (ret := (some .int)) (by decide) rfl (Nat.le_of_ble_eq_true rfl) ?_
  intro X C rw_ hl hT hQ hnm
  subst hl; subst hT
  have hin8 : ∀ w ∈ u_ws RX8 TX8 19, w ∈ wsX8_planCell := by decide +kernel
  have hl16 : Cond.fieldLink RX8 16 (TX8 3).1 (TX8 3).2.1 (TX8 3).2.2.1 ∈ wsX8_planCell := by decide +kernel
  have hl47 : Cond.fieldLink RX8 47 (TX8 15).1 (TX8 15).2.1 (TX8 15).2.2.1 ∈ wsX8_planCell := by decide +kernel
  show jj X 0 0 0 [(0, .ref h8), (1, .int x), (2, .int y)] [] [(h8, cO 8 [.int rf, .ref rv, .ref rn, .ref rnw, .ref rt, .ref rd, .int (nI na), .int (nI nx), .ref rk, .ref rik, .ref rdk, .ref rre, .ref rle, .ref rhe, .ref rth, .ref rpa, .ref ror, .int bv, .int bo]), (rv, cI (xT X) 450 cvec), (rn, cI (xT X) 600 (fun j => nI (near4 j))), (rnw, cI (xT X) 37 (rowF ac ap ash an aob arq)), (rdk, cZ (xT X) 15300 (fun j => bI (dk j))), (rre, cZ (xT X) 9150 (fun j => bI (re j))), (rle, cZ (xT X) 9150 (fun j => bI (le j))), (rpa, cI (xT X) 61 pt)]
  refine j_aload_n C dX8_planCell_0 0 rfl rfl ?_
  refine j_iload_n C dX8_planCell_1 1 rfl rfl ?_
  refine j_callSR C (nA := 1) (As := [.int x]) (c_X8_isCell (xl X) (xT X) x ) gX8_planCell_X8_isCell rfl (by decide +kernel) rfl ⟨rfl, rfl⟩ (by decide) (by decide) [] rfl rfl (rest := [.ref h8]) rfl (Nat.le_of_ble_eq_true rfl) dX8_planCell_2 ?_
  rintro _ rfl
  show jj X 0 0 5 [(0, .ref h8), (1, .int x), (2, .int y)] [.int (bI (inR x 0 149)), .ref h8] [(h8, cO 8 [.int rf, .ref rv, .ref rn, .ref rnw, .ref rt, .ref rd, .int (nI na), .int (nI nx), .ref rk, .ref rik, .ref rdk, .ref rre, .ref rle, .ref rhe, .ref rth, .ref rpa, .ref ror, .int bv, .int bo]), (rv, cI (xT X) 450 cvec), (rn, cI (xT X) 600 (fun j => nI (near4 j))), (rnw, cI (xT X) 37 (rowF ac ap ash an aob arq)), (rdk, cZ (xT X) 15300 (fun j => bI (dk j))), (rre, cZ (xT X) 9150 (fun j => bI (re j))), (rle, cZ (xT X) 9150 (fun j => bI (le j))), (rpa, cI (xT X) 61 pt)]
  refine j_if_ne C dX8_planCell_5 (tgt := 12) (by decide) (fun q5 => ?_) (fun q5 => ?_)
  · skip
    have q5 := (kb_ne).mp q5
    obtain ⟨c, rfl, hb_c⟩ := inR_N (b := 149) q5
    refine j_iload_n C dX8_planCell_12 2 rfl rfl ?_
    refine j_i2l C dX8_planCell_13 (v := y.toInt64) rfl ?_
    refine j_lconst C dX8_planCell_14 (v := lN 0) rfl ?_
    refine j_ldc2l C dX8_planCell_15 (v := lN 60) (by decide +kernel) ?_
    refine j_callSR C (nA := 3) (As := [.long y.toInt64, .long (lN 0), .long (lN 60)]) (c_X8_in (xl X) (xT X) y (lN 0) (lN 60) (0) (60) (by decide +kernel) (by decide +kernel)) gX8_planCell_X8_in rfl (by decide +kernel) rfl ⟨rfl, rfl⟩ (by decide) (by decide) [] rfl rfl (rest := [.ref h8]) rfl (Nat.le_of_ble_eq_true rfl) dX8_planCell_18 ?_
    rintro _ rfl
    show jj X 0 0 21 [(0, .ref h8), (1, .int (nI c)), (2, .int y)] [.int (bI (inR y (0) (60))), .ref h8] [(h8, cO 8 [.int rf, .ref rv, .ref rn, .ref rnw, .ref rt, .ref rd, .int (nI na), .int (nI nx), .ref rk, .ref rik, .ref rdk, .ref rre, .ref rle, .ref rhe, .ref rth, .ref rpa, .ref ror, .int bv, .int bo]), (rv, cI (xT X) 450 cvec), (rn, cI (xT X) 600 (fun j => nI (near4 j))), (rnw, cI (xT X) 37 (rowF ac ap ash an aob arq)), (rdk, cZ (xT X) 15300 (fun j => bI (dk j))), (rre, cZ (xT X) 9150 (fun j => bI (re j))), (rle, cZ (xT X) 9150 (fun j => bI (le j))), (rpa, cI (xT X) 61 pt)]
    refine j_if_ne C dX8_planCell_21 (tgt := 28) (by decide) (fun q21 => ?_) (fun q21 => ?_)
    · skip
      have q21 := (kb_ne).mp q21
      obtain ⟨i, rfl, hb_i⟩ := inR_N (b := 60) q21
      refine j_aload_n C dX8_planCell_28 0 rfl rfl ?_
      refine j_get C (hin8) (ci := 8) rfl 3 (by decide) (hl16) 0 rfl (v := .ref rnw) rfl dX8_planCell_29 ?_
      refine j_bipush C dX8_planCell_32 (v := (nI 23)) kc_b_23 ?_
      refine j_ialoadN C 23 rfl 3 rfl (by omega) (by decide) dX8_planCell_34 ?_
      show jj X 0 0 35 [(0, .ref h8), (1, .int (nI c)), (2, .int (nI i))] [.int (bI ash), .ref h8] [(h8, cO 8 [.int rf, .ref rv, .ref rn, .ref rnw, .ref rt, .ref rd, .int (nI na), .int (nI nx), .ref rk, .ref rik, .ref rdk, .ref rre, .ref rle, .ref rhe, .ref rth, .ref rpa, .ref ror, .int bv, .int bo]), (rv, cI (xT X) 450 cvec), (rn, cI (xT X) 600 (fun j => nI (near4 j))), (rnw, cI (xT X) 37 (rowF ac ap ash an aob arq)), (rdk, cZ (xT X) 15300 (fun j => bI (dk j))), (rre, cZ (xT X) 9150 (fun j => bI (re j))), (rle, cZ (xT X) 9150 (fun j => bI (le j))), (rpa, cI (xT X) 61 pt)]
      refine j_iconst C dX8_planCell_35 (v := (nI 1)) kc_i_1 ?_
      refine j_icmp_ne C dX8_planCell_36 (tgt := 43) (by decide) (fun q36 => ?_) (fun q36 => ?_)
      · skip
        refine j_iconst C dX8_planCell_43 (v := (nI 0)) kc_i_0 ?_
        refine j_callVM C rw_ (nA := 1) (As := [.int (nI 0)]) (wr := [(rv, cI (xT X) 450 cvec), (rn, cI (xT X) 600 (fun j => nI (near4 j))), (rnw, cI (xT X) 37 (rowF ac ap ash an aob arq)), (rdk, cZ (xT X) 15300 (fun j => bI (dk j))), (rre, cZ (xT X) 9150 (fun j => bI (re j))), (rle, cZ (xT X) 9150 (fun j => bI (le j))), (rpa, cI (xT X) 61 pt)]) (c_X8_refused_0 (xl X) (xT X) h8 rv rn rnw rt rd rk rik rdk rre rle rhe rth rpa ror na nx rf bv bo ) gX8_planCell_X8_refused rfl (by decide +kernel) rfl (by decide) (by decide) [0] [1, 2, 3, 4, 5, 6, 7] rfl rfl rfl rfl (by decide) 0 rfl rfl (rest := []) rfl (Nat.le_of_ble_eq_true rfl) dX8_planCell_44 ?_
        rintro _ _ ⟨rfl, rfl⟩
        show jj X 0 0 47 [(0, .ref h8), (1, .int (nI c)), (2, .int (nI i))] [.int (bI false)] [(rv, cI (xT X) 450 cvec), (rn, cI (xT X) 600 (fun j => nI (near4 j))), (rnw, cI (xT X) 37 (rowF ac ap ash an aob arq)), (rdk, cZ (xT X) 15300 (fun j => bI (dk j))), (rre, cZ (xT X) 9150 (fun j => bI (re j))), (rle, cZ (xT X) 9150 (fun j => bI (le j))), (rpa, cI (xT X) 61 pt), (h8, cO 8 [.int (nI 0), .ref rv, .ref rn, .ref rnw, .ref rt, .ref rd, .int (nI na), .int (nI nx), .ref rk, .ref rik, .ref rdk, .ref rre, .ref rle, .ref rhe, .ref rth, .ref rpa, .ref ror, .int bv, .int bo])]
        refine j_if_eq C dX8_planCell_47 (tgt := 52) (by decide) (fun _ => ?_) (fun h9 => absurd h9 (by decide +kernel))
        refine j_aload_n C dX8_planCell_52 0 rfl rfl ?_
        refine j_iload_n C dX8_planCell_53 1 rfl rfl ?_
        refine j_callVM C rw_ (nA := 1) (As := [.int (nI c)]) (wr := [(rle, cZ (xT X) 9150 (fun j => bI (le j))), (rpa, cI (xT X) 61 pt)]) (c_X8_arrivalOf (xl X) (xT X) h8 rv rn rnw rt rd rk rik rdk rre rle rhe rth rpa ror na nx (nI 0) bv bo ac ap an ash aob arq dk re c (by exact hap) (by exact hac) (by exact hco) (by omega)) gX8_planCell_X8_arrivalOf rfl (by decide +kernel) rfl (by decide) (by decide) [7, 0, 1, 2, 3, 4] [5, 6] rfl rfl rfl rfl (by decide) 7 rfl rfl (rest := []) rfl (Nat.le_of_ble_eq_true rfl) dX8_planCell_54 ?_
        rintro _ _ ⟨r_1, rfl, rfl, hr⟩
        show jj X 0 0 57 [(0, .ref h8), (1, .int (nI c)), (2, .int (nI i))] [.int r_1] [(rle, cZ (xT X) 9150 (fun j => bI (le j))), (rpa, cI (xT X) 61 pt), (h8, cO 8 [.int (nI 0), .ref rv, .ref rn, .ref rnw, .ref rt, .ref rd, .int (nI na), .int (nI nx), .ref rk, .ref rik, .ref rdk, .ref rre, .ref rle, .ref rhe, .ref rth, .ref rpa, .ref ror, .int bv, .int bo]), (rv, cI (xT X) 450 cvec), (rn, cI (xT X) 600 (fun j => nI (near4 j))), (rnw, cI (xT X) 37 (rowF ac ap ash an aob arq)), (rdk, cZ (xT X) 15300 (fun j => bI (flB (dkP aob ac) dk (150 * (60 + 1)) j))), (rre, cZ (xT X) 9150 (fun j => bI (flB (rcP aob ac ap) re (150 * (60 + 1)) j)))]
        refine j_istore_n C dX8_planCell_57 rfl (by decide) (lv' := [(3, .int r_1), (0, .ref h8), (1, .int (nI c)), (2, .int (nI i))]) rfl ?_
        refine j_iload_n C dX8_planCell_58 0 rfl rfl ?_
        refine j_bipush C dX8_planCell_59 (v := (-9)) kc_b_m9 ?_
        refine j_icmp_eq C dX8_planCell_61 (tgt := 69) (by decide) (fun q61 => ?_) (fun q61 => ?_)
        · skip
          refine j_bipush C dX8_planCell_69 (v := (-9)) kc_b_m9 ?_
          refine j_perm C (w' := [(h8, cO 8 [.int (nI 0), .ref rv, .ref rn, .ref rnw, .ref rt, .ref rd, .int (nI na), .int (nI nx), .ref rk, .ref rik, .ref rdk, .ref rre, .ref rle, .ref rhe, .ref rth, .ref rpa, .ref ror, .int bv, .int bo]), (rv, cI (xT X) 450 cvec), (rn, cI (xT X) 600 (fun j => nI (near4 j))), (rnw, cI (xT X) 37 (rowF ac ap ash an aob arq)), (rdk, cZ (xT X) 15300 (fun j => bI (flB (dkP aob ac) dk (150 * (60 + 1)) j))), (rre, cZ (xT X) 9150 (fun j => bI (flB (rcP aob ac ap) re (150 * (60 + 1)) j))), (rle, cZ (xT X) 9150 (fun j => bI (le j))), (rpa, cI (xT X) 61 pt)]) [2, 3, 4, 5, 6, 7, 0, 1] rfl rfl ?_
          refine j_iretM C rw_ hQ (by decide) (by decide) rfl ?_ dX8_planCell_71
          exact ⟨0, _, rfl, Or.inr ⟨rfl, c, i, _, _, rfl, rfl, by omega, rfl, by omega, bI_ne1 q36, -9, q61 ▸ hr, Or.inl ⟨rfl, rfl⟩⟩⟩
        · skip
          rcases hr with ⟨st9, hs0, hs1, hs2, hs3, rfl⟩ | ⟨-, e9⟩
          rotate_left
          · exact absurd e9 q61
          refine j_iload_n C dX8_planCell_64 3 rfl rfl ?_
          refine j_iload_n C dX8_planCell_65 0 rfl rfl ?_
          refine j_icmp_le C dX8_planCell_66 (tgt := 72) (by decide) (fun q66 => ?_) (fun q66 => ?_)
          · skip
            have q66 := (kn_le (a := i) (b := st9) (by omega) (by omega)).mp q66
            refine j_aload_n C dX8_planCell_72 1 rfl rfl ?_
            refine j_iload_n C dX8_planCell_73 2 rfl rfl ?_
            refine j_iload_n C dX8_planCell_74 0 rfl rfl ?_
            refine j_callVM C rw_ (nA := 2) (As := [.int (nI c), .int (nI st9)]) (wr := [(rv, cI (xT X) 450 cvec), (rdk, cZ (xT X) 15300 (fun j => bI (flB (dkP aob ac) dk (150 * (60 + 1)) j)))]) (c_X8_layPath (xl X) (xT X) h8 rv rn rnw rt rd rk rik rdk rre rle rhe rth rpa ror na nx (nI 0) bv bo ac ap an ash aob arq c st9 (flB (rcP aob ac ap) re (150 * (60 + 1))) le pt (by exact hap) (by omega) (by exact hs1) (by exact hs2) (by intro s hs c hc; rw [flB_v (by omega), rcP_v hc])) gX8_planCell_X8_layPath rfl (by decide +kernel) rfl (by decide) (by decide) [2, 4, 5, 7, 0, 1] [3, 6] rfl rfl rfl rfl (by decide) 2 rfl rfl (rest := []) rfl (Nat.le_of_ble_eq_true rfl) dX8_planCell_75 ?_
            rintro _ _ ⟨le'_2, pt'_3, rfl, rfl, hpt⟩
            show jj X 0 0 78 [(3, .int (nI st9)), (0, .ref h8), (1, .int (nI c)), (2, .int (nI i))] [] [(rv, cI (xT X) 450 cvec), (rdk, cZ (xT X) 15300 (fun j => bI (flB (dkP aob ac) dk (150 * (60 + 1)) j))), (h8, cO 8 [.int (nI 0), .ref rv, .ref rn, .ref rnw, .ref rt, .ref rd, .int (nI na), .int (nI nx), .ref rk, .ref rik, .ref rdk, .ref rre, .ref rle, .ref rhe, .ref rth, .ref rpa, .ref ror, .int bv, .int bo]), (rn, cI (xT X) 600 (fun j => nI (near4 j))), (rnw, cI (xT X) 37 (rowF ac ap ash an aob arq)), (rre, cZ (xT X) 9150 (fun j => bI ((flB (rcP aob ac ap) re (150 * (60 + 1))) j))), (rle, cZ (xT X) 9150 (fun j => bI (le'_2 j))), (rpa, cI (xT X) 61 pt'_3)]
            refine j_aload_n C dX8_planCell_78 1 rfl rfl ?_
            refine j_get C (hin8) (ci := 8) rfl 15 (by decide) (hl47) 2 rfl (v := .ref rpa) rfl dX8_planCell_79 ?_
            refine j_iload_n C dX8_planCell_82 3 rfl rfl ?_
            refine j_ialoadN C i rfl 7 rfl (by omega) (by decide) dX8_planCell_83 ?_
            refine j_perm C (w' := [(h8, cO 8 [.int (nI 0), .ref rv, .ref rn, .ref rnw, .ref rt, .ref rd, .int (nI na), .int (nI nx), .ref rk, .ref rik, .ref rdk, .ref rre, .ref rle, .ref rhe, .ref rth, .ref rpa, .ref ror, .int bv, .int bo]), (rv, cI (xT X) 450 cvec), (rn, cI (xT X) 600 (fun j => nI (near4 j))), (rnw, cI (xT X) 37 (rowF ac ap ash an aob arq)), (rdk, cZ (xT X) 15300 (fun j => bI (flB (dkP aob ac) dk (150 * (60 + 1)) j))), (rre, cZ (xT X) 9150 (fun j => bI ((flB (rcP aob ac ap) re (150 * (60 + 1))) j))), (rle, cZ (xT X) 9150 (fun j => bI (le'_2 j))), (rpa, cI (xT X) 61 pt'_3)]) [2, 0, 3, 4, 1, 5, 6, 7] rfl rfl ?_
            refine j_iretM C rw_ hQ (by decide) (by decide) rfl ?_ dX8_planCell_84
            exact ⟨0, _, rfl, Or.inr ⟨rfl, c, i, _, _, rfl, rfl, by omega, rfl, by omega, bI_ne1 q36, ⟨nI st9, Or.inl ⟨st9, hs0, hs1, hs2, hs3, rfl⟩, Or.inr ⟨st9, rfl, hs1, Or.inr ⟨by omega, hpt i (by omega)⟩⟩⟩⟩⟩
          · skip
            have q66 := (kn_nle (a := i) (b := st9) (by omega) (by omega)).mp q66
            refine j_bipush C dX8_planCell_69 (v := (-9)) kc_b_m9 ?_
            refine j_perm C (w' := [(h8, cO 8 [.int (nI 0), .ref rv, .ref rn, .ref rnw, .ref rt, .ref rd, .int (nI na), .int (nI nx), .ref rk, .ref rik, .ref rdk, .ref rre, .ref rle, .ref rhe, .ref rth, .ref rpa, .ref ror, .int bv, .int bo]), (rv, cI (xT X) 450 cvec), (rn, cI (xT X) 600 (fun j => nI (near4 j))), (rnw, cI (xT X) 37 (rowF ac ap ash an aob arq)), (rdk, cZ (xT X) 15300 (fun j => bI (flB (dkP aob ac) dk (150 * (60 + 1)) j))), (rre, cZ (xT X) 9150 (fun j => bI (flB (rcP aob ac ap) re (150 * (60 + 1)) j))), (rle, cZ (xT X) 9150 (fun j => bI (le j))), (rpa, cI (xT X) 61 pt)]) [2, 3, 4, 5, 6, 7, 0, 1] rfl rfl ?_
            refine j_iretM C rw_ hQ (by decide) (by decide) rfl ?_ dX8_planCell_71
            exact ⟨0, _, rfl, Or.inr ⟨rfl, c, i, _, _, rfl, rfl, by omega, rfl, by omega, bI_ne1 q36, ⟨nI st9, Or.inl ⟨st9, hs0, hs1, hs2, hs3, rfl⟩, Or.inr ⟨st9, rfl, hs1, Or.inl ⟨by omega, rfl⟩⟩⟩⟩⟩
      · skip
        refine j_iconst C dX8_planCell_39 (v := (nI 3)) kc_i_3 ?_
        refine j_goto C dX8_planCell_40 (tgt := 44) (by decide) ?_
        refine j_callVM C rw_ (nA := 1) (As := [.int (nI 3)]) (wr := [(rv, cI (xT X) 450 cvec), (rn, cI (xT X) 600 (fun j => nI (near4 j))), (rnw, cI (xT X) 37 (rowF ac ap ash an aob arq)), (rdk, cZ (xT X) 15300 (fun j => bI (dk j))), (rre, cZ (xT X) 9150 (fun j => bI (re j))), (rle, cZ (xT X) 9150 (fun j => bI (le j))), (rpa, cI (xT X) 61 pt)]) (c_X8_refused_s (xl X) (xT X) h8 rv rn rnw rt rd rk rik rdk rre rle rhe rth rpa ror na nx rf bv bo 3 (by omega) (by omega)) gX8_planCell_X8_refused rfl (by decide +kernel) rfl (by decide) (by decide) [0] [1, 2, 3, 4, 5, 6, 7] rfl rfl rfl rfl (by decide) 0 rfl rfl (rest := []) rfl (Nat.le_of_ble_eq_true rfl) dX8_planCell_44 ?_
        rintro _ _ ⟨rfl, rfl⟩
        show jj X 0 0 47 [(0, .ref h8), (1, .int (nI c)), (2, .int (nI i))] [.int (bI true)] [(rv, cI (xT X) 450 cvec), (rn, cI (xT X) 600 (fun j => nI (near4 j))), (rnw, cI (xT X) 37 (rowF ac ap ash an aob arq)), (rdk, cZ (xT X) 15300 (fun j => bI (dk j))), (rre, cZ (xT X) 9150 (fun j => bI (re j))), (rle, cZ (xT X) 9150 (fun j => bI (le j))), (rpa, cI (xT X) 61 pt), (h8, cO 8 [.int (nI 3), .ref rv, .ref rn, .ref rnw, .ref rt, .ref rd, .int (nI na), .int (nI nx), .ref rk, .ref rik, .ref rdk, .ref rre, .ref rle, .ref rhe, .ref rth, .ref rpa, .ref ror, .int bv, .int bo])]
        refine j_if_eq C dX8_planCell_47 (tgt := 52) (by decide) (fun h9 => absurd h9 (by decide +kernel)) (fun _ => ?_)
        refine j_iconst C dX8_planCell_50 (v := (nI 0)) kc_i_0 ?_
        refine j_perm C (w' := [(h8, cO 8 [.int (nI 3), .ref rv, .ref rn, .ref rnw, .ref rt, .ref rd, .int (nI na), .int (nI nx), .ref rk, .ref rik, .ref rdk, .ref rre, .ref rle, .ref rhe, .ref rth, .ref rpa, .ref ror, .int bv, .int bo]), (rv, cI (xT X) 450 cvec), (rn, cI (xT X) 600 (fun j => nI (near4 j))), (rnw, cI (xT X) 37 (rowF ac ap ash an aob arq)), (rdk, cZ (xT X) 15300 (fun j => bI (dk j))), (rre, cZ (xT X) 9150 (fun j => bI (re j))), (rle, cZ (xT X) 9150 (fun j => bI (le j))), (rpa, cI (xT X) 61 pt)]) [7, 0, 1, 2, 3, 4, 5, 6] rfl rfl ?_
        refine j_iretM C rw_ hQ (by decide) (by decide) rfl ?_ dX8_planCell_51
        exact ⟨3, _, rfl, Or.inl ⟨rfl, Or.inr (Or.inr ⟨rfl, q5, q21, bI_eq1 q36⟩)⟩⟩
    · skip
      have q21 := (kb_nne).mp q21
      refine j_iconst C dX8_planCell_24 (v := (nI 2)) kc_i_2 ?_
      refine j_goto C dX8_planCell_25 (tgt := 44) (by decide) ?_
      refine j_callVM C rw_ (nA := 1) (As := [.int (nI 2)]) (wr := [(rv, cI (xT X) 450 cvec), (rn, cI (xT X) 600 (fun j => nI (near4 j))), (rnw, cI (xT X) 37 (rowF ac ap ash an aob arq)), (rdk, cZ (xT X) 15300 (fun j => bI (dk j))), (rre, cZ (xT X) 9150 (fun j => bI (re j))), (rle, cZ (xT X) 9150 (fun j => bI (le j))), (rpa, cI (xT X) 61 pt)]) (c_X8_refused_s (xl X) (xT X) h8 rv rn rnw rt rd rk rik rdk rre rle rhe rth rpa ror na nx rf bv bo 2 (by omega) (by omega)) gX8_planCell_X8_refused rfl (by decide +kernel) rfl (by decide) (by decide) [0] [1, 2, 3, 4, 5, 6, 7] rfl rfl rfl rfl (by decide) 0 rfl rfl (rest := []) rfl (Nat.le_of_ble_eq_true rfl) dX8_planCell_44 ?_
      rintro _ _ ⟨rfl, rfl⟩
      show jj X 0 0 47 [(0, .ref h8), (1, .int (nI c)), (2, .int y)] [.int (bI true)] [(rv, cI (xT X) 450 cvec), (rn, cI (xT X) 600 (fun j => nI (near4 j))), (rnw, cI (xT X) 37 (rowF ac ap ash an aob arq)), (rdk, cZ (xT X) 15300 (fun j => bI (dk j))), (rre, cZ (xT X) 9150 (fun j => bI (re j))), (rle, cZ (xT X) 9150 (fun j => bI (le j))), (rpa, cI (xT X) 61 pt), (h8, cO 8 [.int (nI 2), .ref rv, .ref rn, .ref rnw, .ref rt, .ref rd, .int (nI na), .int (nI nx), .ref rk, .ref rik, .ref rdk, .ref rre, .ref rle, .ref rhe, .ref rth, .ref rpa, .ref ror, .int bv, .int bo])]
      refine j_if_eq C dX8_planCell_47 (tgt := 52) (by decide) (fun h9 => absurd h9 (by decide +kernel)) (fun _ => ?_)
      refine j_iconst C dX8_planCell_50 (v := (nI 0)) kc_i_0 ?_
      refine j_perm C (w' := [(h8, cO 8 [.int (nI 2), .ref rv, .ref rn, .ref rnw, .ref rt, .ref rd, .int (nI na), .int (nI nx), .ref rk, .ref rik, .ref rdk, .ref rre, .ref rle, .ref rhe, .ref rth, .ref rpa, .ref ror, .int bv, .int bo]), (rv, cI (xT X) 450 cvec), (rn, cI (xT X) 600 (fun j => nI (near4 j))), (rnw, cI (xT X) 37 (rowF ac ap ash an aob arq)), (rdk, cZ (xT X) 15300 (fun j => bI (dk j))), (rre, cZ (xT X) 9150 (fun j => bI (re j))), (rle, cZ (xT X) 9150 (fun j => bI (le j))), (rpa, cI (xT X) 61 pt)]) [7, 0, 1, 2, 3, 4, 5, 6] rfl rfl ?_
      refine j_iretM C rw_ hQ (by decide) (by decide) rfl ?_ dX8_planCell_51
      exact ⟨2, _, rfl, Or.inl ⟨rfl, Or.inr (Or.inl ⟨rfl, q5, q21⟩)⟩⟩
  · skip
    have q5 := (kb_nne).mp q5
    refine j_iconst C dX8_planCell_8 (v := (nI 1)) kc_i_1 ?_
    refine j_goto C dX8_planCell_9 (tgt := 44) (by decide) ?_
    refine j_callVM C rw_ (nA := 1) (As := [.int (nI 1)]) (wr := [(rv, cI (xT X) 450 cvec), (rn, cI (xT X) 600 (fun j => nI (near4 j))), (rnw, cI (xT X) 37 (rowF ac ap ash an aob arq)), (rdk, cZ (xT X) 15300 (fun j => bI (dk j))), (rre, cZ (xT X) 9150 (fun j => bI (re j))), (rle, cZ (xT X) 9150 (fun j => bI (le j))), (rpa, cI (xT X) 61 pt)]) (c_X8_refused_s (xl X) (xT X) h8 rv rn rnw rt rd rk rik rdk rre rle rhe rth rpa ror na nx rf bv bo 1 (by omega) (by omega)) gX8_planCell_X8_refused rfl (by decide +kernel) rfl (by decide) (by decide) [0] [1, 2, 3, 4, 5, 6, 7] rfl rfl rfl rfl (by decide) 0 rfl rfl (rest := []) rfl (Nat.le_of_ble_eq_true rfl) dX8_planCell_44 ?_
    rintro _ _ ⟨rfl, rfl⟩
    show jj X 0 0 47 [(0, .ref h8), (1, .int x), (2, .int y)] [.int (bI true)] [(rv, cI (xT X) 450 cvec), (rn, cI (xT X) 600 (fun j => nI (near4 j))), (rnw, cI (xT X) 37 (rowF ac ap ash an aob arq)), (rdk, cZ (xT X) 15300 (fun j => bI (dk j))), (rre, cZ (xT X) 9150 (fun j => bI (re j))), (rle, cZ (xT X) 9150 (fun j => bI (le j))), (rpa, cI (xT X) 61 pt), (h8, cO 8 [.int (nI 1), .ref rv, .ref rn, .ref rnw, .ref rt, .ref rd, .int (nI na), .int (nI nx), .ref rk, .ref rik, .ref rdk, .ref rre, .ref rle, .ref rhe, .ref rth, .ref rpa, .ref ror, .int bv, .int bo])]
    refine j_if_eq C dX8_planCell_47 (tgt := 52) (by decide) (fun h9 => absurd h9 (by decide +kernel)) (fun _ => ?_)
    refine j_iconst C dX8_planCell_50 (v := (nI 0)) kc_i_0 ?_
    refine j_perm C (w' := [(h8, cO 8 [.int (nI 1), .ref rv, .ref rn, .ref rnw, .ref rt, .ref rd, .int (nI na), .int (nI nx), .ref rk, .ref rik, .ref rdk, .ref rre, .ref rle, .ref rhe, .ref rth, .ref rpa, .ref ror, .int bv, .int bo]), (rv, cI (xT X) 450 cvec), (rn, cI (xT X) 600 (fun j => nI (near4 j))), (rnw, cI (xT X) 37 (rowF ac ap ash an aob arq)), (rdk, cZ (xT X) 15300 (fun j => bI (dk j))), (rre, cZ (xT X) 9150 (fun j => bI (re j))), (rle, cZ (xT X) 9150 (fun j => bI (le j))), (rpa, cI (xT X) 61 pt)]) [7, 0, 1, 2, 3, 4, 5, 6] rfl rfl ?_
    refine j_iretM C rw_ hQ (by decide) (by decide) rfl ?_ dX8_planCell_51
    exact ⟨1, _, rfl, Or.inl ⟨rfl, Or.inl ⟨rfl, q5⟩⟩⟩
