abbrev vwCl : List vw_C := [(RX0, TX0, 1), (RX1, TX1, 3), (RX2, TX2, 4), (RX3, TX3, 8), (RX4, TX4, 8), (RX5, TX5, 4), (RX6, TX6, 6), (RX7, TX7, 8), (RX8, TX8, 19)]
/-! constants and comparisons of numbers in the form nI n -/
theorem kc_i_0 : Int32.ofInt 0 = nI 0 := by decide +kernel
theorem kc_i_1 : Int32.ofInt 1 = nI 1 := by decide +kernel
theorem kc_i_2 : Int32.ofInt 2 = nI 2 := by decide +kernel
theorem kc_i_3 : Int32.ofInt 3 = nI 3 := by decide +kernel
theorem kc_i_4 : Int32.ofInt 4 = nI 4 := by decide +kernel
theorem kc_i_5 : Int32.ofInt 5 = nI 5 := by decide +kernel
theorem kc_i_m1 : Int32.ofInt (-1) = (-1) := by decide +kernel
theorem kc_b_6 : (Int8.ofInt 6).toInt32 = nI 6 := by decide +kernel
theorem kc_b_7 : (Int8.ofInt 7).toInt32 = nI 7 := by decide +kernel
theorem kc_b_8 : (Int8.ofInt 8).toInt32 = nI 8 := by decide +kernel
theorem kc_b_9 : (Int8.ofInt 9).toInt32 = nI 9 := by decide +kernel
theorem kc_b_10 : (Int8.ofInt 10).toInt32 = nI 10 := by decide +kernel
theorem kc_b_12 : (Int8.ofInt 12).toInt32 = nI 12 := by decide +kernel
theorem kc_b_14 : (Int8.ofInt 14).toInt32 = nI 14 := by decide +kernel
theorem kc_b_16 : (Int8.ofInt 16).toInt32 = nI 16 := by decide +kernel
theorem kc_b_20 : (Int8.ofInt 20).toInt32 = nI 20 := by decide +kernel
theorem kc_b_21 : (Int8.ofInt 21).toInt32 = nI 21 := by decide +kernel
theorem kc_b_22 : (Int8.ofInt 22).toInt32 = nI 22 := by decide +kernel
theorem kc_b_23 : (Int8.ofInt 23).toInt32 = nI 23 := by decide +kernel
theorem kc_b_24 : (Int8.ofInt 24).toInt32 = nI 24 := by decide +kernel
theorem kc_b_25 : (Int8.ofInt 25).toInt32 = nI 25 := by decide +kernel
theorem kc_b_30 : (Int8.ofInt 30).toInt32 = nI 30 := by decide +kernel
theorem kc_b_32 : (Int8.ofInt 32).toInt32 = nI 32 := by decide +kernel
theorem kc_b_33 : (Int8.ofInt 33).toInt32 = nI 33 := by decide +kernel
theorem kc_b_37 : (Int8.ofInt 37).toInt32 = nI 37 := by decide +kernel
theorem kc_b_40 : (Int8.ofInt 40).toInt32 = nI 40 := by decide +kernel
theorem kc_b_60 : (Int8.ofInt 60).toInt32 = nI 60 := by decide +kernel
theorem kc_b_61 : (Int8.ofInt 61).toInt32 = nI 61 := by decide +kernel
theorem kc_b_63 : (Int8.ofInt 63).toInt32 = nI 63 := by decide +kernel
theorem kc_b_64 : (Int8.ofInt 64).toInt32 = nI 64 := by decide +kernel
theorem kc_b_74 : (Int8.ofInt 74).toInt32 = nI 74 := by decide +kernel
theorem kc_b_99 : (Int8.ofInt 99).toInt32 = nI 99 := by decide +kernel
theorem kc_b_100 : (Int8.ofInt 100).toInt32 = nI 100 := by decide +kernel
theorem kc_b_127 : (Int8.ofInt 127).toInt32 = nI 127 := by decide +kernel
theorem kc_b_m5 : (Int8.ofInt (-5)).toInt32 = (-5) := by decide +kernel
theorem kc_b_m9 : (Int8.ofInt (-9)).toInt32 = (-9) := by decide +kernel
theorem kc_b_m110 : (Int8.ofInt (-110)).toInt32 = (-110) := by decide +kernel
theorem kc_b_m4 : (Int8.ofInt (-4)).toInt32 = (-4) := by decide +kernel
theorem kc_b_m99 : (Int8.ofInt (-99)).toInt32 = (-99) := by decide +kernel
theorem kc_s_150 : (Int16.ofInt 150).toInt32 = nI 150 := by decide +kernel
theorem kc_s_200 : (Int16.ofInt 200).toInt32 = nI 200 := by decide +kernel
theorem kc_s_300 : (Int16.ofInt 300).toInt32 = nI 300 := by decide +kernel
theorem kc_s_301 : (Int16.ofInt 301).toInt32 = nI 301 := by decide +kernel
theorem kc_s_450 : (Int16.ofInt 450).toInt32 = nI 450 := by decide +kernel
theorem kc_s_518 : (Int16.ofInt 518).toInt32 = nI 518 := by decide +kernel
theorem kc_s_600 : (Int16.ofInt 600).toInt32 = nI 600 := by decide +kernel
theorem kc_s_1000 : (Int16.ofInt 1000).toInt32 = nI 1000 := by decide +kernel
theorem kc_s_9150 : (Int16.ofInt 9150).toInt32 = nI 9150 := by decide +kernel
theorem kc_s_15300 : (Int16.ofInt 15300).toInt32 = nI 15300 := by decide +kernel
theorem kc_inc (e : Nat) : nI e + Int32.ofInt 1 = nI (e + 1) := by rw [kc_i_1]; exact nI_add e 1
theorem kc_dec (e : Nat) : nI (e + 1) + Int32.ofInt (-1) = nI e := by rw [kc_i_m1]; exact pk_m1 e
theorem kc_inck_2 : Int32.ofInt 2 = nI 2 := by decide +kernel
theorem kc_inck_3 : Int32.ofInt 3 = nI 3 := by decide +kernel
theorem kc_inck_5 : Int32.ofInt 5 = nI 5 := by decide +kernel
theorem kn_lt {a b : Nat} (ha : a < 2 ^ 31) (hb : b < 2 ^ 31) : nI a < nI b ↔ a < b := nI_ltI ha hb
theorem kn_gt {a b : Nat} (ha : a < 2 ^ 31) (hb : b < 2 ^ 31) : nI b < nI a ↔ b < a := nI_ltI hb ha
theorem kn_le {a b : Nat} (ha : a < 2 ^ 31) (hb : b < 2 ^ 31) : nI a ≤ nI b ↔ a ≤ b := nI_leI ha hb
theorem kn_ge {a b : Nat} (ha : a < 2 ^ 31) (hb : b < 2 ^ 31) : nI b ≤ nI a ↔ b ≤ a := nI_leI hb ha
theorem kn_eq {a b : Nat} (ha : a < 2 ^ 31) (hb : b < 2 ^ 31) : nI a = nI b ↔ a = b := nI_eq ha hb
theorem kn_ne {a b : Nat} (ha : a < 2 ^ 31) (hb : b < 2 ^ 31) : ¬ nI a = nI b ↔ a ≠ b := not_congr (nI_eq ha hb)
theorem kn_nlt {a b : Nat} (ha : a < 2 ^ 31) (hb : b < 2 ^ 31) : ¬ nI a < nI b ↔ b ≤ a := (not_congr (nI_ltI ha hb)).trans Nat.not_lt
theorem kn_ngt {a b : Nat} (ha : a < 2 ^ 31) (hb : b < 2 ^ 31) : ¬ nI b < nI a ↔ a ≤ b := (not_congr (nI_ltI hb ha)).trans Nat.not_lt
theorem kn_nle {a b : Nat} (ha : a < 2 ^ 31) (hb : b < 2 ^ 31) : ¬ nI a ≤ nI b ↔ b < a := (not_congr (nI_leI ha hb)).trans Nat.not_le
theorem kn_nge {a b : Nat} (ha : a < 2 ^ 31) (hb : b < 2 ^ 31) : ¬ nI b ≤ nI a ↔ a < b := (not_congr (nI_leI hb ha)).trans Nat.not_le
theorem kn_neq {a b : Nat} (ha : a < 2 ^ 31) (hb : b < 2 ^ 31) : ¬ nI a = nI b ↔ a ≠ b := not_congr (nI_eq ha hb)
theorem kn_nne {a b : Nat} (ha : a < 2 ^ 31) (hb : b < 2 ^ 31) : nI a = nI b ↔ a = b := nI_eq ha hb
theorem kz_lt {a : Nat} (ha : a < 2 ^ 31) : nI a < 0 ↔ False := iff_false_intro (nI_pos ha)
theorem kz_nlt {a : Nat} (ha : a < 2 ^ 31) : ¬ nI a < 0 ↔ True := iff_true_intro (nI_pos ha)
theorem kz_ge {a : Nat} (ha : a < 2 ^ 31) : 0 ≤ nI a ↔ True := iff_true_intro (nI_pos' ha)
theorem kz_nge {a : Nat} (ha : a < 2 ^ 31) : ¬ 0 ≤ nI a ↔ False := iff_false_intro (fun h => h (nI_pos' ha))
theorem kz_gt {a : Nat} (ha : a < 2 ^ 31) : 0 < nI a ↔ 0 < a := kn_gt (b := 0) ha (by decide)
theorem kz_ngt {a : Nat} (ha : a < 2 ^ 31) : ¬ 0 < nI a ↔ a = 0 := (kn_ngt (b := 0) ha (by decide)).trans Nat.le_zero
theorem kz_le {a : Nat} (ha : a < 2 ^ 31) : nI a ≤ 0 ↔ a = 0 := (kn_le (b := 0) ha (by decide)).trans Nat.le_zero
theorem kz_nle {a : Nat} (ha : a < 2 ^ 31) : ¬ nI a ≤ 0 ↔ 0 < a := kn_nle (b := 0) ha (by decide)
theorem kz_eq {a : Nat} (ha : a < 2 ^ 31) : nI a = 0 ↔ a = 0 := kn_eq (b := 0) ha (by decide)
theorem kz_neq {a : Nat} (ha : a < 2 ^ 31) : ¬ nI a = 0 ↔ a ≠ 0 := kn_neq (b := 0) ha (by decide)
theorem kz_ne {a : Nat} (ha : a < 2 ^ 31) : ¬ nI a = 0 ↔ a ≠ 0 := kn_neq (b := 0) ha (by decide)
theorem kz_nne {a : Nat} (ha : a < 2 ^ 31) : nI a = 0 ↔ a = 0 := kn_eq (b := 0) ha (by decide)
theorem kl_n (x y : Int64) : ¬ x ≤ y ↔ y < x := by rw [Int64.le_iff_toInt_le, Int64.lt_iff_toInt_lt]; exact Int.not_le
theorem kl_m (x y : Int64) : ¬ x < y ↔ y ≤ x := by rw [Int64.le_iff_toInt_le, Int64.lt_iff_toInt_lt]; exact Int.not_lt
theorem kl_lt {x y : Int64} : lg_cmp x y < 0 ↔ x < y := lg_cmp_lt x y
theorem kl_nlt {x y : Int64} : ¬ lg_cmp x y < 0 ↔ y ≤ x := (not_congr (lg_cmp_lt x y)).trans (kl_m x y)
theorem kl_ge {x y : Int64} : 0 ≤ lg_cmp x y ↔ y ≤ x := lg_cmp_ge x y
theorem kl_nge {x y : Int64} : ¬ 0 ≤ lg_cmp x y ↔ x < y := (not_congr (lg_cmp_ge x y)).trans (kl_n y x)
theorem kl_gt {x y : Int64} : 0 < lg_cmp x y ↔ y < x := lg_cmp_gt x y
theorem kl_ngt {x y : Int64} : ¬ 0 < lg_cmp x y ↔ x ≤ y := (not_congr (lg_cmp_gt x y)).trans (kl_m y x)
theorem kl_le {x y : Int64} : lg_cmp x y ≤ 0 ↔ x ≤ y := lg_cmp_le x y
theorem kl_nle {x y : Int64} : ¬ lg_cmp x y ≤ 0 ↔ y < x := (not_congr (lg_cmp_le x y)).trans (kl_n x y)
theorem kl_eq {x y : Int64} : lg_cmp x y = 0 ↔ x = y := lg_cmp_eq x y
theorem kl_neq {x y : Int64} : ¬ lg_cmp x y = 0 ↔ x ≠ y := not_congr (lg_cmp_eq x y)
theorem kl_ne {x y : Int64} : ¬ lg_cmp x y = 0 ↔ x ≠ y := not_congr (lg_cmp_eq x y)
theorem kl_nne {x y : Int64} : lg_cmp x y = 0 ↔ x = y := lg_cmp_eq x y
def bI (b : Bool) : Int32 := if b then 1 else 0
theorem kb_eq {b : Bool} : bI b = 0 ↔ b = false := by cases b <;> simp [bI]
theorem kb_neq {b : Bool} : ¬ bI b = 0 ↔ b = true := by cases b <;> simp [bI]
theorem kb_ne {b : Bool} : ¬ bI b = 0 ↔ b = true := kb_neq
theorem kb_nne {b : Bool} : bI b = 0 ↔ b = false := kb_eq
theorem bI_t : bI true = nI 1 := by decide +kernel
theorem bI_f : bI false = nI 0 := by decide +kernel
theorem bI_nar (b : Bool) : narrow .boolean (.int (bI b)) = .int (bI b) := by cases b <;> decide +kernel
theorem bI_fits (b : Bool) : fits .boolean (.int (bI b)) = true := by cases b <;> decide +kernel
theorem bI_nr (b : Bool) : vp_nar .boolean (bI b) = bI b := by cases b <;> decide +kernel
theorem bI_n1 : vp_nar .boolean (nI 1) = bI true := by decide +kernel
theorem bI_n0 : vp_nar .boolean (nI 0) = bI false := by decide +kernel
theorem kb_t {e : Bool} (h : e = true) : some (Value.int (nI 1)) = some (.int (bI e)) := by rw [h, bI_t]
theorem kb_f {e : Bool} (h : e = false) : some (Value.int (nI 0)) = some (.int (bI e)) := by rw [h, bI_f]
theorem ki_e {a b : Int32} (h : a = b) : some (Value.int a) = some (.int b) := by rw [h]
theorem kn_e {a b : Nat} (h : a = b) : some (Value.int (nI a)) = some (.int (nI b)) := by rw [h]
theorem kj_e {a b : Int64} (h : a = b) : some (Value.long a) = some (.long b) := by rw [h]
theorem up_s (f : Nat → Int32) (k : Nat) (x : Int32) : upd f k x k = x := by simp [upd]
theorem up_n {f : Nat → Int32} {k j : Nat} {x : Int32} (h : j ≠ k) : upd f k x j = f j := by simp [upd, h]
