/-! THE ROOTS, the cosine -/
theorem i32_add {a b : Int32} (h1 : -2147483648 ≤ a.toInt + b.toInt) (h2 : a.toInt + b.toInt ≤ 2147483647) : (a + b).toInt = a.toInt + b.toInt := by
  rw [Int32.toInt_add, Int.bmod_eq_of_le]
  all_goals omega
theorem i32_mul {a b : Int32} (h1 : -2147483648 ≤ a.toInt * b.toInt) (h2 : a.toInt * b.toInt ≤ 2147483647) : (a * b).toInt = a.toInt * b.toInt := by
  rw [Int32.toInt_mul, Int.bmod_eq_of_le]
  all_goals omega
/-- axes and drifts are sound -/
def obI (g : Nat → Int32) : Prop := ∀ o, o < 3 → ∀ k, k < 3 → inR (g (7 * o + k)) (-99) 99 = true ∧ inR (g (7 * o + k + 3)) (-9) 9 = true
theorem aim_bd {g : Nat → Int32} (h : obI g) {o k t : Nat} (ho : o < 3) (hk : k < 3) (ht : t ≤ 300) : (st_aim g o k t).toInt.natAbs ≤ 2799 := by
  obtain ⟨h1, h2⟩ := h o ho k hk
  obtain ⟨a1, a2⟩ := inR_iff.mp h1
  obtain ⟨b1, b2⟩ := inR_iff.mp h2
  have e1 := nI_toInt (n := t) (by omega)
  have m1 : (t : Int) * (g (7 * o + k + 3)).toInt ≤ (t : Int) * 9 := Int.mul_le_mul_of_nonneg_left b2 (by omega)
  have m2 : (t : Int) * (-9) ≤ (t : Int) * (g (7 * o + k + 3)).toInt := Int.mul_le_mul_of_nonneg_left b1 (by omega)
  have e2 : (nI t * g (7 * o + k + 3)).toInt = (t : Int) * (g (7 * o + k + 3)).toInt := by
    rw [i32_mul (by rw [e1]; omega) (by rw [e1]; omega), e1]
  unfold st_aim
  rw [i32_add (by rw [e2]; omega) (by rw [e2]; omega), e2]
  omega
theorem sq_one {x : Int32} (h : x.toInt.natAbs ≤ 2799) : ∃ m : Nat, (x * x).toInt = (m : Int) ∧ m ≤ 7834401 := by
  have e : x.toInt * x.toInt = ((x.toInt.natAbs * x.toInt.natAbs : Nat) : Int) := (Int.natAbs_mul_self (a := x.toInt)).symm
  have b : x.toInt.natAbs * x.toInt.natAbs ≤ 2799 * 2799 := Nat.mul_le_mul h h
  refine ⟨x.toInt.natAbs * x.toInt.natAbs, ?_, b⟩
  rw [i32_mul (by rw [e]; omega) (by rw [e]; omega), e]
theorem sq_nat {g : Nat → Int32} (h : obI g) {o t : Nat} (ho : o < 3) (ht : t ≤ 300) : ∃ m : Nat, sqA g o t = nI m ∧ m ≤ 23503203 := by
  obtain ⟨a, a1, a2⟩ := sq_one (aim_bd h ho (show 0 < 3 by decide) ht)
  obtain ⟨b, b1, b2⟩ := sq_one (aim_bd h ho (show 1 < 3 by decide) ht)
  obtain ⟨c, c1, c2⟩ := sq_one (aim_bd h ho (show 2 < 3 by decide) ht)
  refine ⟨a + b + c, ?_, by omega⟩
  apply Int32.toInt_inj.mp
  unfold sqA
  have e1 := i32_add (a := st_aim g o 0 t * st_aim g o 0 t) (b := st_aim g o 1 t * st_aim g o 1 t) (by omega) (by omega)
  rw [i32_add (by omega) (by omega), e1, a1, b1, c1, nI_toInt (by omega)]
  omega
def nOf (x : Int32) : Nat := x.toNatClampNeg
theorem nOf_nI {m : Nat} (h : m < 2147483648) : nOf (nI m) = m := by
  unfold nOf
  rw [Int32.toNatClampNeg, nI_toInt (by omega)]
  omega
theorem csq_nat : ∀ c < 150, csq c = nI (nOf (csq c)) ∧ 25 ≤ nOf (csq c) ∧ nOf (csq c) ≤ 57 := by decide +kernel
theorem isN_n {a : UInt64} (h : isN a) : vf_n64 a := by obtain ⟨X, h⟩ := h; exact dz_num h
theorem rt_pos {n : Nat} (h1 : 1 ≤ n) (h2 : n ≤ 33554432) : ∃ Y : Nat, dz (rtM n) (Y : Int) ∧ fU ≤ 16 * Y ∧ Y ≤ 1073741824 * fU := by
  obtain ⟨-, R, Z2, Y, hI, hY, hr, hv1, hv2⟩ := rt_pre h1 h2
  have hlo := nw_lo hI h1
  have hhi := nw_hi hI h2 (by decide)
  have hU := fU_ge
  obtain ⟨i1, i2⟩ := hI
  rw [ic_mul R R] at hv1 hv2
  generalize (R : Int) + Z2 = V at *
  have hR : (0 : Int) ≤ 2 * (R : Int) := by omega
  have hRR : 0 < R * R := Nat.mul_pos (by omega) (by omega)
  have hV1 : (R : Int) ≤ 2 * V := by
    refine Int.not_lt.mp fun h9 => ?_
    have m1 : 2 * (R : Int) * (2 * V) ≤ 2 * (R : Int) * (R : Int) := Int.mul_le_mul_of_nonneg_left (Int.le_of_lt h9) hR
    rw [show 2 * (R : Int) * (2 * V) = 2 * (2 * (R : Int) * V) by ac_rfl, Int.mul_assoc 2 (R : Int) (R : Int), ic_mul R R] at m1
    generalize 2 * (R : Int) * V = w at *
    generalize R * R = r at *
    generalize n * (fU * fU) = N at *
    omega
  have hV2 : V ≤ 2 * (R : Int) := by
    refine Int.not_lt.mp fun h9 => ?_
    have m1 : 2 * (R : Int) * (2 * (R : Int)) ≤ 2 * (R : Int) * V := Int.mul_le_mul_of_nonneg_left (Int.le_of_lt h9) hR
    rw [im4, ic_mul R R] at m1
    generalize 2 * (R : Int) * V = w at *
    generalize R * R = r at *
    generalize n * (fU * fU) = N at *
    omega
  obtain ⟨v, rfl⟩ : ∃ v : Nat, V = (v : Int) := ⟨V.toNat, by omega⟩
  obtain ⟨k, j, rfl, e2⟩ := rI_pos hr (by omega)
  obtain ⟨r1, r2⟩ := rn_rel e2 (by decide) (by omega)
  rw [Nat.mul_one] at r1 r2
  refine ⟨k * 2 ^ j, hY, ?_, ?_⟩
  · generalize k * 2 ^ j = y at *
    omega
  · generalize k * 2 ^ j = y at *
    omega
/-- the last three operations of a cosine -/
theorem cos_num {p : Int32} {m n : Nat} (h1 : 1 ≤ m) (h2 : m ≤ 33554432) (h3 : 1 ≤ n) (h4 : n ≤ 33554432) : isN (FP.dmul (rtM m) (rtM n)) ∧ isN (FP.ddiv (FP.i2d p) (FP.dmul (rtM m) (rtM n))) := by
  obtain ⟨x, hx, x1, x2⟩ := rt_pos h1 h2
  obtain ⟨y, hy, y1, y2⟩ := rt_pos h3 h4
  have hU := fU_ge
  have hUU : 0 < fU * fU := Nat.mul_pos fU_pos fU_pos
  have m1 : fU * fU ≤ 256 * (x * y) := by
    have := Nat.mul_le_mul x1 y1
    rw [Nat.mul_mul_mul_comm] at this
    generalize x * y = z at *
    omega
  have m2 : x * y ≤ 1152921504606846976 * (fU * fU) := by
    have := Nat.mul_le_mul x2 y2
    rw [Nat.mul_mul_mul_comm] at this
    generalize x * y = z at *
    omega
  obtain ⟨Z, hZ, hZr⟩ := dz_mul hx hy (by
    rw [ic_mul, Int.natAbs_natCast]
    refine Nat.lt_of_le_of_lt m2 ?_
    rw [← Nat.mul_assoc]
    refine Nat.mul_lt_mul_of_pos_right ?_ fU_pos
    rw [fU_e]
    exact pw_big2 (by decide) (by decide))
  rw [ic_mul] at hZr
  have hU2 : 1267650600228229401496703205376 * fU ≤ fU * fU := Nat.mul_le_mul_right _ hU
  obtain ⟨k, j, rfl, e2⟩ := rI_pos hZr (by
    generalize x * y = z at *
    omega)
  obtain ⟨r1, r2⟩ := rn_rel e2 fU_pos (by
    generalize x * y = z at *
    omega)
  refine ⟨⟨_, hZ⟩, ?_⟩
  generalize k * 2 ^ j = W at *
  have m3 : fU ≤ 512 * W := by
    refine Nat.le_of_mul_le_mul_right (c := fU) ?_ fU_pos
    rw [Nat.mul_assoc]
    generalize W * fU = q at *
    generalize x * y = z at *
    omega
  have hp := Int32.toInt_lt p
  have hp2 := Int32.le_toInt p
  have h9 : (2147483649 : Nat) ≤ 2 ^ 900 := by
    calc 2147483649 ≤ 2 ^ 32 := by decide +kernel
      _ ≤ 2 ^ 900 := Nat.pow_le_pow_right (by decide) (by decide)
  obtain ⟨P0, hP, hPr⟩ := dz_ofInt p.toInt (Nat.lt_of_lt_of_le (by omega) h9)
  have e3 := rI_ex (m := p.toInt) (i := 1074) hPr (by decide) (by omega) (by rw [Nat.mul_one]; rfl)
  rw [← fU_e] at e3
  subst e3
  have hP' : dz (FP.i2d p) (p.toInt * (fU : Int)) := hP
  obtain ⟨Q, hQ, -⟩ := dz_div hP' hZ (by omega) (by
    rw [Int.natAbs_mul, Int.natAbs_natCast, Int.natAbs_natCast]
    calc p.toInt.natAbs * fU * fU ≤ 2147483648 * fU * (512 * W) := Nat.mul_le_mul (Nat.mul_le_mul_right _ (by omega)) m3
      _ = (1099511627776 * fU) * W := by
        generalize fU = u
        rw [Nat.mul_mul_mul_comm, Nat.mul_assoc 1099511627776]
      _ < 2 ^ 2000 * W := by
        refine Nat.mul_lt_mul_of_pos_right ?_ (by omega)
        rw [fU_e]
        exact pw_big2 (by decide) (by decide))
  exact ⟨_, hQ⟩
/-- the cosine, as both sides compute it -/
def cosD (g : Nat → Int32) (c o t : Nat) : UInt64 := if sqA g o t = 0 then 9221120237041090560 else FP.ddiv (FP.i2d (dotA g c o t)) (FP.dmul (rtM (nOf (csq c))) (rtM (nOf (sqA g o t))))
/-! the digits of a root -/
def sft (k : Nat) : Int32 := nI 30 - nI (2 * k)
theorem sft_0 : sft 0 = nI 30 := by decide +kernel
theorem sft_le : ∀ k < 71, (sft k ≤ -110 ↔ 70 ≤ k) := by decide +kernel
theorem sft_lt : ∀ k < 71, (sft k < 0 ↔ 16 ≤ k) := by decide +kernel
theorem sft_n : ∀ k < 16, sft k = nI (30 - 2 * k) := by decide +kernel
theorem sft_i : ∀ k < 70, sft k + Int32.ofInt (-2) = sft (k + 1) := by decide +kernel
def dgP (n k : Nat) : Nat := if k < 16 then n / 4 ^ (16 - k) else n * 4 ^ (k - 16)
def dgD (n k : Nat) : Nat := if k < 16 then n / 2 ^ (30 - 2 * k) % 4 else 0
theorem dgD_lt (n k : Nat) : dgD n k < 4 := by unfold dgD; split <;> omega
theorem dgP_s {n k : Nat} : dgP n (k + 1) = 4 * dgP n k + dgD n k := by
  unfold dgP dgD
  by_cases h : k < 16
  · rw [if_pos h, if_pos h]
    have e1 : n / 4 ^ (16 - k) = n / 4 ^ (15 - k) / 4 := by rw [Nat.div_div_eq_div_mul, ← Nat.pow_succ, show (15 - k).succ = 16 - k by omega]
    have e2 : (2 : Nat) ^ (30 - 2 * k) = 4 ^ (15 - k) := by rw [show 30 - 2 * k = 2 * (15 - k) by omega, Nat.pow_mul]
    have e3 : (if k + 1 < 16 then n / 4 ^ (16 - (k + 1)) else n * 4 ^ (k + 1 - 16)) = n / 4 ^ (15 - k) := by
      by_cases h2 : k + 1 < 16
      · rw [if_pos h2, show 16 - (k + 1) = 15 - k by omega]
      · rw [if_neg h2, show k + 1 - 16 = 0 by omega, show 15 - k = 0 by omega, Nat.pow_zero, Nat.mul_one, Nat.div_one]
    rw [e3, e1, e2]
    omega
  · rw [if_neg h, if_neg h, if_neg (by omega), Nat.add_zero, show k + 1 - 16 = (k - 16) + 1 by omega, Nat.pow_succ]
    generalize 4 ^ (k - 16) = x
    rw [Nat.mul_left_comm 4 n x, Nat.mul_comm 4 x, Nat.add_zero]
theorem sqr_0 {a s p d : Nat} (h : a * a + s = p) : (a * 2) * (a * 2) + (s * 4 + d) = 4 * p + d := by
  rw [Nat.mul_mul_mul_comm]; omega
theorem sqr_1 {a s p d : Nat} (h : a * a + s = p) (hd : 2 * (a * 2) < s * 4 + d) : (a * 2 + 1) * (a * 2 + 1) + (s * 4 + d - (2 * (a * 2) + 1)) = 4 * p + d := by
  have e : (a * 2 + 1) * (a * 2 + 1) = 4 * (a * a) + 2 * (a * 2) + 1 := by
    simp only [Nat.add_mul, Nat.mul_add, Nat.mul_mul_mul_comm a 2 a 2]
    omega
  rw [e]
  generalize a * a = x at *
  omega
theorem lN_leB {a b : Nat} (ha : a < 9223372036854775808) (hb : b < 9223372036854775808) : lN a ≤ lN b ↔ a ≤ b := by
  rw [Int64.le_iff_toInt_le, lN_ti (by omega), lN_ti (by omega), if_pos (by omega), if_pos (by omega)]; omega
theorem lN_ltB {a b : Nat} (ha : a < 9223372036854775808) (hb : b < 9223372036854775808) : lN a < lN b ↔ a < b := by
  rw [Int64.lt_iff_toInt_lt, lN_ti (by omega), lN_ti (by omega), if_pos (by omega), if_pos (by omega)]; omega
theorem lN_sar1 {a : Nat} (ha : a < 9223372036854775808) : lN a >>> ((nI 1).toInt64 &&& 63) = lN (a / 2) := by
  rw [wb_c 1 (by decide)]
  apply Int64.toInt_inj.mp
  have e : (lN a >>> lN 1).toInt = ((lN a).toBitVec.sshiftRight' ((lN 1).toBitVec.smod 64)).toInt := rfl
  rw [e, BitVec.toInt_sshiftRight', show ((lN 1).toBitVec.smod 64).toNat = 1 by decide +kernel, Int.shiftRight_eq_div_pow]
  show (lN a).toInt / _ = _
  rw [lN_ti (by omega), if_pos (by omega), lN_ti (by omega), if_pos (by omega)]
  omega
theorem or_dig {s d : Nat} (hd : d < 4) (hs : s < 4611686018427387904) : lN (s * 2 ^ 2) ||| lN d = lN (s * 4 + d) := by
  rw [wb_or (by omega) (by omega)]
  congr 1
  rw [Nat.mul_comm]
  exact (Nat.two_pow_add_eq_or_of_lt (i := 2) hd s).symm.trans (by omega)
section JDM
variable {X : jj_X} {cc : ByteArray} {own : String} {Ts : List Cond} {R : Room} {mL : Nat} {k n pc : Nat} {lv : List (Nat × Value)} {w : va_W}
theorem j_dretM {post : Option Value → va_W → Prop} {mc ms : Nat} (C : jj_C X cc own Ts R mL (some .double)) (rw_ : jj_RW X) (hQ : jj_QM X post mc ms) (hk : k ≤ mc) (hm : n ≤ ms) {v : UInt64} (hp : post (some (.double v)) w) (d : decode cc pc = .ok (.dreturn, 1)) : jj X k n pc lv [.double v] w := by
  refine j_widen hk hm ?_
  intro H locs ls hI hl
  have hlk := C.locks
  rw [rw_.1] at hI
  rw [show xQ X = _ from hQ]
  exact W.dret C.exec C.cod C.rt (fun t ht _ => ⟨⟨_, _, rfl, hp, by rw [ht]; exact hI.1, hI.2.1⟩, hI.2.2.F ht⟩) hI.2.2.2.2 d hlk
end JDM
theorem cos_nan {g : Nat → Int32} {c o t : Nat} (h : sqA g o t = 0) : (9221120237041090560 : UInt64) = cosD g c o t := by unfold cosD; rw [if_pos h]
theorem cos_val {g : Nat → Int32} {c o t m : Nat} (h : sqA g o t = nI m) (h0 : 1 ≤ m) (hm : m ≤ 23503203) : FP.ddiv (FP.i2d (dotA g c o t)) (FP.dmul (rtM (nOf (csq c))) (rtM m)) = cosD g c o t := by
  unfold cosD
  rw [h, if_neg (fun e => by rw [(kn_eq (b := 0) (by omega) (by decide)).mp e] at h0; omega), nOf_nI (by omega)]
set_option maxHeartbeats 4000000 in
set_option maxRecDepth 100000 in
/-- root(n) -/
theorem c_X8_root (l : Launch) (T : jj_T) (n : Nat) (h1 : 1 ≤ n) (h2 : n ≤ 33554432) : jR l T yX8_root wsX8_root { frames := 0, cells := 0, slots := 0, locals := 0 } [.int (nI n)] [] (fun v => v = some (.double (rtM n))) := by
  refine jR.of (cc := cX8_root) (maxL := 13) (ret := (some .double)) (by decide) rfl (Nat.le_of_ble_eq_true rfl) ?_
  intro X C ro hl hT hQ
  subst hl; subst hT
  show jj X 0 0 0 [(0, .int (nI n))] [] []
  obtain ⟨⟨hW1, hW2, hW3⟩, -⟩ := rt_pre h1 h2
  refine j_iload_n C dX8_root_0 0 rfl rfl ?_
  refine j_if_ne C dX8_root_1 (tgt := 6) (by decide) (fun q1 => ?_) (fun q1 => ?_)
  · skip
    have q1 := (kz_ne (a := n) (by omega)).mp q1
    refine j_iload_n C dX8_root_6 0 rfl rfl ?_
    refine j_i2d C dX8_root_7 (v := FP.i2d (nI n)) rfl ?_
    refine j_dstore_n C dX8_root_8 rfl (by decide) (lv' := [(1, .double (FP.i2d (nI n))), (0, .int (nI n))]) rfl ?_
    refine j_iconst C dX8_root_9 (v := (nI 0)) kc_i_0 ?_
    refine j_istore_n C dX8_root_10 rfl (by decide) (lv' := [(3, .int (nI 0)), (1, .double (FP.i2d (nI n))), (0, .int (nI n))]) rfl ?_
    refine j_lv [2, 1, 0] rfl ?_
    suffices hc11 : ∀ (mm : Nat) (k : Nat), 40 - k < mm → (k ≤ 40) → jj X 0 0 11 [(0, .int (nI n)), (1, .double (rtR n k)), (3, .int (nI k))] [] [] by
      refine hc11 _ 0 (Nat.lt_succ_self _) ?_
      · omega
    intro mm
    induction mm with
    | zero => intro k hm; exact absurd hm (Nat.not_lt_zero _)
    | succ mm ih11 =>
      intro k hm11 hk
      refine j_iload_n C dX8_root_11 2 rfl rfl ?_
      refine j_bipush C dX8_root_12 (v := (nI 40)) kc_b_40 ?_
      refine j_icmp_ge C dX8_root_14 (tgt := 34) (by decide) (fun q14 => ?_) (fun q14 => ?_)
      · skip
        have q14 := (kn_ge (a := k) (b := 40) (by omega) (by omega)).mp q14
        have hk40 : k = 40 := by omega
        subst hk40
        show jj X 0 0 34 [(0, .int (nI n)), (1, .double (rtR n 40)), (3, .int (nI 40))] [] []
        refine j_ldc2d C dX8_root_34 (v := dDC) (by decide +kernel) ?_
        refine j_dload_n C dX8_root_37 1 rfl rfl ?_
        refine j_dmul C dX8_root_38 (isN_n hW2.1) (v := FP.dmul dDC (rtR n 40)) rfl ?_
        refine j_dstore_n C dX8_root_39 rfl (by decide) (lv' := [(3, .double (FP.dmul dDC (rtR n 40))), (0, .int (nI n)), (1, .double (rtR n 40))]) rfl ?_
        refine j_dload_n C dX8_root_40 0 rfl rfl ?_
        refine j_dload_n C dX8_root_41 0 rfl rfl ?_
        refine j_dload_n C dX8_root_42 2 rfl rfl ?_
        refine j_dsub C dX8_root_43 (isN_n hW2.2.1) (v := FP.dsub (FP.dmul dDC (rtR n 40)) (rtR n 40)) rfl ?_
        refine j_dsub C dX8_root_44 (isN_n hW2.2.2.1) (v := FP.dsub (FP.dmul dDC (rtR n 40)) (FP.dsub (FP.dmul dDC (rtR n 40)) (rtR n 40))) rfl ?_
        refine j_dstore C dX8_root_45 (by decide) (lv' := [(5, .double (FP.dsub (FP.dmul dDC (rtR n 40)) (FP.dsub (FP.dmul dDC (rtR n 40)) (rtR n 40)))), (3, .double (FP.dmul dDC (rtR n 40))), (0, .int (nI n)), (1, .double (rtR n 40))]) rfl ?_
        refine j_dload_n C dX8_root_47 3 rfl rfl ?_
        refine j_dload C dX8_root_48 0 rfl ?_
        refine j_dsub C dX8_root_50 (isN_n hW2.2.2.2.1) (v := FP.dsub (rtR n 40) (FP.dsub (FP.dmul dDC (rtR n 40)) (FP.dsub (FP.dmul dDC (rtR n 40)) (rtR n 40)))) rfl ?_
        refine j_dstore C dX8_root_51 (by decide) (lv' := [(7, .double (FP.dsub (rtR n 40) (FP.dsub (FP.dmul dDC (rtR n 40)) (FP.dsub (FP.dmul dDC (rtR n 40)) (rtR n 40))))), (5, .double (FP.dsub (FP.dmul dDC (rtR n 40)) (FP.dsub (FP.dmul dDC (rtR n 40)) (rtR n 40)))), (3, .double (FP.dmul dDC (rtR n 40))), (0, .int (nI n)), (1, .double (rtR n 40))]) rfl ?_
        refine j_dload_n C dX8_root_53 4 rfl rfl ?_
        refine j_dload_n C dX8_root_54 4 rfl rfl ?_
        refine j_dmul C dX8_root_55 (isN_n hW2.2.2.2.2.1) (v := FP.dmul (rtR n 40) (rtR n 40)) rfl ?_
        refine j_dstore C dX8_root_56 (by decide) (lv' := [(9, .double (FP.dmul (rtR n 40) (rtR n 40))), (7, .double (FP.dsub (rtR n 40) (FP.dsub (FP.dmul dDC (rtR n 40)) (FP.dsub (FP.dmul dDC (rtR n 40)) (rtR n 40))))), (5, .double (FP.dsub (FP.dmul dDC (rtR n 40)) (FP.dsub (FP.dmul dDC (rtR n 40)) (rtR n 40)))), (3, .double (FP.dmul dDC (rtR n 40))), (0, .int (nI n)), (1, .double (rtR n 40))]) rfl ?_
        refine j_dload C dX8_root_58 2 rfl ?_
        refine j_dload C dX8_root_60 2 rfl ?_
        refine j_dmul C dX8_root_62 (isN_n hW2.2.2.2.2.2.1) (v := FP.dmul (FP.dsub (FP.dmul dDC (rtR n 40)) (FP.dsub (FP.dmul dDC (rtR n 40)) (rtR n 40))) (FP.dsub (FP.dmul dDC (rtR n 40)) (FP.dsub (FP.dmul dDC (rtR n 40)) (rtR n 40)))) rfl ?_
        refine j_dload C dX8_root_63 0 rfl ?_
        refine j_dsub C dX8_root_65 (isN_n hW2.2.2.2.2.2.2.1) (v := FP.dsub (FP.dmul (FP.dsub (FP.dmul dDC (rtR n 40)) (FP.dsub (FP.dmul dDC (rtR n 40)) (rtR n 40))) (FP.dsub (FP.dmul dDC (rtR n 40)) (FP.dsub (FP.dmul dDC (rtR n 40)) (rtR n 40)))) (FP.dmul (rtR n 40) (rtR n 40))) rfl ?_
        refine j_ldc2d C dX8_root_66 (v := dD2) (by decide +kernel) ?_
        refine j_dload C dX8_root_69 2 rfl ?_
        refine j_dmul C dX8_root_71 (isN_n hW2.2.2.2.2.2.2.2.1) (v := FP.dmul dD2 (FP.dsub (FP.dmul dDC (rtR n 40)) (FP.dsub (FP.dmul dDC (rtR n 40)) (rtR n 40)))) rfl ?_
        refine j_dload C dX8_root_72 1 rfl ?_
        refine j_dmul C dX8_root_74 (isN_n hW2.2.2.2.2.2.2.2.2.1) (v := FP.dmul (FP.dmul dD2 (FP.dsub (FP.dmul dDC (rtR n 40)) (FP.dsub (FP.dmul dDC (rtR n 40)) (rtR n 40)))) (FP.dsub (rtR n 40) (FP.dsub (FP.dmul dDC (rtR n 40)) (FP.dsub (FP.dmul dDC (rtR n 40)) (rtR n 40))))) rfl ?_
        refine j_dadd C dX8_root_75 (isN_n hW2.2.2.2.2.2.2.2.2.2.1) (v := FP.dadd (FP.dsub (FP.dmul (FP.dsub (FP.dmul dDC (rtR n 40)) (FP.dsub (FP.dmul dDC (rtR n 40)) (rtR n 40))) (FP.dsub (FP.dmul dDC (rtR n 40)) (FP.dsub (FP.dmul dDC (rtR n 40)) (rtR n 40)))) (FP.dmul (rtR n 40) (rtR n 40))) (FP.dmul (FP.dmul dD2 (FP.dsub (FP.dmul dDC (rtR n 40)) (FP.dsub (FP.dmul dDC (rtR n 40)) (rtR n 40)))) (FP.dsub (rtR n 40) (FP.dsub (FP.dmul dDC (rtR n 40)) (FP.dsub (FP.dmul dDC (rtR n 40)) (rtR n 40)))))) rfl ?_
        refine j_dload C dX8_root_76 1 rfl ?_
        refine j_dload C dX8_root_78 1 rfl ?_
        refine j_dmul C dX8_root_80 (isN_n hW2.2.2.2.2.2.2.2.2.2.2.1) (v := FP.dmul (FP.dsub (rtR n 40) (FP.dsub (FP.dmul dDC (rtR n 40)) (FP.dsub (FP.dmul dDC (rtR n 40)) (rtR n 40)))) (FP.dsub (rtR n 40) (FP.dsub (FP.dmul dDC (rtR n 40)) (FP.dsub (FP.dmul dDC (rtR n 40)) (rtR n 40))))) rfl ?_
        refine j_dadd C dX8_root_81 (isN_n hW2.2.2.2.2.2.2.2.2.2.2.2.1) (v := FP.dadd (FP.dadd (FP.dsub (FP.dmul (FP.dsub (FP.dmul dDC (rtR n 40)) (FP.dsub (FP.dmul dDC (rtR n 40)) (rtR n 40))) (FP.dsub (FP.dmul dDC (rtR n 40)) (FP.dsub (FP.dmul dDC (rtR n 40)) (rtR n 40)))) (FP.dmul (rtR n 40) (rtR n 40))) (FP.dmul (FP.dmul dD2 (FP.dsub (FP.dmul dDC (rtR n 40)) (FP.dsub (FP.dmul dDC (rtR n 40)) (rtR n 40)))) (FP.dsub (rtR n 40) (FP.dsub (FP.dmul dDC (rtR n 40)) (FP.dsub (FP.dmul dDC (rtR n 40)) (rtR n 40)))))) (FP.dmul (FP.dsub (rtR n 40) (FP.dsub (FP.dmul dDC (rtR n 40)) (FP.dsub (FP.dmul dDC (rtR n 40)) (rtR n 40)))) (FP.dsub (rtR n 40) (FP.dsub (FP.dmul dDC (rtR n 40)) (FP.dsub (FP.dmul dDC (rtR n 40)) (rtR n 40)))))) rfl ?_
        refine j_dstore C dX8_root_82 (by decide) (lv' := [(11, .double (FP.dadd (FP.dadd (FP.dsub (FP.dmul (FP.dsub (FP.dmul dDC (rtR n 40)) (FP.dsub (FP.dmul dDC (rtR n 40)) (rtR n 40))) (FP.dsub (FP.dmul dDC (rtR n 40)) (FP.dsub (FP.dmul dDC (rtR n 40)) (rtR n 40)))) (FP.dmul (rtR n 40) (rtR n 40))) (FP.dmul (FP.dmul dD2 (FP.dsub (FP.dmul dDC (rtR n 40)) (FP.dsub (FP.dmul dDC (rtR n 40)) (rtR n 40)))) (FP.dsub (rtR n 40) (FP.dsub (FP.dmul dDC (rtR n 40)) (FP.dsub (FP.dmul dDC (rtR n 40)) (rtR n 40)))))) (FP.dmul (FP.dsub (rtR n 40) (FP.dsub (FP.dmul dDC (rtR n 40)) (FP.dsub (FP.dmul dDC (rtR n 40)) (rtR n 40)))) (FP.dsub (rtR n 40) (FP.dsub (FP.dmul dDC (rtR n 40)) (FP.dsub (FP.dmul dDC (rtR n 40)) (rtR n 40))))))), (9, .double (FP.dmul (rtR n 40) (rtR n 40))), (7, .double (FP.dsub (rtR n 40) (FP.dsub (FP.dmul dDC (rtR n 40)) (FP.dsub (FP.dmul dDC (rtR n 40)) (rtR n 40))))), (5, .double (FP.dsub (FP.dmul dDC (rtR n 40)) (FP.dsub (FP.dmul dDC (rtR n 40)) (rtR n 40)))), (3, .double (FP.dmul dDC (rtR n 40))), (0, .int (nI n)), (1, .double (rtR n 40))]) rfl ?_
        refine j_dload_n C dX8_root_84 6 rfl rfl ?_
        refine j_iload_n C dX8_root_85 5 rfl rfl ?_
        refine j_i2d C dX8_root_86 (v := FP.i2d (nI n)) rfl ?_
        refine j_dload C dX8_root_87 1 rfl ?_
        refine j_dsub C dX8_root_89 (isN_n hW2.2.2.2.2.2.2.2.2.2.2.2.2.1) (v := FP.dsub (FP.i2d (nI n)) (FP.dmul (rtR n 40) (rtR n 40))) rfl ?_
        refine j_dload C dX8_root_90 0 rfl ?_
        refine j_dsub C dX8_root_92 (isN_n hW2.2.2.2.2.2.2.2.2.2.2.2.2.2.1) (v := FP.dsub (FP.dsub (FP.i2d (nI n)) (FP.dmul (rtR n 40) (rtR n 40))) (FP.dadd (FP.dadd (FP.dsub (FP.dmul (FP.dsub (FP.dmul dDC (rtR n 40)) (FP.dsub (FP.dmul dDC (rtR n 40)) (rtR n 40))) (FP.dsub (FP.dmul dDC (rtR n 40)) (FP.dsub (FP.dmul dDC (rtR n 40)) (rtR n 40)))) (FP.dmul (rtR n 40) (rtR n 40))) (FP.dmul (FP.dmul dD2 (FP.dsub (FP.dmul dDC (rtR n 40)) (FP.dsub (FP.dmul dDC (rtR n 40)) (rtR n 40)))) (FP.dsub (rtR n 40) (FP.dsub (FP.dmul dDC (rtR n 40)) (FP.dsub (FP.dmul dDC (rtR n 40)) (rtR n 40)))))) (FP.dmul (FP.dsub (rtR n 40) (FP.dsub (FP.dmul dDC (rtR n 40)) (FP.dsub (FP.dmul dDC (rtR n 40)) (rtR n 40)))) (FP.dsub (rtR n 40) (FP.dsub (FP.dmul dDC (rtR n 40)) (FP.dsub (FP.dmul dDC (rtR n 40)) (rtR n 40))))))) rfl ?_
        refine j_ldc2d C dX8_root_93 (v := dD2) (by decide +kernel) ?_
        refine j_dload_n C dX8_root_96 6 rfl rfl ?_
        refine j_dmul C dX8_root_97 (isN_n hW2.2.2.2.2.2.2.2.2.2.2.2.2.2.2.1) (v := FP.dmul dD2 (rtR n 40)) rfl ?_
        refine j_ddiv C dX8_root_98 (isN_n hW2.2.2.2.2.2.2.2.2.2.2.2.2.2.2.2) (v := FP.ddiv (FP.dsub (FP.dsub (FP.i2d (nI n)) (FP.dmul (rtR n 40) (rtR n 40))) (FP.dadd (FP.dadd (FP.dsub (FP.dmul (FP.dsub (FP.dmul dDC (rtR n 40)) (FP.dsub (FP.dmul dDC (rtR n 40)) (rtR n 40))) (FP.dsub (FP.dmul dDC (rtR n 40)) (FP.dsub (FP.dmul dDC (rtR n 40)) (rtR n 40)))) (FP.dmul (rtR n 40) (rtR n 40))) (FP.dmul (FP.dmul dD2 (FP.dsub (FP.dmul dDC (rtR n 40)) (FP.dsub (FP.dmul dDC (rtR n 40)) (rtR n 40)))) (FP.dsub (rtR n 40) (FP.dsub (FP.dmul dDC (rtR n 40)) (FP.dsub (FP.dmul dDC (rtR n 40)) (rtR n 40)))))) (FP.dmul (FP.dsub (rtR n 40) (FP.dsub (FP.dmul dDC (rtR n 40)) (FP.dsub (FP.dmul dDC (rtR n 40)) (rtR n 40)))) (FP.dsub (rtR n 40) (FP.dsub (FP.dmul dDC (rtR n 40)) (FP.dsub (FP.dmul dDC (rtR n 40)) (rtR n 40))))))) (FP.dmul dD2 (rtR n 40))) rfl ?_
        refine j_dadd C dX8_root_99 (isN_n hW3) (v := FP.dadd (rtR n 40) (FP.ddiv (FP.dsub (FP.dsub (FP.i2d (nI n)) (FP.dmul (rtR n 40) (rtR n 40))) (FP.dadd (FP.dadd (FP.dsub (FP.dmul (FP.dsub (FP.dmul dDC (rtR n 40)) (FP.dsub (FP.dmul dDC (rtR n 40)) (rtR n 40))) (FP.dsub (FP.dmul dDC (rtR n 40)) (FP.dsub (FP.dmul dDC (rtR n 40)) (rtR n 40)))) (FP.dmul (rtR n 40) (rtR n 40))) (FP.dmul (FP.dmul dD2 (FP.dsub (FP.dmul dDC (rtR n 40)) (FP.dsub (FP.dmul dDC (rtR n 40)) (rtR n 40)))) (FP.dsub (rtR n 40) (FP.dsub (FP.dmul dDC (rtR n 40)) (FP.dsub (FP.dmul dDC (rtR n 40)) (rtR n 40)))))) (FP.dmul (FP.dsub (rtR n 40) (FP.dsub (FP.dmul dDC (rtR n 40)) (FP.dsub (FP.dmul dDC (rtR n 40)) (rtR n 40)))) (FP.dsub (rtR n 40) (FP.dsub (FP.dmul dDC (rtR n 40)) (FP.dsub (FP.dmul dDC (rtR n 40)) (rtR n 40))))))) (FP.dmul dD2 (rtR n 40)))) rfl ?_
        refine j_dretR C ro hQ ?_ dX8_root_100
        rfl
      · skip
        have q14 := (kn_nge (a := k) (b := 40) (by omega) (by omega)).mp q14
        refine j_dload_n C dX8_root_17 1 rfl rfl ?_
        refine j_iload_n C dX8_root_18 0 rfl rfl ?_
        refine j_i2d C dX8_root_19 (v := FP.i2d (nI n)) rfl ?_
        refine j_dload_n C dX8_root_20 1 rfl rfl ?_
        refine j_ddiv C dX8_root_21 (isN_n (hW1 k).1) (v := FP.ddiv (FP.i2d (nI n)) (rtR n k)) rfl ?_
        refine j_dadd C dX8_root_22 (isN_n (hW1 k).2.1) (v := FP.dadd (rtR n k) (FP.ddiv (FP.i2d (nI n)) (rtR n k))) rfl ?_
        refine j_ldc2d C dX8_root_23 (v := dD2) (by decide +kernel) ?_
        refine j_ddiv C dX8_root_26 (isN_n (hW1 (k + 1)).2.2) (v := FP.ddiv (FP.dadd (rtR n k) (FP.ddiv (FP.i2d (nI n)) (rtR n k))) dD2) rfl ?_
        refine j_dstore_n C dX8_root_27 rfl (by decide) (lv' := [(1, .double (FP.ddiv (FP.dadd (rtR n k) (FP.ddiv (FP.i2d (nI n)) (rtR n k))) dD2)), (0, .int (nI n)), (3, .int (nI k))]) rfl ?_
        refine j_iinc C dX8_root_28 (q := 2) (v := (nI (k + 1))) rfl (kc_inc k) (by decide) (lv' := [(3, .int (nI (k + 1))), (1, .double (FP.ddiv (FP.dadd (rtR n k) (FP.ddiv (FP.i2d (nI n)) (rtR n k))) dD2)), (0, .int (nI n))]) rfl ?_
        refine j_goto C dX8_root_31 (tgt := 11) (by decide) ?_
        refine j_lv [2, 1, 0] rfl ?_
        refine ih11 (k + 1) (by omega) ?_
        · omega
  · skip
    have q1 := (kz_nne (a := n) (by omega)).mp q1
    exfalso
    first | exact q1.elim | omega

set_option maxHeartbeats 4000000 in
set_option maxRecDepth 100000 in
/-- rootOf(n) -/
theorem c_X7_rootOf (l : Launch) (T : jj_T) (n : Nat) (h1 : 1 ≤ n) (h2 : n ≤ 33554432) : jR l T yX7_rootOf wsX7_rootOf { frames := 0, cells := 0, slots := 0, locals := 0 } [.int (nI n)] [] (fun v => v = some (.double (rtM n))) := by
  refine jR.of (cc := cX7_rootOf) (maxL := 8) (ret := (some .double)) (by decide) rfl (Nat.le_of_ble_eq_true rfl) ?_
  intro X C ro hl hT hQ
  subst hl; subst hT
  show jj X 0 0 0 [(0, .int (nI n))] [] []
  refine j_lconst C dX7_rootOf_0 (v := lN 0) rfl ?_
  refine j_lstore_n C dX7_rootOf_1 rfl (by decide) (lv' := [(1, .long (lN 0)), (0, .int (nI n))]) rfl ?_
  refine j_lconst C dX7_rootOf_2 (v := lN 0) rfl ?_
  refine j_lstore_n C dX7_rootOf_3 rfl (by decide) (lv' := [(3, .long (lN 0)), (1, .long (lN 0)), (0, .int (nI n))]) rfl ?_
  refine j_lconst C dX7_rootOf_4 (v := lN 1) rfl ?_
  refine j_lstore C dX7_rootOf_5 (by decide) (lv' := [(5, .long (lN 1)), (3, .long (lN 0)), (1, .long (lN 0)), (0, .int (nI n))]) rfl ?_
  refine j_bipush C dX7_rootOf_7 (v := (nI 30)) kc_b_30 ?_
  refine j_ieq (sft 0) (by exact sft_0.symm) ?_
  refine j_istore C dX7_rootOf_9 (by decide) (lv' := [(7, .int (sft 0)), (5, .long (lN 1)), (3, .long (lN 0)), (1, .long (lN 0)), (0, .int (nI n))]) rfl ?_
  refine j_lv [4, 3, 2, 1, 0] rfl ?_
  suffices hc11 : ∀ (mm : Nat) (k rt rs : Nat), 70 - k < mm → (k ≤ 70) → (rt * rt + rs = dgP n k) → (rs ≤ 2 * rt) → (rt < 18014398509481984) → (2 ^ (k - 16) ≤ 18014398509481984) → jj X 0 0 11 [(0, .int (nI n)), (1, .long (lN rt)), (3, .long (lN rs)), (5, .long (lN (2 ^ (k - 16)))), (7, .int (sft k))] [] [] by
    refine hc11 _ 0 0 0 (Nat.lt_succ_self _) ?_ ?_ ?_ ?_ ?_
    · omega
    · unfold dgP; rw [if_pos (by decide)]; exact (Nat.div_eq_of_lt (by omega)).symm
    · omega
    · omega
    · decide
  intro mm
  induction mm with
  | zero => intro k rt rs hm; exact absurd hm (Nat.not_lt_zero _)
  | succ mm ih11 =>
    intro k rt rs hm11 hk hP hr hrt hsc
    refine j_iload C dX7_rootOf_11 4 rfl ?_
    refine j_bipush C dX7_rootOf_13 (v := (-110)) kc_b_m110 ?_
    refine j_icmp_le C dX7_rootOf_15 (tgt := 92) (by decide) (fun q15 => ?_) (fun q15 => ?_)
    · skip
      exfalso
      have hk70 := (sft_le k (by omega)).mp q15
      have hpb : 81129638414606681695789005144064 * 4 ≤ dgP n k := by
        unfold dgP; rw [if_neg (by omega), show k = 70 by omega]
        calc 81129638414606681695789005144064 * 4 ≤ 1 * 4 ^ 54 := by decide +kernel
          _ ≤ n * 4 ^ (70 - 16) := Nat.mul_le_mul_right _ h1
      have hq9 := Nat.mul_le_mul (show rt + 1 ≤ 18014398509481984 by omega) (show rt + 1 ≤ 18014398509481984 by omega)
      rw [Nat.mul_add, Nat.add_mul] at hq9
      generalize rt * rt = x at *
      omega
    · skip
      have hk70 : k < 70 := by have := mt (sft_le k (by omega)).mpr q15; omega
      refine j_lload_n C dX7_rootOf_18 1 rfl rfl ?_
      refine j_ldc2l C dX7_rootOf_19 (v := lN 9007199254740992) (by decide +kernel) ?_
      refine j_lcmp C dX7_rootOf_22 ?_
      refine j_if_ge C dX7_rootOf_23 (tgt := 92) (by decide) (fun q23 => ?_) (fun q23 => ?_)
      · skip
        have q23 := (kl_ge).mp q23
        have hrt53 : 9007199254740992 ≤ rt := (lN_leB (by decide) (by omega)).mp q23
        have hpp := Nat.mul_le_mul hrt53 hrt53
        have hk16 : 16 ≤ k := by
          refine Nat.le_of_not_lt fun h9 => ?_
          unfold dgP at hP; rw [if_pos h9] at hP
          have := Nat.div_le_self n (4 ^ (16 - k))
          generalize rt * rt = x at *
          omega
        unfold dgP at hP
        rw [if_neg (by omega)] at hP
        have hq := rt_eq (p := rt) (t := k - 16) h1 h2 hrt53 (by omega) (by omega) (by simp only [Nat.add_mul, Nat.mul_add]; omega) (by omega)
        refine j_lload_n C dX7_rootOf_92 1 rfl rfl ?_
        refine j_lconst C dX7_rootOf_93 (v := lN 1) rfl ?_
        refine j_ladd C dX7_rootOf_94 (v := (lN (rt + 1))) (lN_add _ _) ?_
        refine j_iconst C dX7_rootOf_95 (v := (nI 1)) kc_i_1 ?_
        refine j_lshr C dX7_rootOf_96 (v := (lN ((rt + 1) / 2))) (lN_sar1 (by omega)) ?_
        refine j_l2d C dX7_rootOf_97 (v := FP.l2d (lN ((rt + 1) / 2))) rfl ?_
        refine j_lload C dX7_rootOf_98 3 rfl ?_
        refine j_iconst C dX7_rootOf_100 (v := (nI 1)) kc_i_1 ?_
        refine j_lshr C dX7_rootOf_101 (v := (lN (2 ^ (k - 16) / 2))) (lN_sar1 (by omega)) ?_
        refine j_l2d C dX7_rootOf_102 (v := FP.l2d (lN (2 ^ (k - 16) / 2))) rfl ?_
        refine j_ddiv C dX7_rootOf_103 (isN_n hq.1) (v := FP.ddiv (FP.l2d (lN ((rt + 1) / 2))) (FP.l2d (lN (2 ^ (k - 16) / 2)))) rfl ?_
        refine j_dretR C ro hQ ?_ dX7_rootOf_104
        exact congrArg (fun z => some (Value.double z)) hq.2
      · skip
        have q23 := (kl_nge).mp q23
        have hrt53 : rt < 9007199254740992 := (lN_ltB (by omega) (by decide)).mp q23
        have hc44 : ∀ (d : Nat), (d = dgD n k) → (d < 4) → jj X 0 0 44 [(0, .int (nI n)), (1, .long (lN rt)), (5, .long (lN (2 ^ (k - 16)))), (7, .int (sft k))] [.int (nI d), .long (lN (rs * 2 ^ 2))] [] := by
          intro d hd hd4
          refine j_i2l C dX7_rootOf_44 (v := (lN d)) (nI_l (by omega)) ?_
          refine j_lor C dX7_rootOf_45 (v := (lN (rs * 4 + d))) (or_dig hd4 (by omega)) ?_
          refine j_lstore_n C dX7_rootOf_46 rfl (by decide) (lv' := [(3, .long (lN (rs * 4 + d))), (0, .int (nI n)), (1, .long (lN rt)), (5, .long (lN (2 ^ (k - 16)))), (7, .int (sft k))]) rfl ?_
          have hc75 : ∀ (rt2 rs2 : Nat), (rt2 * rt2 + rs2 = 4 * dgP n k + d) → (rs2 ≤ 2 * rt2) → (rt2 ≤ 2 * rt + 1) → jj X 0 0 75 [(0, .int (nI n)), (1, .long (lN rt2)), (3, .long (lN rs2)), (5, .long (lN (2 ^ (k - 16)))), (7, .int (sft k))] [] [] := by
            intro rt2 rs2 hP2 hr2 hrt2
            refine j_iload C dX7_rootOf_75 4 rfl ?_
            refine j_if_ge C dX7_rootOf_77 (tgt := 86) (by decide) (fun q77 => ?_) (fun q77 => ?_)
            · skip
              have hk16 : k < 16 := by have := mt (sft_lt k (by omega)).mpr (Int32.not_lt.mpr q77); omega
              rw [show 2 ^ (k - 16) = 2 ^ (k + 1 - 16) by rw [show k - 16 = k + 1 - 16 by omega]]
              show jj X 0 0 86 [(0, .int (nI n)), (1, .long (lN rt2)), (3, .long (lN rs2)), (5, .long (lN (2 ^ (k + 1 - 16)))), (7, .int (sft k))] [] []
              refine j_iinc C dX7_rootOf_86 (q := 4) (v := (sft (k + 1))) rfl (sft_i k (by omega)) (by decide) (lv' := [(7, .int (sft (k + 1))), (0, .int (nI n)), (1, .long (lN rt2)), (3, .long (lN rs2)), (5, .long (lN (2 ^ (k + 1 - 16))))]) rfl ?_
              refine j_goto C dX7_rootOf_89 (tgt := 11) (by decide) ?_
              refine j_lv [1, 2, 3, 4, 0] rfl ?_
              refine ih11 (k + 1) _ _ (by omega) ?_ ?_ ?_ ?_ ?_
              · omega
              · rw [dgP_s, ← hd]; exact hP2
              · exact hr2
              · omega
              · calc 2 ^ (k + 1 - 16) ≤ 2 ^ 54 := Nat.pow_le_pow_right (by decide) (by omega)
                  _ = 18014398509481984 := by decide +kernel
            · skip
              have hk16 : 16 ≤ k := (sft_lt k (by omega)).mp (Int32.not_le.mp q77)
              refine j_lload C dX7_rootOf_80 3 rfl ?_
              refine j_iconst C dX7_rootOf_82 (v := (nI 1)) kc_i_1 ?_
              refine j_lshl C dX7_rootOf_83 (v := (lN (2 ^ (k - 16) * 2))) (wb_shl _ (by decide)) ?_
              refine j_lstore C dX7_rootOf_84 (by decide) (lv' := [(5, .long (lN (2 ^ (k - 16) * 2))), (0, .int (nI n)), (1, .long (lN rt2)), (3, .long (lN rs2)), (7, .int (sft k))]) rfl ?_
              rw [show 2 ^ (k - 16) * 2 = 2 ^ (k + 1 - 16) by rw [show k + 1 - 16 = (k - 16) + 1 by omega, Nat.pow_succ]]
              show jj X 0 0 86 [(5, .long (lN (2 ^ (k + 1 - 16)))), (0, .int (nI n)), (1, .long (lN rt2)), (3, .long (lN rs2)), (7, .int (sft k))] [] []
              refine j_iinc C dX7_rootOf_86 (q := 4) (v := (sft (k + 1))) rfl (sft_i k (by omega)) (by decide) (lv' := [(7, .int (sft (k + 1))), (5, .long (lN (2 ^ (k + 1 - 16)))), (0, .int (nI n)), (1, .long (lN rt2)), (3, .long (lN rs2))]) rfl ?_
              refine j_goto C dX7_rootOf_89 (tgt := 11) (by decide) ?_
              refine j_lv [2, 3, 4, 1, 0] rfl ?_
              refine ih11 (k + 1) _ _ (by omega) ?_ ?_ ?_ ?_ ?_
              · omega
              · rw [dgP_s, ← hd]; exact hP2
              · exact hr2
              · omega
              · calc 2 ^ (k + 1 - 16) ≤ 2 ^ 54 := Nat.pow_le_pow_right (by decide) (by omega)
                  _ = 18014398509481984 := by decide +kernel
          refine j_lload_n C dX7_rootOf_47 2 rfl rfl ?_
          refine j_iconst C dX7_rootOf_48 (v := (nI 1)) kc_i_1 ?_
          refine j_lshl C dX7_rootOf_49 (v := (lN (rt * 2))) (wb_shl _ (by decide)) ?_
          refine j_lstore_n C dX7_rootOf_50 rfl (by decide) (lv' := [(1, .long (lN (rt * 2))), (3, .long (lN (rs * 4 + d))), (0, .int (nI n)), (5, .long (lN (2 ^ (k - 16)))), (7, .int (sft k))]) rfl ?_
          refine j_lload_n C dX7_rootOf_51 1 rfl rfl ?_
          refine j_ldc2l C dX7_rootOf_52 (v := lN 2) (by decide +kernel) ?_
          refine j_lload_n C dX7_rootOf_55 0 rfl rfl ?_
          refine j_lmul C dX7_rootOf_56 (v := (lN (2 * (rt * 2)))) (lN_mul _ _) ?_
          refine j_lcmp C dX7_rootOf_57 ?_
          refine j_if_le C dX7_rootOf_58 (tgt := 75) (by decide) (fun q58 => ?_) (fun q58 => ?_)
          · skip
            have q58 := (kl_le).mp q58
            have hle9 := (lN_leB (by omega) (by omega)).mp q58
            refine j_lv [2, 0, 1, 3, 4] rfl ?_
            refine hc75 (rt * 2) (rs * 4 + d) ?_ ?_ ?_
            · exact sqr_0 hP
            · omega
            · omega
          · skip
            have q58 := (kl_nle).mp q58
            have hlt9 := (lN_ltB (by omega) (by omega)).mp q58
            refine j_lload_n C dX7_rootOf_61 1 rfl rfl ?_
            refine j_ldc2l C dX7_rootOf_62 (v := lN 2) (by decide +kernel) ?_
            refine j_lload_n C dX7_rootOf_65 0 rfl rfl ?_
            refine j_lmul C dX7_rootOf_66 (v := (lN (2 * (rt * 2)))) (lN_mul _ _) ?_
            refine j_lconst C dX7_rootOf_67 (v := lN 1) rfl ?_
            refine j_ladd C dX7_rootOf_68 (v := (lN (2 * (rt * 2) + 1))) (lN_add _ _) ?_
            refine j_lsub C dX7_rootOf_69 (v := (lN (rs * 4 + d - (2 * (rt * 2) + 1)))) (lN_sub (by omega)) ?_
            refine j_lstore_n C dX7_rootOf_70 rfl (by decide) (lv' := [(3, .long (lN (rs * 4 + d - (2 * (rt * 2) + 1)))), (1, .long (lN (rt * 2))), (0, .int (nI n)), (5, .long (lN (2 ^ (k - 16)))), (7, .int (sft k))]) rfl ?_
            refine j_lload_n C dX7_rootOf_71 1 rfl rfl ?_
            refine j_lconst C dX7_rootOf_72 (v := lN 1) rfl ?_
            refine j_ladd C dX7_rootOf_73 (v := (lN (rt * 2 + 1))) (lN_add _ _) ?_
            refine j_lstore_n C dX7_rootOf_74 rfl (by decide) (lv' := [(1, .long (lN (rt * 2 + 1))), (3, .long (lN (rs * 4 + d - (2 * (rt * 2) + 1)))), (0, .int (nI n)), (5, .long (lN (2 ^ (k - 16)))), (7, .int (sft k))]) rfl ?_
            refine j_lv [2, 0, 1, 3, 4] rfl ?_
            refine hc75 (rt * 2 + 1) (rs * 4 + d - (2 * (rt * 2) + 1)) ?_ ?_ ?_
            · exact sqr_1 hP hlt9
            · omega
            · omega
        refine j_lload_n C dX7_rootOf_26 2 rfl rfl ?_
        refine j_iconst C dX7_rootOf_27 (v := (nI 2)) kc_i_2 ?_
        refine j_lshl C dX7_rootOf_28 (v := (lN (rs * 2 ^ 2))) (wb_shl _ (by decide)) ?_
        refine j_iload C dX7_rootOf_29 4 rfl ?_
        refine j_if_lt C dX7_rootOf_31 (tgt := 43) (by decide) (fun q31 => ?_) (fun q31 => ?_)
        · skip
          have hk16 : ¬ k < 16 := by have := (sft_lt k (by omega)).mp q31; omega
          refine j_iconst C dX7_rootOf_43 (v := (nI 0)) kc_i_0 ?_
          refine j_lv [0, 1, 3, 4] rfl ?_
          refine hc44 _ ?_ ?_
          · exact (if_neg hk16).symm
          · omega
        · skip
          have hk16 : k < 16 := by have := mt (sft_lt k (by omega)).mpr q31; omega
          refine j_iload_n C dX7_rootOf_34 0 rfl rfl ?_
          refine j_iload C dX7_rootOf_35 4 rfl ?_
          refine j_ishr C dX7_rootOf_37 (v := (nI (n / 2 ^ (30 - 2 * k)))) (by rw [sft_n k (by omega)]; exact pk_shrN (by omega) _ (30 - 2 * k) (s_l _ (by omega))) ?_
          refine j_iconst C dX7_rootOf_38 (v := (nI 3)) kc_i_3 ?_
          refine j_iand C dX7_rootOf_39 (v := (nI (n / 2 ^ (30 - 2 * k) % 2 ^ 2))) (pk_andN (Nat.lt_of_le_of_lt (Nat.div_le_self _ _) (by omega)) 2 (by decide +kernel)) ?_
          refine j_goto C dX7_rootOf_40 (tgt := 44) (by decide) ?_
          refine j_lv [0, 1, 3, 4] rfl ?_
          refine hc44 _ ?_ ?_
          · exact (if_pos hk16).symm
          · omega
