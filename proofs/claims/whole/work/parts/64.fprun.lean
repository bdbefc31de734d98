/-! DOUBLES: the Newton steps, run -/
theorem ic_add (a b : Nat) : (a : Int) + (b : Int) = ((a + b : Nat) : Int) := (Int.natCast_add a b).symm
theorem ic_mul (a b : Nat) : (a : Int) * (b : Int) = ((a * b : Nat) : Int) := (Int.natCast_mul a b).symm
theorem nw_one {n R b : Nat} {r : UInt64} (h1 : 1 ≤ n) (h2 : n ≤ 33554432) (hb : b ≤ 302231454903657293676544) (hr : dz r (R : Int)) (h : nwI n R b) :
    ∃ (R2 Q S : Nat), dz (FP.ddiv (FP.i2d (nI n)) r) (Q : Int) ∧ dz (FP.dadd r (FP.ddiv (FP.i2d (nI n)) r)) (S : Int) ∧ dz (FP.ddiv (FP.dadd r (FP.ddiv (FP.i2d (nI n)) r)) dD2) (R2 : Int) ∧ nwI n R2 ((17 * b + 576) / 64) := by
  have hlo := nw_lo h h1
  have hhi := nw_hi h h2 hb
  have hU := fU_ge
  have hbig := fU_big
  have hR : 0 < R := by omega
  have hn := dz_nI (n := n) (by omega)
  have hN : 0 < n * (fU * fU) := Nat.mul_pos (by omega) (Nat.mul_pos fU_pos fU_pos)
  -- the quotient
  obtain ⟨Zq, hq, hqr⟩ := dz_div hn hr (by omega) (by
    rw [Int.natAbs_natCast, Int.natAbs_natCast]
    have m1 : n * fU * fU ≤ (33554432 * fU) * (2 * R) := Nat.mul_le_mul (Nat.mul_le_mul_right _ h2) hlo
    have m2 : (33554432 * fU) * (2 * R) = (67108864 * fU) * R := by
      generalize fU = u
      rw [Nat.mul_mul_mul_comm, Nat.mul_assoc 67108864]
    rw [m2] at m1
    refine Nat.lt_of_le_of_lt m1 (Nat.mul_lt_mul_of_pos_right ?_ hR)
    exact Nat.lt_of_le_of_lt (Nat.mul_le_mul_right _ (by decide)) hbig)
  rw [Int.natAbs_natCast, ic_mul, Nat.mul_assoc] at hqr
  obtain ⟨kq, jq, rfl, hqn⟩ := rI_pos hqr hN
  have hq52 : 4503599627370496 * R ≤ n * (fU * fU) := by
    have m1 : 4503599627370496 * R ≤ 4503599627370496 * (67108864 * fU) := Nat.mul_le_mul_left _ (Nat.le_of_lt hhi)
    have m2 : (4503599627370496 * 67108864) * fU ≤ fU * fU := Nat.mul_le_mul_right _ (by omega)
    have m3 : 1 * (fU * fU) ≤ n * (fU * fU) := Nat.mul_le_mul_right _ h1
    rw [← Nat.mul_assoc] at m1
    rw [Nat.one_mul] at m3
    exact Nat.le_trans m1 (Nat.le_trans m2 m3)
  obtain ⟨q1, q2⟩ := rn_rel hqn hR hq52
  generalize kq * 2 ^ jq = Q at *
  have hQ : Q < 268435456 * fU := by
    refine Nat.lt_of_not_le fun h9 => ?_
    have m1 : (268435456 * fU) * fU ≤ Q * (2 * R) := Nat.mul_le_mul h9 hlo
    rw [Nat.mul_assoc, show Q * (2 * R) = 2 * (Q * R) by ac_rfl] at m1
    have m2 : n * (fU * fU) ≤ 33554432 * (fU * fU) := Nat.mul_le_mul_right _ h2
    have m3 : 0 < fU * fU := Nat.mul_pos fU_pos fU_pos
    generalize n * (fU * fU) = v at *
    generalize fU * fU = u at *
    generalize Q * R = y at *
    omega
  -- the sum
  obtain ⟨Zs, hs, hsr⟩ := dz_add hr hq (by
    rw [ic_add, Int.natAbs_natCast]
    refine Nat.lt_of_le_of_lt ?_ hbig
    omega)
  rw [ic_add] at hsr
  obtain ⟨ks, js, rfl, hsn⟩ := rI_pos hsr (by omega)
  obtain ⟨s1, s2⟩ := rn_rel hsn (by decide) (by omega)
  rw [Nat.mul_one] at s1 s2
  have hjs : 1 ≤ js := by
    refine Nat.one_le_iff_ne_zero.mpr fun h9 => ?_
    have := hsn.2.1
    rw [h9, Nat.pow_zero] at this
    omega
  have hks := hsn.1
  have hS2 : 2 * (ks * 2 ^ (js - 1)) = ks * 2 ^ js := by
    rw [show js = (js - 1) + 1 by omega, Nat.pow_succ, Nat.add_sub_cancel]; ac_rfl
  have hSb : ks * 2 ^ js < 1073741824 * fU := by
    generalize ks * 2 ^ js = S at *
    omega
  -- halved
  obtain ⟨Zh, hh, hhr⟩ := dz_div hs dz_2 (by have := fU_pos; omega) (by
    rw [Int.natAbs_natCast, Int.natAbs_natCast]
    have m1 : ks * 2 ^ js < 2 ^ 2000 := Nat.lt_of_le_of_lt (Nat.le_trans (Nat.le_of_lt hSb) (Nat.mul_le_mul_right _ (by decide))) hbig
    calc ks * 2 ^ js * fU < 2 ^ 2000 * fU := Nat.mul_lt_mul_of_pos_right m1 fU_pos
      _ ≤ 2 ^ 2000 * (2 * fU) := Nat.mul_le_mul_left _ (by omega))
  rw [Int.natAbs_natCast] at hhr
  have e2 := rI_ex (m := (ks : Int)) (i := js - 1) hhr (by have := fU_pos; omega) (by rw [Int.natAbs_natCast]; exact hks) (by
    rw [ic_mul, ic_mul, ← hS2]
    refine congrArg (fun x : Nat => (x : Int)) ?_
    generalize fU = u
    generalize 2 ^ (js - 1) = y
    rw [Nat.mul_left_comm 2 ks y, Nat.mul_assoc, Nat.mul_left_comm y 2 u, ← Nat.mul_assoc 2 y u])
  rw [ic_mul] at e2
  rw [e2] at hh
  refine ⟨ks * 2 ^ (js - 1), Q, ks * 2 ^ js, hq, hs, hh, ?_⟩
  exact nw_step hN h.1 h.2 q1 q2 s1 s2 hS2 (by omega)
theorem nw_run {n : Nat} (h1 : 1 ≤ n) (h2 : n ≤ 33554432) : ∀ k, ∃ R : Nat, dz (rtR n k) (R : Int) ∧ nwI n R (nwB k)
  | 0 => by
    refine ⟨n * fU, dz_nI (by omega), ?_⟩
    have e : n * fU * (n * fU) = n * (n * (fU * fU)) := by rw [Nat.mul_mul_mul_comm, Nat.mul_assoc]
    have m1 : 1 * (n * (fU * fU)) ≤ n * (n * (fU * fU)) := Nat.mul_le_mul_right _ h1
    have m2 : n * (n * (fU * fU)) ≤ 33554432 * (n * (fU * fU)) := Nat.mul_le_mul_right _ h2
    unfold nwI
    rw [e, nwB]
    generalize n * (fU * fU) = v at *
    generalize n * v = z at *
    omega
  | k + 1 => by
    obtain ⟨R, hr, hI⟩ := nw_run h1 h2 k
    obtain ⟨R2, Q, S, -, -, h3, h4⟩ := nw_one h1 h2 (nwB_le k) hr hI
    exact ⟨R2, h3, h4⟩
