/-! DOUBLES: the reference's square root, by Newton and one correction -/
def dD2 : UInt64 := 4611686018427387904
def dDC : UInt64 := 4728779608772575232
theorem fU_ge : 1267650600228229401496703205376 ≤ fU := by
  calc 1267650600228229401496703205376 = 2 ^ 100 := by decide +kernel
    _ ≤ 2 ^ 1074 := Nat.pow_le_pow_right (by decide) (by decide)
theorem fU_big : 4294967296 * fU < 2 ^ 2000 := by
  calc 4294967296 * fU = 2 ^ 32 * 2 ^ 1074 := by rw [fU_e, show (4294967296 : Nat) = 2 ^ 32 by decide +kernel]
    _ = 2 ^ (32 + 1074) := (Nat.pow_add ..).symm
    _ < 2 ^ 2000 := Nat.pow_lt_pow_right (by decide) (by decide)
theorem dz_2 : dz dD2 ((2 * fU : Nat) : Int) := by
  refine ⟨false, 4503599627370496, -51, by decide +kernel, ⟨by decide, by decide, by decide, Or.inr (Nat.le_refl _)⟩, ?_⟩
  show ((2 * fU : Nat) : Int) = ((4503599627370496 * 2 ^ ((-51 : Int) + 1074).toNat : Nat) : Int)
  refine congrArg (fun x : Nat => (x : Int)) ?_
  rw [fU_e, show ((-51 : Int) + 1074).toNat = 1023 from rfl, p52, ← Nat.pow_add, show 52 + 1023 = 1 + 1074 from rfl, Nat.pow_add 2 1 1074, Nat.pow_one]
theorem dz_C : dz dDC ((134217729 * fU : Nat) : Int) := by
  refine ⟨false, 4503599660924928, -25, by decide +kernel, ⟨by decide, by decide, by decide, Or.inr (by decide)⟩, ?_⟩
  show ((134217729 * fU : Nat) : Int) = ((4503599660924928 * 2 ^ ((-25 : Int) + 1074).toNat : Nat) : Int)
  refine congrArg (fun x : Nat => (x : Int)) ?_
  rw [fU_e, show ((-25 : Int) + 1074).toNat = 1049 from rfl, show (4503599660924928 : Nat) = 134217729 * 2 ^ 25 by decide +kernel, Nat.mul_assoc, ← Nat.pow_add]
theorem dz_nI {n : Nat} (hn : n < 2147483648) : dz (FP.i2d (nI n)) ((n * fU : Nat) : Int) := by
  have h9 : (2147483648 : Nat) ≤ 2 ^ 900 := by
    calc 2147483648 = 2 ^ 31 := by decide +kernel
      _ ≤ 2 ^ 900 := Nat.pow_le_pow_right (by decide) (by decide)
  obtain ⟨Z, h1, h2⟩ := dz_ofInt (n : Int) (by rw [Int.natAbs_natCast]; exact Nat.lt_of_lt_of_le hn h9)
  have e1 : FP.i2d (nI n) = UInt64.ofNat (FP.Core.fromInt FP.Core.b64 (n : Int)) := by
    show UInt64.ofNat (FP.Core.fromInt FP.Core.b64 (nI n).toInt) = _
    rw [nI_toInt (by omega)]
  rw [e1]
  have e2 := rI_ex (m := (n : Int)) (i := 1074) h2 (by decide) (by rw [Int.natAbs_natCast]; omega) (by rw [Nat.mul_one]; rfl)
  rw [e2] at h1
  rw [show ((n * fU : Nat) : Int) = (n : Int) * ((2 ^ 1074 : Nat) : Int) from Int.natCast_mul ..]
  exact h1
/-- the Newton steps -/
def rtR (n : Nat) : Nat → UInt64
  | 0 => FP.i2d (nI n)
  | k + 1 => FP.ddiv (FP.dadd (rtR n k) (FP.ddiv (FP.i2d (nI n)) (rtR n k))) dD2
def nwB : Nat → Nat
  | 0 => 302231454903657293676544
  | k + 1 => (17 * nwB k + 576) / 64
theorem nwB_le : ∀ k, nwB k ≤ 302231454903657293676544
  | 0 => Nat.le_refl _
  | k + 1 => by
    have := nwB_le k
    rw [nwB]
    omega
theorem nwB_40 : nwB 40 = 14 := by decide +kernel
def nwI (n R b : Nat) : Prop := 9007199254740987 * (n * (fU * fU)) ≤ 9007199254740992 * (R * R) ∧ 9007199254740992 * (R * R) ≤ 9007199254740992 * (n * (fU * fU)) + b * (n * (fU * fU))
theorem nw_lo {n R b : Nat} (h : nwI n R b) (hn : 1 ≤ n) : fU ≤ 2 * R := by
  refine Nat.le_of_not_lt fun h9 => ?_
  have m1 : (2 * R) * (2 * R) ≤ fU * fU := Nat.mul_le_mul (Nat.le_of_lt h9) (Nat.le_of_lt h9)
  have m2 : 1 * (fU * fU) ≤ n * (fU * fU) := Nat.mul_le_mul_right _ hn
  have m3 : 0 < fU * fU := Nat.mul_pos fU_pos fU_pos
  rw [Nat.mul_mul_mul_comm] at m1
  have h1 := h.1
  generalize n * (fU * fU) = v at *
  generalize fU * fU = u at *
  generalize R * R = r at *
  omega
theorem nw_hi {n R b : Nat} (h : nwI n R b) (hn : n ≤ 33554432) (hb : b ≤ 302231454903657293676544) : R < 67108864 * fU := by
  refine Nat.lt_of_not_le fun h9 => ?_
  have m1 : (67108864 * fU) * (67108864 * fU) ≤ R * R := Nat.mul_le_mul h9 h9
  have m2 : n * (fU * fU) ≤ 33554432 * (fU * fU) := Nat.mul_le_mul_right _ hn
  have m3 : 0 < fU * fU := Nat.mul_pos fU_pos fU_pos
  rw [Nat.mul_mul_mul_comm] at m1
  have m4 : b * (n * (fU * fU)) ≤ 302231454903657293676544 * (n * (fU * fU)) := Nat.mul_le_mul_right _ hb
  have h1 := h.2
  generalize b * (n * (fU * fU)) = z at *
  generalize n * (fU * fU) = v at *
  generalize fU * fU = u at *
  generalize R * R = r at *
  omega
theorem am_gm (a b : Nat) : 2 * (a * b) ≤ a * a + b * b := by
  rcases Nat.le_total a b with h | h
  · obtain ⟨d, rfl⟩ := Nat.exists_eq_add_of_le h
    simp only [Nat.mul_add, Nat.add_mul, Nat.mul_comm d a]
    generalize a * a = x
    generalize a * d = y
    generalize d * d = z
    omega
  · obtain ⟨d, rfl⟩ := Nat.exists_eq_add_of_le h
    simp only [Nat.mul_add, Nat.add_mul, Nat.mul_comm d b]
    generalize b * b = x
    generalize b * d = y
    generalize d * d = z
    omega
theorem nw_step {R Q S R2 N b b2 : Nat} (hN : 0 < N) (hlo : 9007199254740987 * N ≤ 9007199254740992 * (R * R)) (hhi : 9007199254740992 * (R * R) ≤ 9007199254740992 * N + b * N)
    (q1 : 9007199254740992 * N ≤ 9007199254740992 * (Q * R) + N) (q2 : 9007199254740992 * (Q * R) ≤ 9007199254740992 * N + N)
    (s1 : 9007199254740992 * (R + Q) ≤ 9007199254740992 * S + (R + Q)) (s2 : 9007199254740992 * S ≤ 9007199254740992 * (R + Q) + (R + Q)) (h2 : 2 * R2 = S) (hb : 17 * b + 513 ≤ 64 * b2) :
    9007199254740987 * N ≤ 9007199254740992 * (R2 * R2) ∧ 9007199254740992 * (R2 * R2) ≤ 9007199254740992 * N + b2 * N := by
  have hQ : 9007199254740992 * (Q * Q) ≤ 9007199254741000 * N := by
    refine Nat.le_of_not_lt fun h => ?_
    have m1 : (9007199254741000 * N) * (9007199254740987 * N) ≤ (9007199254740992 * (Q * Q)) * (9007199254740992 * (R * R)) := Nat.mul_le_mul (Nat.le_of_lt h) hlo
    have m2 : (9007199254740992 * (Q * R)) * (9007199254740992 * (Q * R)) ≤ (9007199254740993 * N) * (9007199254740993 * N) := Nat.mul_le_mul (by omega) (by omega)
    have e1 : (9007199254740992 * (Q * Q)) * (9007199254740992 * (R * R)) = (9007199254740992 * (Q * R)) * (9007199254740992 * (Q * R)) := by ac_rfl
    rw [e1] at m1
    have m3 := Nat.le_trans m1 m2
    rw [Nat.mul_mul_mul_comm, Nat.mul_mul_mul_comm 9007199254740993] at m3
    have m4 : 0 < N * N := Nat.mul_pos hN hN
    generalize N * N = x at *
    omega
  have eP : (R + Q) * (R + Q) = R * R + 2 * (Q * R) + Q * Q := by
    simp only [Nat.mul_add, Nat.add_mul, Nat.mul_comm R Q]
    generalize Q * R = y
    omega
  have hg := am_gm Q R
  have v2 : 9007199254740992 * S ≤ 9007199254740993 * (R + Q) := by omega
  have v1 : 9007199254740991 * (R + Q) ≤ 9007199254740992 * S := by omega
  have w2 := Nat.mul_le_mul v2 v2
  have w1 := Nat.mul_le_mul v1 v1
  rw [Nat.mul_mul_mul_comm, Nat.mul_mul_mul_comm 9007199254740993, eP] at w2
  rw [Nat.mul_mul_mul_comm, Nat.mul_mul_mul_comm 9007199254740992, eP] at w1
  have eS : S * S = 4 * (R2 * R2) := by
    rw [← h2, Nat.mul_mul_mul_comm]
  rw [eS] at w1 w2
  have hbN := Nat.mul_le_mul_right N hb
  rw [Nat.add_mul, Nat.mul_assoc, Nat.mul_assoc] at hbN
  generalize R * R = rr at *
  generalize Q * R = qr at *
  generalize Q * Q = qq at *
  generalize R2 * R2 = r2 at *
  generalize b * N = z at *
  generalize b2 * N = z2 at *
  constructor
  · have a1 : 9007199254740991 * N ≤ 9007199254740992 * qr := by omega
    have a2 : 9007199254740991 * 9007199254740991 * (4 * qr) ≤ 9007199254740992 * 9007199254740992 * (4 * r2) := by omega
    omega
  · have a1 : 9007199254740992 * (rr + 2 * qr + qq) ≤ 36028797018963978 * N + z := by omega
    omega
