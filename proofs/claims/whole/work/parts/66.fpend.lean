/-! DOUBLES: the root comes out rounded -/
/-- r is near the root: no farther than 33 halves of the result's last digit -/
theorem fe_near {R D A M N : Nat} (hD : 0 < D) (hN : N = A * (D * D)) (hlo : 9007199254740987 * N ≤ 9007199254740992 * (R * R)) (hhi : 9007199254740992 * (R * R) ≤ 9007199254740992 * N + 14 * N) (hA : A < 324518553658426726783156020576256) (hM : 9007199254740991 ≤ M) (hM2 : M * M ≤ A + 72057594037927944) (hM3 : A ≤ M * M + 72057594037927944) : R ≤ M * D + 33 * D ∧ M * D ≤ R + 33 * D := by
  have hDD : 0 < D * D := Nat.mul_pos hD hD
  have mA : A * (D * D) ≤ 324518553658426726783156020576255 * (D * D) := Nat.mul_le_mul_right _ (by omega)
  have mM : 9007199254740991 * (D * D) ≤ M * (D * D) := Nat.mul_le_mul_right _ hM
  have m2 : M * M * (D * D) ≤ A * (D * D) + 72057594037927944 * (D * D) := by rw [← Nat.add_mul]; exact Nat.mul_le_mul_right _ hM2
  have m3 : A * (D * D) ≤ M * M * (D * D) + 72057594037927944 * (D * D) := by rw [← Nat.add_mul]; exact Nat.mul_le_mul_right _ hM3
  rw [hN] at hlo hhi
  constructor
  · refine Nat.le_of_not_lt fun h => ?_
    have q := Nat.mul_le_mul (Nat.le_of_lt h) (Nat.le_of_lt h)
    rw [← Nat.add_mul, Nat.mul_mul_mul_comm, show (M + 33) * (M + 33) = M * M + 66 * M + 1089 by simp only [Nat.add_mul, Nat.mul_add]; omega, Nat.add_mul, Nat.add_mul, Nat.mul_assoc 66] at q
    generalize R * R = r at *
    generalize A * (D * D) = a at *
    generalize M * M * (D * D) = mm at *
    generalize M * (D * D) = m at *
    generalize D * D = d at *
    omega
  · refine Nat.le_of_not_lt fun h => ?_
    obtain ⟨M', rfl⟩ : ∃ M', M = M' + 33 := ⟨M - 33, by omega⟩
    have h' : R ≤ M' * D := by
      rw [Nat.add_mul] at h
      omega
    have q := Nat.mul_le_mul h' h'
    rw [Nat.mul_mul_mul_comm] at q
    rw [show (M' + 33) * (M' + 33) = M' * M' + 66 * M' + 1089 by simp only [Nat.add_mul, Nat.mul_add]; omega] at m2 m3
    rw [Nat.add_mul, Nat.add_mul, Nat.mul_assoc 66] at m2 m3
    rw [Nat.add_mul] at mM
    generalize R * R = r at *
    generalize A * (D * D) = a at *
    generalize M' * M' * (D * D) = mm at *
    generalize M' * (D * D) = m at *
    generalize D * D = d at *
    omega
/-- the square of what r is off -/
theorem fe_sq {R D M : Nat} (h1 : R ≤ M * D + 33 * D) (h2 : M * D ≤ R + 33 * D) : R * R + M * M * (D * D) ≤ 2 * (R * (M * D)) + 1089 * (D * D) := by
  have e : M * M * (D * D) = (M * D) * (M * D) := Nat.mul_mul_mul_comm ..
  have e3 : 1089 * (D * D) = (33 * D) * (33 * D) := by rw [Nat.mul_mul_mul_comm]
  rw [e, e3]
  generalize M * D = m at *
  generalize 33 * D = t at *
  rcases Nat.le_total R m with h | h
  · obtain ⟨d, rfl⟩ := Nat.exists_eq_add_of_le h
    have hd : d ≤ t := by omega
    have hdd := Nat.mul_le_mul hd hd
    simp only [Nat.mul_add, Nat.add_mul, Nat.mul_comm d R]
    generalize R * R = x at *
    generalize R * d = y at *
    generalize d * d = z at *
    generalize t * t = u at *
    omega
  · obtain ⟨d, rfl⟩ := Nat.exists_eq_add_of_le h
    have hd : d ≤ t := by omega
    have hdd := Nat.mul_le_mul hd hd
    simp only [Nat.mul_add, Nat.add_mul, Nat.mul_comm d m]
    generalize m * m = x at *
    generalize m * d = y at *
    generalize d * d = z at *
    generalize t * t = u at *
    omega
theorem fe_gm (R x : Nat) : 2 * (R * x) ≤ R * R + x * x := am_gm R x
/-- above a middle that is well below the root -/
theorem fe_up {R D A M N : Nat} {V : Int} (hD : 0 < D) (hN : N = A * (D * D)) (hA : A < 324518553658426726783156020576256) (hv : -(50 * (N : Int)) ≤ 81129638414606681695789005144064 * (2 * (R : Int) * V - (R : Int) * (R : Int) - (N : Int))) (hM : M * M + 2048 ≤ A) : ((M * D : Nat) : Int) < V := by
  refine Int.lt_of_not_ge fun h => ?_
  have h1 : 2 * (R : Int) * V ≤ 2 * (R : Int) * ((M * D : Nat) : Int) := Int.mul_le_mul_of_nonneg_left h (by omega)
  have h2 := am_gm R (M * D)
  have hDD : 0 < D * D := Nat.mul_pos hD hD
  have mA : A * (D * D) ≤ 324518553658426726783156020576255 * (D * D) := Nat.mul_le_mul_right _ (by omega)
  have m2 : M * M * (D * D) + 2048 * (D * D) ≤ A * (D * D) := by rw [← Nat.add_mul]; exact Nat.mul_le_mul_right _ hM
  rw [Nat.mul_mul_mul_comm M D] at h2
  rw [Int.mul_assoc 2 (R : Int) ((M * D : Nat) : Int), ic_mul] at h1
  rw [ic_mul R R] at hv
  rw [hN] at hv
  generalize 2 * (R : Int) * V = w at *
  generalize R * (M * D) = y at *
  generalize R * R = r at *
  generalize M * M * (D * D) = mm at *
  generalize A * (D * D) = a at *
  generalize D * D = d at *
  omega
/-- below a middle that is well above the root -/
theorem fe_dn {R D A M N : Nat} {V : Int} (hD : 0 < D) (hN : N = A * (D * D)) (hA : A < 324518553658426726783156020576256) (hv : 81129638414606681695789005144064 * (2 * (R : Int) * V - (R : Int) * (R : Int) - (N : Int)) ≤ 50 * (N : Int)) (hs : R * R + M * M * (D * D) ≤ 2 * (R * (M * D)) + 1089 * (D * D)) (hM : A + 2048 ≤ M * M) : V < ((M * D : Nat) : Int) := by
  refine Int.lt_of_not_ge fun h => ?_
  have h1 : 2 * (R : Int) * ((M * D : Nat) : Int) ≤ 2 * (R : Int) * V := Int.mul_le_mul_of_nonneg_left h (by omega)
  have hDD : 0 < D * D := Nat.mul_pos hD hD
  have mA : A * (D * D) ≤ 324518553658426726783156020576255 * (D * D) := Nat.mul_le_mul_right _ (by omega)
  have m2 : A * (D * D) + 2048 * (D * D) ≤ M * M * (D * D) := by rw [← Nat.add_mul]; exact Nat.mul_le_mul_right _ hM
  rw [Int.mul_assoc, ic_mul] at h1
  rw [ic_mul R R] at hv
  rw [hN] at hv
  generalize 2 * (R : Int) * V = w at *
  generalize R * (M * D) = y at *
  generalize R * R = r at *
  generalize M * M * (D * D) = mm at *
  generalize A * (D * D) = a at *
  generalize D * D = d at *
  omega
/-- at the root 2 ^ 53 itself -/
theorem fe_mid {R D N : Nat} {V : Int} (hD : 0 < D) (hN : N = 81129638414606681695789005144064 * (D * D)) (hlo : 9007199254740987 * N ≤ 9007199254740992 * (R * R)) (hhi : 9007199254740992 * (R * R) ≤ 9007199254740992 * N + 14 * N)
    (hv1 : 81129638414606681695789005144064 * (2 * (R : Int) * V - (R : Int) * (R : Int) - (N : Int)) ≤ 50 * (N : Int)) (hv2 : -(50 * (N : Int)) ≤ 81129638414606681695789005144064 * (2 * (R : Int) * V - (R : Int) * (R : Int) - (N : Int))) :
    2 * V < ((18014398509481985 * D : Nat) : Int) ∧ ((18014398509481983 * D : Nat) : Int) < 2 * V := by
  obtain ⟨n1, n2⟩ := fe_near (M := 9007199254740992) hD hN hlo hhi (by decide) (by decide) (by decide) (by decide)
  have hs := fe_sq n1 n2
  have hg := am_gm R (9007199254740992 * D)
  have hDD : 0 < D * D := Nat.mul_pos hD hD
  have hR : 9007199254740959 * (D * D) ≤ R * D := by
    rw [← Nat.mul_assoc]
    exact Nat.mul_le_mul_right _ (by omega)
  rw [Nat.mul_mul_mul_comm 9007199254740992 D] at hg
  rw [ic_mul R R, hN] at hv1 hv2
  have eR : R * (9007199254740992 * D) = 9007199254740992 * (R * D) := by ac_rfl
  rw [eR] at hs hg
  constructor
  · refine Int.lt_of_not_ge fun h => ?_
    have h1 : (R : Int) * ((18014398509481985 * D : Nat) : Int) ≤ (R : Int) * (2 * V) := Int.mul_le_mul_of_nonneg_left h (by omega)
    rw [ic_mul, show R * (18014398509481985 * D) = 18014398509481985 * (R * D) by ac_rfl, show (R : Int) * (2 * V) = 2 * (R : Int) * V by ac_rfl] at h1
    generalize 2 * (R : Int) * V = w at *
    generalize R * D = y at *
    generalize R * R = r at *
    generalize D * D = d at *
    omega
  · refine Int.lt_of_not_ge fun h => ?_
    have h1 : (R : Int) * (2 * V) ≤ (R : Int) * ((18014398509481983 * D : Nat) : Int) := Int.mul_le_mul_of_nonneg_left h (by omega)
    rw [ic_mul, show R * (18014398509481983 * D) = 18014398509481983 * (R * D) by ac_rfl, show (R : Int) * (2 * V) = 2 * (R : Int) * V by ac_rfl] at h1
    generalize 2 * (R : Int) * V = w at *
    generalize R * D = y at *
    generalize R * R = r at *
    generalize D * D = d at *
    omega
/-- r, as a significand and a power of two -/
theorem fe_split {r : UInt64} {R : Nat} (h : dz r (R : Int)) (h1 : fU ≤ 2 * R) (h2 : R < 8192 * fU) : ∃ c j, R = c * 2 ^ j ∧ 4503599627370496 ≤ c ∧ c < 9007199254740992 ∧ 1021 ≤ j ∧ j ≤ 1035 := by
  obtain ⟨s, c, q, g1, g2, g3⟩ := h
  obtain ⟨j, hj⟩ : ∃ j, (q + 1074).toNat = j := ⟨_, rfl⟩
  have hR : R = c * 2 ^ j := by
    have e := congrArg Int.natAbs g3
    rw [sg_abs, Int.natAbs_natCast, hj] at e
    exact e
  have hj1 : 1021 ≤ j := by
    refine Nat.le_of_not_lt fun h9 => ?_
    have m1 : c * 2 ^ j < 2 ^ 53 * 2 ^ j := Nat.mul_lt_mul_of_pos_right (by rw [← p53]; exact g2.1) (Nat.two_pow_pos j)
    have m2 : (2 : Nat) ^ 53 * 2 ^ j ≤ 2 ^ 1073 := by
      rw [← Nat.pow_add]
      exact Nat.pow_le_pow_right (by decide) (by omega)
    have m3 : fU = 2 * 2 ^ 1073 := by rw [fU_e, show (1074 : Nat) = 1073 + 1 from rfl, Nat.pow_succ, Nat.mul_comm]
    rw [← hR] at m1
    have m4 := Nat.lt_of_lt_of_le m1 m2
    generalize (2 : Nat) ^ 1073 = x at *
    omega
  have hc : 4503599627370496 ≤ c := by
    rcases g2.2.2.2 with h9 | h9
    · omega
    · exact h9
  refine ⟨c, j, hR, hc, g2.1, hj1, ?_⟩
  refine Nat.le_of_not_lt fun h9 => ?_
  have m1 : 4503599627370496 * 2 ^ j ≤ c * 2 ^ j := Nat.mul_le_mul_right _ hc
  have m2 : (2 : Nat) ^ (52 + 1036) ≤ 4503599627370496 * 2 ^ j := by
    rw [p52, Nat.pow_add]
    exact Nat.mul_le_mul_left _ (Nat.pow_le_pow_right (by decide) h9)
  have m3 : 8192 * fU = 2 ^ (13 + 1074) := by
    rw [fU_e, show (8192 : Nat) = 2 ^ 13 by decide +kernel, ← Nat.pow_add]
  have m4 : (2 : Nat) ^ (13 + 1074) ≤ 2 ^ (52 + 1036) := Nat.pow_le_pow_right (by decide) (by decide)
  rw [← m3] at m4
  rw [← hR] at m1
  exact absurd (Nat.le_trans m4 (Nat.le_trans m2 m1)) (Nat.not_le.mpr h2)
def rtM (n : Nat) : UInt64 := rtF n (rtR n 40)
theorem dz_lN {m : Nat} (h : m ≤ 9007199254740992) : dz (FP.l2d (lN m)) ((m * fU : Nat) : Int) := by
  have h9 : (9007199254740993 : Nat) ≤ 2 ^ 900 := by
    calc 9007199254740993 ≤ 2 ^ 54 := by decide +kernel
      _ ≤ 2 ^ 900 := Nat.pow_le_pow_right (by decide) (by decide)
  obtain ⟨Z, h1, h2⟩ := dz_ofInt (m : Int) (by rw [Int.natAbs_natCast]; exact Nat.lt_of_lt_of_le (Nat.lt_succ_of_le h) h9)
  have e1 : FP.l2d (lN m) = UInt64.ofNat (FP.Core.fromInt FP.Core.b64 (m : Int)) := by
    show UInt64.ofNat (FP.Core.fromInt FP.Core.b64 (lN m).toInt) = _
    rw [lN_ti (by omega), if_pos (by omega)]
  rw [e1]
  have e2 := rI_ex (m := (m : Int)) (i := 1074) h2 (by decide) (by rw [Int.natAbs_natCast]; exact h) (by rw [Nat.mul_one]; rfl)
  rw [e2] at h1
  rw [show ((m * fU : Nat) : Int) = (m : Int) * ((2 ^ 1074 : Nat) : Int) from Int.natCast_mul ..]
  exact h1
theorem dz_lN2 {k : Nat} (h : k < 62) : dz (FP.l2d (lN (2 ^ k))) ((2 ^ k * fU : Nat) : Int) := by
  have h62 : 2 ^ k < 9223372036854775808 := by
    calc 2 ^ k < 2 ^ 63 := Nat.pow_lt_pow_right (by decide) (by omega)
      _ = 9223372036854775808 := by decide +kernel
  have h9 : 2 ^ k < 2 ^ 900 := Nat.pow_lt_pow_right (by decide) (by omega)
  obtain ⟨Z, h1, h2⟩ := dz_ofInt ((2 ^ k : Nat) : Int) (by rw [Int.natAbs_natCast]; exact h9)
  have e1 : FP.l2d (lN (2 ^ k)) = UInt64.ofNat (FP.Core.fromInt FP.Core.b64 ((2 ^ k : Nat) : Int)) := by
    show UInt64.ofNat (FP.Core.fromInt FP.Core.b64 (lN (2 ^ k)).toInt) = _
    rw [lN_ti (by omega), if_pos (by omega)]
  rw [e1]
  have e3 : ((2 ^ k : Nat) : Int) * (fU : Int) = ((2 ^ (k + 1074) : Nat) : Int) := by rw [ic_mul, Nat.pow_add, ← fU_e]
  have e2 := rI_ex (m := 1) (i := k + 1074) h2 (by decide) (by decide) (by rw [Nat.mul_one, Int.one_mul]; exact e3)
  rw [e2, Int.one_mul, ← e3, ic_mul] at h1
  exact h1
/-- all that the root's walk asks: every number on its way is one -/
def rtW (n : Nat) : Prop := (∀ k, isN (FP.ddiv (FP.i2d (nI n)) (rtR n k)) ∧ isN (FP.dadd (rtR n k) (FP.ddiv (FP.i2d (nI n)) (rtR n k))) ∧ isN (rtR n k)) ∧
  (isN (FP.dmul dDC (rtR n 40)) ∧ isN (FP.dsub (FP.dmul dDC (rtR n 40)) (rtR n 40)) ∧ isN (rtH (rtR n 40)) ∧ isN (rtL (rtR n 40)) ∧ isN (FP.dmul (rtR n 40) (rtR n 40)) ∧ isN (FP.dmul (rtH (rtR n 40)) (rtH (rtR n 40))) ∧ isN (FP.dsub (FP.dmul (rtH (rtR n 40)) (rtH (rtR n 40))) (FP.dmul (rtR n 40) (rtR n 40))) ∧ isN (FP.dmul dD2 (rtH (rtR n 40))) ∧ isN (FP.dmul (FP.dmul dD2 (rtH (rtR n 40))) (rtL (rtR n 40))) ∧ isN (FP.dadd (FP.dsub (FP.dmul (rtH (rtR n 40)) (rtH (rtR n 40))) (FP.dmul (rtR n 40) (rtR n 40))) (FP.dmul (FP.dmul dD2 (rtH (rtR n 40))) (rtL (rtR n 40)))) ∧ isN (FP.dmul (rtL (rtR n 40)) (rtL (rtR n 40))) ∧ isN (rtO (rtR n 40)) ∧ isN (FP.dsub (FP.i2d (nI n)) (FP.dmul (rtR n 40) (rtR n 40))) ∧ isN (rtG n (rtR n 40)) ∧ isN (FP.dmul dD2 (rtR n 40)) ∧ isN (rtD n (rtR n 40))) ∧ isN (rtM n)
theorem rt_pre {n : Nat} (h1 : 1 ≤ n) (h2 : n ≤ 33554432) : rtW n ∧ ∃ (R : Nat) (Z2 Y : Int), nwI n R 14 ∧ dz (rtM n) Y ∧ rnI ((R : Int) + Z2) 1 Y ∧
      81129638414606681695789005144064 * (2 * (R : Int) * ((R : Int) + Z2) - (R : Int) * (R : Int) - ((n * (fU * fU) : Nat) : Int)) ≤ 50 * ((n * (fU * fU) : Nat) : Int) ∧
      -(50 * ((n * (fU * fU) : Nat) : Int)) ≤ 81129638414606681695789005144064 * (2 * (R : Int) * ((R : Int) + Z2) - (R : Int) * (R : Int) - ((n * (fU * fU) : Nat) : Int)) := by
  obtain ⟨R, hr, hI⟩ := nw_run h1 h2 40
  rw [nwB_40] at hI
  have hU := fU_pos
  have hR8 : R < 8192 * fU := by
    refine Nat.lt_of_not_le fun h9 => ?_
    have m1 : (8192 * fU) * (8192 * fU) ≤ R * R := Nat.mul_le_mul h9 h9
    have m2 : n * (fU * fU) ≤ 33554432 * (fU * fU) := Nat.mul_le_mul_right _ h2
    have m3 : 0 < fU * fU := Nat.mul_pos fU_pos fU_pos
    rw [Nat.mul_mul_mul_comm] at m1
    have m4 := hI.2
    generalize n * (fU * fU) = v at *
    generalize fU * fU = u at *
    generalize R * R = r at *
    omega
  obtain ⟨c, j, hRc, c1, c2, j1, j2⟩ := fe_split hr (nw_lo hI h1) hR8
  subst hRc
  obtain ⟨p, Z2, Y, q1, q2, q3, q4⟩ := dk_main h1 h2 (by rw [ic_mul]; exact hr) c1 c2 j1 j2 hI
  refine ⟨⟨fun k => ?_, p, _, q1⟩, c * 2 ^ j, Z2, Y, hI, q1, q2, q3, q4⟩
  obtain ⟨R', hr', hI'⟩ := nw_run h1 h2 k
  obtain ⟨R2, Q, S, g1, g2, g3, g4⟩ := nw_one h1 h2 (nwB_le k) hr' hI'
  exact ⟨⟨_, g1⟩, ⟨_, g2⟩, ⟨_, hr'⟩⟩
/-- the root by digits, rounded, is the root by Newton -/
theorem rt_eq {n p t : Nat} (h1 : 1 ≤ n) (h2 : n ≤ 33554432) (hp1 : 9007199254740992 ≤ p) (hp2 : p < 18014398509481984) (hs1 : p * p ≤ n * 4 ^ t) (hs2 : n * 4 ^ t < (p + 1) * (p + 1)) (ht : t ≤ 60) :
    isN (FP.ddiv (FP.l2d (lN ((p + 1) / 2))) (FP.l2d (lN (2 ^ t / 2)))) ∧ FP.ddiv (FP.l2d (lN ((p + 1) / 2))) (FP.l2d (lN (2 ^ t / 2))) = rtM n := by
  obtain ⟨-, R, Z2, Y, hI, hY, hr, hv1, hv2⟩ := rt_pre h1 h2
  have hpp : 9007199254740992 * 9007199254740992 ≤ p * p := Nat.mul_le_mul hp1 hp1
  have hpp2 : (p + 1) * (p + 1) ≤ 18014398509481984 * 18014398509481984 := Nat.mul_le_mul hp2 hp2
  have ht41 : 41 ≤ t := by
    refine Nat.le_of_not_lt fun h9 => ?_
    have m1 : (4 : Nat) ^ t ≤ 4 ^ 40 := Nat.pow_le_pow_right (by decide) (by omega)
    have m2 := Nat.mul_le_mul h2 m1
    rw [show (4 : Nat) ^ 40 = 1208925819614629174706176 by decide +kernel] at m2
    generalize n * 4 ^ t = a at *
    generalize p * p = pp at *
    omega
  obtain ⟨X, hX⟩ : ∃ X, n * 4 ^ t = X * 4835703278458516698824704 := by
    refine ⟨n * 4 ^ (t - 41), ?_⟩
    rw [show (4835703278458516698824704 : Nat) = 4 ^ 41 by decide +kernel, Nat.mul_assoc, ← Nat.pow_add]
    congr 2
    omega
  obtain ⟨h, hh⟩ : ∃ h, t + h = 1074 := ⟨1074 - t, by omega⟩
  have hN : n * (fU * fU) = n * 4 ^ t * (2 ^ h * 2 ^ h) := by
    rw [fU_e, ← hh, Nat.pow_add, show (4 : Nat) ^ t = 2 ^ t * 2 ^ t by rw [← Nat.mul_pow]]
    ac_rfl
  have hD : 0 < 2 ^ h := Nat.two_pow_pos h
  have hA : n * 4 ^ t < 324518553658426726783156020576256 := by
    generalize n * 4 ^ t = a at *
    generalize (p + 1) * (p + 1) = q at *
    omega
  obtain ⟨hlo, hhi⟩ := hI
  -- what the digits give
  have hd1 := dz_lN (m := (p + 1) / 2) (by omega)
  have ht2 : 2 ^ t / 2 = 2 ^ (t - 1) := by
    rw [show t = (t - 1) + 1 by omega, Nat.pow_succ, Nat.add_sub_cancel]
    omega
  have hd2 : dz (FP.l2d (lN (2 ^ t / 2))) ((2 ^ (t - 1) * fU : Nat) : Int) := by
    rw [ht2]
    exact dz_lN2 (by omega)
  have hB : 0 < 2 ^ (t - 1) * fU := Nat.mul_pos (Nat.two_pow_pos _) fU_pos
  obtain ⟨Yc, hYc, hYr⟩ := dz_div hd1 hd2 (by omega) (by
    rw [Int.natAbs_natCast, Int.natAbs_natCast]
    calc (p + 1) / 2 * fU * fU ≤ 9007199254740992 * fU * fU := Nat.mul_le_mul_right _ (Nat.mul_le_mul_right _ (by omega))
      _ < 2 ^ 2000 * fU := Nat.mul_lt_mul_of_pos_right (by rw [fU_e]; exact pw_big (Nat.le_refl _) (by decide)) fU_pos
      _ ≤ 2 ^ 2000 * (2 ^ (t - 1) * fU) := Nat.mul_le_mul_left _ (Nat.le_mul_of_pos_left _ (Nat.two_pow_pos _)))
  rw [Int.natAbs_natCast] at hYr
  have eYc := rI_ex (m := (((p + 1) / 2 : Nat) : Int)) (i := h + 1) hYr hB (by rw [Int.natAbs_natCast]; omega) (by
    rw [ic_mul, ic_mul]
    refine congrArg (fun x : Nat => (x : Int)) ?_
    have e9 : fU = 2 ^ (h + 1) * 2 ^ (t - 1) := by rw [fU_e, ← Nat.pow_add, show h + 1 + (t - 1) = 1074 by omega]
    calc (p + 1) / 2 * fU * fU = (p + 1) / 2 * (2 ^ (h + 1) * 2 ^ (t - 1)) * fU := by rw [← e9]
      _ = (p + 1) / 2 * (2 ^ (h + 1) * (2 ^ (t - 1) * fU)) := by rw [Nat.mul_assoc, Nat.mul_assoc])
  rw [ic_mul] at eYc
  -- what Newton gives
  have key : Y = (((p + 1) / 2 * 2 ^ (h + 1) : Nat) : Int) := by
    by_cases hp53 : p = 9007199254740992
    · have hA2 : n * 4 ^ t = 81129638414606681695789005144064 := by
        subst hp53
        generalize n * 4 ^ t = a at *
        omega
      rw [hA2] at hN
      obtain ⟨u1, u2⟩ := fe_mid hD hN hlo hhi hv1 hv2
      generalize (R : Int) + Z2 = V at *
      obtain ⟨v, rfl⟩ : ∃ v : Nat, V = (v : Int) := ⟨V.toNat, by omega⟩
      obtain ⟨k, j, e1, e2⟩ := rI_pos hr (by omega)
      rw [e1, rn_top (i := h) e2 (by decide) (by rw [Nat.mul_one]; omega) (by rw [Nat.mul_one]; omega)]
      refine congrArg (fun x : Nat => (x : Int)) ?_
      rw [hp53, Nat.pow_succ]
      omega
    · have hpl : p + 1 < 18014398509481984 := by
        refine Nat.lt_of_not_le fun h9 => ?_
        have e9 : p = 18014398509481983 := by omega
        rw [e9] at hs1 hs2
        generalize n * 4 ^ t = a at *
        omega
      have gA := gl_gap (M := 2 * ((p + 1) / 2) - 1) (X := X) (by omega) (by omega) (by omega)
      have gB := gl_gap (M := 2 * ((p + 1) / 2) + 1) (X := X) (by omega) (by omega) (by omega)
      rw [← hX] at gA gB
      generalize hc : (p + 1) / 2 = c at *
      have mA : (2 * c - 1) * (2 * c - 1) ≤ p * p := Nat.mul_le_mul (by omega) (by omega)
      have mB : (p + 1) * (p + 1) ≤ (2 * c + 1) * (2 * c + 1) := Nat.mul_le_mul (by omega) (by omega)
      have mC : (2 * c + 1) * (2 * c + 1) ≤ (p + 2) * (p + 2) := Nat.mul_le_mul (by omega) (by omega)
      have eC : (p + 2) * (p + 2) = p * p + 4 * p + 4 := by simp only [Nat.add_mul, Nat.mul_add]; omega
      have k1 : (2 * c - 1) * (2 * c - 1) + 2048 ≤ n * 4 ^ t := by
        generalize (2 * c - 1) * (2 * c - 1) = x at *
        generalize p * p = y at *
        generalize n * 4 ^ t = a at *
        omega
      have k2 : n * 4 ^ t + 2048 ≤ (2 * c + 1) * (2 * c + 1) := by
        generalize (2 * c + 1) * (2 * c + 1) = x at *
        generalize (p + 1) * (p + 1) = y at *
        generalize n * 4 ^ t = a at *
        omega
      have w1 := fe_up hD hN hA hv2 k1
      have w2 := fe_near (M := 2 * c + 1) hD hN hlo hhi hA (by omega) (by
        generalize (2 * c + 1) * (2 * c + 1) = x at *
        generalize p * p = y at *
        generalize n * 4 ^ t = a at *
        omega) (by
        generalize (2 * c + 1) * (2 * c + 1) = x at *
        generalize n * 4 ^ t = a at *
        omega)
      have w3 := fe_dn hD hN hA hv1 (fe_sq w2.1 w2.2) k2
      generalize (R : Int) + Z2 = V at *
      obtain ⟨v, rfl⟩ : ∃ v : Nat, V = (v : Int) := ⟨V.toNat, by omega⟩
      have x1 : (2 * c - 1) * 2 ^ h < v := by omega
      have x2 : v < (2 * c + 1) * 2 ^ h := by omega
      rw [Nat.add_mul, Nat.one_mul, Nat.mul_assoc] at x2
      have x3 : 2 * (c * 2 ^ h) < v + 2 ^ h := by
        have e9 : 2 * c * 2 ^ h = (2 * c - 1) * 2 ^ h + 2 ^ h := by
          have : 2 * c = (2 * c - 1) + 1 := by omega
          calc 2 * c * 2 ^ h = ((2 * c - 1) + 1) * 2 ^ h := by rw [← this]
            _ = _ := by rw [Nat.add_mul, Nat.one_mul]
        rw [Nat.mul_assoc] at e9
        generalize (2 * c - 1) * 2 ^ h = y at *
        generalize c * 2 ^ h = z at *
        omega
      have hv0 : 0 < v := by omega
      obtain ⟨k, j, e1, e2⟩ := rI_pos hr hv0
      have e3 : c * (2 ^ (h + 1) * 1) = 2 * (c * 2 ^ h) := by rw [Nat.mul_one, Nat.pow_succ]; ac_rfl
      have e4 : 2 ^ (h + 1) * 1 = 2 * 2 ^ h := by rw [Nat.mul_one, Nat.pow_succ, Nat.mul_comm]
      rw [e1, rn_fin (i := h + 1) (c := c) e2 (by decide) (by omega) (by omega) (by
        rw [e3, e4]
        generalize c * 2 ^ h = z at *
        omega) (by
        rw [e3, e4]
        generalize c * 2 ^ h = z at *
        omega)]
  rw [eYc] at hYc
  rw [key] at hY
  refine ⟨⟨_, hYc⟩, dz_eq hYc hY ?_⟩
  have m1 : 1 * 1 ≤ (p + 1) / 2 * 2 ^ (h + 1) := Nat.mul_le_mul (by omega) (Nat.two_pow_pos _)
  omega
