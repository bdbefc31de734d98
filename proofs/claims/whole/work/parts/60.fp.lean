/-! DOUBLES: what a rounding does, in units of the least double -/
theorem fb_q : FP.Core.b64.qmin = -1074 := by decide +kernel
theorem fb_m : FP.Core.b64.qmax = 971 := by decide +kernel
theorem fb_t : FP.Core.b64.tails = 4503599627370496 := by decide +kernel
theorem fb_e : FP.Core.b64.exps = 2048 := by decide +kernel
theorem fb_p : FP.Core.b64.p = 53 := rfl
def ffit (c : Nat) (q : Int) : Prop := c < 9007199254740992 ∧ -1074 ≤ q ∧ q ≤ 971 ∧ (q = -1074 ∨ 4503599627370496 ≤ c)
set_option maxRecDepth 100000 in
theorem fp_dec (s : Bool) (e t : Nat) (he : e < 2047) (ht : t < 4503599627370496) : FP.Core.decode FP.Core.b64 ((s.toNat * 2048 + e) * 4503599627370496 + t) = if e = 0 then .fin s t (-1074) else .fin s (4503599627370496 + t) (-1074 + ((e : Int) - 1)) := by
  have hs : s.toNat < 2 := by cases s <;> decide
  unfold FP.Core.decode FP.Core.fieldE FP.Core.fieldT FP.Core.fieldS
  rw [fb_t, fb_e, fb_q]
  have e1 : ((s.toNat * 2048 + e) * 4503599627370496 + t) / 4503599627370496 = s.toNat * 2048 + e := by omega
  have e2 : ((s.toNat * 2048 + e) * 4503599627370496 + t) % 4503599627370496 = t := by omega
  have e3 : (s.toNat * 2048 + e) % 2048 = e := by omega
  have e4 : (s.toNat * 2048 + e) / 2048 = s.toNat := by omega
  have e5 : (s.toNat % 2 == 1) = s := by cases s <;> rfl
  rw [e1, e2, e3, e4, e5, if_neg (show ¬ e = 2048 - 1 by omega)]
theorem fp_enc {s : Bool} {c : Nat} {q : Int} (h : ffit c q) : FP.Core.encode FP.Core.b64 (.fin s c q) < 18446744073709551616 ∧ FP.Core.decode FP.Core.b64 (FP.Core.encode FP.Core.b64 (.fin s c q)) = .fin s c q := by
  obtain ⟨h1, h2, h3, h4⟩ := h
  have hs : s.toNat < 2 := by cases s <;> decide
  by_cases hc : c < 4503599627370496
  · have hq : q = -1074 := by omega
    subst hq
    have e9 : FP.Core.encode FP.Core.b64 (.fin s c (-1074)) = (s.toNat * 2048 + 0) * 4503599627370496 + c := by
      rw [FP.Core.encode, if_pos (by rw [fb_t]; exact hc)]
      unfold FP.Core.assemble
      rw [fb_t, fb_e]
    rw [e9, fp_dec s 0 c (by decide) hc, if_pos rfl]
    exact ⟨by omega, rfl⟩
  · have e9 : FP.Core.encode FP.Core.b64 (.fin s c q) = (s.toNat * 2048 + ((q + 1074).toNat + 1)) * 4503599627370496 + (c - 4503599627370496) := by
      rw [FP.Core.encode, if_neg (by rw [fb_t]; exact hc)]
      unfold FP.Core.assemble
      rw [fb_t, fb_e, fb_q, show q - -1074 = q + 1074 by omega]
    rw [e9, fp_dec s _ _ (by omega) (by omega), if_neg (by omega)]
    refine ⟨by omega, ?_⟩
    rw [show 4503599627370496 + (c - 4503599627370496) = c by omega, show (-1074 : Int) + ((((q + 1074).toNat + 1 : Nat) : Int) - 1) = q by omega]
theorem bit_toNat (n : Nat) : (n % 2 == 1).toNat = n % 2 := by
  rcases Nat.mod_two_eq_zero_or_one n with h | h <;> rw [h] <;> rfl
theorem fp_inj {n : Nat} {s : Bool} {c : Nat} {q : Int} (hn : n < 18446744073709551616) (h : FP.Core.decode FP.Core.b64 n = .fin s c q) : n = FP.Core.encode FP.Core.b64 (.fin s c q) := by
  unfold FP.Core.decode FP.Core.fieldE FP.Core.fieldT FP.Core.fieldS at h
  rw [fb_t, fb_e, fb_q] at h
  split at h
  · split at h <;> cases h
  · rename_i h0
    split at h
    · rename_i h1
      cases h
      rw [FP.Core.encode, if_pos (by rw [fb_t]; omega)]
      unfold FP.Core.assemble
      rw [fb_t, fb_e, bit_toNat]
      omega
    · rename_i h1
      cases h
      rw [FP.Core.encode, if_neg (by rw [fb_t]; omega)]
      unfold FP.Core.assemble
      rw [fb_t, fb_e, fb_q, bit_toNat]
      omega
theorem fp_near (n d : Nat) (hd : 0 < d) : 2 * n ≤ (2 * FP.Core.nearest n d + 1) * d ∧ 2 * FP.Core.nearest n d * d ≤ 2 * n + d := by
  have h1 := Nat.div_add_mod n d
  have h2 := Nat.mod_lt n hd
  have L1 : ∀ m, (2 * m + 1) * d = 2 * (d * m) + d := fun m => by rw [Nat.add_mul, Nat.one_mul, Nat.mul_assoc, Nat.mul_comm m d]
  have L2 : ∀ m, 2 * m * d = 2 * (d * m) := fun m => by rw [Nat.mul_assoc, Nat.mul_comm m d]
  rw [L1, L2]
  unfold FP.Core.nearest
  generalize n / d = m at *
  generalize n % d = r at *
  have L3 : d * (m + 1) = d * m + d := Nat.mul_succ d m
  split
  · generalize d * m = x at *; omega
  · split
    · rw [L3]; generalize d * m = x at *; omega
    · rcases Nat.mod_two_eq_zero_or_one m with h | h
      · rw [h, Nat.add_zero]; generalize d * m = x at *; omega
      · rw [h, L3]; generalize d * m = x at *; omega
/-- how great a ratio is, by its leading digit -/
theorem lead_ge {A B x y : Nat} (hA : 0 < A) (hB : 0 < B) (h : (x : Int) ≤ FP.Core.leading A B + y) : B * 2 ^ x ≤ A * 2 ^ y := by
  have a1 : 2 ^ A.log2 ≤ A := Nat.log2_self_le (by omega)
  have b2 : B < 2 ^ (B.log2 + 1) := Nat.lt_log2_self
  unfold FP.Core.leading at h
  generalize A.log2 = a at *
  generalize B.log2 = b at *
  dsimp only at h
  split at h
  · rename_i hc
    generalize hp : ((a : Int) - (b : Int)).toNat = p at hc
    generalize hm : (-((a : Int) - (b : Int))).toNat = m at hc
    have h3 : x + m ≤ p + y := by omega
    refine Nat.le_of_mul_le_mul_right ?_ (Nat.two_pow_pos m)
    calc B * 2 ^ x * 2 ^ m = B * 2 ^ (x + m) := by rw [Nat.pow_add, Nat.mul_assoc]
      _ ≤ B * 2 ^ (p + y) := Nat.mul_le_mul_left B (Nat.pow_le_pow_right (by decide) h3)
      _ = B * 2 ^ p * 2 ^ y := by rw [Nat.pow_add, Nat.mul_assoc]
      _ ≤ A * 2 ^ m * 2 ^ y := Nat.mul_le_mul_right _ hc
      _ = A * 2 ^ y * 2 ^ m := by ac_rfl
  · have h3 : b + 1 + x ≤ a + y := by omega
    calc B * 2 ^ x ≤ 2 ^ (b + 1) * 2 ^ x := Nat.mul_le_mul_right _ (Nat.le_of_lt b2)
      _ = 2 ^ (b + 1 + x) := (Nat.pow_add ..).symm
      _ ≤ 2 ^ (a + y) := Nat.pow_le_pow_right (by decide) h3
      _ = 2 ^ a * 2 ^ y := Nat.pow_add ..
      _ ≤ A * 2 ^ y := Nat.mul_le_mul_right _ a1
theorem lead_lt {A B x y : Nat} (hA : 0 < A) (hB : 0 < B) (h : FP.Core.leading A B + (y : Int) < x) : A * 2 ^ y < B * 2 ^ x := by
  have a2 : A < 2 ^ (A.log2 + 1) := Nat.lt_log2_self
  have b1 : 2 ^ B.log2 ≤ B := Nat.log2_self_le (by omega)
  unfold FP.Core.leading at h
  generalize A.log2 = a at *
  generalize B.log2 = b at *
  dsimp only at h
  split at h
  · have h3 : a + 1 + y ≤ b + x := by omega
    calc A * 2 ^ y < 2 ^ (a + 1) * 2 ^ y := Nat.mul_lt_mul_of_pos_right a2 (Nat.two_pow_pos y)
      _ = 2 ^ (a + 1 + y) := (Nat.pow_add ..).symm
      _ ≤ 2 ^ (b + x) := Nat.pow_le_pow_right (by decide) h3
      _ = 2 ^ b * 2 ^ x := Nat.pow_add ..
      _ ≤ B * 2 ^ x := Nat.mul_le_mul_right _ b1
  · rename_i hc
    generalize hp : ((a : Int) - (b : Int)).toNat = p at hc
    generalize hm : (-((a : Int) - (b : Int))).toNat = m at hc
    have h3 : p + y ≤ x + m := by omega
    have hc := Nat.lt_of_not_le hc
    have h4 : A * 2 ^ y * 2 ^ m < B * 2 ^ x * 2 ^ m := by
      calc A * 2 ^ y * 2 ^ m = A * 2 ^ m * 2 ^ y := by ac_rfl
        _ < B * 2 ^ p * 2 ^ y := Nat.mul_lt_mul_of_pos_right hc (Nat.two_pow_pos y)
        _ = B * 2 ^ (p + y) := by rw [Nat.pow_add, Nat.mul_assoc]
        _ ≤ B * 2 ^ (x + m) := Nat.mul_le_mul_left B (Nat.pow_le_pow_right (by decide) h3)
        _ = B * 2 ^ x * 2 ^ m := by rw [Nat.pow_add, Nat.mul_assoc]
    exact Nat.lt_of_mul_lt_mul_right h4
theorem p52 : (4503599627370496 : Nat) = 2 ^ 52 := by decide +kernel
theorem p53 : (9007199254740992 : Nat) = 2 ^ 53 := by decide +kernel
/-- A / B rounded to k * 2 ^ j -/
def rnN (A B k j : Nat) : Prop := k ≤ 9007199254740992 ∧ A < 9007199254740992 * (2 ^ j * B) ∧ (j = 0 ∨ 4503599627370496 * (2 ^ j * B) ≤ A) ∧ 2 * A ≤ (2 * k + 1) * (2 ^ j * B) ∧ 2 * k * (2 ^ j * B) ≤ 2 * A + 2 ^ j * B
theorem fp_quant {A B t u : Nat} {e : Int} (he : e = (t : Int) - u - 1074) (hA : 0 < A) (hB : 0 < B) : ∃ j : Nat, FP.Core.quantum FP.Core.b64 A B e = (j : Int) - 1074 ∧ A * 2 ^ t < 9007199254740992 * (2 ^ j * (B * 2 ^ u)) ∧ (j = 0 ∨ 4503599627370496 * (2 ^ j * (B * 2 ^ u)) ≤ A * 2 ^ t) := by
  have g1 := fun x y => lead_ge (A := A) (B := B) (x := x) (y := y) hA hB
  have g2 := fun x y => lead_lt (A := A) (B := B) (x := x) (y := y) hA hB
  unfold FP.Core.quantum
  rw [fb_q, fb_p]
  generalize FP.Core.leading A B = L at *
  have c1 : ∀ j, B * 2 ^ (53 + j + u) = 9007199254740992 * (2 ^ j * (B * 2 ^ u)) := fun j => by rw [Nat.pow_add, Nat.pow_add, p53]; ac_rfl
  have c2 : ∀ j, B * 2 ^ (52 + j + u) = 4503599627370496 * (2 ^ j * (B * 2 ^ u)) := fun j => by rw [Nat.pow_add, Nat.pow_add, p52]; ac_rfl
  by_cases h : 52 ≤ L + t - u
  · refine ⟨(L + t - u - 52).toNat, by omega, ?_, Or.inr ?_⟩
    · rw [← c1]; exact g2 _ _ (by omega)
    · rw [← c2]; exact g1 _ _ (by omega)
  · refine ⟨0, by omega, ?_, Or.inl rfl⟩
    rw [← c1]; exact g2 _ _ (by omega)
theorem rn_le {A D k : Nat} (hD : 0 < D) (h1 : A < 9007199254740992 * D) (h2 : 2 * k * D ≤ 2 * A + D) : k ≤ 9007199254740992 := by
  have h3 : 2 * k * D < (2 * 9007199254740992 + 1) * D := by
    rw [Nat.add_mul, Nat.one_mul, Nat.mul_assoc 2 9007199254740992]
    generalize 2 * k * D = x at *
    omega
  have := Nat.lt_of_mul_lt_mul_right h3
  omega
theorem rn_ge {A D k : Nat} (hD : 0 < D) (h1 : 4503599627370496 * D ≤ A) (h2 : 2 * A ≤ (2 * k + 1) * D) : 4503599627370496 ≤ k := by
  have h3 : (2 * 4503599627370496) * D ≤ (2 * k + 1) * D := by
    rw [Nat.mul_assoc]
    generalize (2 * k + 1) * D = x at *
    omega
  have := Nat.le_of_mul_le_mul_right h3 hD
  omega
theorem fp_rnd {A B t u : Nat} {e : Int} (s : Bool) (he : e = (t : Int) - u - 1074) (hA : 0 < A) (hB : 0 < B) (hlt : A * 2 ^ t < 2 ^ 2000 * (B * 2 ^ u)) :
    ∃ (c : Nat) (q : Int) (k j : Nat), FP.Core.roundRatio FP.Core.b64 s A B e = .fin s c q ∧ ffit c q ∧ c * 2 ^ (q + 1074).toNat = k * 2 ^ j ∧ rnN (A * 2 ^ t) (B * 2 ^ u) k j := by
  obtain ⟨j, hq, h1, h2⟩ := fp_quant he hA hB
  have hD : 0 < B * 2 ^ u := Nat.mul_pos hB (Nat.two_pow_pos u)
  have hj : j < 1960 := by
    rcases h2 with h2 | h2
    · omega
    · refine Nat.lt_of_not_le fun h9 => ?_
      have h3 : 2 ^ 2000 * (B * 2 ^ u) ≤ 4503599627370496 * (2 ^ j * (B * 2 ^ u)) := by
        rw [← Nat.mul_assoc 4503599627370496]
        refine Nat.mul_le_mul_right _ ?_
        rw [p52, ← Nat.pow_add]
        exact Nat.pow_le_pow_right (by decide) (by omega)
      exact absurd (Nat.le_trans h3 h2) (Nat.not_le.mpr hlt)
  obtain ⟨z, hn, hd⟩ : ∃ z, FP.Core.unitsNum A e ((j : Int) - 1074) * 2 ^ z = A * 2 ^ t ∧ FP.Core.unitsDen B e ((j : Int) - 1074) * 2 ^ z = 2 ^ j * (B * 2 ^ u) := by
    refine ⟨min t (u + j), ?_, ?_⟩
    · unfold FP.Core.unitsNum
      rw [Nat.mul_assoc, ← Nat.pow_add]
      congr 2
      omega
    · unfold FP.Core.unitsDen
      rw [Nat.mul_assoc, ← Nat.pow_add, show (((j : Int) - 1074) - e).toNat + min t (u + j) = j + u by omega, Nat.pow_add]
      ac_rfl
  have hdp : 0 < FP.Core.unitsDen B e ((j : Int) - 1074) := Nat.mul_pos hB (Nat.two_pow_pos _)
  obtain ⟨k1, k2⟩ := fp_near (FP.Core.unitsNum A e ((j : Int) - 1074)) _ hdp
  unfold FP.Core.roundRatio
  rw [if_neg (by omega)]
  unfold FP.Core.roundAt
  rw [hq]
  generalize FP.Core.nearest (FP.Core.unitsNum A e ((j : Int) - 1074)) (FP.Core.unitsDen B e ((j : Int) - 1074)) = k at *
  generalize FP.Core.unitsNum A e ((j : Int) - 1074) = n at *
  generalize FP.Core.unitsDen B e ((j : Int) - 1074) = d at *
  have k3 : 2 * (A * 2 ^ t) ≤ (2 * k + 1) * (2 ^ j * (B * 2 ^ u)) := by
    have := Nat.mul_le_mul_right (2 ^ z) k1
    rw [Nat.mul_assoc 2 n, hn, Nat.mul_assoc (2 * k + 1) d, hd] at this
    exact this
  have k4 : 2 * k * (2 ^ j * (B * 2 ^ u)) ≤ 2 * (A * 2 ^ t) + 2 ^ j * (B * 2 ^ u) := by
    have := Nat.mul_le_mul_right (2 ^ z) k2
    rw [Nat.add_mul, Nat.mul_assoc 2 n, hn, Nat.mul_assoc (2 * k) d, hd] at this
    exact this
  have hDj : 0 < 2 ^ j * (B * 2 ^ u) := Nat.mul_pos (Nat.two_pow_pos j) hD
  have hk := rn_le hDj h1 k4
  unfold FP.Core.settle FP.Core.bound
  rw [fb_p, fb_m, fb_t, ← p53]
  by_cases hk9 : k < 9007199254740992
  · refine ⟨k, (j : Int) - 1074, k, j, ?_, ⟨hk9, by omega, by omega, ?_⟩, ?_, hk, h1, h2, k3, k4⟩
    · rw [if_pos hk9, if_pos (by omega)]
    · rcases h2 with h2 | h2
      · exact Or.inl (by omega)
      · exact Or.inr (rn_ge hDj h2 k3)
    · rw [show ((j : Int) - 1074 + 1074).toNat = j by omega]
  · refine ⟨4503599627370496, (j : Int) - 1074 + 1, k, j, ?_, ⟨by decide, by omega, by omega, Or.inr (Nat.le_refl _)⟩, ?_, hk, h1, h2, k3, k4⟩
    · rw [if_neg hk9, if_pos (by omega)]
    · rw [show ((j : Int) - 1074 + 1 + 1074).toNat = j + 1 by omega, show k = 9007199254740992 by omega, Nat.pow_succ]
      generalize 2 ^ j = x
      omega
theorem rn_D {A B k j : Nat} (h : rnN A B k j) (hB : 0 < B) : 0 < 2 ^ j * B := Nat.mul_pos (Nat.two_pow_pos j) hB
theorem rn_eq {A B k j M : Nat} (h : rnN A B k j) (hB : 0 < B) (hA : A = M * (2 ^ j * B)) : k = M := by
  have hD := rn_D h hB
  obtain ⟨-, -, -, h4, h5⟩ := h
  generalize 2 ^ j * B = D at *
  subst hA
  have a1 : (2 * M) * D ≤ (2 * k + 1) * D := by rw [Nat.mul_assoc]; exact h4
  have a2 : (2 * k) * D ≤ (2 * M + 1) * D := by rw [Nat.add_mul, Nat.one_mul, Nat.mul_assoc 2 M]; exact h5
  have a3 := Nat.le_of_mul_le_mul_right a1 hD
  have a4 := Nat.le_of_mul_le_mul_right a2 hD
  omega
/-- the greater power holds the smaller one twice -/
theorem pw_two {i j B : Nat} (h : i < j) : 2 * (2 ^ i * B) ≤ 2 ^ j * B := by
  obtain ⟨w, rfl⟩ : ∃ w, j = i + 1 + w := ⟨j - i - 1, by omega⟩
  rw [Nat.pow_add, Nat.pow_succ]
  calc 2 * (2 ^ i * B) = 2 ^ i * 2 * 1 * B := by rw [Nat.mul_one]; ac_rfl
    _ ≤ 2 ^ i * 2 * 2 ^ w * B := Nat.mul_le_mul_right _ (Nat.mul_le_mul_left _ (Nat.two_pow_pos w))
theorem rn_ex {A B k j m i : Nat} (h : rnN A B k j) (hB : 0 < B) (hm : m ≤ 9007199254740992) (hA : A = m * (2 ^ i * B)) : k * 2 ^ j = m * 2 ^ i := by
  by_cases hij : j ≤ i
  · obtain ⟨w, rfl⟩ : ∃ w, i = j + w := ⟨i - j, by omega⟩
    have := rn_eq h hB (M := m * 2 ^ w) (by rw [hA, Nat.pow_add]; ac_rfl)
    rw [this, Nat.pow_add]; ac_rfl
  · have h2 := pw_two (B := B) (show i < j by omega)
    have hDi : 0 < 2 ^ i * B := Nat.mul_pos (Nat.two_pow_pos i) hB
    obtain ⟨-, -, h3, -, -⟩ := id h
    have h3 : 4503599627370496 * (2 ^ j * B) ≤ A := by
      rcases h3 with h3 | h3
      · omega
      · exact h3
    have h4 : m * (2 ^ i * B) ≤ 9007199254740992 * (2 ^ i * B) := Nat.mul_le_mul_right _ hm
    have h5 : A = 4503599627370496 * (2 ^ j * B) := by
      rw [← hA] at h4
      generalize 2 ^ i * B = x at *
      generalize 2 ^ j * B = y at *
      omega
    have h6 := rn_eq h hB h5
    have h7 : m * (2 ^ i * B) = k * (2 ^ j * B) := by rw [h6, ← hA, h5]
    rw [← Nat.mul_assoc, ← Nat.mul_assoc] at h7
    exact (Nat.eq_of_mul_eq_mul_right hB h7).symm
theorem rn_dvd {A B k j i : Nat} (h : rnN A B k j) (hB : 0 < B) (hA : 4503599627370496 * (2 ^ i * B) ≤ A) : ∃ w, k * 2 ^ j = w * 2 ^ i := by
  by_cases hij : j < i
  · have h2 := pw_two (B := B) hij
    obtain ⟨-, h3, -, -, -⟩ := h
    generalize 2 ^ i * B = x at *
    generalize 2 ^ j * B = y at *
    omega
  · refine ⟨k * 2 ^ (j - i), ?_⟩
    rw [Nat.mul_assoc, ← Nat.pow_add]
    congr 2
    omega
theorem rn_hf {A B k j i : Nat} (h : rnN A B k j) (hB : 0 < B) (hA : A ≤ 9007199254740992 * (2 ^ i * B)) : 2 * A ≤ 2 * (k * 2 ^ j * B) + 2 ^ i * B ∧ 2 * (k * 2 ^ j * B) ≤ 2 * A + 2 ^ i * B := by
  rw [Nat.mul_assoc k]
  by_cases hij : i < j
  · have h2 := pw_two (B := B) hij
    obtain ⟨-, -, h3, -, -⟩ := id h
    have h3 : 4503599627370496 * (2 ^ j * B) ≤ A := by
      rcases h3 with h3 | h3
      · omega
      · exact h3
    have h5 : A = 4503599627370496 * (2 ^ j * B) := by
      generalize 2 ^ i * B = x at *
      generalize 2 ^ j * B = y at *
      omega
    have h6 := rn_eq h hB h5
    rw [h6, ← h5]
    generalize 2 ^ i * B = x at *
    omega
  · have h2 : 2 ^ j * B ≤ 2 ^ i * B := Nat.mul_le_mul_right _ (Nat.pow_le_pow_right (by decide) (by omega))
    obtain ⟨-, -, -, h4, h5⟩ := h
    rw [Nat.add_mul, Nat.one_mul, Nat.mul_assoc] at h4
    rw [Nat.mul_assoc] at h5
    generalize 2 ^ i * B = x at *
    generalize 2 ^ j * B = y at *
    generalize k * y = z at *
    omega
theorem rn_rel {A B k j : Nat} (h : rnN A B k j) (hB : 0 < B) (hA : 4503599627370496 * B ≤ A) : 9007199254740992 * A ≤ 9007199254740992 * (k * 2 ^ j * B) + A ∧ 9007199254740992 * (k * 2 ^ j * B) ≤ 9007199254740992 * A + A := by
  rw [Nat.mul_assoc k]
  obtain ⟨-, -, h3, h4, h5⟩ := h
  have h3 : 4503599627370496 * (2 ^ j * B) ≤ A := by
    rcases h3 with h3 | h3
    · rw [h3, Nat.pow_zero, Nat.one_mul]; exact hA
    · exact h3
  rw [Nat.add_mul, Nat.one_mul, Nat.mul_assoc] at h4
  rw [Nat.mul_assoc] at h5
  generalize 2 ^ j * B = y at *
  generalize k * y = z at *
  omega
theorem rn_fin {A B k j c i : Nat} (h : rnN A B k j) (hB : 0 < B) (c1 : 4503599627370496 < c) (c2 : c < 9007199254740992) (h1 : 2 * (c * (2 ^ i * B)) < 2 * A + 2 ^ i * B) (h2 : 2 * A < 2 * (c * (2 ^ i * B)) + 2 ^ i * B) : k * 2 ^ j = c * 2 ^ i := by
  obtain ⟨-, g2, g3, g4, g5⟩ := h
  have hDi : 0 < 2 ^ i * B := Nat.mul_pos (Nat.two_pow_pos i) hB
  have m1 : 4503599627370497 * (2 ^ i * B) ≤ c * (2 ^ i * B) := Nat.mul_le_mul_right _ c1
  have m2 : c * (2 ^ i * B) ≤ 9007199254740991 * (2 ^ i * B) := Nat.mul_le_mul_right _ (by omega)
  rcases Nat.lt_trichotomy j i with hij | hij | hij
  · have h9 := pw_two (B := B) hij
    generalize c * (2 ^ i * B) = z at *
    generalize 2 ^ i * B = x at *
    generalize 2 ^ j * B = y at *
    omega
  · subst hij
    rw [Nat.add_mul, Nat.one_mul, Nat.mul_assoc] at g4
    rw [Nat.mul_assoc] at g5
    have a1 : c * (2 ^ j * B) < (k + 1) * (2 ^ j * B) := by
      rw [Nat.add_mul, Nat.one_mul]
      generalize c * (2 ^ j * B) = z at *
      generalize k * (2 ^ j * B) = z2 at *
      omega
    have a2 : k * (2 ^ j * B) < (c + 1) * (2 ^ j * B) := by
      rw [Nat.add_mul, Nat.one_mul]
      generalize c * (2 ^ j * B) = z at *
      generalize k * (2 ^ j * B) = z2 at *
      omega
    have b1 := Nat.lt_of_mul_lt_mul_right a1
    have b2 := Nat.lt_of_mul_lt_mul_right a2
    rw [show k = c by omega]
  · have h9 := pw_two (B := B) hij
    have g3 : 4503599627370496 * (2 ^ j * B) ≤ A := by
      rcases g3 with h3 | h3
      · omega
      · exact h3
    generalize c * (2 ^ i * B) = z at *
    generalize 2 ^ i * B = x at *
    generalize 2 ^ j * B = y at *
    omega
theorem rn_top {A B k j i : Nat} (h : rnN A B k j) (hB : 0 < B) (h1 : 18014398509481984 * (2 ^ i * B) < 2 * A + 2 ^ i * B) (h2 : 2 * A < 18014398509481984 * (2 ^ i * B) + 2 ^ i * B) : k * 2 ^ j = 9007199254740992 * 2 ^ i := by
  obtain ⟨-, g2, g3, g4, g5⟩ := h
  have hDi : 0 < 2 ^ i * B := Nat.mul_pos (Nat.two_pow_pos i) hB
  rcases Nat.lt_trichotomy j i with hij | hij | hij
  · have h9 := pw_two (B := B) hij
    generalize 2 ^ i * B = x at *
    generalize 2 ^ j * B = y at *
    omega
  · subst hij
    rw [Nat.add_mul, Nat.one_mul, Nat.mul_assoc] at g4
    rw [Nat.mul_assoc] at g5
    have a1 : 9007199254740992 * (2 ^ j * B) < (k + 1) * (2 ^ j * B) := by
      rw [Nat.add_mul, Nat.one_mul]
      generalize k * (2 ^ j * B) = z2 at *
      omega
    have a2 : k * (2 ^ j * B) < (9007199254740992 + 1) * (2 ^ j * B) := by
      generalize k * (2 ^ j * B) = z2 at *
      omega
    have b1 := Nat.lt_of_mul_lt_mul_right a1
    have b2 := Nat.lt_of_mul_lt_mul_right a2
    rw [show k = 9007199254740992 by omega]
  · have g3 : 4503599627370496 * (2 ^ j * B) ≤ A := by
      rcases g3 with h3 | h3
      · omega
      · exact h3
    have hj : j = i + 1 := by
      refine Nat.le_antisymm (Nat.le_of_not_lt fun h9 => ?_) hij
      have q1 := pw_two (B := B) h9
      have q2 := pw_two (B := B) (Nat.lt_succ_self i)
      generalize 2 ^ i * B = x at *
      generalize 2 ^ j * B = y at *
      generalize 2 ^ (i + 1) * B = v at *
      omega
    subst hj
    have e2 : 2 ^ (i + 1) * B = 2 * (2 ^ i * B) := by rw [Nat.pow_succ]; ac_rfl
    rw [Nat.add_mul, Nat.one_mul, Nat.mul_assoc, e2] at g4
    rw [Nat.mul_assoc, e2] at g5
    generalize 2 ^ i * B = x at *
    have a1 : 4503599627370496 * (2 * x) < (k + 1) * (2 * x) := by
      rw [Nat.add_mul, Nat.one_mul]
      generalize k * (2 * x) = z2 at *
      omega
    have a2 : k * (2 * x) < (4503599627370496 + 1) * (2 * x) := by
      generalize k * (2 * x) = z2 at *
      omega
    have b1 := Nat.lt_of_mul_lt_mul_right a1
    have b2 := Nat.lt_of_mul_lt_mul_right a2
    rw [show k = 4503599627370496 by omega, Nat.pow_succ]
    generalize 2 ^ i = v
    omega
