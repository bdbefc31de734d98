/-! DOUBLES: the operations, on the values as whole numbers of least doubles -/
def dz (a : UInt64) (X : Int) : Prop := ∃ (s : Bool) (c : Nat) (q : Int), FP.Core.decode FP.Core.b64 a.toNat = .fin s c q ∧ ffit c q ∧ X = FP.Core.signed s (c * 2 ^ (q + 1074).toNat)
def fU : Nat := 2 ^ 1074
theorem fU_pos : 0 < fU := Nat.two_pow_pos 1074
theorem fU_e : fU = 2 ^ 1074 := rfl
theorem sg_abs (s : Bool) (n : Nat) : (FP.Core.signed s n).natAbs = n := by
  unfold FP.Core.signed
  cases s <;> simp
theorem sg_mul (s : Bool) (a b : Nat) : FP.Core.signed s (a * b) = FP.Core.signed s a * (b : Int) := by
  unfold FP.Core.signed
  cases s <;> simp [Int.neg_mul]
theorem sg_zero (s : Bool) : FP.Core.signed s 0 = 0 := by cases s <;> rfl
theorem sg_mul2 (s t : Bool) (a b : Nat) : FP.Core.signed (s != t) (a * b) = FP.Core.signed s a * FP.Core.signed t b := by
  unfold FP.Core.signed
  cases s <;> cases t <;> simp [Int.neg_mul, Int.mul_neg]
theorem dz_mk {s : Bool} {c : Nat} {q : Int} (h : ffit c q) : dz (UInt64.ofNat (FP.Core.encode FP.Core.b64 (.fin s c q))) (FP.Core.signed s (c * 2 ^ (q + 1074).toNat)) := by
  obtain ⟨h1, h2⟩ := fp_enc (s := s) h
  refine ⟨s, c, q, ?_, h, rfl⟩
  rw [UInt64.toNat_ofNat_of_lt' (show _ < UInt64.size from h1)]; exact h2
/-- A / B rounded, with its sign -/
def rnI (A : Int) (B : Nat) (Z : Int) : Prop := ∃ (s : Bool) (k j : Nat), rnN A.natAbs B k j ∧ A = FP.Core.signed s A.natAbs ∧ Z = FP.Core.signed s (k * 2 ^ j)
theorem dz_rnd (s : Bool) {m B t u : Nat} {e : Int} (he : e = (t : Int) - u - 1074) (hB : 0 < B) (hlt : m * 2 ^ t < 2 ^ 2000 * (B * 2 ^ u)) :
    ∃ Z, dz (UInt64.ofNat (FP.Core.encode FP.Core.b64 (FP.Core.roundRatio FP.Core.b64 s m B e))) Z ∧ rnI (FP.Core.signed s (m * 2 ^ t)) (B * 2 ^ u) Z := by
  have hD : 0 < B * 2 ^ u := Nat.mul_pos hB (Nat.two_pow_pos u)
  by_cases hm : m = 0
  · subst hm
    refine ⟨0, ?_, s, 0, 0, ?_, ?_, ?_⟩
    · unfold FP.Core.roundRatio
      rw [if_pos rfl, fb_q]
      have := dz_mk (s := s) (c := 0) (q := -1074) ⟨by decide, by decide, by decide, Or.inl rfl⟩
      rw [Nat.zero_mul, sg_zero] at this
      exact this
    · rw [Nat.zero_mul, sg_zero]
      refine ⟨by decide, ?_, Or.inl rfl, ?_, ?_⟩
      · show 0 < _
        omega
      · show 2 * 0 ≤ _
        omega
      · show 2 * 0 * _ ≤ 2 * 0 + _
        omega
    · rw [Nat.zero_mul, sg_zero]
      exact (sg_zero s).symm
    · rw [Nat.zero_mul, sg_zero]
  · obtain ⟨c, q, k, j, h1, h2, h3, h4⟩ := fp_rnd s he (by omega) hB hlt
    refine ⟨FP.Core.signed s (k * 2 ^ j), ?_, s, k, j, ?_, ?_, rfl⟩
    · rw [h1, ← h3]; exact dz_mk h2
    · rw [sg_abs]; exact h4
    · rw [sg_abs]
theorem sum_sign {v : Int} {s t : Bool} (n : Nat) : FP.Core.signed (FP.Core.sumSign s t v) (v.natAbs * n) = v * (n : Int) := by
  rw [sg_mul]
  congr 1
  unfold FP.Core.sumSign FP.Core.signed
  by_cases h : v = 0
  · rw [if_pos h, h]; cases s <;> cases t <;> rfl
  · rw [if_neg h]
    by_cases h2 : v < 0
    · rw [decide_eq_true h2, if_pos rfl]; omega
    · rw [decide_eq_false h2, if_neg (by decide)]; omega
theorem dz_sum {s t : Bool} {c d : Nat} {q r : Int} (hq : -1074 ≤ q) (hr : -1074 ≤ r) (hlt : (FP.Core.signed s (c * 2 ^ (q + 1074).toNat) + FP.Core.signed t (d * 2 ^ (r + 1074).toNat)).natAbs < 2 ^ 2000) :
    ∃ Z, dz (UInt64.ofNat (FP.Core.encode FP.Core.b64 (FP.Core.round FP.Core.b64 (FP.Core.exactSum (.fin s c q) (.fin t d r))))) Z ∧ rnI (FP.Core.signed s (c * 2 ^ (q + 1074).toNat) + FP.Core.signed t (d * 2 ^ (r + 1074).toNat)) 1 Z := by
  have hv : FP.Core.signed s (c * 2 ^ (q + 1074).toNat) + FP.Core.signed t (d * 2 ^ (r + 1074).toNat) = FP.Core.sumUnits s c q t d r (min q r) * ((2 ^ (min q r + 1074).toNat : Nat) : Int) := by
    unfold FP.Core.sumUnits FP.Core.inUnits
    rw [Int.add_mul, ← sg_mul, ← sg_mul, Nat.mul_assoc, Nat.mul_assoc, ← Nat.pow_add, ← Nat.pow_add, show (q - min q r).toNat + (min q r + 1074).toNat = (q + 1074).toNat by omega, show (r - min q r).toNat + (min q r + 1074).toNat = (r + 1074).toNat by omega]
  show ∃ Z, dz (UInt64.ofNat (FP.Core.encode FP.Core.b64 (FP.Core.roundRatio FP.Core.b64 (FP.Core.sumSign s t (FP.Core.sumUnits s c q t d r (min q r))) (FP.Core.sumUnits s c q t d r (min q r)).natAbs 1 (min q r)))) Z ∧ _
  rw [hv] at hlt ⊢
  generalize FP.Core.sumUnits s c q t d r (min q r) = v at *
  have h1 := dz_rnd (FP.Core.sumSign s t v) (m := v.natAbs) (B := 1) (t := (min q r + 1074).toNat) (u := 0) (e := min q r) (by omega) (by decide) (by
    rw [Int.natAbs_mul, Int.natAbs_natCast] at hlt
    rw [Nat.pow_zero, Nat.mul_one]; exact hlt)
  rw [sum_sign, Nat.pow_zero, Nat.mul_one] at h1
  exact h1
theorem dz_add {a b : UInt64} {X Y : Int} (ha : dz a X) (hb : dz b Y) (hlt : (X + Y).natAbs < 2 ^ 2000) : ∃ Z, dz (FP.dadd a b) Z ∧ rnI (X + Y) 1 Z := by
  obtain ⟨s, c, q, h1, h2, rfl⟩ := ha
  obtain ⟨t, d, r, g1, g2, rfl⟩ := hb
  show ∃ Z, dz (UInt64.ofNat (FP.Core.encode FP.Core.b64 (FP.Core.round FP.Core.b64 (FP.Core.exactSum (FP.Core.decode FP.Core.b64 a.toNat) (FP.Core.decode FP.Core.b64 b.toNat))))) Z ∧ _
  rw [h1, g1]
  exact dz_sum h2.2.1 g2.2.1 hlt
theorem sg_not (t : Bool) (n : Nat) : FP.Core.signed (!t) n = -FP.Core.signed t n := by
  unfold FP.Core.signed
  cases t <;> simp
theorem dz_sub {a b : UInt64} {X Y : Int} (ha : dz a X) (hb : dz b Y) (hlt : (X - Y).natAbs < 2 ^ 2000) : ∃ Z, dz (FP.dsub a b) Z ∧ rnI (X - Y) 1 Z := by
  obtain ⟨s, c, q, h1, h2, rfl⟩ := ha
  obtain ⟨t, d, r, g1, g2, rfl⟩ := hb
  show ∃ Z, dz (UInt64.ofNat (FP.Core.encode FP.Core.b64 (FP.Core.round FP.Core.b64 (FP.Core.exactSum (FP.Core.decode FP.Core.b64 a.toNat) (FP.Core.negate (FP.Core.decode FP.Core.b64 b.toNat)))))) Z ∧ _
  rw [h1, g1, Int.sub_eq_add_neg, ← sg_not]
  rw [Int.sub_eq_add_neg, ← sg_not] at hlt
  exact dz_sum h2.2.1 g2.2.1 hlt
theorem dz_mul {a b : UInt64} {X Y : Int} (ha : dz a X) (hb : dz b Y) (hlt : (X * Y).natAbs < 2 ^ 2000 * fU) : ∃ Z, dz (FP.dmul a b) Z ∧ rnI (X * Y) fU Z := by
  obtain ⟨s, c, q, h1, h2, rfl⟩ := ha
  obtain ⟨t, d, r, g1, g2, rfl⟩ := hb
  have hv : FP.Core.signed s (c * 2 ^ (q + 1074).toNat) * FP.Core.signed t (d * 2 ^ (r + 1074).toNat) = FP.Core.signed (s != t) (c * d * 2 ^ ((q + 1074).toNat + (r + 1074).toNat)) := by
    rw [← sg_mul2, Nat.pow_add]
    congr 1
    ac_rfl
  show ∃ Z, dz (UInt64.ofNat (FP.Core.encode FP.Core.b64 (FP.Core.round FP.Core.b64 (FP.Core.exactProduct (FP.Core.decode FP.Core.b64 a.toNat) (FP.Core.decode FP.Core.b64 b.toNat))))) Z ∧ _
  rw [h1, g1]
  show ∃ Z, dz (UInt64.ofNat (FP.Core.encode FP.Core.b64 (FP.Core.roundRatio FP.Core.b64 (s != t) (c * d) 1 (q + r)))) Z ∧ _
  have hq := h2.2.1
  have hr := g2.2.1
  rw [hv] at hlt ⊢
  rw [sg_abs] at hlt
  have h3 := dz_rnd (s != t) (m := c * d) (B := 1) (t := (q + 1074).toNat + (r + 1074).toNat) (u := 1074) (e := q + r) (by omega) (by decide) (by rw [Nat.one_mul, ← fU_e]; exact hlt)
  rw [Nat.one_mul, ← fU_e] at h3
  exact h3
theorem dz_div {a b : UInt64} {X Y : Int} (ha : dz a X) (hb : dz b Y) (hY : 0 < Y) (hlt : X.natAbs * fU < 2 ^ 2000 * Y.natAbs) : ∃ Z, dz (FP.ddiv a b) Z ∧ rnI (X * fU) Y.natAbs Z := by
  obtain ⟨s, c, q, h1, h2, rfl⟩ := ha
  obtain ⟨t, d, r, g1, g2, rfl⟩ := hb
  have ht : t = false := by
    cases t
    · rfl
    · unfold FP.Core.signed at hY; rw [if_pos rfl] at hY; omega
  subst ht
  have hd : d ≠ 0 := by
    rintro rfl
    rw [Nat.zero_mul, sg_zero] at hY
    omega
  show ∃ Z, dz (UInt64.ofNat (FP.Core.encode FP.Core.b64 (FP.Core.quotient FP.Core.b64 (FP.Core.decode FP.Core.b64 a.toNat) (FP.Core.decode FP.Core.b64 b.toNat)))) Z ∧ _
  rw [h1, g1]
  have e9 : FP.Core.quotient FP.Core.b64 (.fin s c q) (.fin false d r) = FP.Core.roundRatio FP.Core.b64 (s != false) c d (q - r) := by
    show (if d = 0 then _ else _) = _
    rw [if_neg hd]
  rw [e9, show (s != false) = s by cases s <;> rfl, sg_abs]
  rw [sg_abs, sg_abs] at hlt
  have hq := h2.2.1
  have hr := g2.2.1
  have h3 := dz_rnd s (m := c) (B := d) (t := (q + 1074).toNat + 1074) (u := (r + 1074).toNat) (e := q - r) (by omega) (by omega) (by rw [Nat.pow_add, ← Nat.mul_assoc]; exact hlt)
  rw [Nat.pow_add, ← Nat.mul_assoc, sg_mul] at h3
  exact h3
theorem dz_ofInt (i : Int) (hlt : i.natAbs < 2 ^ 900) : ∃ Z, dz (UInt64.ofNat (FP.Core.fromInt FP.Core.b64 i)) Z ∧ rnI (i * fU) 1 Z := by
  show ∃ Z, dz (UInt64.ofNat (FP.Core.encode FP.Core.b64 (FP.Core.roundRatio FP.Core.b64 (decide (i < 0)) i.natAbs 1 0))) Z ∧ _
  have h3 := dz_rnd (decide (i < 0)) (m := i.natAbs) (B := 1) (t := 1074) (u := 0) (e := 0) (by omega) (by decide) (by
    rw [Nat.pow_zero, Nat.mul_one]
    calc i.natAbs * 2 ^ 1074 < 2 ^ 900 * 2 ^ 1074 := Nat.mul_lt_mul_of_pos_right hlt (Nat.two_pow_pos 1074)
      _ = 2 ^ (900 + 1074) := (Nat.pow_add ..).symm
      _ ≤ 2 ^ 2000 := Nat.pow_le_pow_right (by decide) (by decide))
  rw [sg_mul, Nat.pow_zero, Nat.mul_one, show FP.Core.signed (decide (i < 0)) i.natAbs = i by
    unfold FP.Core.signed
    by_cases h : i < 0
    · rw [decide_eq_true h, if_pos rfl]; omega
    · rw [decide_eq_false h, if_neg (by decide)]; omega] at h3
  exact h3
theorem rI_ex {A : Int} {B : Nat} {Z m : Int} {i : Nat} (h : rnI A B Z) (hB : 0 < B) (hm : m.natAbs ≤ 9007199254740992) (hA : A = m * ((2 ^ i * B : Nat) : Int)) : Z = m * ((2 ^ i : Nat) : Int) := by
  obtain ⟨s, k, j, h1, h2, h3⟩ := h
  have e1 : A.natAbs = m.natAbs * (2 ^ i * B) := by rw [hA, Int.natAbs_mul, Int.natAbs_natCast]
  have e2 := rn_ex h1 hB hm e1
  have e3 : FP.Core.signed s m.natAbs = m := by
    have e4 : FP.Core.signed s m.natAbs * ((2 ^ i * B : Nat) : Int) = m * ((2 ^ i * B : Nat) : Int) := by rw [← sg_mul, ← e1, ← h2, hA]
    refine Int.eq_of_mul_eq_mul_right ?_ e4
    have := Nat.mul_pos (Nat.two_pow_pos i) hB
    omega
  rw [h3, e2, sg_mul, e3]
theorem rI_dvd {A : Int} {B : Nat} {Z : Int} {i : Nat} (h : rnI A B Z) (hB : 0 < B) (hA : 4503599627370496 * (2 ^ i * B) ≤ A.natAbs) : ∃ w : Int, Z = w * ((2 ^ i : Nat) : Int) := by
  obtain ⟨s, k, j, h1, h2, h3⟩ := h
  obtain ⟨w, hw⟩ := rn_dvd h1 hB hA
  exact ⟨FP.Core.signed s w, by rw [h3, hw, sg_mul]⟩
theorem rI_hf {A : Int} {B : Nat} {Z : Int} {i : Nat} (h : rnI A B Z) (hB : 0 < B) (hA : A.natAbs ≤ 9007199254740992 * (2 ^ i * B)) : 2 * (Z * B - A) ≤ ((2 ^ i * B : Nat) : Int) ∧ -((2 ^ i * B : Nat) : Int) ≤ 2 * (Z * B - A) := by
  obtain ⟨s, k, j, h1, h2, h3⟩ := h
  obtain ⟨g1, g2⟩ := rn_hf h1 hB hA
  rw [h3, ← sg_mul]
  rw [h2]
  generalize A.natAbs = n at *
  generalize k * 2 ^ j * B = z at *
  generalize 2 ^ i * B = x at *
  unfold FP.Core.signed
  cases s
  · rw [if_neg (by decide), if_neg (by decide)]; omega
  · rw [if_pos rfl, if_pos rfl]; omega
theorem rI_rel {A : Int} {B : Nat} {Z : Int} (h : rnI A B Z) (hB : 0 < B) (hA : 4503599627370496 * B ≤ A.natAbs) : 9007199254740992 * (Z * B - A) ≤ (A.natAbs : Int) ∧ -(A.natAbs : Int) ≤ 9007199254740992 * (Z * B - A) := by
  obtain ⟨s, k, j, h1, h2, h3⟩ := h
  obtain ⟨g1, g2⟩ := rn_rel h1 hB hA
  rw [h3, ← sg_mul]
  have h4 : A = FP.Core.signed s A.natAbs := h2
  generalize A.natAbs = n at *
  rw [h4]
  generalize k * 2 ^ j * B = z at *
  unfold FP.Core.signed
  cases s
  · rw [if_neg (by decide), if_neg (by decide)]; omega
  · rw [if_pos rfl, if_pos rfl]; omega
theorem rI_pos {n B : Nat} {Z : Int} (h : rnI (n : Int) B Z) (hn : 0 < n) : ∃ k j : Nat, Z = ((k * 2 ^ j : Nat) : Int) ∧ rnN n B k j := by
  obtain ⟨s, k, j, h1, h2, h3⟩ := h
  rw [Int.natAbs_natCast] at h1 h2
  cases s
  · exact ⟨k, j, h3, h1⟩
  · unfold FP.Core.signed at h2; rw [if_pos rfl] at h2; omega
/-- doubles of one value that isn't 0 are the same -/
theorem dz_eq {a b : UInt64} {X : Int} (ha : dz a X) (hb : dz b X) (hX : X ≠ 0) : a = b := by
  obtain ⟨s, c, q, h1, h2, h3⟩ := ha
  obtain ⟨t, d, r, g1, g2, g3⟩ := hb
  have e1 : c * 2 ^ (q + 1074).toNat = d * 2 ^ (r + 1074).toNat := by rw [← sg_abs s (c * 2 ^ (q + 1074).toNat), ← h3, g3, sg_abs]
  have e2 : s = t := by
    have hp : X.natAbs = c * 2 ^ (q + 1074).toNat := by rw [h3, sg_abs]
    have hp2 : X.natAbs = d * 2 ^ (r + 1074).toNat := by rw [g3, sg_abs]
    unfold FP.Core.signed at h3 g3
    rw [← hp] at h3
    rw [← hp2] at g3
    cases s <;> cases t <;> simp only [if_true, Bool.false_eq_true, if_false] at h3 g3 <;> first | rfl | omega
  have key : ∀ {c d : Nat} {q r : Int}, ffit c q → ffit d r → c * 2 ^ (q + 1074).toNat = d * 2 ^ (r + 1074).toNat → r ≤ q := by
    intro c d q r f1 f2 e
    refine Int.not_lt.mp fun hlt => ?_
    obtain ⟨x, hx⟩ : ∃ x : Nat, (r + 1074).toNat = (q + 1074).toNat + 1 + x := ⟨(r - q - 1).toNat, by have := f1.2.1; omega⟩
    rw [hx, Nat.pow_add, Nat.pow_succ] at e
    have e4 : c * 2 ^ (q + 1074).toNat = (d * 2 * 2 ^ x) * 2 ^ (q + 1074).toNat := by rw [e]; ac_rfl
    have e5 := Nat.eq_of_mul_eq_mul_right (Nat.two_pow_pos _) e4
    have f3 : 4503599627370496 ≤ d := by
      rcases f2.2.2.2 with h | h
      · have := f1.2.1; omega
      · exact h
    have f4 := f1.1
    have f5 : d * 2 * 1 ≤ d * 2 * 2 ^ x := Nat.mul_le_mul_left _ (Nat.two_pow_pos x)
    omega
  have e3 : q = r := Int.le_antisymm (key g2 h2 e1.symm) (key h2 g2 e1)
  subst e3
  have e6 := Nat.eq_of_mul_eq_mul_right (Nat.two_pow_pos _) e1
  subst e6
  subst e2
  have i1 := fp_inj (n := a.toNat) a.toNat_lt h1
  have i2 := fp_inj (n := b.toNat) b.toNat_lt g1
  exact UInt64.toNat.inj (i1.trans i2.symm)
/-- such a double is a number -/
theorem dz_num {a : UInt64} {X : Int} (h : dz a X) : vf_n64 a := by
  obtain ⟨s, c, q, h1, h2, h3⟩ := h
  unfold vf_n64
  rw [UInt64.le_iff_toNat_le, UInt64.toNat_and]
  show a.toNat &&& (2 ^ 63 - 1) ≤ 9218868437227405312
  rw [Nat.and_two_pow_sub_one_eq_mod]
  unfold FP.Core.decode FP.Core.fieldE FP.Core.fieldT FP.Core.fieldS at h1
  rw [fb_t, fb_e, fb_q] at h1
  split at h1
  · split at h1 <;> cases h1
  · rename_i h0
    omega
