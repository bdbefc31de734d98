/-! DOUBLES: the correction -/
theorem im4 (a b c d : Int) : a * b * (c * d) = a * c * (b * d) := by ac_rfl
theorem pc_mul (x : Int) (e j : Nat) : x * ((2 ^ e : Nat) : Int) * ((2 ^ j : Nat) : Int) = x * ((2 ^ (e + j) : Nat) : Int) := by
  rw [Int.mul_assoc, ic_mul, ← Nat.pow_add]
theorem pw_big {x : Nat} {i : Nat} (hx : x ≤ 9007199254740992) (hi : i ≤ 1500) : x * 2 ^ i < 2 ^ 2000 := by
  calc x * 2 ^ i ≤ 9007199254740992 * 2 ^ i := Nat.mul_le_mul_right _ hx
    _ = 2 ^ (53 + i) := by rw [p53, ← Nat.pow_add]
    _ < 2 ^ 2000 := Nat.pow_lt_pow_right (by decide) (by omega)
theorem xs_sub {a b : UInt64} {x y m : Int} {e j : Nat} (ha : dz a (x * ((2 ^ j : Nat) : Int))) (hb : dz b (y * ((2 ^ j : Nat) : Int))) (h : x - y = m * ((2 ^ e : Nat) : Int)) (hm : m.natAbs ≤ 9007199254740992) (hj : e + j ≤ 1500) : dz (FP.dsub a b) ((x - y) * ((2 ^ j : Nat) : Int)) := by
  have e1 : x * ((2 ^ j : Nat) : Int) - y * ((2 ^ j : Nat) : Int) = m * ((2 ^ (e + j) : Nat) : Int) := by rw [← Int.sub_mul, h, pc_mul]
  obtain ⟨Z, h1, h2⟩ := dz_sub ha hb (by rw [e1, Int.natAbs_mul, Int.natAbs_natCast]; exact pw_big hm hj)
  have e2 := rI_ex (m := m) (i := e + j) h2 (by decide) hm (by rw [Nat.mul_one]; exact e1)
  rw [e2] at h1
  rw [h, pc_mul]; exact h1
theorem xs_add {a b : UInt64} {x y m : Int} {e j : Nat} (ha : dz a (x * ((2 ^ j : Nat) : Int))) (hb : dz b (y * ((2 ^ j : Nat) : Int))) (h : x + y = m * ((2 ^ e : Nat) : Int)) (hm : m.natAbs ≤ 9007199254740992) (hj : e + j ≤ 1500) : dz (FP.dadd a b) ((x + y) * ((2 ^ j : Nat) : Int)) := by
  have e1 : x * ((2 ^ j : Nat) : Int) + y * ((2 ^ j : Nat) : Int) = m * ((2 ^ (e + j) : Nat) : Int) := by rw [← Int.add_mul, h, pc_mul]
  obtain ⟨Z, h1, h2⟩ := dz_add ha hb (by rw [e1, Int.natAbs_mul, Int.natAbs_natCast]; exact pw_big hm hj)
  have e2 := rI_ex (m := m) (i := e + j) h2 (by decide) hm (by rw [Nat.mul_one]; exact e1)
  rw [e2] at h1
  rw [h, pc_mul]; exact h1
theorem pg_e {j g : Nat} (hg : 2 * j = g + 1074) : ((2 ^ j : Nat) : Int) * ((2 ^ j : Nat) : Int) = ((2 ^ g * fU : Nat) : Int) := by
  rw [ic_mul, ← Nat.pow_add, show j + j = g + 1074 by omega, Nat.pow_add, ← fU_e]
theorem xs_mul {a b : UInt64} {x y m : Int} {e j g : Nat} (hg : 2 * j = g + 1074) (ha : dz a (x * ((2 ^ j : Nat) : Int))) (hb : dz b (y * ((2 ^ j : Nat) : Int))) (h : x * y = m * ((2 ^ e : Nat) : Int)) (hm : m.natAbs ≤ 9007199254740992) (hj : e + g ≤ 1500) : dz (FP.dmul a b) ((x * y) * ((2 ^ g : Nat) : Int)) := by
  have e1 : x * ((2 ^ j : Nat) : Int) * (y * ((2 ^ j : Nat) : Int)) = m * ((2 ^ (e + g) * fU : Nat) : Int) := by
    rw [im4, pg_e hg, h, Int.mul_assoc, ic_mul, Nat.pow_add, Nat.mul_assoc]
  obtain ⟨Z, h1, h2⟩ := dz_mul ha hb (by
    rw [e1, Int.natAbs_mul, Int.natAbs_natCast, ← Nat.mul_assoc]
    exact Nat.mul_lt_mul_of_pos_right (pw_big hm hj) fU_pos)
  have e2 := rI_ex (m := m) (i := e + g) h2 fU_pos hm e1
  rw [e2] at h1
  rw [h, pc_mul]; exact h1
/-- a rounding that may lose something: a multiple of 2 ^ e comes out, half a 2 ^ f away at most -/
theorem rP {x Z : Int} {B e f j : Nat} (h : rnI (x * ((2 ^ j * B : Nat) : Int)) B Z) (hB : 0 < B) (h1 : 4503599627370496 * 2 ^ e ≤ x.natAbs) (h2 : x.natAbs ≤ 9007199254740992 * 2 ^ f) :
    ∃ w : Int, Z = (w * ((2 ^ e : Nat) : Int)) * ((2 ^ j : Nat) : Int) ∧ 2 * (w * ((2 ^ e : Nat) : Int) - x) ≤ ((2 ^ f : Nat) : Int) ∧ -((2 ^ f : Nat) : Int) ≤ 2 * (w * ((2 ^ e : Nat) : Int) - x) := by
  have hP : 0 < 2 ^ j * B := Nat.mul_pos (Nat.two_pow_pos j) hB
  have ea : (x * ((2 ^ j * B : Nat) : Int)).natAbs = x.natAbs * (2 ^ j * B) := by rw [Int.natAbs_mul, Int.natAbs_natCast]
  obtain ⟨w, hw⟩ := rI_dvd (i := e + j) h hB (by
    rw [ea, Nat.pow_add, Nat.mul_assoc, ← Nat.mul_assoc 4503599627370496]
    exact Nat.mul_le_mul_right _ h1)
  obtain ⟨g1, g2⟩ := rI_hf (i := f + j) h hB (by
    rw [ea, Nat.pow_add, Nat.mul_assoc, ← Nat.mul_assoc 9007199254740992]
    exact Nat.mul_le_mul_right _ h2)
  rw [← pc_mul] at hw
  have eZ : Z * (B : Int) - x * ((2 ^ j * B : Nat) : Int) = (w * ((2 ^ e : Nat) : Int) - x) * ((2 ^ j * B : Nat) : Int) := by
    rw [hw, Int.sub_mul, Int.mul_assoc (w * ((2 ^ e : Nat) : Int)), ic_mul]
  have eF : ((2 ^ (f + j) * B : Nat) : Int) = ((2 ^ f : Nat) : Int) * ((2 ^ j * B : Nat) : Int) := by
    rw [ic_mul, Nat.pow_add, Nat.mul_assoc]
  rw [eZ, eF] at g1 g2
  rw [← Int.mul_assoc] at g1 g2
  refine ⟨w, hw, ?_, ?_⟩
  · exact Int.le_of_mul_le_mul_right g1 (by omega)
  · rw [← Int.neg_mul] at g2
    exact Int.le_of_mul_le_mul_right g2 (by omega)
theorem ac1 (k f p u : Nat) : k * (f * p) * u = k * f * (p * u) := by ac_rfl
theorem ac2 (k f p : Nat) : k * f * (p * p) = (k * f * p) * p := by ac_rfl
theorem ac3 (a b p : Nat) : a * ((b * p) * p) = (a * b) * (p * p) := by ac_rfl
theorem na_mul {a b : Int} {A B : Nat} (ha : a.natAbs ≤ A) (hb : b.natAbs ≤ B) : (a * b).natAbs ≤ A * B := by
  rw [Int.natAbs_mul]; exact Nat.mul_le_mul ha hb
/-- what is lost by a rounding, at most, by its size -/
theorem rR {A Z : Int} {B : Nat} (h : rnI A B Z) (hB : 0 < B) (hA : A = 0 ∨ 4503599627370496 * B ≤ A.natAbs) : 9007199254740992 * (Z * B - A) ≤ (A.natAbs : Int) ∧ -(A.natAbs : Int) ≤ 9007199254740992 * (Z * B - A) := by
  rcases hA with hA | hA
  · subst hA
    have := rI_ex (m := 0) (i := 0) h hB (by decide) (by rw [Int.zero_mul])
    rw [Int.zero_mul] at this
    subst this
    rw [Int.zero_mul]
    decide
  · exact rI_rel h hB hA
def rtH (r : UInt64) : UInt64 := FP.dsub (FP.dmul dDC r) (FP.dsub (FP.dmul dDC r) r)
def rtL (r : UInt64) : UInt64 := FP.dsub r (rtH r)
def rtO (r : UInt64) : UInt64 := FP.dadd (FP.dadd (FP.dsub (FP.dmul (rtH r) (rtH r)) (FP.dmul r r)) (FP.dmul (FP.dmul dD2 (rtH r)) (rtL r))) (FP.dmul (rtL r) (rtL r))
def rtG (n : Nat) (r : UInt64) : UInt64 := FP.dsub (FP.dsub (FP.i2d (nI n)) (FP.dmul r r)) (rtO r)
def rtD (n : Nat) (r : UInt64) : UInt64 := FP.ddiv (rtG n r) (FP.dmul dD2 r)
def rtF (n : Nat) (r : UInt64) : UInt64 := FP.dadd r (rtD n r)
theorem xs_dbl {b : UInt64} {x m : Int} {e j : Nat} (hb : dz b (x * ((2 ^ j : Nat) : Int))) (h : 2 * x = m * ((2 ^ e : Nat) : Int)) (hm : m.natAbs ≤ 9007199254740992) (hj : e + j ≤ 1500) : dz (FP.dmul dD2 b) ((2 * x) * ((2 ^ j : Nat) : Int)) := by
  have e1 : ((2 * fU : Nat) : Int) * (x * ((2 ^ j : Nat) : Int)) = m * ((2 ^ (e + j) * fU : Nat) : Int) := by
    rw [← ic_mul, ← ic_mul, Nat.pow_add, ← ic_mul, show ((2 : Nat) : Int) * (fU : Int) * (x * ((2 ^ j : Nat) : Int)) = (2 * x) * ((2 ^ j : Nat) : Int) * (fU : Int) by
      rw [show ((2 : Nat) : Int) = 2 from rfl]
      generalize (fU : Int) = u
      generalize ((2 ^ j : Nat) : Int) = p
      ac_rfl, h]
    generalize (fU : Int) = u
    generalize ((2 ^ j : Nat) : Int) = p
    generalize ((2 ^ e : Nat) : Int) = p2
    ac_rfl
  obtain ⟨Z, h1, h2⟩ := dz_mul dz_2 hb (by
    rw [e1, Int.natAbs_mul, Int.natAbs_natCast, ← Nat.mul_assoc]
    exact Nat.mul_lt_mul_of_pos_right (pw_big hm hj) fU_pos)
  have e2 := rI_ex (m := m) (i := e + j) h2 fU_pos hm e1
  rw [e2] at h1
  rw [h, pc_mul]; exact h1
theorem p27 : ((2 ^ 27 : Nat) : Int) = 134217728 := by decide +kernel
theorem p28 : ((2 ^ 28 : Nat) : Int) = 268435456 := by decide +kernel
theorem pi52 : ((2 ^ 52 : Nat) : Int) = 4503599627370496 := by decide +kernel
theorem pi53 : ((2 ^ 53 : Nat) : Int) = 9007199254740992 := by decide +kernel
theorem pi54 : ((2 ^ 54 : Nat) : Int) = 18014398509481984 := by decide +kernel
theorem pi0 : ((2 ^ 0 : Nat) : Int) = 1 := rfl
theorem pi1 : ((2 ^ 1 : Nat) : Int) = 2 := rfl
theorem pw_big2 {x : Nat} {i : Nat} (hx : x ≤ 2417851639229258349412352) (hi : i ≤ 1500) : x * 2 ^ i < 2 ^ 2000 := by
  calc x * 2 ^ i ≤ 2417851639229258349412352 * 2 ^ i := Nat.mul_le_mul_right _ hx
    _ = 2 ^ (81 + i) := by rw [show (2417851639229258349412352 : Nat) = 2 ^ 81 by decide +kernel, ← Nat.pow_add]
    _ < 2 ^ 2000 := Nat.pow_lt_pow_right (by decide) (by omega)
def isN (a : UInt64) : Prop := ∃ X, dz a X
/-- Veltkamp's halves of r: the upper is a multiple of 2 ^ 27 -/
theorem dk_split {r : UInt64} {c : Nat} {j : Nat} (hr : dz r ((c : Int) * ((2 ^ j : Nat) : Int))) (c1 : 4503599627370496 ≤ c) (c2 : c < 9007199254740992) (hj : j ≤ 1100) :
    ∃ h l : Int, isN (FP.dmul dDC r) ∧ isN (FP.dsub (FP.dmul dDC r) r) ∧ dz (rtH r) ((h * 134217728) * ((2 ^ j : Nat) : Int)) ∧ dz (rtL r) (l * ((2 ^ j : Nat) : Int)) ∧ h * 134217728 = c - l ∧ l.natAbs ≤ 67108864 := by
  have e1 : ((134217729 * fU : Nat) : Int) * ((c : Int) * ((2 ^ j : Nat) : Int)) = ((134217729 * c : Nat) : Int) * ((2 ^ j * fU : Nat) : Int) := by
    rw [ic_mul, ic_mul, ic_mul]
    refine congrArg (fun x : Nat => (x : Int)) ?_
    generalize fU = u
    generalize 2 ^ j = p
    rw [Nat.mul_mul_mul_comm, Nat.mul_comm u p]
  obtain ⟨W, hw, hwr⟩ := dz_mul dz_C hr (by
    rw [e1, Int.natAbs_mul, Int.natAbs_natCast, Int.natAbs_natCast, ← Nat.mul_assoc]
    exact Nat.mul_lt_mul_of_pos_right (pw_big2 (by omega) (by omega)) fU_pos)
  rw [e1] at hwr
  obtain ⟨w, hW, w1, w2, w3⟩ : ∃ w : Int, W = (w * 134217728) * ((2 ^ j : Nat) : Int) ∧ w * 134217728 - 134217729 * c ≤ 134217728 ∧ -134217728 ≤ w * 134217728 - 134217729 * c ∧ (c = 4503599627370496 → w * 134217728 = 134217729 * c) := by
    by_cases hc : c = 4503599627370496
    · have e2 := rI_ex (m := 134217729) (i := 52 + j) hwr fU_pos (by decide) (by
        rw [hc, ic_mul, show (134217729 : Int) = ((134217729 : Nat) : Int) from rfl, ic_mul]
        refine congrArg (fun x : Nat => (x : Int)) ?_
        rw [Nat.pow_add, ← p52, Nat.mul_assoc, Nat.mul_assoc])
      refine ⟨4503599660924928, ?_, by omega, by omega, fun _ => by omega⟩
      rw [e2, Nat.pow_add, ← ic_mul, pi52, ← Int.mul_assoc]
      rfl
    · obtain ⟨w, g1, g2, g3⟩ := rP (e := 27) (f := 28) hwr fU_pos (by rw [Int.natAbs_natCast]; omega) (by rw [Int.natAbs_natCast]; omega)
      rw [p27] at g1 g2 g3
      rw [p28] at g2 g3
      exact ⟨w, g1, by omega, by omega, fun h => absurd h hc⟩
  subst hW
  have e3 : (w * 134217728) * ((2 ^ j : Nat) : Int) - (c : Int) * ((2 ^ j : Nat) : Int) = (w * 134217728 - c) * ((2 ^ j * 1 : Nat) : Int) := by rw [← Int.sub_mul, Nat.mul_one]
  obtain ⟨T, ht, htr⟩ := dz_sub hw hr (by
    rw [e3, Int.natAbs_mul, Int.natAbs_natCast, Nat.mul_one]
    exact pw_big2 (by omega) (by omega))
  rw [e3] at htr
  obtain ⟨t, hT, t1, t2⟩ := rP (e := 27) (f := 27) htr (by decide) (by omega) (by omega)
  rw [p27] at hT t1 t2
  subst hT
  have hh := xs_sub (e := 27) (m := w - t) hw ht (by rw [p27]; omega) (by omega) (by omega)
  have e4 : w * 134217728 - t * 134217728 = (w - t) * 134217728 := by omega
  rw [e4] at hh
  have hl := xs_sub (e := 0) (m := t * 134217728 - (w * 134217728 - c)) hr hh (by rw [pi0]; omega) (by omega) (by omega)
  refine ⟨w - t, t * 134217728 - (w * 134217728 - c), ⟨_, hw⟩, ⟨_, ht⟩, hh, ?_, by omega, by omega⟩
  rw [show (t * 134217728 - (w * 134217728 - c) : Int) = c - (w - t) * 134217728 by omega]
  exact hl
/-- the correction: what comes out is r and z2, rounded, and z2 is nearly what r lacks -/
theorem dk_main {n c j : Nat} {r : UInt64} (h1 : 1 ≤ n) (h2 : n ≤ 33554432) (hr : dz r ((c : Int) * ((2 ^ j : Nat) : Int))) (c1 : 4503599627370496 ≤ c) (c2 : c < 9007199254740992) (hj1 : 1021 ≤ j) (hj2 : j ≤ 1035) (hI : nwI n (c * 2 ^ j) 14) :
    (isN (FP.dmul dDC r) ∧ isN (FP.dsub (FP.dmul dDC r) r) ∧ isN (rtH r) ∧ isN (rtL r) ∧ isN (FP.dmul r r) ∧ isN (FP.dmul (rtH r) (rtH r)) ∧ isN (FP.dsub (FP.dmul (rtH r) (rtH r)) (FP.dmul r r)) ∧ isN (FP.dmul dD2 (rtH r)) ∧ isN (FP.dmul (FP.dmul dD2 (rtH r)) (rtL r)) ∧ isN (FP.dadd (FP.dsub (FP.dmul (rtH r) (rtH r)) (FP.dmul r r)) (FP.dmul (FP.dmul dD2 (rtH r)) (rtL r))) ∧ isN (FP.dmul (rtL r) (rtL r)) ∧ isN (rtO r) ∧ isN (FP.dsub (FP.i2d (nI n)) (FP.dmul r r)) ∧ isN (rtG n r) ∧ isN (FP.dmul dD2 r) ∧ isN (rtD n r)) ∧
    ∃ (Z2 Y : Int), dz (rtF n r) Y ∧ rnI (((c * 2 ^ j : Nat) : Int) + Z2) 1 Y ∧
      81129638414606681695789005144064 * (2 * ((c * 2 ^ j : Nat) : Int) * (((c * 2 ^ j : Nat) : Int) + Z2) - ((c * 2 ^ j : Nat) : Int) * ((c * 2 ^ j : Nat) : Int) - ((n * (fU * fU) : Nat) : Int)) ≤ 50 * ((n * (fU * fU) : Nat) : Int) ∧
      -(50 * ((n * (fU * fU) : Nat) : Int)) ≤ 81129638414606681695789005144064 * (2 * ((c * 2 ^ j : Nat) : Int) * (((c * 2 ^ j : Nat) : Int) + Z2) - ((c * 2 ^ j : Nat) : Int) * ((c * 2 ^ j : Nat) : Int) - ((n * (fU * fU) : Nat) : Int)) := by
  obtain ⟨g, hg⟩ : ∃ g, 2 * j = g + 1074 := ⟨2 * j - 1074, by omega⟩
  obtain ⟨h, l, n1, n2, hH, hL, ehl, hl⟩ := dk_split hr c1 c2 (by omega)
  -- n in units of 2 ^ g
  obtain ⟨a, ha1, ha2⟩ : ∃ a : Nat, n * fU = a * 4503599627370496 * 2 ^ g ∧ n * (fU * fU) = a * 4503599627370496 * (2 ^ j * 2 ^ j) := by
    refine ⟨n * 2 ^ (2 * (1074 - j) - 52), ?_, ?_⟩
    · rw [p52, Nat.mul_assoc, Nat.mul_assoc, ← Nat.pow_add, ← Nat.pow_add, fU_e]
      congr 2
      omega
    · rw [p52, Nat.mul_assoc, Nat.mul_assoc, ← Nat.pow_add, ← Nat.pow_add, ← Nat.pow_add, fU_e, ← Nat.pow_add]
      congr 2
      omega
  have hPP : 0 < 2 ^ j * 2 ^ j := Nat.mul_pos (Nat.two_pow_pos j) (Nat.two_pow_pos j)
  have hI0 := hI
  have ecc : c * 2 ^ j * (c * 2 ^ j) = c * c * (2 ^ j * 2 ^ j) := Nat.mul_mul_mul_comm ..
  obtain ⟨i1, i2⟩ := hI
  rw [ha2, ecc] at i1 i2
  have i1 : 9007199254740987 * (a * 4503599627370496) ≤ 9007199254740992 * (c * c) := by
    rw [← Nat.mul_assoc, ← Nat.mul_assoc 9007199254740992] at i1
    exact Nat.le_of_mul_le_mul_right i1 hPP
  have i2 : 9007199254740992 * (c * c) ≤ (9007199254740992 + 14) * (a * 4503599627370496) := by
    rw [← Nat.add_mul, ← Nat.mul_assoc 9007199254740992, ← Nat.mul_assoc (9007199254740992 + 14)] at i2
    exact Nat.le_of_mul_le_mul_right i2 hPP
  have hcc1 : 4503599627370496 * 4503599627370496 ≤ c * c := Nat.mul_le_mul c1 c1
  have hcc2 : c * c ≤ 9007199254740991 * 9007199254740991 := Nat.mul_le_mul (by omega) (by omega)
  -- the products of small things
  have hh0 : 0 ≤ h ∧ h ≤ 67108864 := by omega
  have bhh := na_mul (a := h) (b := h) (A := 67108864) (B := 67108864) (by omega) (by omega)
  have bhl := na_mul (a := h) (b := l) (A := 67108864) (B := 67108864) (by omega) hl
  have bll := na_mul (a := l) (b := l) (A := 67108864) (B := 67108864) hl hl
  have bcl := na_mul (a := (c : Int)) (b := l) (A := 9007199254740992) (B := 67108864) (by omega) hl
  -- the square
  have e1 : (c : Int) * ((2 ^ j : Nat) : Int) * ((c : Int) * ((2 ^ j : Nat) : Int)) = ((c * c : Nat) : Int) * ((2 ^ g * fU : Nat) : Int) := by
    rw [im4, pg_e hg, ic_mul]
  obtain ⟨S0, hS, hSr⟩ := dz_mul hr hr (by
    rw [e1, Int.natAbs_mul, Int.natAbs_natCast, Int.natAbs_natCast, ← Nat.mul_assoc]
    refine Nat.mul_lt_mul_of_pos_right ?_ fU_pos
    calc c * c * 2 ^ g ≤ (2 ^ 53 * 2 ^ 53) * 2 ^ g := Nat.mul_le_mul_right _ (by omega)
      _ = 2 ^ (53 + 53 + g) := by rw [← Nat.pow_add, ← Nat.pow_add]
      _ < 2 ^ 2000 := Nat.pow_lt_pow_right (by decide) (by omega))
  rw [e1] at hSr
  obtain ⟨sg, hS0, s1, s2⟩ := rP (e := 52) (f := 53) hSr fU_pos (by rw [Int.natAbs_natCast]; omega) (by rw [Int.natAbs_natCast]; omega)
  rw [pi52] at hS0 s1 s2
  rw [pi53] at s1 s2
  subst hS0
  have hcI : ((c * c : Nat) : Int) = (c : Int) * (c : Int) := (ic_mul c c).symm
  rw [hcI] at s1 s2
  have hccI1 : (4503599627370496 * 4503599627370496 : Int) ≤ (c : Int) * (c : Int) := by rw [← hcI]; omega
  have hccI2 : (c : Int) * (c : Int) ≤ 9007199254740991 * 9007199254740991 := by rw [← hcI]; omega
  -- high * high
  have eHH : (h * 134217728) * (h * 134217728) = h * h * 18014398509481984 := by rw [im4]; rfl
  have eHH2 : (h * 134217728) * (h * 134217728) = c * c - 2 * (c * l) + l * l := by
    rw [ehl]
    simp only [Int.sub_mul, Int.mul_sub, Int.mul_comm l c]
    generalize (c : Int) * c = x
    generalize (c : Int) * l = y
    generalize l * l = z
    omega
  have hHH := xs_mul (m := h * h) (e := 54) hg hH hH (by rw [pi54]; exact eHH) (by omega) (by omega)
  have hd1 := xs_sub (m := 4 * (h * h) - sg) (e := 52) hHH hS (by
    rw [pi52, eHH]
    generalize h * h = x
    omega) (by
    rw [eHH] at eHH2
    generalize h * h = x at *
    generalize (c : Int) * c = y at *
    generalize (c : Int) * l = z at *
    generalize l * l = v at *
    omega) (by omega)
  have hh2 := xs_dbl (m := h) (e := 28) hH (by rw [p28]; omega) (by omega) (by omega)
  have eP : (2 * (h * 134217728)) * l = 2 * (h * l) * 134217728 := by ac_rfl
  have eP2 : (2 * (h * 134217728)) * l = 2 * (c * l) - 2 * (l * l) := by
    rw [ehl, Int.mul_assoc, Int.sub_mul, Int.mul_sub]
  have hp := xs_mul (m := 2 * (h * l)) (e := 27) hg hh2 hL (by rw [p27]; exact eP) (by
    generalize h * l = x at *
    omega) (by omega)
  have hs1 := xs_add (m := (4 * (h * h) - sg) * 33554432 + 2 * (h * l)) (e := 27) hd1 hp (by
    rw [p27, eHH, eP]
    generalize h * h = x
    generalize h * l = y
    omega) (by
    rw [eHH] at eHH2
    rw [eP] at eP2
    generalize h * h = x at *
    generalize h * l = y at *
    generalize (c : Int) * c = z at *
    generalize (c : Int) * l = u at *
    generalize l * l = v at *
    omega) (by omega)
  have hll := xs_mul (m := l * l) (e := 0) hg hL hL (by rw [pi0, Int.mul_one]) (by omega) (by omega)
  have eO : (h * 134217728) * (h * 134217728) - sg * 4503599627370496 + (2 * (h * 134217728)) * l + l * l = c * c - sg * 4503599627370496 := by
    rw [eHH2, eP2]
    generalize (c : Int) * c = z at *
    generalize (c : Int) * l = u at *
    generalize l * l = v at *
    omega
  have hO := xs_add (m := c * c - sg * 4503599627370496) (e := 0) hs1 hll (by rw [pi0, Int.mul_one]; exact eO) (by
    generalize (c : Int) * c = z at *
    omega) (by omega)
  rw [eO] at hO
  -- n - square
  have hn := dz_nI (n := n) (by omega)
  have en : ((n * fU : Nat) : Int) = ((a : Int) * 4503599627370496) * ((2 ^ g : Nat) : Int) := by
    rw [ha1, ← ic_mul, ← ic_mul]
    rfl
  rw [en] at hn
  have hnS := xs_sub (m := (a : Int) - sg) (e := 52) hn hS (by rw [pi52]; omega) (by
    rw [← hcI] at s1 s2
    generalize c * c = z at *
    omega) (by omega)
  -- what r lacks
  have eF : ((a : Int) * 4503599627370496 - sg * 4503599627370496) * ((2 ^ g : Nat) : Int) - ((c : Int) * c - sg * 4503599627370496) * ((2 ^ g : Nat) : Int) = ((a : Int) * 4503599627370496 - c * c) * ((2 ^ g : Nat) : Int) := by
    rw [← Int.sub_mul]
    refine congrArg (fun x : Int => x * ((2 ^ g : Nat) : Int)) ?_
    generalize (c : Int) * c = z
    omega
  have bF : ((a : Int) * 4503599627370496 - c * c).natAbs ≤ 144115188075855872 := by
    rw [← hcI]
    generalize c * c = z at *
    omega
  obtain ⟨Z1, hG, hGr⟩ := dz_sub hnS hO (by
    rw [eF, Int.natAbs_mul, Int.natAbs_natCast]
    exact pw_big2 (by omega) (by omega))
  rw [eF] at hGr
  have hpg : 4503599627370496 * 1 ≤ 2 ^ g := by
    rw [Nat.mul_one, p52]
    exact Nat.pow_le_pow_right (by decide) (by omega)
  obtain ⟨r1, r2⟩ := rR hGr (by decide) (by
    by_cases h0 : (a : Int) * 4503599627370496 - c * c = 0
    · exact Or.inl (by rw [h0, Int.zero_mul])
    · refine Or.inr ?_
      rw [Int.natAbs_mul, Int.natAbs_natCast]
      have m1 : 1 * 2 ^ g ≤ ((a : Int) * 4503599627370496 - c * c).natAbs * 2 ^ g := Nat.mul_le_mul_right _ (by omega)
      omega)
  rw [show ((1 : Nat) : Int) = 1 from rfl, Int.mul_one] at r1 r2
  have h2r := xs_dbl (m := (c : Int)) (e := 1) hr (by rw [pi1]; omega) (by omega) (by omega)
  -- the common scale
  generalize hF : (a : Int) * 4503599627370496 - c * c = F at *
  have hjj : (2 : Nat) ^ j * 2 ^ j = 2 ^ g * fU := by rw [← Nat.pow_add, show j + j = g + 1074 by omega, Nat.pow_add, ← fU_e]
  have hpj : 2 ^ 200 ≤ 2 ^ j := Nat.pow_le_pow_right (by decide) (by omega)
  have e2r : (2 * (c : Int)) * ((2 ^ j : Nat) : Int) = ((2 * c * 2 ^ j : Nat) : Int) := by
    rw [← ic_mul, ← ic_mul]
    rfl
  rw [e2r] at h2r
  have eFa : (F * ((2 ^ g : Nat) : Int)).natAbs = F.natAbs * 2 ^ g := by rw [Int.natAbs_mul, Int.natAbs_natCast]
  have bZ1 : Z1.natAbs ≤ 2 * (F.natAbs * 2 ^ g) := by
    rw [← eFa]
    generalize F * ((2 ^ g : Nat) : Int) = q at *
    omega
  have hc0 : 0 < 2 * c * 2 ^ j := Nat.mul_pos (by omega) (Nat.two_pow_pos j)
  have bZf : Z1.natAbs * fU ≤ (2 * F.natAbs * 2 ^ j) * 2 ^ j := by
    refine Nat.le_trans (Nat.mul_le_mul_right fU bZ1) (Nat.le_of_eq ?_)
    rw [ac1, ← hjj, ac2]
  obtain ⟨Z2, hD, hDr⟩ := dz_div hG h2r (by omega) (by
    rw [Int.natAbs_natCast]
    calc Z1.natAbs * fU ≤ (2 * F.natAbs * 2 ^ j) * 2 ^ j := bZf
      _ < 2 ^ 2000 * 2 ^ j := Nat.mul_lt_mul_of_pos_right (pw_big2 (by omega) (by omega)) (Nat.two_pow_pos j)
      _ ≤ 2 ^ 2000 * (2 * c * 2 ^ j) := Nat.mul_le_mul_left _ (Nat.le_mul_of_pos_left _ (by omega)))
  rw [Int.natAbs_natCast] at hDr
  have eZa : (Z1 * (fU : Int)).natAbs = Z1.natAbs * fU := by rw [Int.natAbs_mul, Int.natAbs_natCast]
  obtain ⟨t1, t2⟩ := rR hDr hc0 (by
    by_cases h0 : F = 0
    · refine Or.inl ?_
      rw [h0, Int.zero_mul] at r1 r2
      rw [show Z1 = 0 by omega, Int.zero_mul]
    · refine Or.inr ?_
      rw [eZa]
      have m0 : 1 * 2 ^ g ≤ F.natAbs * 2 ^ g := Nat.mul_le_mul_right _ (by omega)
      have m1 : 2 ^ g ≤ 2 * Z1.natAbs := by
        rw [← eFa] at m0
        generalize F * ((2 ^ g : Nat) : Int) = q at *
        omega
      have m2 : 2 ^ j * 2 ^ j ≤ 2 * (Z1.natAbs * fU) := by
        rw [hjj, ← Nat.mul_assoc]
        exact Nat.mul_le_mul_right _ m1
      have m3 : (2 * (4503599627370496 * (2 * c))) * 2 ^ j ≤ 2 ^ 200 * 2 ^ j := Nat.mul_le_mul_right _ (by omega)
      have m4 : 2 ^ 200 * 2 ^ j ≤ 2 ^ j * 2 ^ j := Nat.mul_le_mul_right _ hpj
      have m5 : 2 * (4503599627370496 * (2 * c * 2 ^ j)) = (2 * (4503599627370496 * (2 * c))) * 2 ^ j := by rw [← Nat.mul_assoc 4503599627370496, ← Nat.mul_assoc 2]
      have m6 := Nat.le_trans (Nat.le_trans (Nat.le_of_eq m5) m3) (Nat.le_trans m4 m2)
      generalize Z1.natAbs * fU = y at *
      generalize 2 * c * 2 ^ j = x at *
      omega)
  have bZ2 : Z2.natAbs ≤ 64 * 2 ^ j := by
    have m1 : (Z2 * ((2 * c * 2 ^ j : Nat) : Int)).natAbs = Z2.natAbs * (2 * c * 2 ^ j) := by rw [Int.natAbs_mul, Int.natAbs_natCast]
    have m2 : Z2.natAbs * (2 * c * 2 ^ j) ≤ 2 * (Z1.natAbs * fU) := by
      rw [← m1, ← eZa]
      generalize Z2 * ((2 * c * 2 ^ j : Nat) : Int) = q at *
      generalize Z1 * (fU : Int) = q2 at *
      omega
    have m3 : 2 * ((2 * F.natAbs * 2 ^ j) * 2 ^ j) ≤ (64 * 2 ^ j) * (2 * c * 2 ^ j) := by
      calc 2 * ((2 * F.natAbs * 2 ^ j) * 2 ^ j) = (2 * (2 * F.natAbs)) * (2 ^ j * 2 ^ j) := ac3 ..
        _ ≤ (64 * (2 * c)) * (2 ^ j * 2 ^ j) := Nat.mul_le_mul_right _ (by omega)
        _ = (64 * 2 ^ j) * (2 * c * 2 ^ j) := (Nat.mul_mul_mul_comm ..).symm
    refine Nat.le_of_mul_le_mul_right ?_ hc0
    exact Nat.le_trans m2 (Nat.le_trans (Nat.mul_le_mul_left 2 bZf) m3)
  rw [ic_mul] at hr
  obtain ⟨Y, hY, hYr⟩ := dz_add hr hD (by
    refine Nat.lt_of_le_of_lt (m := (c + 64) * 2 ^ j) ?_ (pw_big2 (by omega) (by omega))
    rw [Nat.add_mul]
    generalize c * 2 ^ j = x at *
    generalize 64 * 2 ^ j = y at *
    omega)
  refine ⟨⟨n1, n2, ⟨_, hH⟩, ⟨_, hL⟩, ⟨_, hS⟩, ⟨_, hHH⟩, ⟨_, hd1⟩, ⟨_, hh2⟩, ⟨_, hp⟩, ⟨_, hs1⟩, ⟨_, hll⟩, ⟨_, hO⟩, ⟨_, hnS⟩, ⟨_, hG⟩, ⟨_, h2r⟩, ⟨_, hD⟩⟩, Z2, Y, hY, hYr, ?_⟩
  -- the sum of what is lost
  have eG : ((n * (fU * fU) : Nat) : Int) - ((c * 2 ^ j : Nat) : Int) * ((c * 2 ^ j : Nat) : Int) = F * ((2 ^ g : Nat) : Int) * (fU : Int) := by
    rw [ic_mul, ecc, ha2, Int.mul_assoc, ic_mul, ← hjj, ← ic_mul (a * 4503599627370496), ← ic_mul (c * c), ← Int.sub_mul, ← hF, ← ic_mul a, ← ic_mul c c]
    rfl
  have hfp : (0 : Int) ≤ (fU : Int) := by omega
  have u1 := Int.mul_le_mul_of_nonneg_right r1 hfp
  have u2 := Int.mul_le_mul_of_nonneg_right r2 hfp
  rw [Int.mul_assoc, Int.sub_mul, ← eG] at u1 u2
  have eGa : ((F * ((2 ^ g : Nat) : Int)).natAbs : Int) * (fU : Int) = ((((n * (fU * fU) : Nat) : Int) - ((c * 2 ^ j : Nat) : Int) * ((c * 2 ^ j : Nat) : Int)).natAbs : Int) := by
    rw [eG, Int.natAbs_mul (F * ((2 ^ g : Nat) : Int)), Int.natAbs_natCast, ic_mul]
  rw [Int.neg_mul, eGa] at u2
  rw [eGa] at u1
  obtain ⟨v1, v2⟩ := hI0
  have eR2 : (((c * 2 ^ j) * (c * 2 ^ j) : Nat) : Int) = ((c * 2 ^ j : Nat) : Int) * ((c * 2 ^ j : Nat) : Int) := (ic_mul _ _).symm
  have e2R : ((2 * c * 2 ^ j : Nat) : Int) = 2 * ((c * 2 ^ j : Nat) : Int) := by rw [Nat.mul_assoc, ← ic_mul 2]; rfl
  rw [e2R] at t1 t2
  have eV : 2 * ((c * 2 ^ j : Nat) : Int) * (((c * 2 ^ j : Nat) : Int) + Z2) = 2 * (((c * 2 ^ j : Nat) : Int) * ((c * 2 ^ j : Nat) : Int)) + Z2 * (2 * ((c * 2 ^ j : Nat) : Int)) := by
    rw [Int.mul_add, Int.mul_assoc 2 ((c * 2 ^ j : Nat) : Int), Int.mul_comm Z2]
  rw [eV, ← eR2]
  rw [← eR2] at u1 u2
  generalize n * (fU * fU) = N at *
  generalize Z2 * (2 * ((c * 2 ^ j : Nat) : Int)) = z at *
  generalize Z1 * (fU : Int) = a1 at *
  generalize c * 2 ^ j * (c * 2 ^ j) = RR at *
  clear hr hY hYr hG hGr hD hDr hn hnS hO hS hH hL hHH hd1 hh2 hp hs1 hll h2r
  omega
