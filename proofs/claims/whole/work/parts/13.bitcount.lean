/-! Long.bitCount, and what is left of CellSets -/
def pc_mk (c : Nat) : Nat → Nat
  | 0 => 0
  | m + 1 => c + 256 * pc_mk c m
theorem pc_and {a b c d : Nat} (ha : a < 256) (hc : c < 256) : (a + 256 * b) &&& (c + 256 * d) = (a &&& c) + 256 * (b &&& d) := by
  have h1 : ((a + 256 * b) &&& (c + 256 * d)) % 2 ^ 8 = a &&& c := by
    rw [Nat.and_mod_two_pow]
    rw [show (a + 256 * b) % 2 ^ 8 = a by omega, show (c + 256 * d) % 2 ^ 8 = c by omega]
  have h2 : ((a + 256 * b) &&& (c + 256 * d)) / 2 ^ 8 = b &&& d := by
    rw [Nat.and_div_two_pow]
    rw [show (a + 256 * b) / 2 ^ 8 = b by omega, show (c + 256 * d) / 2 ^ 8 = d by omega]
  have h3 := Nat.div_add_mod ((a + 256 * b) &&& (c + 256 * d)) (2 ^ 8)
  rw [h1, h2] at h3
  omega
def pc_1 (m n : Nat) : Nat := n - (n / 2 &&& pc_mk 85 m)
def pc_2 (m n : Nat) : Nat := (pc_1 m n &&& pc_mk 51 m) + (pc_1 m n / 4 &&& pc_mk 51 m)
def pc_3 (m n : Nat) : Nat := (pc_2 m n + pc_2 m n / 16) &&& pc_mk 15 m
def pc_b1 (b : Nat) : Nat := b - (b / 2 &&& 85)
def pc_b2 (b : Nat) : Nat := (pc_b1 b &&& 51) + (pc_b1 b / 4 &&& 51)
def pc_b3 (b : Nat) : Nat := (pc_b2 b + pc_b2 b / 16) &&& 15
theorem pc_t85 : ∀ b < 256, ((b / 2 &&& 85) = ((b / 2 + 128) &&& 85)) ∧ (b / 2 &&& 85) ≤ b := by decide +kernel
theorem pc_t51 : ∀ b < 256, ((b / 4 &&& 51) = ((b / 4 + 64) &&& 51)) ∧ ((b / 4 &&& 51) = ((b / 4 + 128) &&& 51)) ∧ ((b / 4 &&& 51) = ((b / 4 + 192) &&& 51)) := by decide +kernel
theorem pc_tb : ∀ b < 256, pc_b1 b < 256 ∧ pc_b2 b ≤ 68 ∧ pc_b2 b % 16 ≤ 4 := by decide +kernel
theorem pc_t15 : ∀ b < 256, ∀ r ≤ 4, ((pc_b2 b + pc_b2 b / 16 + 16 * r) &&& 15) = pc_b3 b := by decide +kernel
theorem pc_s1 (m b h : Nat) (hb : b < 256) : pc_1 (m + 1) (b + 256 * h) = pc_b1 b + 256 * pc_1 m h := by
  unfold pc_1 pc_b1
  have e : (b + 256 * h) / 2 = (b / 2 + 128 * (h % 2)) + 256 * (h / 2) := by omega
  rw [e, show pc_mk 85 (m + 1) = 85 + 256 * pc_mk 85 m from rfl, pc_and (by omega) (by decide)]
  have h1 := pc_t85 b hb
  have h2 : (b / 2 + 128 * (h % 2)) &&& 85 = b / 2 &&& 85 := by
    rcases Nat.mod_two_eq_zero_or_one h with q | q <;> rw [q]
    · rw [Nat.mul_zero, Nat.add_zero]
    · rw [Nat.mul_one, ← h1.1]
  have h3 : (h / 2 &&& pc_mk 85 m) ≤ h / 2 := Nat.and_le_left
  rw [h2]
  have h4 := h1.2
  omega
theorem pc_s2 (m b h : Nat) (hb : b < 256) : pc_2 (m + 1) (b + 256 * h) = pc_b2 b + 256 * pc_2 m h := by
  unfold pc_2 pc_b2
  rw [pc_s1 m b h hb]
  have hc := (pc_tb b hb).1
  generalize pc_b1 b = c at hc ⊢
  generalize pc_1 m h = g
  have e : (c + 256 * g) / 4 = (c / 4 + 64 * (g % 4)) + 256 * (g / 4) := by omega
  rw [e, show pc_mk 51 (m + 1) = 51 + 256 * pc_mk 51 m from rfl, pc_and hc (by decide), pc_and (by omega) (by decide)]
  have h1 := pc_t51 c hc
  have h2 : (c / 4 + 64 * (g % 4)) &&& 51 = c / 4 &&& 51 := by
    have : g % 4 < 4 := Nat.mod_lt _ (by decide)
    rcases (show g % 4 = 0 ∨ g % 4 = 1 ∨ g % 4 = 2 ∨ g % 4 = 3 by omega) with q | q | q | q <;> rw [q]
    · rw [Nat.mul_zero, Nat.add_zero]
    · rw [h1.1]
    · rw [h1.2.1]
    · rw [h1.2.2]
  rw [h2]
  omega
theorem pc_lo : ∀ (m n : Nat), pc_2 m n % 16 ≤ 4
  | 0, n => by
    show ((pc_1 0 n &&& 0) + (pc_1 0 n / 4 &&& 0)) % 16 ≤ 4
    rw [Nat.and_zero, Nat.and_zero]; decide
  | m + 1, n => by
    have e : n = n % 256 + 256 * (n / 256) := by omega
    rw [e, pc_s2 m _ _ (Nat.mod_lt _ (by decide))]
    have := (pc_tb (n % 256) (Nat.mod_lt _ (by decide))).2.2
    omega
theorem pc_s3 (m b h : Nat) (hb : b < 256) : pc_3 (m + 1) (b + 256 * h) = pc_b3 b + 256 * pc_3 m h := by
  unfold pc_3
  rw [pc_s2 m b h hb]
  have h1 := (pc_tb b hb).2.1
  have h2 := pc_lo m h
  have h3 := pc_t15 b hb (pc_2 m h % 16) h2
  have e : pc_b2 b + 256 * pc_2 m h + (pc_b2 b + 256 * pc_2 m h) / 16 = (pc_b2 b + pc_b2 b / 16 + 16 * (pc_2 m h % 16)) + 256 * (pc_2 m h + pc_2 m h / 16) := by omega
  rw [e, show pc_mk 15 (m + 1) = 15 + 256 * pc_mk 15 m from rfl, pc_and (by omega) (by decide), h3]
theorem pc_byte : ∀ b < 256, pc_b3 b = fb_ct (fun i => b.testBit i) 8 ∧ pc_b3 b ≤ 8 := by decide +kernel
theorem pc_ct (n m : Nat) : fb_ct (fun i => n.testBit i) (8 + m) = pc_b3 (n % 256) + fb_ct (fun i => (n / 256).testBit i) m := by
  rw [fb_ct_split, (pc_byte (n % 256) (Nat.mod_lt _ (by decide))).1]
  congr 1
  · exact fb_ct_cong (fun k hk => by
      rw [show (256 : Nat) = 2 ^ 8 from rfl, Nat.testBit_mod_two_pow, decide_eq_true hk, Bool.true_and])
  · exact fb_ct_cong (fun k _ => by
      rw [show (256 : Nat) = 2 ^ 8 from rfl, Nat.testBit_div_two_pow, Nat.add_comm])
theorem pc_3z (n : Nat) : pc_3 0 n = 0 := by
  show (_ &&& 0) = 0
  exact Nat.and_zero _
/-- the whole sum: eight bytes -/
theorem pc_all (n : Nat) (hn : n < 2 ^ 64) : ∃ p : Nat → Nat, (∀ i, p i ≤ 8) ∧ pc_3 8 n = p 0 + 256 * (p 1 + 256 * (p 2 + 256 * (p 3 + 256 * (p 4 + 256 * (p 5 + 256 * (p 6 + 256 * p 7)))))) ∧ fb_ct (fun i => n.testBit i) 64 = p 0 + p 1 + p 2 + p 3 + p 4 + p 5 + p 6 + p 7 := by
  have st : ∀ (m x : Nat), pc_3 (m + 1) x = pc_b3 (x % 256) + 256 * pc_3 m (x / 256) := fun m x => by
    have e : x = x % 256 + 256 * (x / 256) := by omega
    have := pc_s3 m (x % 256) (x / 256) (Nat.mod_lt _ (by decide))
    rw [← e] at this
    exact this
  refine ⟨fun i => pc_b3 (n / 256 ^ i % 256), fun i => (pc_byte _ (Nat.mod_lt _ (by decide))).2, ?_, ?_⟩
  · rw [st, st, st, st, st, st, st, st, pc_3z]
    simp only [Nat.div_div_eq_div_mul]
    simp only [Nat.reduceMul, Nat.reducePow, Nat.div_one, Nat.mul_zero, Nat.add_zero]
  · rw [show (64 : Nat) = 8 + (8 + (8 + (8 + (8 + (8 + (8 + (8 + 0))))))) from rfl, pc_ct, pc_ct, pc_ct, pc_ct, pc_ct, pc_ct, pc_ct, pc_ct]
    simp only [Nat.div_div_eq_div_mul, fb_ct]
    simp only [Nat.reduceMul, Nat.reducePow, Nat.div_one, Nat.add_zero]
    omega
theorem pc_sum {p : Nat → Nat} (hp : ∀ i, p i ≤ 8) {s a b c : Nat} (hs : s = p 0 + 256 * (p 1 + 256 * (p 2 + 256 * (p 3 + 256 * (p 4 + 256 * (p 5 + 256 * (p 6 + 256 * p 7))))))) (ha : a = s + s / 256) (hb : b = a + a / 65536) (hc : c = b + b / 4294967296) : c % 128 = p 0 + p 1 + p 2 + p 3 + p 4 + p 5 + p 6 + p 7 := by
  have h0 := hp 0; have h1 := hp 1; have h2 := hp 2; have h3 := hp 3; have h4 := hp 4; have h5 := hp 5; have h6 := hp 6; have h7 := hp 7
  generalize p 0 = p0 at *
  generalize p 1 = p1 at *
  generalize p 2 = p2 at *
  generalize p 3 = p3 at *
  generalize p 4 = p4 at *
  generalize p 5 = p5 at *
  generalize p 6 = p6 at *
  generalize p 7 = p7 at *
  have ea : a = (p0 + p1) + 256 * ((p1 + p2) + 256 * ((p2 + p3) + 256 * ((p3 + p4) + 256 * ((p4 + p5) + 256 * ((p5 + p6) + 256 * ((p6 + p7) + 256 * p7)))))) := by omega
  have eb : b = (p0 + p1 + p2 + p3) + 256 * ((p1 + p2 + p3 + p4) + 256 * ((p2 + p3 + p4 + p5) + 256 * ((p3 + p4 + p5 + p6) + 256 * ((p4 + p5 + p6 + p7) + 256 * ((p5 + p6 + p7) + 256 * ((p6 + p7) + 256 * p7)))))) := by omega
  have ec : c = (p0 + p1 + p2 + p3 + p4 + p5 + p6 + p7) + 256 * ((p1 + p2 + p3 + p4 + p5 + p6 + p7) + 256 * ((p2 + p3 + p4 + p5 + p6 + p7) + 256 * ((p3 + p4 + p5 + p6 + p7) + 256 * ((p4 + p5 + p6 + p7) + 256 * ((p5 + p6 + p7) + 256 * ((p6 + p7) + 256 * p7)))))) := by omega
  omega
theorem pc_le (n m : Nat) : pc_1 m n ≤ n := Nat.sub_le _ _
theorem pc_lt {a b k : Nat} (h : b < 2 ^ k) : a &&& b < 2 ^ k := Nat.lt_of_le_of_lt Nat.and_le_right h
theorem pc_mod (n : Nat) : nI n = nI (n % 2 ^ 32) := by
  unfold nI
  apply Int32.toBitVec_inj.mp
  show BitVec.ofNat 32 n = BitVec.ofNat 32 (n % 2 ^ 32)
  apply BitVec.eq_of_toNat_eq
  simp
