/-! Long.bitCount, and what is left of CellSets -/
def pc_mk (c : Nat) : Nat → Nat
  | 0 => 0
  | m + 1 => c + 256 * pc_mk c m
theorem pc_and {a b c d : Nat} (ha : a < 256) (hc : c < 256) : (a + 256 * b) &&& (c + 256 * d) = (a &&& c) + 256 * (b &&& d) := by
  have h1 : ((a + 256 * b) &&& (c + 256 * d)) % 2 ^ 8 = a &&& c := by
    rw [Nat.and_mod_two_pow]
    rw [show (a + 256 * b) % 2 ^ 8 = a by omega, show (c + 256 * d) % 2 ^ 8 = c by omega]
  have h2 : ((a + 256 * b) &&& (c + 256 * d)) / 2 ^ 8 = b &&& d := by
    rw [Nat.and_div_two_pow]
    rw [show (a + 256 * b) / 2 ^ 8 = b by omega, show (c + 256 * d) / 2 ^ 8 = d by omega]
  have h3 := Nat.div_add_mod ((a + 256 * b) &&& (c + 256 * d)) (2 ^ 8)
  rw [h1, h2] at h3
  omega
def pc_1 (m n : Nat) : Nat := n - (n / 2 &&& pc_mk 85 m)
def pc_2 (m n : Nat) : Nat := (pc_1 m n &&& pc_mk 51 m) + (pc_1 m n / 4 &&& pc_mk 51 m)
def pc_3 (m n : Nat) : Nat := (pc_2 m n + pc_2 m n / 16) &&& pc_mk 15 m
def pc_b1 (b : Nat) : Nat := b - (b / 2 &&& 85)
def pc_b2 (b : Nat) : Nat := (pc_b1 b &&& 51) + (pc_b1 b / 4 &&& 51)
def pc_b3 (b : Nat) : Nat := (pc_b2 b + pc_b2 b / 16) &&& 15
theorem pc_t85 : ∀ b < 256, ((b / 2 &&& 85) = ((b / 2 + 128) &&& 85)) ∧ (b / 2 &&& 85) ≤ b := by decide +kernel
theorem pc_t51 : ∀ b < 256, ((b / 4 &&& 51) = ((b / 4 + 64) &&& 51)) ∧ ((b / 4 &&& 51) = ((b / 4 + 128) &&& 51)) ∧ ((b / 4 &&& 51) = ((b / 4 + 192) &&& 51)) := by decide +kernel
theorem pc_tb : ∀ b < 256, pc_b1 b < 256 ∧ pc_b2 b ≤ 68 ∧ pc_b2 b % 16 ≤ 4 := by decide +kernel
theorem pc_t15 : ∀ b < 256, ∀ r ≤ 4, ((pc_b2 b + pc_b2 b / 16 + 16 * r) &&& 15) = pc_b3 b := by decide +kernel
theorem pc_s1 (m b h : Nat) (hb : b < 256) : pc_1 (m + 1) (b + 256 * h) = pc_b1 b + 256 * pc_1 m h := by
  unfold pc_1 pc_b1
  have e : (b + 256 * h) / 2 = (b / 2 + 128 * (h % 2)) + 256 * (h / 2) := by omega
  rw [e, show pc_mk 85 (m + 1) = 85 + 256 * pc_mk 85 m from rfl, pc_and (by omega) (by decide)]
  have h1 := pc_t85 b hb
  have h2 : (b / 2 + 128 * (h % 2)) &&& 85 = b / 2 &&& 85 := by
    rcases Nat.mod_two_eq_zero_or_one h with q | q <;> rw [q]
    · rw [Nat.mul_zero, Nat.add_zero]
    · rw [Nat.mul_one, ← h1.1]
  have h3 : (h / 2 &&& pc_mk 85 m) ≤ h / 2 := Nat.and_le_left
  rw [h2]
  have h4 := h1.2
  omega
theorem pc_s2 (m b h : Nat) (hb : b < 256) : pc_2 (m + 1) (b + 256 * h) = pc_b2 b + 256 * pc_2 m h := by
  unfold pc_2 pc_b2
  rw [pc_s1 m b h hb]
  have hc := (pc_tb b hb).1
  generalize pc_b1 b = c at hc ⊢
  generalize pc_1 m h = g
  have e : (c + 256 * g) / 4 = (c / 4 + 64 * (g % 4)) + 256 * (g / 4) := by omega
  rw [e, show pc_mk 51 (m + 1) = 51 + 256 * pc_mk 51 m from rfl, pc_and hc (by decide), pc_and (by omega) (by decide)]
  have h1 := pc_t51 c hc
  have h2 : (c / 4 + 64 * (g % 4)) &&& 51 = c / 4 &&& 51 := by
    have : g % 4 < 4 := Nat.mod_lt _ (by decide)
    rcases (show g % 4 = 0 ∨ g % 4 = 1 ∨ g % 4 = 2 ∨ g % 4 = 3 by omega) with q | q | q | q <;> rw [q]
    · rw [Nat.mul_zero, Nat.add_zero]
    · rw [h1.1]
    · rw [h1.2.1]
    · rw [h1.2.2]
  rw [h2]
  omega
theorem pc_lo : ∀ (m n : Nat), pc_2 m n % 16 ≤ 4
  | 0, n => by
    show ((pc_1 0 n &&& 0) + (pc_1 0 n / 4 &&& 0)) % 16 ≤ 4
    rw [Nat.and_zero, Nat.and_zero]; decide
  | m + 1, n => by
    have e : n = n % 256 + 256 * (n / 256) := by omega
    rw [e, pc_s2 m _ _ (Nat.mod_lt _ (by decide))]
    have := (pc_tb (n % 256) (Nat.mod_lt _ (by decide))).2.2
    omega
theorem pc_s3 (m b h : Nat) (hb : b < 256) : pc_3 (m + 1) (b + 256 * h) = pc_b3 b + 256 * pc_3 m h := by
  unfold pc_3
  rw [pc_s2 m b h hb]
  have h1 := (pc_tb b hb).2.1
  have h2 := pc_lo m h
  have h3 := pc_t15 b hb (pc_2 m h % 16) h2
  have e : pc_b2 b + 256 * pc_2 m h + (pc_b2 b + 256 * pc_2 m h) / 16 = (pc_b2 b + pc_b2 b / 16 + 16 * (pc_2 m h % 16)) + 256 * (pc_2 m h + pc_2 m h / 16) := by omega
  rw [e, show pc_mk 15 (m + 1) = 15 + 256 * pc_mk 15 m from rfl, pc_and (by omega) (by decide), h3]
theorem pc_byte : ∀ b < 256, pc_b3 b = fb_ct (fun i => b.testBit i) 8 ∧ pc_b3 b ≤ 8 := by decide +kernel
theorem pc_ct (n m : Nat) : fb_ct (fun i => n.testBit i) (8 + m) = pc_b3 (n % 256) + fb_ct (fun i => (n / 256).testBit i) m := by
  rw [fb_ct_split, (pc_byte (n % 256) (Nat.mod_lt _ (by decide))).1]
  congr 1
  · exact fb_ct_cong (fun k hk => by
      rw [show (256 : Nat) = 2 ^ 8 from rfl, Nat.testBit_mod_two_pow, decide_eq_true hk, Bool.true_and])
  · exact fb_ct_cong (fun k _ => by
      rw [show (256 : Nat) = 2 ^ 8 from rfl, Nat.testBit_div_two_pow, Nat.add_comm])
theorem pc_3z (n : Nat) : pc_3 0 n = 0 := by
  show (_ &&& 0) = 0
  exact Nat.and_zero _
/-- the whole sum: eight bytes -/
theorem pc_all (n : Nat) (hn : n < 2 ^ 64) : ∃ p : Nat → Nat, (∀ i, p i ≤ 8) ∧ pc_3 8 n = p 0 + 256 * (p 1 + 256 * (p 2 + 256 * (p 3 + 256 * (p 4 + 256 * (p 5 + 256 * (p 6 + 256 * p 7)))))) ∧ fb_ct (fun i => n.testBit i) 64 = p 0 + p 1 + p 2 + p 3 + p 4 + p 5 + p 6 + p 7 := by
  have st : ∀ (m x : Nat), pc_3 (m + 1) x = pc_b3 (x % 256) + 256 * pc_3 m (x / 256) := fun m x => by
    have e : x = x % 256 + 256 * (x / 256) := by omega
    have := pc_s3 m (x % 256) (x / 256) (Nat.mod_lt _ (by decide))
    rw [← e] at this
    exact this
  refine ⟨fun i => pc_b3 (n / 256 ^ i % 256), fun i => (pc_byte _ (Nat.mod_lt _ (by decide))).2, ?_, ?_⟩
  · rw [st, st, st, st, st, st, st, st, pc_3z]
    simp only [Nat.div_div_eq_div_mul]
    simp only [Nat.reduceMul, Nat.reducePow, Nat.div_one, Nat.mul_zero, Nat.add_zero]
  · rw [show (64 : Nat) = 8 + (8 + (8 + (8 + (8 + (8 + (8 + (8 + 0))))))) from rfl, pc_ct, pc_ct, pc_ct, pc_ct, pc_ct, pc_ct, pc_ct, pc_ct]
    simp only [Nat.div_div_eq_div_mul, fb_ct]
    simp only [Nat.reduceMul, Nat.reducePow, Nat.div_one, Nat.add_zero]
    omega
theorem pc_sum {p : Nat → Nat} (hp : ∀ i, p i ≤ 8) {s a b c : Nat} (hs : s = p 0 + 256 * (p 1 + 256 * (p 2 + 256 * (p 3 + 256 * (p 4 + 256 * (p 5 + 256 * (p 6 + 256 * p 7))))))) (ha : a = s + s / 256) (hb : b = a + a / 65536) (hc : c = b + b / 4294967296) : c % 128 = p 0 + p 1 + p 2 + p 3 + p 4 + p 5 + p 6 + p 7 := by
  have h0 := hp 0; have h1 := hp 1; have h2 := hp 2; have h3 := hp 3; have h4 := hp 4; have h5 := hp 5; have h6 := hp 6; have h7 := hp 7
  generalize p 0 = p0 at *
  generalize p 1 = p1 at *
  generalize p 2 = p2 at *
  generalize p 3 = p3 at *
  generalize p 4 = p4 at *
  generalize p 5 = p5 at *
  generalize p 6 = p6 at *
  generalize p 7 = p7 at *
  have ea : a = (p0 + p1) + 256 * ((p1 + p2) + 256 * ((p2 + p3) + 256 * ((p3 + p4) + 256 * ((p4 + p5) + 256 * ((p5 + p6) + 256 * ((p6 + p7) + 256 * p7)))))) := by omega
  have eb : b = (p0 + p1 + p2 + p3) + 256 * ((p1 + p2 + p3 + p4) + 256 * ((p2 + p3 + p4 + p5) + 256 * ((p3 + p4 + p5 + p6) + 256 * ((p4 + p5 + p6 + p7) + 256 * ((p5 + p6 + p7) + 256 * ((p6 + p7) + 256 * p7)))))) := by omega
  have ec : c = (p0 + p1 + p2 + p3 + p4 + p5 + p6 + p7) + 256 * ((p1 + p2 + p3 + p4 + p5 + p6 + p7) + 256 * ((p2 + p3 + p4 + p5 + p6 + p7) + 256 * ((p3 + p4 + p5 + p6 + p7) + 256 * ((p4 + p5 + p6 + p7) + 256 * ((p5 + p6 + p7) + 256 * ((p6 + p7) + 256 * p7)))))) := by omega
  omega
theorem pc_le (n m : Nat) : pc_1 m n ≤ n := Nat.sub_le _ _
theorem pc_lt {a b k : Nat} (h : b < 2 ^ k) : a &&& b < 2 ^ k := Nat.lt_of_le_of_lt Nat.and_le_right h
theorem pc_mod (n : Nat) : nI n = nI (n % 2 ^ 32) := by
  unfold nI
  apply Int32.toBitVec_inj.mp
  show BitVec.ofNat 32 n = BitVec.ofNat 32 (n % 2 ^ 32)
  apply BitVec.eq_of_toNat_eq
  simp
set_option maxHeartbeats 4000000 in
set_option maxRecDepth 100000 in
/-- Long.bitCount -/
theorem c_J13_bitCount_95d88 (l : Launch) (T : jj_T) (x : Int64) : jR l T yJ13_bitCount_95d88 wsJ13_bitCount_95d88 { frames := 0, cells := 0, slots := 0, locals := 0 } [.long x] [] (fun v => v = some (.int (nI (fb_ct (cs_lb x) 64)))) := by
  refine jR.of (cc := cJ13_bitCount_95d88) (maxL := 2) (ret := (some .int)) (by decide) rfl (Nat.le_of_ble_eq_true rfl) ?_
  intro X C ro hl hT hQ
  subst hl; subst hT
  show jj X 0 0 0 [(0, .long x)] [] []
  obtain ⟨n, hn, rfl⟩ := wb_of x
  have b1 := pc_le n 8
  have b2 : pc_2 8 n < 2 ^ 63 := by
    have q1 : (pc_1 8 n &&& pc_mk 51 8) ≤ pc_mk 51 8 := Nat.and_le_right
    have q2 : (pc_1 8 n / 4 &&& pc_mk 51 8) ≤ pc_mk 51 8 := Nat.and_le_right
    have q3 : pc_mk 51 8 = 3689348814741910323 := by decide +kernel
    unfold pc_2
    omega
  have b3 : pc_3 8 n < 2 ^ 60 := by
    have q1 : (pc_2 8 n + pc_2 8 n / 16 &&& pc_mk 15 8) ≤ pc_mk 15 8 := Nat.and_le_right
    have q3 : pc_mk 15 8 = 1085102592571150095 := by decide +kernel
    unfold pc_3
    omega
  show jj X 0 0 0 [(0, .long (lN n))] [] []
  refine j_lload_n C dJ13_bitCount_95d88_0 0 rfl rfl ?_
  refine j_lload_n C dJ13_bitCount_95d88_1 0 rfl rfl ?_
  refine j_iconst C dJ13_bitCount_95d88_2 (v := (nI 1)) kc_i_1 ?_
  refine j_lushr C dJ13_bitCount_95d88_3 (v := (lN (n / 2))) (wb_shr (by omega) (by decide)) ?_
  refine j_ldc2l C dJ13_bitCount_95d88_4 (v := 6148914691236517205) (by decide +kernel) ?_
  refine j_land C dJ13_bitCount_95d88_7 (v := (lN ((n / 2) &&& pc_mk 85 8))) (by rw [show ((6148914691236517205) : Int64) = lN (pc_mk 85 8) from by decide +kernel]; exact wb_and (by omega) (by decide +kernel)) ?_
  refine j_lsub C dJ13_bitCount_95d88_8 (v := (lN (pc_1 8 n))) (lN_sub (Nat.le_trans Nat.and_le_left (Nat.div_le_self _ _))) ?_
  refine j_lstore_n C dJ13_bitCount_95d88_9 rfl (by decide) (lv' := [(0, .long (lN (pc_1 8 n)))]) rfl ?_
  refine j_lload_n C dJ13_bitCount_95d88_10 0 rfl rfl ?_
  refine j_ldc2l C dJ13_bitCount_95d88_11 (v := 3689348814741910323) (by decide +kernel) ?_
  refine j_land C dJ13_bitCount_95d88_14 (v := (lN ((pc_1 8 n) &&& pc_mk 51 8))) (by rw [show ((3689348814741910323) : Int64) = lN (pc_mk 51 8) from by decide +kernel]; exact wb_and (by omega) (by decide +kernel)) ?_
  refine j_lload_n C dJ13_bitCount_95d88_15 0 rfl rfl ?_
  refine j_iconst C dJ13_bitCount_95d88_16 (v := (nI 2)) kc_i_2 ?_
  refine j_lushr C dJ13_bitCount_95d88_17 (v := (lN ((pc_1 8 n) / 4))) (wb_shr (by omega) (by decide)) ?_
  refine j_ldc2l C dJ13_bitCount_95d88_18 (v := 3689348814741910323) (by decide +kernel) ?_
  refine j_land C dJ13_bitCount_95d88_21 (v := (lN (((pc_1 8 n) / 4) &&& pc_mk 51 8))) (by rw [show ((3689348814741910323) : Int64) = lN (pc_mk 51 8) from by decide +kernel]; exact wb_and (by omega) (by decide +kernel)) ?_
  refine j_ladd C dJ13_bitCount_95d88_22 (v := (lN (pc_2 8 n))) (lN_add _ _) ?_
  refine j_lstore_n C dJ13_bitCount_95d88_23 rfl (by decide) (lv' := [(0, .long (lN (pc_2 8 n)))]) rfl ?_
  refine j_lload_n C dJ13_bitCount_95d88_24 0 rfl rfl ?_
  refine j_lload_n C dJ13_bitCount_95d88_25 0 rfl rfl ?_
  refine j_iconst C dJ13_bitCount_95d88_26 (v := (nI 4)) kc_i_4 ?_
  refine j_lushr C dJ13_bitCount_95d88_27 (v := (lN ((pc_2 8 n) / 16))) (wb_shr (by omega) (by decide)) ?_
  refine j_ladd C dJ13_bitCount_95d88_28 (v := (lN (pc_2 8 n + (pc_2 8 n) / 16))) (lN_add _ _) ?_
  refine j_ldc2l C dJ13_bitCount_95d88_29 (v := 1085102592571150095) (by decide +kernel) ?_
  refine j_land C dJ13_bitCount_95d88_32 (v := (lN (pc_3 8 n))) (by rw [show ((1085102592571150095) : Int64) = lN (pc_mk 15 8) from by decide +kernel]; exact wb_and (by omega) (by decide +kernel)) ?_
  refine j_lstore_n C dJ13_bitCount_95d88_33 rfl (by decide) (lv' := [(0, .long (lN (pc_3 8 n)))]) rfl ?_
  refine j_lload_n C dJ13_bitCount_95d88_34 0 rfl rfl ?_
  refine j_lload_n C dJ13_bitCount_95d88_35 0 rfl rfl ?_
  refine j_bipush C dJ13_bitCount_95d88_36 (v := (nI 8)) kc_b_8 ?_
  refine j_lushr C dJ13_bitCount_95d88_38 (v := (lN ((pc_3 8 n) / 256))) (wb_shr (by omega) (by decide)) ?_
  refine j_ladd C dJ13_bitCount_95d88_39 (v := (lN (pc_3 8 n + (pc_3 8 n) / 256))) (lN_add _ _) ?_
  obtain ⟨a, ha⟩ : ∃ z, z = pc_3 8 n + (pc_3 8 n) / 256 := ⟨_, rfl⟩
  rw [← ha]
  refine j_lstore_n C dJ13_bitCount_95d88_40 rfl (by decide) (lv' := [(0, .long (lN a))]) rfl ?_
  refine j_lload_n C dJ13_bitCount_95d88_41 0 rfl rfl ?_
  refine j_lload_n C dJ13_bitCount_95d88_42 0 rfl rfl ?_
  refine j_bipush C dJ13_bitCount_95d88_43 (v := (nI 16)) kc_b_16 ?_
  refine j_lushr C dJ13_bitCount_95d88_45 (v := (lN (a / 65536))) (wb_shr (by omega) (by decide)) ?_
  refine j_ladd C dJ13_bitCount_95d88_46 (v := (lN (a + a / 65536))) (lN_add _ _) ?_
  obtain ⟨b, hb⟩ : ∃ z, z = a + a / 65536 := ⟨_, rfl⟩
  rw [← hb]
  refine j_lstore_n C dJ13_bitCount_95d88_47 rfl (by decide) (lv' := [(0, .long (lN b))]) rfl ?_
  refine j_lload_n C dJ13_bitCount_95d88_48 0 rfl rfl ?_
  refine j_lload_n C dJ13_bitCount_95d88_49 0 rfl rfl ?_
  refine j_bipush C dJ13_bitCount_95d88_50 (v := (nI 32)) kc_b_32 ?_
  refine j_lushr C dJ13_bitCount_95d88_52 (v := (lN (b / 4294967296))) (wb_shr (by omega) (by decide)) ?_
  refine j_ladd C dJ13_bitCount_95d88_53 (v := (lN (b + b / 4294967296))) (lN_add _ _) ?_
  obtain ⟨c, hc⟩ : ∃ z, z = b + b / 4294967296 := ⟨_, rfl⟩
  rw [← hc]
  refine j_lstore_n C dJ13_bitCount_95d88_54 rfl (by decide) (lv' := [(0, .long (lN c))]) rfl ?_
  refine j_lload_n C dJ13_bitCount_95d88_55 0 rfl rfl ?_
  refine j_l2i C dJ13_bitCount_95d88_56 (v := (nI c)) (lN_i _) ?_
  refine j_bipush C dJ13_bitCount_95d88_57 (v := (nI 127)) kc_b_127 ?_
  refine j_iand C dJ13_bitCount_95d88_59 (v := (nI (c % 128))) (by rw [pc_mod c, pk_andN (by omega) 7 (by decide +kernel)]; congr 1; omega) ?_
  refine j_iretR C ro hQ rfl ?_ dJ13_bitCount_95d88_60
  refine kn_e ?_
  obtain ⟨p, hp, h1, h2⟩ := pc_all n hn
  rw [pc_sum hp h1 ha hb hc, ← h2]
  exact fb_ct_cong (fun k hk => by
    unfold cs_lb
    rw [wb_tb, BitVec.getLsbD_ofNat, decide_eq_true hk, Bool.true_and])
