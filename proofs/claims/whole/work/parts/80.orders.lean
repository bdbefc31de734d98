/-! ORDERS: the planner's search and the model's rows find the same -/
def uF (n row : Nat) : Nat → Nat
  | 0 => 0
  | k + 1 => uF n row k ||| 2 ^ (odg n row k)
/-- the first k digits are different ones -/
def dis (n row : Nat) : Nat → Bool
  | 0 => true
  | k + 1 => dis n row k && decide (uF n row k / 2 ^ (odg n row k) % 2 = 0)
theorem dis_ok : ∀ n < 5, ∀ row < n ^ n, 0 < n → oOK n row = dis n row n := by decide +kernel
theorem uF_congr {n r1 r2 : Nat} : ∀ k, (∀ j, j < k → odg n r1 j = odg n r2 j) → uF n r1 k = uF n r2 k := by
  intro k
  induction k with
  | zero => intro _; rfl
  | succ k ih =>
    intro h
    show uF n r1 k ||| 2 ^ (odg n r1 k) = uF n r2 k ||| 2 ^ (odg n r2 k)
    rw [ih (fun j hj => h j (by omega)), h k (by omega)]
theorem dis_congr {n r1 r2 : Nat} : ∀ k, (∀ j, j < k → odg n r1 j = odg n r2 j) → dis n r1 k = dis n r2 k := by
  intro k
  induction k with
  | zero => intro _; rfl
  | succ k ih =>
    intro h
    show (dis n r1 k && decide (uF n r1 k / 2 ^ (odg n r1 k) % 2 = 0)) = (dis n r2 k && decide (uF n r2 k / 2 ^ (odg n r2 k) % 2 = 0))
    rw [ih (fun j hj => h j (by omega)), h k (by omega), uF_congr k (fun j hj => h j (by omega))]
theorem odig_congr {n r1 r2 : Nat} : ∀ k, (∀ j, j < k → odg n r1 j = odg n r2 j) → odig n r1 k = odig n r2 k := by
  intro k
  induction k with
  | zero => intro _; rfl
  | succ k ih =>
    intro h
    show 10 * odig n r1 k + odg n r1 k + 1 = 10 * odig n r2 k + odg n r2 k + 1
    rw [ih (fun j hj => h j (by omega)), h k (by omega)]
theorem voN_congr {ob rq : Nat → Int32} {ck p : Nat} {g1 g2 : Nat → Nat} : ∀ k, (∀ j, j < k → g1 j = g2 j) → voN ob rq ck p g1 k = voN ob rq ck p g2 k := by
  intro k
  induction k with
  | zero => intro _; rfl
  | succ k ih =>
    intro h
    show voS ob rq ck (g1 k) (voN ob rq ck p g1 k) = voS ob rq ck (g2 k) (voN ob rq ck p g2 k)
    rw [ih (fun j hj => h j (by omega)), h k (by omega)]
theorem dis_le {n row : Nat} : ∀ k m, k ≤ m → dis n row m = true → dis n row k = true := by
  intro k m
  induction m with
  | zero => intro h h2; rw [show k = 0 by omega]; rfl
  | succ m ih =>
    intro h h2
    by_cases e : k = m + 1
    · rw [e]; exact h2
    · have h3 : (dis n row m && decide (uF n row m / 2 ^ (odg n row m) % 2 = 0)) = true := h2
      rw [Bool.and_eq_true] at h3
      exact ih (by omega) h3.1
theorem odg_pre {n d e pre r j : Nat} (hn : 0 < n) (hj : n - 1 - j = d + e) (hr : r < n ^ d) : odg n (pre * n ^ d + r) j = pre / n ^ e % n := by
  unfold odg
  rw [hj, Nat.pow_add, ← Nat.div_div_eq_div_mul, Nat.mul_comm pre, Nat.mul_add_div (Nat.pow_pos hn), Nat.div_eq_of_lt hr, Nat.add_zero]
/-- rows from a on -/
def moR (ob rq : Nat → Int32) (ck p n a : Nat) : Nat → Nat × Nat → Nat × Nat
  | 0, b => b
  | l + 1, b => moS ob rq ck p n (a + l) (moR ob rq ck p n a l b)
theorem moR_0 (ob rq : Nat → Int32) (ck p n a : Nat) (b : Nat × Nat) : moR ob rq ck p n a 0 b = b := by rw [moR]
theorem moR_s (ob rq : Nat → Int32) (ck p n a l : Nat) (b : Nat × Nat) : moR ob rq ck p n a (l + 1) b = moS ob rq ck p n (a + l) (moR ob rq ck p n a l b) := by rw [moR]
theorem moR_add (ob rq : Nat → Int32) (ck p n a l : Nat) (b : Nat × Nat) : ∀ m, moR ob rq ck p n a (l + m) b = moR ob rq ck p n (a + l) m (moR ob rq ck p n a l b) := by
  intro m
  induction m with
  | zero => rw [Nat.add_zero, moR_0]
  | succ m ih => rw [← Nat.add_assoc, moR_s, ih, moR_s, Nat.add_assoc]
theorem moR_F (ob rq : Nat → Int32) (ck p n : Nat) : ∀ l, moR ob rq ck p n 0 l (0, 0) = moF ob rq ck p n l := by
  intro l
  induction l with
  | zero => rw [moR_0]; rfl
  | succ l ih => rw [moR_s, ih, Nat.zero_add]; rfl
theorem moR_skip {ob rq : Nat → Int32} {ck p n a : Nat} {b : Nat × Nat} : ∀ l, (∀ r, r < l → oOK n (a + r) = false) → moR ob rq ck p n a l b = b := by
  intro l
  induction l with
  | zero => intro _; rw [moR_0]
  | succ l ih =>
    intro h
    rw [moR_s, ih (fun r hr => h r (by omega))]
    unfold moS
    rw [h l (by omega)]
    rfl
theorem fnd_ge {ob : Nat → Int32} {t0 p tg e dl f : Nat} (h : fnd ob t0 p tg e dl = some f) : t0 ≤ f := by
  unfold fnd at h
  obtain ⟨k, -, h2⟩ := Option.map_eq_some_iff.mp h
  omega
theorem tF_blk {ob rq : Nat → Int32} {ck p n : Nat} (hn : 0 < n) (hn4 : n ≤ 4) : ∀ d pre (b : Nat × Nat), d ≤ n → pre < n ^ (n - d) → dis n (pre * n ^ d) (n - d) = true →
    tF ob rq ck n d (uF n (pre * n ^ d) (n - d)) (voN ob rq ck p (odg n (pre * n ^ d)) (n - d)).1 (ck + (voN ob rq ck p (odg n (pre * n ^ d)) (n - d)).2.1) (voN ob rq ck p (odg n (pre * n ^ d)) (n - d)).2.2 (odig n (pre * n ^ d) (n - d)) b = moR ob rq ck p n (pre * n ^ d) (n ^ d) b := by
  intro d
  induction d with
  | zero =>
    intro pre b _ hp hd
    rw [Nat.sub_zero] at hp hd
    rw [Nat.pow_zero, Nat.mul_one] at hd
    rw [Nat.sub_zero, Nat.pow_zero, Nat.mul_one, show (1 : Nat) = 0 + 1 from rfl, moR_s, moR_0, Nat.add_zero]
    unfold moS
    rw [dis_ok n (by omega) pre hp hn, hd, if_pos rfl]
    rw [tF]
  | succ d ih =>
    intro pre b hdn hp hd
    have hk : n - d = n - (d + 1) + 1 := by omega
    have hpos : 0 < n ^ d := Nat.pow_pos hn
    rw [tF_s]
    have key : ∀ i, i ≤ n → tL ob rq ck n d (uF n (pre * n ^ (d + 1)) (n - (d + 1))) (voN ob rq ck p (odg n (pre * n ^ (d + 1))) (n - (d + 1))).1 (ck + (voN ob rq ck p (odg n (pre * n ^ (d + 1))) (n - (d + 1))).2.1) (voN ob rq ck p (odg n (pre * n ^ (d + 1))) (n - (d + 1))).2.2 (odig n (pre * n ^ (d + 1)) (n - (d + 1))) i b = moR ob rq ck p n (pre * n ^ (d + 1)) (i * n ^ d) b := by
      intro i
      induction i with
      | zero => intro _; rw [Nat.zero_mul, moR_0]; rfl
      | succ i ihi =>
        intro hi
        rw [tL_s, ihi (by omega), Nat.add_mul, Nat.one_mul, moR_add]
        generalize moR ob rq ck p n (pre * n ^ (d + 1)) (i * n ^ d) b = b2
        have e1 : pre * n ^ (d + 1) + i * n ^ d = (pre * n + i) * n ^ d := by rw [Nat.add_mul, Nat.pow_succ, Nat.mul_assoc, Nat.mul_comm n]
        rw [e1]
        -- the digits
        have hdg : ∀ r, r < n ^ d → ∀ j, j < n - (d + 1) → odg n ((pre * n + i) * n ^ d + r) j = odg n (pre * n ^ (d + 1)) j := by
          intro r hr j hj
          rw [odg_pre (d := d) (e := n - (d + 1) - 1 - j + 1) hn (by omega) hr]
          have h2 := odg_pre (n := n) (d := d + 1) (e := n - (d + 1) - 1 - j) (pre := pre) (r := 0) (j := j) hn (by omega) (Nat.pow_pos hn)
          rw [Nat.add_zero] at h2
          rw [h2, Nat.pow_succ, Nat.mul_comm (n ^ _) n, ← Nat.div_div_eq_div_mul, Nat.mul_comm pre, Nat.mul_add_div hn, show i / n = 0 from Nat.div_eq_of_lt (by omega), Nat.add_zero]
        have hdi : ∀ r, r < n ^ d → odg n ((pre * n + i) * n ^ d + r) (n - (d + 1)) = i := by
          intro r hr
          rw [odg_pre (d := d) (e := 0) hn (by omega) hr, Nat.pow_zero, Nat.div_one, Nat.mul_comm, Nat.mul_add_mod, Nat.mod_eq_of_lt (by omega)]
        have hdg0 : ∀ j, j < n - (d + 1) → odg n ((pre * n + i) * n ^ d) j = odg n (pre * n ^ (d + 1)) j := fun j hj => hdg 0 hpos j hj
        have hdi0 : odg n ((pre * n + i) * n ^ d) (n - (d + 1)) = i := hdi 0 hpos
        have hpre : pre * n + i < n ^ (n - d) := by
          rw [hk, Nat.pow_succ]
          have h3 : (pre + 1) * n ≤ n ^ (n - (d + 1)) * n := Nat.mul_le_mul_right n hp
          rw [Nat.add_mul, Nat.one_mul] at h3
          omega
        unfold tS
        by_cases hu : uF n (pre * n ^ (d + 1)) (n - (d + 1)) / 2 ^ i % 2 ≠ 0
        · rw [if_pos hu, moR_skip]
          intro r hr
          have hrow : (pre * n + i) * n ^ d + r < n ^ n := by
            have h4 : (pre * n + i + 1) * n ^ d ≤ n ^ (n - d) * n ^ d := Nat.mul_le_mul_right _ hpre
            rw [← Nat.pow_add, Nat.sub_add_cancel (by omega), Nat.add_mul, Nat.one_mul] at h4
            omega
          rw [dis_ok n (by omega) _ hrow hn]
          cases hq : dis n ((pre * n + i) * n ^ d + r) n with
          | false => rfl
          | true =>
            have h5 := dis_le (n - (d + 1) + 1) n (by omega) hq
            have h6 : (dis n ((pre * n + i) * n ^ d + r) (n - (d + 1)) && decide (uF n ((pre * n + i) * n ^ d + r) (n - (d + 1)) / 2 ^ (odg n ((pre * n + i) * n ^ d + r) (n - (d + 1))) % 2 = 0)) = true := h5
            rw [Bool.and_eq_true, hdi r hr, uF_congr _ (hdg r hr)] at h6
            exact absurd (of_decide_eq_true h6.2) hu
        · rw [if_neg hu]
          have hu0 : uF n (pre * n ^ (d + 1)) (n - (d + 1)) / 2 ^ i % 2 = 0 := Classical.not_not.mp hu
          have hd2 : dis n ((pre * n + i) * n ^ d) (n - d) = true := by
            rw [hk]
            show (dis n ((pre * n + i) * n ^ d) (n - (d + 1)) && decide (uF n ((pre * n + i) * n ^ d) (n - (d + 1)) / 2 ^ (odg n ((pre * n + i) * n ^ d) (n - (d + 1))) % 2 = 0)) = true
            rw [dis_congr _ hdg0, hd, hdi0, uF_congr _ hdg0, hu0]
            rfl
          have h7 := ih (pre * n + i) b2 (by omega) hpre hd2
          rw [hk] at h7
          have e2 : uF n ((pre * n + i) * n ^ d) (n - (d + 1) + 1) = uF n (pre * n ^ (d + 1)) (n - (d + 1)) ||| 2 ^ i := by
            show uF n ((pre * n + i) * n ^ d) (n - (d + 1)) ||| 2 ^ (odg n ((pre * n + i) * n ^ d) (n - (d + 1))) = _
            rw [uF_congr _ hdg0, hdi0]
          have e3 : odig n ((pre * n + i) * n ^ d) (n - (d + 1) + 1) = 10 * odig n (pre * n ^ (d + 1)) (n - (d + 1)) + i + 1 := by
            show 10 * odig n ((pre * n + i) * n ^ d) (n - (d + 1)) + odg n ((pre * n + i) * n ^ d) (n - (d + 1)) + 1 = _
            rw [odig_congr _ hdg0, hdi0]
          have e4 : voN ob rq ck p (odg n ((pre * n + i) * n ^ d)) (n - (d + 1) + 1) = voS ob rq ck i (voN ob rq ck p (odg n (pre * n ^ (d + 1))) (n - (d + 1))) := by
            show voS ob rq ck (odg n ((pre * n + i) * n ^ d) (n - (d + 1))) (voN ob rq ck p (odg n ((pre * n + i) * n ^ d)) (n - (d + 1))) = _
            rw [voN_congr _ hdg0, hdi0]
          rw [e2, e3, e4] at h7
          rw [← h7]
          generalize voN ob rq ck p (odg n (pre * n ^ (d + 1))) (n - (d + 1)) = v
          obtain ⟨va, vt, vs⟩ := v
          show (match fnd ob (ck + vt) va (rqN rq (3 * i)) (rqN rq (3 * i + 1)) (ck + 60) with
            | none => tF ob rq ck n d (uF n (pre * n ^ (d + 1)) (n - (d + 1)) ||| 2 ^ i) va (ck + vt) vs (10 * odig n (pre * n ^ (d + 1)) (n - (d + 1)) + i + 1) b2
            | some f => tF ob rq ck n d (uF n (pre * n ^ (d + 1)) (n - (d + 1)) ||| 2 ^ i) (rqN rq (3 * i)) f (vs + rqN rq (3 * i + 2)) (10 * odig n (pre * n ^ (d + 1)) (n - (d + 1)) + i + 1) b2) = _
          cases hf : fnd ob (ck + vt) va (rqN rq (3 * i)) (rqN rq (3 * i + 1)) (ck + 60) with
          | none => rw [voS_n hf]
          | some f =>
            have hge := fnd_ge hf
            obtain ⟨f2, hf2⟩ : ∃ f2, f = ck + f2 := ⟨f - ck, by omega⟩
            subst hf2
            rw [voS_s hf]
    rw [key n (Nat.le_refl n), Nat.pow_succ, Nat.mul_comm n]
theorem tF_moE {ob rq : Nat → Int32} {ck p n : Nat} (hn4 : n ≤ 4) : tF ob rq ck n n 0 p ck 0 0 (0, 0) = moE ob rq ck p n := by
  unfold moE
  by_cases h0 : n = 0
  · subst h0
    rw [if_pos rfl, tF]
    rfl
  · rw [if_neg h0, ← moR_F]
    have h := tF_blk (ob := ob) (rq := rq) (ck := ck) (p := p) (n := n) (by omega) hn4 n 0 (0, 0) (Nat.le_refl n) (Nat.pow_pos (by omega)) (by rw [Nat.sub_self]; rfl)
    rw [Nat.sub_self, Nat.zero_mul] at h
    exact h
