/-! PLANS: what can be reached, by which way, where it stays dark (numbers alone) -/
def nborN (P : Nat → Bool) (c : Nat) : Nat → Bool
  | 0 => P c
  | k + 1 => nborN P c k || P (near4 (4 * c + k))
/-- P holds at the cell c or at a neighbour -/
def nbor (P : Nat → Bool) (c : Nat) : Bool := nborN P c 4
theorem nborN_iff {P : Nat → Bool} {c : Nat} : ∀ {k : Nat}, nborN P c k = true ↔ P c = true ∨ ∃ j, j < k ∧ P (near4 (4 * c + j)) = true
  | 0 => ⟨fun h => Or.inl h, fun h => h.elim id (fun ⟨j, h, _⟩ => absurd h (Nat.not_lt_zero _))⟩
  | k + 1 => by
    rw [nborN, Bool.or_eq_true, nborN_iff]
    constructor
    · rintro ((h | ⟨j, h1, h2⟩) | h)
      · exact Or.inl h
      · exact Or.inr ⟨j, by omega, h2⟩
      · exact Or.inr ⟨k, by omega, h⟩
    · rintro (h | ⟨j, h1, h2⟩)
      · exact Or.inl (Or.inl h)
      · by_cases e : j = k
        · subst e; exact Or.inr h2
        · exact Or.inl (Or.inr ⟨j, by omega, h2⟩)
theorem nbor_iff {P : Nat → Bool} {c : Nat} : nbor P c = true ↔ ∃ d, P d = true ∧ (d = c ∨ tb_nb c d = true) := by
  unfold nbor
  rw [nborN_iff]
  constructor
  · rintro (h | ⟨j, h1, h2⟩)
    · exact ⟨c, h, Or.inl rfl⟩
    · exact ⟨_, h2, Or.inr (nb_iff.mpr ⟨j, h1, rfl⟩)⟩
  · rintro ⟨d, h1, h | h⟩
    · exact Or.inl (h ▸ h1)
    · obtain ⟨k, hk, e⟩ := nb_iff.mp h
      exact Or.inr ⟨k, hk, by rw [e]; exact h1⟩
/-- hoods: itself and the neighbours -/
def hdI (hd : Nat → Int64) : Prop := ∀ r, r < 150 → ∀ c, c < 192 → cs_b hd r c = (decide (r = c) || tb_nb r c)
theorem un_nb {src P : Nat → Bool} {hd : Nat → Int64} (hs : ∀ b, b < 192 → src b = (decide (b < 150) && P b)) (hh : hdI hd) {c : Nat} (hc : c < 192) : cs_un src hd 192 c = (decide (c < 150) && nbor P c) := by
  rw [Bool.eq_iff_iff, cs_un_iff, Bool.and_eq_true, decide_eq_true_iff, nbor_iff]
  constructor
  · rintro ⟨b, h1, h2, h3⟩
    rw [hs b h1, Bool.and_eq_true, decide_eq_true_iff] at h2
    rw [hh b h2.1 c hc, Bool.or_eq_true, decide_eq_true_iff] at h3
    rcases h3 with h3 | h3
    · exact ⟨by omega, b, h2.2, Or.inl h3⟩
    · exact ⟨(nb_lt h2.1 h3).1, b, h2.2, Or.inr (nb_sym h2.1 h3)⟩
  · rintro ⟨h1, d, h2, h3⟩
    have hd150 : d < 150 := by
      rcases h3 with h3 | h3
      · omega
      · exact (nb_lt h1 h3).1
    refine ⟨d, by omega, by rw [hs d (by omega), decide_eq_true hd150, h2]; rfl, ?_⟩
    rw [hh d hd150 c hc, Bool.or_eq_true, decide_eq_true_iff]
    rcases h3 with h3 | h3
    · exact Or.inl h3
    · exact Or.inr (nb_sym h1 h3)
/-- what can be reached from p at the time t0 in s steps -/
def rc (ob : Nat → Int32) (t0 p : Nat) : Nat → Nat → Bool
  | 0, c => decide (c = p)
  | s + 1, c => nbor (rc ob t0 p s) c && !br ob c (t0 + (s + 1))
/-- the rows of ends up to mk are right -/
def plI (ob : Nat → Int32) (t0 p mk : Nat) (E : Nat → Int64) : Prop := ∀ j, j ≤ mk → ∀ c, c < 192 → cs_b E j c = (decide (c < 150) && rc ob t0 p j c)
/-- from where, d steps ahead of the end, the end is still reached -/
def wy (ob : Nat → Int32) (t0 p steps cell : Nat) : Nat → Nat → Bool
  | 0, c => decide (c = cell)
  | d + 1, c => nbor (wy ob t0 p steps cell d) c && rc ob t0 p (steps - (d + 1)) c
theorem wy_all {ob : Nat → Int32} {t0 p steps cell : Nat} (hc : cell < 150) (h : rc ob t0 p steps cell = true) : ∀ d, d ≤ steps → ∃ c, c < 150 ∧ wy ob t0 p steps cell d c = true ∧ rc ob t0 p (steps - d) c = true
  | 0, _ => ⟨cell, hc, by simp [wy], h⟩
  | d + 1, hd => by
    obtain ⟨c, h0, h1, h2⟩ := wy_all hc h d (by omega)
    rw [show steps - d = (steps - (d + 1)) + 1 by omega, rc, Bool.and_eq_true, nbor_iff] at h2
    obtain ⟨⟨e, h3, h4⟩, -⟩ := h2
    have he : e < 150 := by
      rcases h4 with h4 | h4
      · omega
      · exact (nb_lt h0 h4).1
    refine ⟨e, he, ?_, h3⟩
    rw [wy, h3, Bool.and_true, nbor_iff]
    refine ⟨c, h1, ?_⟩
    rcases h4 with h4 | h4
    · exact Or.inl h4.symm
    · exact Or.inr (nb_sym h0 h4)
theorem wy_p {ob : Nat → Int32} {t0 p steps cell : Nat} (hc : cell < 150) (h : rc ob t0 p steps cell = true) : wy ob t0 p steps cell steps p = true := by
  obtain ⟨c, -, h1, h2⟩ := wy_all hc h steps (Nat.le_refl _)
  rw [Nat.sub_self, rc, decide_eq_true_iff] at h2
  subst h2; exact h1
def lstN (P : Nat → Bool) (a : Nat) : Nat → Nat
  | 0 => if P a then a else 150
  | k + 1 => if P (near4 (4 * a + k)) && decide (near4 (4 * a + k) < lstN P a k) then near4 (4 * a + k) else lstN P a k
/-- the least of a and its neighbours with P -/
def lst (P : Nat → Bool) (a : Nat) : Nat := lstN P a 4
theorem lstN_spec {P : Nat → Bool} {a : Nat} (ha : a < 150) : ∀ k, k ≤ 4 → (lstN P a k = 150 ∨ (P (lstN P a k) = true ∧ (lstN P a k = a ∨ tb_nb a (lstN P a k) = true))) ∧ (P a = true → lstN P a k ≤ a) ∧ ∀ j, j < k → P (near4 (4 * a + j)) = true → lstN P a k ≤ near4 (4 * a + j)
  | 0, _ => by
    unfold lstN
    by_cases h : P a = true
    · rw [if_pos h]; exact ⟨Or.inr ⟨h, Or.inl rfl⟩, fun _ => Nat.le_refl _, fun j hj => absurd hj (Nat.not_lt_zero _)⟩
    · rw [if_neg h]; exact ⟨Or.inl rfl, fun q => absurd q h, fun j hj => absurd hj (Nat.not_lt_zero _)⟩
  | k + 1, hk => by
    obtain ⟨h1, h2, h3⟩ := lstN_spec (P := P) ha k (by omega)
    rw [lstN]
    by_cases h : (P (near4 (4 * a + k)) && decide (near4 (4 * a + k) < lstN P a k)) = true
    · rw [if_pos h]
      rw [Bool.and_eq_true, decide_eq_true_iff] at h
      refine ⟨Or.inr ⟨h.1, Or.inr (nb_iff.mpr ⟨k, by omega, rfl⟩)⟩, fun q => Nat.le_trans (Nat.le_of_lt h.2) (h2 q), fun j hj q => ?_⟩
      by_cases e : j = k
      · rw [e]; exact Nat.le_refl _
      · exact Nat.le_trans (Nat.le_of_lt h.2) (h3 j (by omega) q)
    · rw [if_neg h]
      refine ⟨h1, h2, fun j hj q => ?_⟩
      by_cases e : j = k
      · subst e
        rw [q, Bool.true_and, decide_eq_true_iff] at h
        omega
      · exact h3 j (by omega) q
theorem lst_is {P : Nat → Bool} {a : Nat} (ha : a < 150) (h : nbor P a = true) : lst P a < 150 ∧ P (lst P a) = true ∧ (lst P a = a ∨ tb_nb a (lst P a) = true) ∧ ∀ d, P d = true → (d = a ∨ tb_nb a d = true) → lst P a ≤ d := by
  obtain ⟨h1, h2, h3⟩ := lstN_spec (P := P) ha 4 (Nat.le_refl _)
  have hle : ∀ d, P d = true → (d = a ∨ tb_nb a d = true) → lst P a ≤ d := by
    rintro d hd (e | e)
    · rw [e]; exact h2 (e ▸ hd)
    · obtain ⟨k, hk, e⟩ := nb_iff.mp e
      rw [← e]; exact h3 k hk (e ▸ hd)
  obtain ⟨d, hd, hn⟩ := nbor_iff.mp h
  have hd150 : d < 150 := by
    rcases hn with q | q
    · omega
    · exact (nb_lt ha q).1
  have := hle d hd hn
  rcases h1 with h1 | h1
  · unfold lst at this; omega
  · exact ⟨by omega, h1.1, h1.2, hle⟩
/-- the best plan, step by step -/
def pth (ob : Nat → Int32) (t0 p steps cell : Nat) : Nat → Nat
  | 0 => p
  | i + 1 => lst (wy ob t0 p steps cell (steps - (i + 1))) (pth ob t0 p steps cell i)
theorem pth_ok {ob : Nat → Int32} {t0 p steps cell : Nat} (hp : p < 150) (hc : cell < 150) (h : rc ob t0 p steps cell = true) : ∀ i, i ≤ steps → pth ob t0 p steps cell i < 150 ∧ wy ob t0 p steps cell (steps - i) (pth ob t0 p steps cell i) = true
  | 0, _ => ⟨hp, wy_p hc h⟩
  | i + 1, hi => by
    obtain ⟨h1, h2⟩ := pth_ok hp hc h i (by omega)
    rw [show steps - i = (steps - (i + 1)) + 1 by omega, wy, Bool.and_eq_true] at h2
    have h3 := lst_is h1 h2.1
    exact ⟨h3.1, h3.2.1⟩
theorem pth_nb {ob : Nat → Int32} {t0 p steps cell : Nat} (hp : p < 150) (hc : cell < 150) (h : rc ob t0 p steps cell = true) {i : Nat} (hi : i < steps) : nbor (wy ob t0 p steps cell (steps - (i + 1))) (pth ob t0 p steps cell i) = true := by
  have h2 := (pth_ok hp hc h i (by omega)).2
  rw [show steps - i = (steps - (i + 1)) + 1 by omega, wy, Bool.and_eq_true] at h2
  exact h2.1
/-- the answer of planCell -/
def bp_is (ob : Nat → Int32) (t0 p cell i : Nat) (x : Int32) : Prop := ∃ r, ft_is (fun s => rc ob t0 p s cell) 0 60 r ∧ ((r = -9 ∧ x = -9) ∨ ∃ k, r = nI k ∧ k ≤ 60 ∧ ((k < i ∧ x = -9) ∨ (i ≤ k ∧ x = nI (pth ob t0 p k cell i))))
theorem nI_n9 {k : Nat} (h : k < 2 ^ 31) : nI k ≠ -9 := by
  intro e
  have := congrArg Int32.toInt e
  rw [nI_toInt h] at this
  have h9 : (-9 : Int32).toInt = -9 := by decide +kernel
  omega
theorem ft_n9 {p : Nat → Bool} {a b : Nat} {x : Int32} (hb : b < 2 ^ 31) (h : ft_is p a b x) : x = -9 ↔ ∀ t, a ≤ t → t ≤ b → p t = false := by
  rcases h with ⟨t, h0, h1, h2, h3, rfl⟩ | ⟨h1, rfl⟩
  · exact ⟨fun e => absurd e (nI_n9 (by omega)), fun q => by rw [q t h0 h1] at h2; cases h2⟩
  · exact ⟨fun _ => h1, fun _ => rfl⟩
theorem fs_n9 {p : Nat → Bool} {n : Nat} {x : Int32} (hn : n < 2 ^ 31) (h : fs_is p n x) : x = -9 ↔ ∀ c, c < n → p c = false := by
  rcases h with ⟨c, h1, h2, h3, rfl⟩ | ⟨h1, rfl⟩
  · exact ⟨fun e => absurd e (nI_n9 (by omega)), fun q => by rw [q c h1] at h2; cases h2⟩
  · exact ⟨fun _ => h1, fun _ => rfl⟩
theorem bp_uniq {ob : Nat → Int32} {t0 p cell i : Nat} {x y : Int32} (hx : bp_is ob t0 p cell i x) (hy : bp_is ob t0 p cell i y) : x = y := by
  obtain ⟨r, h1, h2⟩ := hx
  obtain ⟨r', g1, g2⟩ := hy
  rw [← ft_uniq h1 g1] at g2
  rcases h2 with ⟨e, rfl⟩ | ⟨k, e, hk, h2⟩
  · rcases g2 with ⟨-, rfl⟩ | ⟨k', e', hk', -⟩
    · rfl
    · exact absurd (e'.symm.trans e) (nI_n9 (by omega))
  · rcases g2 with ⟨e', -⟩ | ⟨k', e', hk', g2⟩
    · exact absurd (e.symm.trans e') (nI_n9 (by omega))
    · have := (nI_eq (by omega) (by omega)).mp (e.symm.trans e')
      subst this
      rcases h2 with ⟨_, rfl⟩ | ⟨_, rfl⟩ <;> rcases g2 with ⟨_, rfl⟩ | ⟨_, rfl⟩ <;> first | rfl | omega
/-- c stays dark from a to b -/
def sd (ob : Nat → Int32) (c a b : Nat) : Bool := decide (∀ t, t < b + 1 → a ≤ t → br ob c t = false)
theorem sd_iff {ob : Nat → Int32} {c a b : Nat} : sd ob c a b = true ↔ ∀ t, a ≤ t → t ≤ b → br ob c t = false := by
  unfold sd; rw [decide_eq_true_iff]
  exact ⟨fun h t h1 h2 => h t (by omega) h1, fun h t h1 h2 => h t h2 (by omega)⟩
theorem sd_n9 {ob : Nat → Int32} {c a b : Nat} {x : Int32} (hb : b < 2 ^ 31) (h : ft_is (br ob c) a b x) : x = -9 ↔ sd ob c a b = true := by rw [ft_n9 hb h, sd_iff]
def pk1 (ob : Nat → Int32) (t0 p dk s c : Nat) : Bool := rc ob t0 p s c && sd ob c (t0 + s) (t0 + s + dk)
def pk (ob : Nat → Int32) (t0 p dk s : Nat) : Bool := (List.range 150).any (pk1 ob t0 p dk s)
theorem pk_f {ob : Nat → Int32} {t0 p dk s : Nat} : pk ob t0 p dk s = false ↔ ∀ c, c < 150 → pk1 ob t0 p dk s c = false := by
  unfold pk; rw [List.any_eq_false]
  simp
def fok (ob : Nat → Int32) (t0 p tg e k : Nat) : Bool := sd ob tg (t0 + k) (t0 + k + e) && rc ob t0 p k tg
/-- the answer of a request's end -/
def fin_is (ob : Nat → Int32) (t0 p tg e dl : Nat) (x : Int32) : Prop := (∃ k, t0 + k + e ≤ dl ∧ k ≤ 60 ∧ fok ob t0 p tg e k = true ∧ (∀ j, j < k → fok ob t0 p tg e j = false) ∧ x = nI (t0 + k + e)) ∨ ((∀ k, t0 + k + e ≤ dl → k ≤ 60 → fok ob t0 p tg e k = false) ∧ x = -9)
theorem fin_uniq {ob : Nat → Int32} {t0 p tg e dl : Nat} {x y : Int32} (hx : fin_is ob t0 p tg e dl x) (hy : fin_is ob t0 p tg e dl y) : x = y := by
  rcases hx with ⟨c, h0, h1, h2, h3, rfl⟩ | ⟨h1, rfl⟩ <;> rcases hy with ⟨d, g0, g1, g2, g3, rfl⟩ | ⟨g1, rfl⟩
  · rcases Nat.lt_trichotomy c d with h | h | h
    · rw [g3 c h] at h2; cases h2
    · rw [h]
    · rw [h3 d h] at g2; cases g2
  · rw [g1 c h0 h1] at h2; cases h2
  · rw [h1 d g0 g1] at g2; cases g2
  · rfl
theorem kc_decI (e : Nat) : nI e + Int32.ofInt (-1) = nI e - nI 1 := by rw [kc_i_m1, Int32.sub_eq_add_neg]; rfl
theorem sub1_lt {j : Nat} (h : j < 2 ^ 30) : nI j - nI 1 < 0 ↔ j = 0 := by
  rw [Int32.lt_iff_toInt_lt, pk_sub_toInt h (by decide)]
  have : (0 : Int32).toInt = 0 := by decide
  omega
theorem most_lt {dl e t0 k : Nat} (h1 : dl ≤ 1000) (h2 : e ≤ 1000) (h3 : t0 ≤ 1000) (h4 : k ≤ 1000) : nI dl - nI e - nI t0 < nI k ↔ dl < t0 + k + e := by
  have e1 : nI dl - nI e - nI t0 = nI dl - nI (e + t0) := by
    rw [← nI_add e t0, Int32.sub_eq_add_neg, Int32.sub_eq_add_neg, Int32.sub_eq_add_neg, Int32.neg_add, Int32.add_assoc, Int32.sub_eq_add_neg]
  rw [e1, Int32.lt_iff_toInt_lt, pk_sub_toInt (by omega) (by omega), nI_toInt (by omega)]
  omega
