/-! THE COUPLING (2): what each method answers, said once for both sides -/
/-- a slew to c is possible and ends in time -/
def slwB (ob : Nat → Int32) (ac ap c : Nat) : Bool := (List.range 61).any (fun j => rc ob ac ap j c && decide (ac + j ≤ 200) && (List.range j).all (fun d => !rc ob ac ap d c))
theorem slwB_t {ob : Nat → Int32} {ac ap c j : Nat} (h : ft_is (fun s => rc ob ac ap s c) 0 60 (nI j)) (hj : j ≤ 60) (hl : ac + j ≤ 200) : slwB ob ac ap c = true := by
  rcases h with ⟨t, -, h2, h3, h4, h5⟩ | ⟨-, h5⟩
  · have e := (nI_eq (show j < 2 ^ 31 by omega) (show t < 2 ^ 31 by omega)).mp h5
    subst e
    unfold slwB
    rw [List.any_eq_true]
    refine ⟨j, List.mem_range.mpr (by omega), ?_⟩
    rw [Bool.and_eq_true, Bool.and_eq_true, List.all_eq_true]
    refine ⟨⟨h3, decide_eq_true hl⟩, fun d hd => ?_⟩
    have h6 : rc ob ac ap d c = false := h4 d (Nat.zero_le d) (List.mem_range.mp hd)
    rw [h6]; rfl
  · exact absurd h5 (nI_n9 (by omega))
theorem slwB_i {ob : Nat → Int32} {ac ap c : Nat} (h : slwB ob ac ap c = true) : ∃ j, j ≤ 60 ∧ ft_is (fun s => rc ob ac ap s c) 0 60 (nI j) ∧ ac + j ≤ 200 := by
  unfold slwB at h
  rw [List.any_eq_true] at h
  obtain ⟨j, hj, h2⟩ := h
  rw [Bool.and_eq_true, Bool.and_eq_true, List.all_eq_true] at h2
  obtain ⟨⟨h3, h4⟩, h5⟩ := h2
  have hj2 := List.mem_range.mp hj
  refine ⟨j, by omega, Or.inl ⟨j, Nat.zero_le j, by omega, h3, fun d _ hd => ?_, rfl⟩, of_decide_eq_true h4⟩
  have h6 := h5 d (List.mem_range.mpr hd)
  cases hq : rc ob ac ap d c
  · exact hq
  · rw [hq] at h6; cases h6
theorem slwB_f {ob : Nat → Int32} {ac ap c : Nat} {x : Int32} (h : ft_is (fun s => rc ob ac ap s c) 0 60 x) (hx : x = -9 ∨ ∃ j : Nat, x = nI j ∧ j ≤ 60 ∧ 200 < ac + j) : slwB ob ac ap c = false := by
  cases hq : slwB ob ac ap c
  · rfl
  · obtain ⟨j, hj, h1, h2⟩ := slwB_i hq
    have e := ft_uniq h h1
    rcases hx with h3 | ⟨j2, h3, h4, h5⟩
    · exact absurd (e.symm.trans h3) (nI_n9 (by omega))
    · have e2 := (nI_eq (show j < 2 ^ 31 by omega) (show j2 < 2 ^ 31 by omega)).mp (e.symm.trans h3)
      omega
theorem nf {b : Bool} (h : b = true) : ¬ b = false := by rw [h]; decide
theorem nt {b : Bool} (h : b = false) : ¬ b = true := by rw [h]; decide
theorem nz_t {y z u : Int32} (h : ¬ (y = 0 ∧ z = 0 ∧ u = 0)) : (decide (y ≠ 0) || (decide (z ≠ 0) || decide (u ≠ 0))) = true := by
  by_cases h1 : y = 0
  · by_cases h2 : z = 0
    · by_cases h3 : u = 0
      · exact absurd ⟨h1, h2, h3⟩ h
      · rw [decide_eq_true h3, Bool.or_true, Bool.or_true]
    · rw [decide_eq_true h2, Bool.true_or, Bool.or_true]
  · rw [decide_eq_true h1, Bool.true_or]
theorem nz_f {y z u : Int32} (h : y = 0 ∧ z = 0 ∧ u = 0) : (decide (y ≠ 0) || (decide (z ≠ 0) || decide (u ≠ 0))) = false := by
  obtain ⟨h1, h2, h3⟩ := h
  subst h1; subst h2; subst h3
  decide
theorem st3 {ash : Bool} {b : Bool} (h : ash = true ∨ b = false) : (!ash && b) = false := by
  rcases h with h | h
  · rw [h]; rfl
  · rw [h, Bool.and_false]
theorem okS.of {ac ap : Nat} {ash : Bool} {an : Nat} {aob arq : Nat → Int32} {cn : Nat} {M : Nat → aS} {S : Nat → Option aS} (h : okS ((ac, ap, ash, an, aob, arq), cn, M, S)) : (ac ≤ 200 ∧ ap < 150 ∧ an ≤ 4 ∧ rqI arq an ∧ coI aob ∧ obI aob) ∧ (∀ j, j < cn → okA (M j)) ∧ ∀ i a, S i = some a → okA a := h
def kf_coordinate (ac ap : Nat) (ash : Bool) (an : Nat) (aob arq : Nat → Int32) (cn : Nat) (M : Nat → aS) (S : Nat → Option aS) (x : Int32) (y : Int32) : Nat := if inR x 0 149 = false then 1 else if inR y 0 2 = false then 1 else 0
def rs_coordinate (ac ap : Nat) (ash : Bool) (an : Nat) (aob arq : Nat → Int32) (cn : Nat) (M : Nat → aS) (S : Nat → Option aS) (x : Int32) (y : Int32) (r : Int32) : Prop := r = cvec (3 * xN x + xN y)
def nx_coordinate (ac ap : Nat) (ash : Bool) (an : Nat) (aob arq : Nat → Int32) (cn : Nat) (M : Nat → aS) (S : Nat → Option aS) (x : Int32) (y : Int32) (r : Int32) : sT := ((ac, ap, ash, an, aob, arq), cn, M, S)
def kf_neighbour (ac ap : Nat) (ash : Bool) (an : Nat) (aob arq : Nat → Int32) (cn : Nat) (M : Nat → aS) (S : Nat → Option aS) (x : Int32) (y : Int32) : Nat := if inR x 0 149 = false then 1 else if inR y 0 3 = false then 2 else 0
def rs_neighbour (ac ap : Nat) (ash : Bool) (an : Nat) (aob arq : Nat → Int32) (cn : Nat) (M : Nat → aS) (S : Nat → Option aS) (x : Int32) (y : Int32) (r : Int32) : Prop := r = nI (near4 (4 * xN x + xN y))
def nx_neighbour (ac ap : Nat) (ash : Bool) (an : Nat) (aob arq : Nat → Int32) (cn : Nat) (M : Nat → aS) (S : Nat → Option aS) (x : Int32) (y : Int32) (r : Int32) : sT := ((ac, ap, ash, an, aob, arq), cn, M, S)
def kf_direction (ac ap : Nat) (ash : Bool) (an : Nat) (aob arq : Nat → Int32) (cn : Nat) (M : Nat → aS) (S : Nat → Option aS) (x : Int32) (y : Int32) (z : Int32) : Nat := if inR x 0 2 = false then 1 else if inR y 0 2 = false then 1 else if inR z 0 300 = false then 2 else 0
def rs_direction (ac ap : Nat) (ash : Bool) (an : Nat) (aob arq : Nat → Int32) (cn : Nat) (M : Nat → aS) (S : Nat → Option aS) (x : Int32) (y : Int32) (z : Int32) (r : Int32) : Prop := r = st_aim aob (xN x) (xN y) (xN z)
def nx_direction (ac ap : Nat) (ash : Bool) (an : Nat) (aob arq : Nat → Int32) (cn : Nat) (M : Nat → aS) (S : Nat → Option aS) (x : Int32) (y : Int32) (z : Int32) (r : Int32) : sT := ((ac, ap, ash, an, aob, arq), cn, M, S)
def kf_cone (ac ap : Nat) (ash : Bool) (an : Nat) (aob arq : Nat → Int32) (cn : Nat) (M : Nat → aS) (S : Nat → Option aS) (x : Int32) : Nat := if inR x 0 2 = false then 1 else 0
def rs_cone (ac ap : Nat) (ash : Bool) (an : Nat) (aob arq : Nat → Int32) (cn : Nat) (M : Nat → aS) (S : Nat → Option aS) (x : Int32) (r : Int32) : Prop := r = aob (7 * xN x + 6)
def nx_cone (ac ap : Nat) (ash : Bool) (an : Nat) (aob arq : Nat → Int32) (cn : Nat) (M : Nat → aS) (S : Nat → Option aS) (x : Int32) (r : Int32) : sT := ((ac, ap, ash, an, aob, arq), cn, M, S)
def kf_cosine (ac ap : Nat) (ash : Bool) (an : Nat) (aob arq : Nat → Int32) (cn : Nat) (M : Nat → aS) (S : Nat → Option aS) (x : Int32) (y : Int32) (z : Int32) : Nat := if inR x 0 149 = false then 1 else if inR y 0 2 = false then 1 else if inR z 0 300 = false then 2 else 0
def rs_cosine (ac ap : Nat) (ash : Bool) (an : Nat) (aob arq : Nat → Int32) (cn : Nat) (M : Nat → aS) (S : Nat → Option aS) (x : Int32) (y : Int32) (z : Int32) (r : UInt64) : Prop := r = cosD aob (xN x) (xN y) (xN z)
def nx_cosine (ac ap : Nat) (ash : Bool) (an : Nat) (aob arq : Nat → Int32) (cn : Nat) (M : Nat → aS) (S : Nat → Option aS) (x : Int32) (y : Int32) (z : Int32) (r : UInt64) : sT := ((ac, ap, ash, an, aob, arq), cn, M, S)
def kf_isBright (ac ap : Nat) (ash : Bool) (an : Nat) (aob arq : Nat → Int32) (cn : Nat) (M : Nat → aS) (S : Nat → Option aS) (x : Int32) (y : Int32) : Nat := if inR x 0 149 = false then 1 else if inR y 0 300 = false then 2 else 0
def rs_isBright (ac ap : Nat) (ash : Bool) (an : Nat) (aob arq : Nat → Int32) (cn : Nat) (M : Nat → aS) (S : Nat → Option aS) (x : Int32) (y : Int32) (r : Int32) : Prop := r = bI (br aob (xN x) (xN y))
def nx_isBright (ac ap : Nat) (ash : Bool) (an : Nat) (aob arq : Nat → Int32) (cn : Nat) (M : Nat → aS) (S : Nat → Option aS) (x : Int32) (y : Int32) (r : Int32) : sT := ((ac, ap, ash, an, aob, arq), cn, M, S)
def kf_brightCells (ac ap : Nat) (ash : Bool) (an : Nat) (aob arq : Nat → Int32) (cn : Nat) (M : Nat → aS) (S : Nat → Option aS) (x : Int32) : Nat := if inR x 0 300 = false then 1 else 0
def rs_brightCells (ac ap : Nat) (ash : Bool) (an : Nat) (aob arq : Nat → Int32) (cn : Nat) (M : Nat → aS) (S : Nat → Option aS) (x : Int32) (r : Int32) : Prop := r = nI (fb_ct (fun c => br aob c (xN x)) 150)
def nx_brightCells (ac ap : Nat) (ash : Bool) (an : Nat) (aob arq : Nat → Int32) (cn : Nat) (M : Nat → aS) (S : Nat → Option aS) (x : Int32) (r : Int32) : sT := ((ac, ap, ash, an, aob, arq), cn, M, S)
def kf_firstBright (ac ap : Nat) (ash : Bool) (an : Nat) (aob arq : Nat → Int32) (cn : Nat) (M : Nat → aS) (S : Nat → Option aS) (x : Int32) (y : Int32) : Nat := if inR x 0 149 = false then 1 else if inR y 0 300 = false then 2 else 0
def rs_firstBright (ac ap : Nat) (ash : Bool) (an : Nat) (aob arq : Nat → Int32) (cn : Nat) (M : Nat → aS) (S : Nat → Option aS) (x : Int32) (y : Int32) (r : Int32) : Prop := ft_is (br aob (xN x)) (xN y) 300 r
def nx_firstBright (ac ap : Nat) (ash : Bool) (an : Nat) (aob arq : Nat → Int32) (cn : Nat) (M : Nat → aS) (S : Nat → Option aS) (x : Int32) (y : Int32) (r : Int32) : sT := ((ac, ap, ash, an, aob, arq), cn, M, S)
def kf_setAxis (ac ap : Nat) (ash : Bool) (an : Nat) (aob arq : Nat → Int32) (cn : Nat) (M : Nat → aS) (S : Nat → Option aS) (x : Int32) (y : Int32) (z : Int32) (u : Int32) : Nat := if inR x 0 2 = false then 1 else if ((inR y (-(99 : Int)) 99 && (inR z (-(99 : Int)) 99 && inR u (-(99 : Int)) 99)) && (decide (y ≠ 0) || (decide (z ≠ 0) || decide (u ≠ 0)))) = false then 2 else if (!ash && br (upd (upd (upd aob (7 * xN x + 0) y) (7 * xN x + (0 + 1)) z) (7 * xN x + (0 + 2)) u) ap ac) = true then 3 else 0
def rs_setAxis (ac ap : Nat) (ash : Bool) (an : Nat) (aob arq : Nat → Int32) (cn : Nat) (M : Nat → aS) (S : Nat → Option aS) (x : Int32) (y : Int32) (z : Int32) (u : Int32) (r : Int32) : Prop := r = nI (fb_ct (fun c => br (upd (upd (upd aob (7 * xN x + 0) y) (7 * xN x + (0 + 1)) z) (7 * xN x + (0 + 2)) u) c ac) 150)
def nx_setAxis (ac ap : Nat) (ash : Bool) (an : Nat) (aob arq : Nat → Int32) (cn : Nat) (M : Nat → aS) (S : Nat → Option aS) (x : Int32) (y : Int32) (z : Int32) (u : Int32) (r : Int32) : sT := ((ac, ap, ash, an, (upd (upd (upd aob (7 * xN x + 0) y) (7 * xN x + (0 + 1)) z) (7 * xN x + (0 + 2)) u), arq), pushN cn, pushM cn M (ac, ap, ash, an, aob, arq), S)
def kf_setDrift (ac ap : Nat) (ash : Bool) (an : Nat) (aob arq : Nat → Int32) (cn : Nat) (M : Nat → aS) (S : Nat → Option aS) (x : Int32) (y : Int32) (z : Int32) (u : Int32) : Nat := if inR x 0 2 = false then 1 else if (inR y (-(9 : Int)) 9 && (inR z (-(9 : Int)) 9 && inR u (-(9 : Int)) 9)) = false then 2 else if (!ash && br (upd (upd (upd aob (7 * xN x + 3) y) (7 * xN x + (3 + 1)) z) (7 * xN x + (3 + 2)) u) ap ac) = true then 3 else 0
def rs_setDrift (ac ap : Nat) (ash : Bool) (an : Nat) (aob arq : Nat → Int32) (cn : Nat) (M : Nat → aS) (S : Nat → Option aS) (x : Int32) (y : Int32) (z : Int32) (u : Int32) (r : Int32) : Prop := r = nI (fb_ct (fun c => br (upd (upd (upd aob (7 * xN x + 3) y) (7 * xN x + (3 + 1)) z) (7 * xN x + (3 + 2)) u) c ac) 150)
def nx_setDrift (ac ap : Nat) (ash : Bool) (an : Nat) (aob arq : Nat → Int32) (cn : Nat) (M : Nat → aS) (S : Nat → Option aS) (x : Int32) (y : Int32) (z : Int32) (u : Int32) (r : Int32) : sT := ((ac, ap, ash, an, (upd (upd (upd aob (7 * xN x + 3) y) (7 * xN x + (3 + 1)) z) (7 * xN x + (3 + 2)) u), arq), pushN cn, pushM cn M (ac, ap, ash, an, aob, arq), S)
def kf_setCone (ac ap : Nat) (ash : Bool) (an : Nat) (aob arq : Nat → Int32) (cn : Nat) (M : Nat → aS) (S : Nat → Option aS) (x : Int32) (y : Int32) : Nat := if inR x 0 2 = false then 1 else if inR y 0 99 = false then 2 else if (!ash && br (upd aob (7 * xN x + 6) y) ap ac) = true then 3 else 0
def rs_setCone (ac ap : Nat) (ash : Bool) (an : Nat) (aob arq : Nat → Int32) (cn : Nat) (M : Nat → aS) (S : Nat → Option aS) (x : Int32) (y : Int32) (r : Int32) : Prop := r = nI (fb_ct (fun c => br (upd aob (7 * xN x + 6) y) c ac) 150)
def nx_setCone (ac ap : Nat) (ash : Bool) (an : Nat) (aob arq : Nat → Int32) (cn : Nat) (M : Nat → aS) (S : Nat → Option aS) (x : Int32) (y : Int32) (r : Int32) : sT := ((ac, ap, ash, an, (upd aob (7 * xN x + 6) y), arq), pushN cn, pushM cn M (ac, ap, ash, an, aob, arq), S)
def kf_step (ac ap : Nat) (ash : Bool) (an : Nat) (aob arq : Nat → Int32) (cn : Nat) (M : Nat → aS) (S : Nat → Option aS) (x : Int32) : Nat := if inR x 0 149 = false then 1 else if (decide (ap = xN x) || tb_nb ap (xN x)) = false then 2 else if (ash || (decide (200 ≤ ac) || br aob (xN x) (ac + 1))) = true then 3 else 0
def rs_step (ac ap : Nat) (ash : Bool) (an : Nat) (aob arq : Nat → Int32) (cn : Nat) (M : Nat → aS) (S : Nat → Option aS) (x : Int32) (r : Int32) : Prop := r = nI (ac + 1)
def nx_step (ac ap : Nat) (ash : Bool) (an : Nat) (aob arq : Nat → Int32) (cn : Nat) (M : Nat → aS) (S : Nat → Option aS) (x : Int32) (r : Int32) : sT := ((ac + 1, xN x, ash, an, aob, arq), pushN cn, pushM cn M (ac, ap, ash, an, aob, arq), S)
def kf_slew (ac ap : Nat) (ash : Bool) (an : Nat) (aob arq : Nat → Int32) (cn : Nat) (M : Nat → aS) (S : Nat → Option aS) (x : Int32) : Nat := if inR x 0 149 = false then 1 else if ash = true then 2 else if slwB aob ac ap (xN x) = false then 2 else 0
def rs_slew (ac ap : Nat) (ash : Bool) (an : Nat) (aob arq : Nat → Int32) (cn : Nat) (M : Nat → aS) (S : Nat → Option aS) (x : Int32) (r : Int32) : Prop := ∃ j, r = nI j ∧ j ≤ 60 ∧ ft_is (fun s => rc aob ac ap s (xN x)) 0 60 (nI j)
def nx_slew (ac ap : Nat) (ash : Bool) (an : Nat) (aob arq : Nat → Int32) (cn : Nat) (M : Nat → aS) (S : Nat → Option aS) (x : Int32) (r : Int32) : sT := ((ac + xN r, xN x, ash, an, aob, arq), pushN cn, pushM cn M (ac, ap, ash, an, aob, arq), S)
def kf_close (ac ap : Nat) (ash : Bool) (an : Nat) (aob arq : Nat → Int32) (cn : Nat) (M : Nat → aS) (S : Nat → Option aS)  : Nat := if ash = true then 1 else 0
def rs_close (ac ap : Nat) (ash : Bool) (an : Nat) (aob arq : Nat → Int32) (cn : Nat) (M : Nat → aS) (S : Nat → Option aS)  (r : Int32) : Prop := r = nI ac
def nx_close (ac ap : Nat) (ash : Bool) (an : Nat) (aob arq : Nat → Int32) (cn : Nat) (M : Nat → aS) (S : Nat → Option aS)  (r : Int32) : sT := ((ac, ap, true, an, aob, arq), pushN cn, pushM cn M (ac, ap, ash, an, aob, arq), S)
def kf_open (ac ap : Nat) (ash : Bool) (an : Nat) (aob arq : Nat → Int32) (cn : Nat) (M : Nat → aS) (S : Nat → Option aS)  : Nat := if (!ash || br aob ap ac) = true then 1 else 0
def rs_open (ac ap : Nat) (ash : Bool) (an : Nat) (aob arq : Nat → Int32) (cn : Nat) (M : Nat → aS) (S : Nat → Option aS)  (r : Int32) : Prop := r = nI ac
def nx_open (ac ap : Nat) (ash : Bool) (an : Nat) (aob arq : Nat → Int32) (cn : Nat) (M : Nat → aS) (S : Nat → Option aS)  (r : Int32) : sT := ((ac, ap, false, an, aob, arq), pushN cn, pushM cn M (ac, ap, ash, an, aob, arq), S)
def kf_pass (ac ap : Nat) (ash : Bool) (an : Nat) (aob arq : Nat → Int32) (cn : Nat) (M : Nat → aS) (S : Nat → Option aS) (x : Int32) : Nat := if inR x 1 100 = false then 1 else if (!ash || decide (200 < ac + xN x)) = true then 2 else 0
def rs_pass (ac ap : Nat) (ash : Bool) (an : Nat) (aob arq : Nat → Int32) (cn : Nat) (M : Nat → aS) (S : Nat → Option aS) (x : Int32) (r : Int32) : Prop := r = nI (ac + xN x)
def nx_pass (ac ap : Nat) (ash : Bool) (an : Nat) (aob arq : Nat → Int32) (cn : Nat) (M : Nat → aS) (S : Nat → Option aS) (x : Int32) (r : Int32) : sT := ((ac + xN x, ap, ash, an, aob, arq), pushN cn, pushM cn M (ac, ap, ash, an, aob, arq), S)
def kf_addRequest (ac ap : Nat) (ash : Bool) (an : Nat) (aob arq : Nat → Int32) (cn : Nat) (M : Nat → aS) (S : Nat → Option aS) (x : Int32) (y : Int32) (z : Int32) : Nat := if inR x 0 149 = false then 1 else if (inR y 1 20 && inR z 1 99) = false then 2 else if 4 ≤ an then 3 else 0
def rs_addRequest (ac ap : Nat) (ash : Bool) (an : Nat) (aob arq : Nat → Int32) (cn : Nat) (M : Nat → aS) (S : Nat → Option aS) (x : Int32) (y : Int32) (z : Int32) (r : Int32) : Prop := r = nI an
def nx_addRequest (ac ap : Nat) (ash : Bool) (an : Nat) (aob arq : Nat → Int32) (cn : Nat) (M : Nat → aS) (S : Nat → Option aS) (x : Int32) (y : Int32) (z : Int32) (r : Int32) : sT := ((ac, ap, ash, an + 1, aob, upd (upd (upd arq (3 * an) x) (3 * an + 1) y) (3 * an + 2) z), pushN cn, pushM cn M (ac, ap, ash, an, aob, arq), S)
def kf_removeRequest (ac ap : Nat) (ash : Bool) (an : Nat) (aob arq : Nat → Int32) (cn : Nat) (M : Nat → aS) (S : Nat → Option aS) (x : Int32) : Nat := if inR x 0 ((an : Int) - 1) = false then 1 else 0
def rs_removeRequest (ac ap : Nat) (ash : Bool) (an : Nat) (aob arq : Nat → Int32) (cn : Nat) (M : Nat → aS) (S : Nat → Option aS) (x : Int32) (r : Int32) : Prop := r = nI (an - 1)
def nx_removeRequest (ac ap : Nat) (ash : Bool) (an : Nat) (aob arq : Nat → Int32) (cn : Nat) (M : Nat → aS) (S : Nat → Option aS) (x : Int32) (r : Int32) : sT := ((ac, ap, ash, an - 1, aob, st_drop arq (xN x) an), pushN cn, pushM cn M (ac, ap, ash, an, aob, arq), S)
def kf_arrival (ac ap : Nat) (ash : Bool) (an : Nat) (aob arq : Nat → Int32) (cn : Nat) (M : Nat → aS) (S : Nat → Option aS) (x : Int32) : Nat := if inR x 0 149 = false then 1 else if ash = true then 2 else 0
def rs_arrival (ac ap : Nat) (ash : Bool) (an : Nat) (aob arq : Nat → Int32) (cn : Nat) (M : Nat → aS) (S : Nat → Option aS) (x : Int32) (r : Int32) : Prop := ft_is (fun s => rc aob ac ap s (xN x)) 0 60 r
def nx_arrival (ac ap : Nat) (ash : Bool) (an : Nat) (aob arq : Nat → Int32) (cn : Nat) (M : Nat → aS) (S : Nat → Option aS) (x : Int32) (r : Int32) : sT := ((ac, ap, ash, an, aob, arq), cn, M, S)
def kf_planCell (ac ap : Nat) (ash : Bool) (an : Nat) (aob arq : Nat → Int32) (cn : Nat) (M : Nat → aS) (S : Nat → Option aS) (x : Int32) (y : Int32) : Nat := if inR x 0 149 = false then 1 else if inR y 0 60 = false then 2 else if ash = true then 3 else 0
def rs_planCell (ac ap : Nat) (ash : Bool) (an : Nat) (aob arq : Nat → Int32) (cn : Nat) (M : Nat → aS) (S : Nat → Option aS) (x : Int32) (y : Int32) (r : Int32) : Prop := bp_is aob ac ap (xN x) (xN y) r
def nx_planCell (ac ap : Nat) (ash : Bool) (an : Nat) (aob arq : Nat → Int32) (cn : Nat) (M : Nat → aS) (S : Nat → Option aS) (x : Int32) (y : Int32) (r : Int32) : sT := ((ac, ap, ash, an, aob, arq), cn, M, S)
def kf_reachableCells (ac ap : Nat) (ash : Bool) (an : Nat) (aob arq : Nat → Int32) (cn : Nat) (M : Nat → aS) (S : Nat → Option aS) (x : Int32) : Nat := if inR x 0 60 = false then 1 else if ash = true then 2 else 0
def rs_reachableCells (ac ap : Nat) (ash : Bool) (an : Nat) (aob arq : Nat → Int32) (cn : Nat) (M : Nat → aS) (S : Nat → Option aS) (x : Int32) (r : Int32) : Prop := r = nI (fb_ct (rc aob ac ap (xN x)) 150)
def nx_reachableCells (ac ap : Nat) (ash : Bool) (an : Nat) (aob arq : Nat → Int32) (cn : Nat) (M : Nat → aS) (S : Nat → Option aS) (x : Int32) (r : Int32) : sT := ((ac, ap, ash, an, aob, arq), cn, M, S)
def kf_parkingCell (ac ap : Nat) (ash : Bool) (an : Nat) (aob arq : Nat → Int32) (cn : Nat) (M : Nat → aS) (S : Nat → Option aS) (x : Int32) : Nat := if inR x 0 40 = false then 1 else if ash = true then 2 else 0
def rs_parkingCell (ac ap : Nat) (ash : Bool) (an : Nat) (aob arq : Nat → Int32) (cn : Nat) (M : Nat → aS) (S : Nat → Option aS) (x : Int32) (r : Int32) : Prop := ∃ r1 : Int32, ft_is (pk aob ac ap (xN x)) 0 60 r1 ∧ ((r1 = -9 ∧ r = -9) ∨ ∃ j, r1 = nI j ∧ j ≤ 60 ∧ fs_is (pk1 aob ac ap (xN x) j) 150 r)
def nx_parkingCell (ac ap : Nat) (ash : Bool) (an : Nat) (aob arq : Nat → Int32) (cn : Nat) (M : Nat → aS) (S : Nat → Option aS) (x : Int32) (r : Int32) : sT := ((ac, ap, ash, an, aob, arq), cn, M, S)
def kf_parkingSteps (ac ap : Nat) (ash : Bool) (an : Nat) (aob arq : Nat → Int32) (cn : Nat) (M : Nat → aS) (S : Nat → Option aS) (x : Int32) : Nat := if inR x 0 40 = false then 1 else if ash = true then 2 else 0
def rs_parkingSteps (ac ap : Nat) (ash : Bool) (an : Nat) (aob arq : Nat → Int32) (cn : Nat) (M : Nat → aS) (S : Nat → Option aS) (x : Int32) (r : Int32) : Prop := ft_is (pk aob ac ap (xN x)) 0 60 r
def nx_parkingSteps (ac ap : Nat) (ash : Bool) (an : Nat) (aob arq : Nat → Int32) (cn : Nat) (M : Nat → aS) (S : Nat → Option aS) (x : Int32) (r : Int32) : sT := ((ac, ap, ash, an, aob, arq), cn, M, S)
def kf_requestFinish (ac ap : Nat) (ash : Bool) (an : Nat) (aob arq : Nat → Int32) (cn : Nat) (M : Nat → aS) (S : Nat → Option aS) (x : Int32) : Nat := if inR x 0 ((an : Int) - 1) = false then 1 else if ash = true then 2 else 0
def rs_requestFinish (ac ap : Nat) (ash : Bool) (an : Nat) (aob arq : Nat → Int32) (cn : Nat) (M : Nat → aS) (S : Nat → Option aS) (x : Int32) (r : Int32) : Prop := fin_is aob ac ap (rqN arq (3 * xN x)) (rqN arq (3 * xN x + 1)) (ac + 60) r
def nx_requestFinish (ac ap : Nat) (ash : Bool) (an : Nat) (aob arq : Nat → Int32) (cn : Nat) (M : Nat → aS) (S : Nat → Option aS) (x : Int32) (r : Int32) : sT := ((ac, ap, ash, an, aob, arq), cn, M, S)
def kf_bestValue (ac ap : Nat) (ash : Bool) (an : Nat) (aob arq : Nat → Int32) (cn : Nat) (M : Nat → aS) (S : Nat → Option aS)  : Nat := if ash = true then 1 else 0
def rs_bestValue (ac ap : Nat) (ash : Bool) (an : Nat) (aob arq : Nat → Int32) (cn : Nat) (M : Nat → aS) (S : Nat → Option aS)  (r : Int32) : Prop := r = oV (tF aob arq ac an an 0 ap ac 0 0 (0, 0)).1
def nx_bestValue (ac ap : Nat) (ash : Bool) (an : Nat) (aob arq : Nat → Int32) (cn : Nat) (M : Nat → aS) (S : Nat → Option aS)  (r : Int32) : sT := ((ac, ap, ash, an, aob, arq), cn, M, S)
def kf_bestOrder (ac ap : Nat) (ash : Bool) (an : Nat) (aob arq : Nat → Int32) (cn : Nat) (M : Nat → aS) (S : Nat → Option aS)  : Nat := if ash = true then 1 else 0
def rs_bestOrder (ac ap : Nat) (ash : Bool) (an : Nat) (aob arq : Nat → Int32) (cn : Nat) (M : Nat → aS) (S : Nat → Option aS)  (r : Int32) : Prop := r = nI (tF aob arq ac an an 0 ap ac 0 0 (0, 0)).2
def nx_bestOrder (ac ap : Nat) (ash : Bool) (an : Nat) (aob arq : Nat → Int32) (cn : Nat) (M : Nat → aS) (S : Nat → Option aS)  (r : Int32) : sT := ((ac, ap, ash, an, aob, arq), cn, M, S)
def kf_randomWalk (ac ap : Nat) (ash : Bool) (an : Nat) (aob arq : Nat → Int32) (cn : Nat) (M : Nat → aS) (S : Nat → Option aS) (sd : Int64) (y : Int32) : Nat := if inR y 1 60 = false then 1 else if ash = true then 2 else 0
def rs_randomWalk (ac ap : Nat) (ash : Bool) (an : Nat) (aob arq : Nat → Int32) (cn : Nat) (M : Nat → aS) (S : Nat → Option aS) (sd : Int64) (y : Int32) (r : Int32) : Prop := r = nI (rwk aob ac (xN y) 1 ap sd)
def nx_randomWalk (ac ap : Nat) (ash : Bool) (an : Nat) (aob arq : Nat → Int32) (cn : Nat) (M : Nat → aS) (S : Nat → Option aS) (sd : Int64) (y : Int32) (r : Int32) : sT := ((ac, ap, ash, an, aob, arq), cn, M, S)
def kf_undo (ac ap : Nat) (ash : Bool) (an : Nat) (aob arq : Nat → Int32) (cn : Nat) (M : Nat → aS) (S : Nat → Option aS)  : Nat := if cn = 0 then 1 else 0
def rs_undo (ac ap : Nat) (ash : Bool) (an : Nat) (aob arq : Nat → Int32) (cn : Nat) (M : Nat → aS) (S : Nat → Option aS)  (r : Int32) : Prop := r = nI (cn - 1)
def nx_undo (ac ap : Nat) (ash : Bool) (an : Nat) (aob arq : Nat → Int32) (cn : Nat) (M : Nat → aS) (S : Nat → Option aS)  (r : Int32) : sT := (M (cn - 1), cn - 1, M, S)
def kf_save (ac ap : Nat) (ash : Bool) (an : Nat) (aob arq : Nat → Int32) (cn : Nat) (M : Nat → aS) (S : Nat → Option aS) (x : Int32) : Nat := if inR x 0 1 = false then 1 else 0
def rs_save (ac ap : Nat) (ash : Bool) (an : Nat) (aob arq : Nat → Int32) (cn : Nat) (M : Nat → aS) (S : Nat → Option aS) (x : Int32) (r : Int32) : Prop := r = nI ac
def nx_save (ac ap : Nat) (ash : Bool) (an : Nat) (aob arq : Nat → Int32) (cn : Nat) (M : Nat → aS) (S : Nat → Option aS) (x : Int32) (r : Int32) : sT := ((ac, ap, ash, an, aob, arq), cn, M, va_up S (xN x) (some (ac, ap, ash, an, aob, arq)))
def kf_restore (ac ap : Nat) (ash : Bool) (an : Nat) (aob arq : Nat → Int32) (cn : Nat) (M : Nat → aS) (S : Nat → Option aS) (x : Int32) : Nat := if inR x 0 1 = false then 1 else if (S (xN x)).isNone = true then 2 else 0
def rs_restore (ac ap : Nat) (ash : Bool) (an : Nat) (aob arq : Nat → Int32) (cn : Nat) (M : Nat → aS) (S : Nat → Option aS) (x : Int32) (r : Int32) : Prop := ∃ a, S (xN x) = some a ∧ r = nI a.1
def nx_restore (ac ap : Nat) (ash : Bool) (an : Nat) (aob arq : Nat → Int32) (cn : Nat) (M : Nat → aS) (S : Nat → Option aS) (x : Int32) (r : Int32) : sT := (((S (xN x)).getD (ac, ap, ash, an, aob, arq)), 0, M, S)
