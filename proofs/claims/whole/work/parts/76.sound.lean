/-! THE COUPLING (7): one answer; what is sound stays sound -/
theorem btr {b : Bool} (h : ¬ b = false) : b = true := by cases b; exact absurd rfl h; rfl
theorem bfl {b : Bool} (h : ¬ b = true) : b = false := by cases b; rfl; exact absurd rfl h
theorem ok_push {a a2 : aS} {cn : Nat} {M : Nat → aS} {S : Nat → Option aS} (hcn : cn ≤ 14) (h : okS (a, cn, M, S)) (h2 : okA a2) : okS (a2, pushN cn, pushM cn M a, S) := by
  obtain ⟨h3, h4, h5⟩ := h
  refine ⟨h2, fun j hj => ?_, h5⟩
  show okA (pushM cn M a j)
  have hj2 : j < pushN cn := hj
  unfold pushN at hj2
  unfold pushM
  by_cases hc : cn < 14
  · rw [if_pos hc] at hj2
    rw [if_pos hc]
    by_cases e : j = cn
    · rw [if_pos e]; exact h3
    · rw [if_neg e]; exact h4 j (by show j < cn; omega)
  · rw [if_neg hc] at hj2
    rw [if_neg hc]
    by_cases e : j = 13
    · rw [if_pos e]; exact h3
    · rw [if_neg e]
      exact h4 (j + 1) (by show j + 1 < cn; omega)
theorem ob3_ok {aob : Nat → Int32} {o : Nat} {y z u : Int32} (hc : coI aob) (hb : obI aob) (h : (inR y (-(99 : Int)) 99 && (inR z (-(99 : Int)) 99 && inR u (-(99 : Int)) 99)) = true) : coI (upd (upd (upd aob (7 * o + 0) y) (7 * o + (0 + 1)) z) (7 * o + (0 + 2)) u) ∧ obI (upd (upd (upd aob (7 * o + 0) y) (7 * o + (0 + 1)) z) (7 * o + (0 + 2)) u) := by
  rw [Bool.and_eq_true, Bool.and_eq_true] at h
  obtain ⟨h1, h2, h3⟩ := h
  refine ⟨fun p hp => ?_, fun p hp k hk => ⟨?_, ?_⟩⟩
  · rw [up_n (by omega), up_n (by omega), up_n (by omega)]; exact hc p hp
  · by_cases e3 : 7 * p + k = 7 * o + (0 + 2)
    · rw [e3, up_s]; exact h3
    · rw [up_n e3]
      by_cases e2 : 7 * p + k = 7 * o + (0 + 1)
      · rw [e2, up_s]; exact h2
      · rw [up_n e2]
        by_cases e1 : 7 * p + k = 7 * o + 0
        · rw [e1, up_s]; exact h1
        · rw [up_n e1]; exact (hb p hp k hk).1
  · rw [up_n (by omega), up_n (by omega), up_n (by omega)]; exact (hb p hp k hk).2
theorem od3_ok {aob : Nat → Int32} {o : Nat} {y z u : Int32} (hc : coI aob) (hb : obI aob) (h : (inR y (-(9 : Int)) 9 && (inR z (-(9 : Int)) 9 && inR u (-(9 : Int)) 9)) = true) : coI (upd (upd (upd aob (7 * o + 3) y) (7 * o + (3 + 1)) z) (7 * o + (3 + 2)) u) ∧ obI (upd (upd (upd aob (7 * o + 3) y) (7 * o + (3 + 1)) z) (7 * o + (3 + 2)) u) := by
  rw [Bool.and_eq_true, Bool.and_eq_true] at h
  obtain ⟨h1, h2, h3⟩ := h
  refine ⟨fun p hp => ?_, fun p hp k hk => ⟨?_, ?_⟩⟩
  · rw [up_n (by omega), up_n (by omega), up_n (by omega)]; exact hc p hp
  · rw [up_n (by omega), up_n (by omega), up_n (by omega)]; exact (hb p hp k hk).1
  · by_cases e3 : 7 * p + k + 3 = 7 * o + (3 + 2)
    · rw [e3, up_s]; exact h3
    · rw [up_n e3]
      by_cases e2 : 7 * p + k + 3 = 7 * o + (3 + 1)
      · rw [e2, up_s]; exact h2
      · rw [up_n e2]
        by_cases e1 : 7 * p + k + 3 = 7 * o + 3
        · rw [e1, up_s]; exact h1
        · rw [up_n e1]; exact (hb p hp k hk).2
theorem oc_ok {aob : Nat → Int32} {o : Nat} {y : Int32} (hc : coI aob) (hb : obI aob) (h : inR y 0 99 = true) : coI (upd aob (7 * o + 6) y) ∧ obI (upd aob (7 * o + 6) y) := by
  refine ⟨fun p hp => ?_, fun p hp k hk => ⟨?_, ?_⟩⟩
  · by_cases e : 7 * p + 6 = 7 * o + 6
    · rw [e, up_s]; exact h
    · rw [up_n e]; exact hc p hp
  · rw [up_n (by omega)]; exact (hb p hp k hk).1
  · rw [up_n (by omega)]; exact (hb p hp k hk).2
theorem rq_nI {rq : Nat → Int32} {j c : Nat} (h : rq j = nI c) (hc : c < 100000) : rqN rq j = c := by
  unfold rqN; rw [h, nI_clamp (by omega)]
def rqR (rq : Nat → Int32) (i : Nat) : Prop := (rq (3 * i) = nI (rqN rq (3 * i)) ∧ rqN rq (3 * i) < 150) ∧ (rq (3 * i + 1) = nI (rqN rq (3 * i + 1)) ∧ 1 ≤ rqN rq (3 * i + 1) ∧ rqN rq (3 * i + 1) ≤ 20) ∧ rq (3 * i + 2) = nI (rqN rq (3 * i + 2)) ∧ rqN rq (3 * i + 2) ≤ 99
theorem rqR_of {rq rq2 : Nat → Int32} {i j : Nat} (h : ∀ k, k < 3 → rq2 (3 * j + k) = rq (3 * i + k)) (hr : rqR rq i) : rqR rq2 j := by
  have f0 : rq2 (3 * j) = rq (3 * i) := h 0 (by omega)
  have f1 := h 1 (by omega)
  have f2 := h 2 (by omega)
  have g0 : rqN rq2 (3 * j) = rqN rq (3 * i) := by unfold rqN; rw [f0]
  have g1 : rqN rq2 (3 * j + 1) = rqN rq (3 * i + 1) := by unfold rqN; rw [f1]
  have g2 : rqN rq2 (3 * j + 2) = rqN rq (3 * i + 2) := by unfold rqN; rw [f2]
  unfold rqR
  rw [f0, g0, f1, g1, f2, g2]
  exact hr
theorem rq_add {rq : Nat → Int32} {n : Nat} {x y z : Int32} (hr : rqI rq n) (h1 : inR x 0 149 = true) (h2 : inR y 1 20 = true) (h3 : inR z 1 99 = true) : rqI (upd (upd (upd rq (3 * n) x) (3 * n + 1) y) (3 * n + 2) z) (n + 1) := by
  intro i hi
  by_cases e : i = n
  · subst e
    obtain ⟨c, hc, hc2⟩ := inR_N (b := 149) h1
    obtain ⟨d, hd, hd2, hd3⟩ := inR_K (a := 1) (b := 20) h2
    obtain ⟨v, hv, hv2, hv3⟩ := inR_K (a := 1) (b := 99) h3
    have e0 : upd (upd (upd rq (3 * i) x) (3 * i + 1) y) (3 * i + 2) z (3 * i) = nI c := by rw [up_n (by omega), up_n (by omega), up_s]; exact hc
    have e1 : upd (upd (upd rq (3 * i) x) (3 * i + 1) y) (3 * i + 2) z (3 * i + 1) = nI d := by rw [up_n (by omega), up_s]; exact hd
    have e2 : upd (upd (upd rq (3 * i) x) (3 * i + 1) y) (3 * i + 2) z (3 * i + 2) = nI v := by rw [up_s]; exact hv
    rw [rq_nI e0 (by omega), rq_nI e1 (by omega), rq_nI e2 (by omega)]
    exact ⟨⟨e0, by omega⟩, ⟨e1, by omega, by omega⟩, e2, by omega⟩
  · have hi2 : i < n := by omega
    exact rqR_of (fun k hk => by rw [up_n (by omega), up_n (by omega), up_n (by omega)]) (hr i hi2)
theorem rq_drop {rq : Nat → Int32} {n i : Nat} (hr : rqI rq n) (hi : i < n) : rqI (st_drop rq i n) (n - 1) := by
  intro j hj
  refine rqR_of (i := if i ≤ j then j + 1 else j) (fun k hk => ?_) (hr _ (by split <;> omega))
  unfold st_drop
  by_cases q : i ≤ j
  · rw [if_pos (by omega), if_pos q, show 3 * j + k + 3 = 3 * (j + 1) + k by omega]
  · rw [if_neg (by omega), if_neg q]
theorem xN_le {x : Int32} {b : Nat} (h : inR x 0 b = true) : xN x ≤ b := by
  have h2 := (inR_iff.mp h).2
  unfold xN; omega
theorem kz_coordinate {ac ap : Nat} {ash : Bool} {an : Nat} {aob arq : Nat → Int32} {cn : Nat} {M : Nat → aS} {S : Nat → Option aS} {x : Int32} {y : Int32} (h : kf_coordinate ac ap ash an aob arq cn M S x y = 0) : ¬ (inR x 0 149 = false) ∧ ¬ (inR y 0 2 = false) := by
  unfold kf_coordinate at h
  by_cases q1 : inR x 0 149 = false
  · rw [if_pos q1] at h; cases h
  rw [if_neg q1] at h
  by_cases q2 : inR y 0 2 = false
  · rw [if_pos q2] at h; cases h
  exact ⟨q1, q2⟩
theorem kz_neighbour {ac ap : Nat} {ash : Bool} {an : Nat} {aob arq : Nat → Int32} {cn : Nat} {M : Nat → aS} {S : Nat → Option aS} {x : Int32} {y : Int32} (h : kf_neighbour ac ap ash an aob arq cn M S x y = 0) : ¬ (inR x 0 149 = false) ∧ ¬ (inR y 0 3 = false) := by
  unfold kf_neighbour at h
  by_cases q1 : inR x 0 149 = false
  · rw [if_pos q1] at h; cases h
  rw [if_neg q1] at h
  by_cases q2 : inR y 0 3 = false
  · rw [if_pos q2] at h; cases h
  exact ⟨q1, q2⟩
theorem kz_direction {ac ap : Nat} {ash : Bool} {an : Nat} {aob arq : Nat → Int32} {cn : Nat} {M : Nat → aS} {S : Nat → Option aS} {x : Int32} {y : Int32} {z : Int32} (h : kf_direction ac ap ash an aob arq cn M S x y z = 0) : ¬ (inR x 0 2 = false) ∧ ¬ (inR y 0 2 = false) ∧ ¬ (inR z 0 300 = false) := by
  unfold kf_direction at h
  by_cases q1 : inR x 0 2 = false
  · rw [if_pos q1] at h; cases h
  rw [if_neg q1] at h
  by_cases q2 : inR y 0 2 = false
  · rw [if_pos q2] at h; cases h
  rw [if_neg q2] at h
  by_cases q3 : inR z 0 300 = false
  · rw [if_pos q3] at h; cases h
  exact ⟨q1, q2, q3⟩
theorem kz_cone {ac ap : Nat} {ash : Bool} {an : Nat} {aob arq : Nat → Int32} {cn : Nat} {M : Nat → aS} {S : Nat → Option aS} {x : Int32} (h : kf_cone ac ap ash an aob arq cn M S x = 0) : ¬ (inR x 0 2 = false) := by
  unfold kf_cone at h
  by_cases q1 : inR x 0 2 = false
  · rw [if_pos q1] at h; cases h
  exact q1
theorem kz_cosine {ac ap : Nat} {ash : Bool} {an : Nat} {aob arq : Nat → Int32} {cn : Nat} {M : Nat → aS} {S : Nat → Option aS} {x : Int32} {y : Int32} {z : Int32} (h : kf_cosine ac ap ash an aob arq cn M S x y z = 0) : ¬ (inR x 0 149 = false) ∧ ¬ (inR y 0 2 = false) ∧ ¬ (inR z 0 300 = false) := by
  unfold kf_cosine at h
  by_cases q1 : inR x 0 149 = false
  · rw [if_pos q1] at h; cases h
  rw [if_neg q1] at h
  by_cases q2 : inR y 0 2 = false
  · rw [if_pos q2] at h; cases h
  rw [if_neg q2] at h
  by_cases q3 : inR z 0 300 = false
  · rw [if_pos q3] at h; cases h
  exact ⟨q1, q2, q3⟩
theorem kz_isBright {ac ap : Nat} {ash : Bool} {an : Nat} {aob arq : Nat → Int32} {cn : Nat} {M : Nat → aS} {S : Nat → Option aS} {x : Int32} {y : Int32} (h : kf_isBright ac ap ash an aob arq cn M S x y = 0) : ¬ (inR x 0 149 = false) ∧ ¬ (inR y 0 300 = false) := by
  unfold kf_isBright at h
  by_cases q1 : inR x 0 149 = false
  · rw [if_pos q1] at h; cases h
  rw [if_neg q1] at h
  by_cases q2 : inR y 0 300 = false
  · rw [if_pos q2] at h; cases h
  exact ⟨q1, q2⟩
theorem kz_brightCells {ac ap : Nat} {ash : Bool} {an : Nat} {aob arq : Nat → Int32} {cn : Nat} {M : Nat → aS} {S : Nat → Option aS} {x : Int32} (h : kf_brightCells ac ap ash an aob arq cn M S x = 0) : ¬ (inR x 0 300 = false) := by
  unfold kf_brightCells at h
  by_cases q1 : inR x 0 300 = false
  · rw [if_pos q1] at h; cases h
  exact q1
theorem kz_firstBright {ac ap : Nat} {ash : Bool} {an : Nat} {aob arq : Nat → Int32} {cn : Nat} {M : Nat → aS} {S : Nat → Option aS} {x : Int32} {y : Int32} (h : kf_firstBright ac ap ash an aob arq cn M S x y = 0) : ¬ (inR x 0 149 = false) ∧ ¬ (inR y 0 300 = false) := by
  unfold kf_firstBright at h
  by_cases q1 : inR x 0 149 = false
  · rw [if_pos q1] at h; cases h
  rw [if_neg q1] at h
  by_cases q2 : inR y 0 300 = false
  · rw [if_pos q2] at h; cases h
  exact ⟨q1, q2⟩
theorem kz_setAxis {ac ap : Nat} {ash : Bool} {an : Nat} {aob arq : Nat → Int32} {cn : Nat} {M : Nat → aS} {S : Nat → Option aS} {x : Int32} {y : Int32} {z : Int32} {u : Int32} (h : kf_setAxis ac ap ash an aob arq cn M S x y z u = 0) : ¬ (inR x 0 2 = false) ∧ ¬ (((inR y (-(99 : Int)) 99 && (inR z (-(99 : Int)) 99 && inR u (-(99 : Int)) 99)) && (decide (y ≠ 0) || (decide (z ≠ 0) || decide (u ≠ 0)))) = false) ∧ ¬ ((!ash && br (upd (upd (upd aob (7 * xN x + 0) y) (7 * xN x + (0 + 1)) z) (7 * xN x + (0 + 2)) u) ap ac) = true) := by
  unfold kf_setAxis at h
  by_cases q1 : inR x 0 2 = false
  · rw [if_pos q1] at h; cases h
  rw [if_neg q1] at h
  by_cases q2 : ((inR y (-(99 : Int)) 99 && (inR z (-(99 : Int)) 99 && inR u (-(99 : Int)) 99)) && (decide (y ≠ 0) || (decide (z ≠ 0) || decide (u ≠ 0)))) = false
  · rw [if_pos q2] at h; cases h
  rw [if_neg q2] at h
  by_cases q3 : (!ash && br (upd (upd (upd aob (7 * xN x + 0) y) (7 * xN x + (0 + 1)) z) (7 * xN x + (0 + 2)) u) ap ac) = true
  · rw [if_pos q3] at h; cases h
  exact ⟨q1, q2, q3⟩
theorem kz_setDrift {ac ap : Nat} {ash : Bool} {an : Nat} {aob arq : Nat → Int32} {cn : Nat} {M : Nat → aS} {S : Nat → Option aS} {x : Int32} {y : Int32} {z : Int32} {u : Int32} (h : kf_setDrift ac ap ash an aob arq cn M S x y z u = 0) : ¬ (inR x 0 2 = false) ∧ ¬ ((inR y (-(9 : Int)) 9 && (inR z (-(9 : Int)) 9 && inR u (-(9 : Int)) 9)) = false) ∧ ¬ ((!ash && br (upd (upd (upd aob (7 * xN x + 3) y) (7 * xN x + (3 + 1)) z) (7 * xN x + (3 + 2)) u) ap ac) = true) := by
  unfold kf_setDrift at h
  by_cases q1 : inR x 0 2 = false
  · rw [if_pos q1] at h; cases h
  rw [if_neg q1] at h
  by_cases q2 : (inR y (-(9 : Int)) 9 && (inR z (-(9 : Int)) 9 && inR u (-(9 : Int)) 9)) = false
  · rw [if_pos q2] at h; cases h
  rw [if_neg q2] at h
  by_cases q3 : (!ash && br (upd (upd (upd aob (7 * xN x + 3) y) (7 * xN x + (3 + 1)) z) (7 * xN x + (3 + 2)) u) ap ac) = true
  · rw [if_pos q3] at h; cases h
  exact ⟨q1, q2, q3⟩
theorem kz_setCone {ac ap : Nat} {ash : Bool} {an : Nat} {aob arq : Nat → Int32} {cn : Nat} {M : Nat → aS} {S : Nat → Option aS} {x : Int32} {y : Int32} (h : kf_setCone ac ap ash an aob arq cn M S x y = 0) : ¬ (inR x 0 2 = false) ∧ ¬ (inR y 0 99 = false) ∧ ¬ ((!ash && br (upd aob (7 * xN x + 6) y) ap ac) = true) := by
  unfold kf_setCone at h
  by_cases q1 : inR x 0 2 = false
  · rw [if_pos q1] at h; cases h
  rw [if_neg q1] at h
  by_cases q2 : inR y 0 99 = false
  · rw [if_pos q2] at h; cases h
  rw [if_neg q2] at h
  by_cases q3 : (!ash && br (upd aob (7 * xN x + 6) y) ap ac) = true
  · rw [if_pos q3] at h; cases h
  exact ⟨q1, q2, q3⟩
theorem kz_step {ac ap : Nat} {ash : Bool} {an : Nat} {aob arq : Nat → Int32} {cn : Nat} {M : Nat → aS} {S : Nat → Option aS} {x : Int32} (h : kf_step ac ap ash an aob arq cn M S x = 0) : ¬ (inR x 0 149 = false) ∧ ¬ ((decide (ap = xN x) || tb_nb ap (xN x)) = false) ∧ ¬ ((ash || (decide (200 ≤ ac) || br aob (xN x) (ac + 1))) = true) := by
  unfold kf_step at h
  by_cases q1 : inR x 0 149 = false
  · rw [if_pos q1] at h; cases h
  rw [if_neg q1] at h
  by_cases q2 : (decide (ap = xN x) || tb_nb ap (xN x)) = false
  · rw [if_pos q2] at h; cases h
  rw [if_neg q2] at h
  by_cases q3 : (ash || (decide (200 ≤ ac) || br aob (xN x) (ac + 1))) = true
  · rw [if_pos q3] at h; cases h
  exact ⟨q1, q2, q3⟩
theorem kz_slew {ac ap : Nat} {ash : Bool} {an : Nat} {aob arq : Nat → Int32} {cn : Nat} {M : Nat → aS} {S : Nat → Option aS} {x : Int32} (h : kf_slew ac ap ash an aob arq cn M S x = 0) : ¬ (inR x 0 149 = false) ∧ ¬ (ash = true) ∧ ¬ (slwB aob ac ap (xN x) = false) := by
  unfold kf_slew at h
  by_cases q1 : inR x 0 149 = false
  · rw [if_pos q1] at h; cases h
  rw [if_neg q1] at h
  by_cases q2 : ash = true
  · rw [if_pos q2] at h; cases h
  rw [if_neg q2] at h
  by_cases q3 : slwB aob ac ap (xN x) = false
  · rw [if_pos q3] at h; cases h
  exact ⟨q1, q2, q3⟩
theorem kz_close {ac ap : Nat} {ash : Bool} {an : Nat} {aob arq : Nat → Int32} {cn : Nat} {M : Nat → aS} {S : Nat → Option aS}  (h : kf_close ac ap ash an aob arq cn M S = 0) : ¬ (ash = true) := by
  unfold kf_close at h
  by_cases q1 : ash = true
  · rw [if_pos q1] at h; cases h
  exact q1
theorem kz_open {ac ap : Nat} {ash : Bool} {an : Nat} {aob arq : Nat → Int32} {cn : Nat} {M : Nat → aS} {S : Nat → Option aS}  (h : kf_open ac ap ash an aob arq cn M S = 0) : ¬ ((!ash || br aob ap ac) = true) := by
  unfold kf_open at h
  by_cases q1 : (!ash || br aob ap ac) = true
  · rw [if_pos q1] at h; cases h
  exact q1
theorem kz_pass {ac ap : Nat} {ash : Bool} {an : Nat} {aob arq : Nat → Int32} {cn : Nat} {M : Nat → aS} {S : Nat → Option aS} {x : Int32} (h : kf_pass ac ap ash an aob arq cn M S x = 0) : ¬ (inR x 1 100 = false) ∧ ¬ ((!ash || decide (200 < ac + xN x)) = true) := by
  unfold kf_pass at h
  by_cases q1 : inR x 1 100 = false
  · rw [if_pos q1] at h; cases h
  rw [if_neg q1] at h
  by_cases q2 : (!ash || decide (200 < ac + xN x)) = true
  · rw [if_pos q2] at h; cases h
  exact ⟨q1, q2⟩
theorem kz_addRequest {ac ap : Nat} {ash : Bool} {an : Nat} {aob arq : Nat → Int32} {cn : Nat} {M : Nat → aS} {S : Nat → Option aS} {x : Int32} {y : Int32} {z : Int32} (h : kf_addRequest ac ap ash an aob arq cn M S x y z = 0) : ¬ (inR x 0 149 = false) ∧ ¬ ((inR y 1 20 && inR z 1 99) = false) ∧ ¬ (4 ≤ an) := by
  unfold kf_addRequest at h
  by_cases q1 : inR x 0 149 = false
  · rw [if_pos q1] at h; cases h
  rw [if_neg q1] at h
  by_cases q2 : (inR y 1 20 && inR z 1 99) = false
  · rw [if_pos q2] at h; cases h
  rw [if_neg q2] at h
  by_cases q3 : 4 ≤ an
  · rw [if_pos q3] at h; cases h
  exact ⟨q1, q2, q3⟩
theorem kz_removeRequest {ac ap : Nat} {ash : Bool} {an : Nat} {aob arq : Nat → Int32} {cn : Nat} {M : Nat → aS} {S : Nat → Option aS} {x : Int32} (h : kf_removeRequest ac ap ash an aob arq cn M S x = 0) : ¬ (inR x 0 ((an : Int) - 1) = false) := by
  unfold kf_removeRequest at h
  by_cases q1 : inR x 0 ((an : Int) - 1) = false
  · rw [if_pos q1] at h; cases h
  exact q1
theorem kz_arrival {ac ap : Nat} {ash : Bool} {an : Nat} {aob arq : Nat → Int32} {cn : Nat} {M : Nat → aS} {S : Nat → Option aS} {x : Int32} (h : kf_arrival ac ap ash an aob arq cn M S x = 0) : ¬ (inR x 0 149 = false) ∧ ¬ (ash = true) := by
  unfold kf_arrival at h
  by_cases q1 : inR x 0 149 = false
  · rw [if_pos q1] at h; cases h
  rw [if_neg q1] at h
  by_cases q2 : ash = true
  · rw [if_pos q2] at h; cases h
  exact ⟨q1, q2⟩
theorem kz_planCell {ac ap : Nat} {ash : Bool} {an : Nat} {aob arq : Nat → Int32} {cn : Nat} {M : Nat → aS} {S : Nat → Option aS} {x : Int32} {y : Int32} (h : kf_planCell ac ap ash an aob arq cn M S x y = 0) : ¬ (inR x 0 149 = false) ∧ ¬ (inR y 0 60 = false) ∧ ¬ (ash = true) := by
  unfold kf_planCell at h
  by_cases q1 : inR x 0 149 = false
  · rw [if_pos q1] at h; cases h
  rw [if_neg q1] at h
  by_cases q2 : inR y 0 60 = false
  · rw [if_pos q2] at h; cases h
  rw [if_neg q2] at h
  by_cases q3 : ash = true
  · rw [if_pos q3] at h; cases h
  exact ⟨q1, q2, q3⟩
theorem kz_reachableCells {ac ap : Nat} {ash : Bool} {an : Nat} {aob arq : Nat → Int32} {cn : Nat} {M : Nat → aS} {S : Nat → Option aS} {x : Int32} (h : kf_reachableCells ac ap ash an aob arq cn M S x = 0) : ¬ (inR x 0 60 = false) ∧ ¬ (ash = true) := by
  unfold kf_reachableCells at h
  by_cases q1 : inR x 0 60 = false
  · rw [if_pos q1] at h; cases h
  rw [if_neg q1] at h
  by_cases q2 : ash = true
  · rw [if_pos q2] at h; cases h
  exact ⟨q1, q2⟩
theorem kz_parkingCell {ac ap : Nat} {ash : Bool} {an : Nat} {aob arq : Nat → Int32} {cn : Nat} {M : Nat → aS} {S : Nat → Option aS} {x : Int32} (h : kf_parkingCell ac ap ash an aob arq cn M S x = 0) : ¬ (inR x 0 40 = false) ∧ ¬ (ash = true) := by
  unfold kf_parkingCell at h
  by_cases q1 : inR x 0 40 = false
  · rw [if_pos q1] at h; cases h
  rw [if_neg q1] at h
  by_cases q2 : ash = true
  · rw [if_pos q2] at h; cases h
  exact ⟨q1, q2⟩
theorem kz_parkingSteps {ac ap : Nat} {ash : Bool} {an : Nat} {aob arq : Nat → Int32} {cn : Nat} {M : Nat → aS} {S : Nat → Option aS} {x : Int32} (h : kf_parkingSteps ac ap ash an aob arq cn M S x = 0) : ¬ (inR x 0 40 = false) ∧ ¬ (ash = true) := by
  unfold kf_parkingSteps at h
  by_cases q1 : inR x 0 40 = false
  · rw [if_pos q1] at h; cases h
  rw [if_neg q1] at h
  by_cases q2 : ash = true
  · rw [if_pos q2] at h; cases h
  exact ⟨q1, q2⟩
theorem kz_requestFinish {ac ap : Nat} {ash : Bool} {an : Nat} {aob arq : Nat → Int32} {cn : Nat} {M : Nat → aS} {S : Nat → Option aS} {x : Int32} (h : kf_requestFinish ac ap ash an aob arq cn M S x = 0) : ¬ (inR x 0 ((an : Int) - 1) = false) ∧ ¬ (ash = true) := by
  unfold kf_requestFinish at h
  by_cases q1 : inR x 0 ((an : Int) - 1) = false
  · rw [if_pos q1] at h; cases h
  rw [if_neg q1] at h
  by_cases q2 : ash = true
  · rw [if_pos q2] at h; cases h
  exact ⟨q1, q2⟩
theorem kz_bestValue {ac ap : Nat} {ash : Bool} {an : Nat} {aob arq : Nat → Int32} {cn : Nat} {M : Nat → aS} {S : Nat → Option aS}  (h : kf_bestValue ac ap ash an aob arq cn M S = 0) : ¬ (ash = true) := by
  unfold kf_bestValue at h
  by_cases q1 : ash = true
  · rw [if_pos q1] at h; cases h
  exact q1
theorem kz_bestOrder {ac ap : Nat} {ash : Bool} {an : Nat} {aob arq : Nat → Int32} {cn : Nat} {M : Nat → aS} {S : Nat → Option aS}  (h : kf_bestOrder ac ap ash an aob arq cn M S = 0) : ¬ (ash = true) := by
  unfold kf_bestOrder at h
  by_cases q1 : ash = true
  · rw [if_pos q1] at h; cases h
  exact q1
theorem kz_randomWalk {ac ap : Nat} {ash : Bool} {an : Nat} {aob arq : Nat → Int32} {cn : Nat} {M : Nat → aS} {S : Nat → Option aS} {sd : Int64} {y : Int32} (h : kf_randomWalk ac ap ash an aob arq cn M S sd y = 0) : ¬ (inR y 1 60 = false) ∧ ¬ (ash = true) := by
  unfold kf_randomWalk at h
  by_cases q1 : inR y 1 60 = false
  · rw [if_pos q1] at h; cases h
  rw [if_neg q1] at h
  by_cases q2 : ash = true
  · rw [if_pos q2] at h; cases h
  exact ⟨q1, q2⟩
theorem kz_undo {ac ap : Nat} {ash : Bool} {an : Nat} {aob arq : Nat → Int32} {cn : Nat} {M : Nat → aS} {S : Nat → Option aS}  (h : kf_undo ac ap ash an aob arq cn M S = 0) : ¬ (cn = 0) := by
  unfold kf_undo at h
  by_cases q1 : cn = 0
  · rw [if_pos q1] at h; cases h
  exact q1
theorem kz_save {ac ap : Nat} {ash : Bool} {an : Nat} {aob arq : Nat → Int32} {cn : Nat} {M : Nat → aS} {S : Nat → Option aS} {x : Int32} (h : kf_save ac ap ash an aob arq cn M S x = 0) : ¬ (inR x 0 1 = false) := by
  unfold kf_save at h
  by_cases q1 : inR x 0 1 = false
  · rw [if_pos q1] at h; cases h
  exact q1
theorem kz_restore {ac ap : Nat} {ash : Bool} {an : Nat} {aob arq : Nat → Int32} {cn : Nat} {M : Nat → aS} {S : Nat → Option aS} {x : Int32} (h : kf_restore ac ap ash an aob arq cn M S x = 0) : ¬ (inR x 0 1 = false) ∧ ¬ ((S (xN x)).isNone = true) := by
  unfold kf_restore at h
  by_cases q1 : inR x 0 1 = false
  · rw [if_pos q1] at h; cases h
  rw [if_neg q1] at h
  by_cases q2 : (S (xN x)).isNone = true
  · rw [if_pos q2] at h; cases h
  exact ⟨q1, q2⟩
theorem ru_coordinate {ac ap : Nat} {ash : Bool} {an : Nat} {aob arq : Nat → Int32} {cn : Nat} {M : Nat → aS} {S : Nat → Option aS} {x : Int32} {y : Int32} {r r2 : Int32} (h1 : rs_coordinate ac ap ash an aob arq cn M S x y r) (h2 : rs_coordinate ac ap ash an aob arq cn M S x y r2) : r = r2 := Eq.trans h1 (Eq.symm h2)
theorem ru_neighbour {ac ap : Nat} {ash : Bool} {an : Nat} {aob arq : Nat → Int32} {cn : Nat} {M : Nat → aS} {S : Nat → Option aS} {x : Int32} {y : Int32} {r r2 : Int32} (h1 : rs_neighbour ac ap ash an aob arq cn M S x y r) (h2 : rs_neighbour ac ap ash an aob arq cn M S x y r2) : r = r2 := Eq.trans h1 (Eq.symm h2)
theorem ru_direction {ac ap : Nat} {ash : Bool} {an : Nat} {aob arq : Nat → Int32} {cn : Nat} {M : Nat → aS} {S : Nat → Option aS} {x : Int32} {y : Int32} {z : Int32} {r r2 : Int32} (h1 : rs_direction ac ap ash an aob arq cn M S x y z r) (h2 : rs_direction ac ap ash an aob arq cn M S x y z r2) : r = r2 := Eq.trans h1 (Eq.symm h2)
theorem ru_cone {ac ap : Nat} {ash : Bool} {an : Nat} {aob arq : Nat → Int32} {cn : Nat} {M : Nat → aS} {S : Nat → Option aS} {x : Int32} {r r2 : Int32} (h1 : rs_cone ac ap ash an aob arq cn M S x r) (h2 : rs_cone ac ap ash an aob arq cn M S x r2) : r = r2 := Eq.trans h1 (Eq.symm h2)
theorem ru_cosine {ac ap : Nat} {ash : Bool} {an : Nat} {aob arq : Nat → Int32} {cn : Nat} {M : Nat → aS} {S : Nat → Option aS} {x : Int32} {y : Int32} {z : Int32} {r r2 : UInt64} (h1 : rs_cosine ac ap ash an aob arq cn M S x y z r) (h2 : rs_cosine ac ap ash an aob arq cn M S x y z r2) : r = r2 := Eq.trans h1 (Eq.symm h2)
theorem ru_isBright {ac ap : Nat} {ash : Bool} {an : Nat} {aob arq : Nat → Int32} {cn : Nat} {M : Nat → aS} {S : Nat → Option aS} {x : Int32} {y : Int32} {r r2 : Int32} (h1 : rs_isBright ac ap ash an aob arq cn M S x y r) (h2 : rs_isBright ac ap ash an aob arq cn M S x y r2) : r = r2 := Eq.trans h1 (Eq.symm h2)
theorem ru_brightCells {ac ap : Nat} {ash : Bool} {an : Nat} {aob arq : Nat → Int32} {cn : Nat} {M : Nat → aS} {S : Nat → Option aS} {x : Int32} {r r2 : Int32} (h1 : rs_brightCells ac ap ash an aob arq cn M S x r) (h2 : rs_brightCells ac ap ash an aob arq cn M S x r2) : r = r2 := Eq.trans h1 (Eq.symm h2)
theorem ru_firstBright {ac ap : Nat} {ash : Bool} {an : Nat} {aob arq : Nat → Int32} {cn : Nat} {M : Nat → aS} {S : Nat → Option aS} {x : Int32} {y : Int32} {r r2 : Int32} (h1 : rs_firstBright ac ap ash an aob arq cn M S x y r) (h2 : rs_firstBright ac ap ash an aob arq cn M S x y r2) : r = r2 := ft_uniq h1 h2
theorem ru_setAxis {ac ap : Nat} {ash : Bool} {an : Nat} {aob arq : Nat → Int32} {cn : Nat} {M : Nat → aS} {S : Nat → Option aS} {x : Int32} {y : Int32} {z : Int32} {u : Int32} {r r2 : Int32} (h1 : rs_setAxis ac ap ash an aob arq cn M S x y z u r) (h2 : rs_setAxis ac ap ash an aob arq cn M S x y z u r2) : r = r2 := Eq.trans h1 (Eq.symm h2)
theorem ru_setDrift {ac ap : Nat} {ash : Bool} {an : Nat} {aob arq : Nat → Int32} {cn : Nat} {M : Nat → aS} {S : Nat → Option aS} {x : Int32} {y : Int32} {z : Int32} {u : Int32} {r r2 : Int32} (h1 : rs_setDrift ac ap ash an aob arq cn M S x y z u r) (h2 : rs_setDrift ac ap ash an aob arq cn M S x y z u r2) : r = r2 := Eq.trans h1 (Eq.symm h2)
theorem ru_setCone {ac ap : Nat} {ash : Bool} {an : Nat} {aob arq : Nat → Int32} {cn : Nat} {M : Nat → aS} {S : Nat → Option aS} {x : Int32} {y : Int32} {r r2 : Int32} (h1 : rs_setCone ac ap ash an aob arq cn M S x y r) (h2 : rs_setCone ac ap ash an aob arq cn M S x y r2) : r = r2 := Eq.trans h1 (Eq.symm h2)
theorem ru_step {ac ap : Nat} {ash : Bool} {an : Nat} {aob arq : Nat → Int32} {cn : Nat} {M : Nat → aS} {S : Nat → Option aS} {x : Int32} {r r2 : Int32} (h1 : rs_step ac ap ash an aob arq cn M S x r) (h2 : rs_step ac ap ash an aob arq cn M S x r2) : r = r2 := Eq.trans h1 (Eq.symm h2)
theorem ru_slew {ac ap : Nat} {ash : Bool} {an : Nat} {aob arq : Nat → Int32} {cn : Nat} {M : Nat → aS} {S : Nat → Option aS} {x : Int32} {r r2 : Int32} (h1 : rs_slew ac ap ash an aob arq cn M S x r) (h2 : rs_slew ac ap ash an aob arq cn M S x r2) : r = r2 := by
  obtain ⟨j, h3, h4, h5⟩ := h1
  obtain ⟨j2, h6, h7, h8⟩ := h2
  rw [h3, h6]; exact ft_uniq h5 h8
theorem ru_close {ac ap : Nat} {ash : Bool} {an : Nat} {aob arq : Nat → Int32} {cn : Nat} {M : Nat → aS} {S : Nat → Option aS}  {r r2 : Int32} (h1 : rs_close ac ap ash an aob arq cn M S r) (h2 : rs_close ac ap ash an aob arq cn M S r2) : r = r2 := Eq.trans h1 (Eq.symm h2)
theorem ru_open {ac ap : Nat} {ash : Bool} {an : Nat} {aob arq : Nat → Int32} {cn : Nat} {M : Nat → aS} {S : Nat → Option aS}  {r r2 : Int32} (h1 : rs_open ac ap ash an aob arq cn M S r) (h2 : rs_open ac ap ash an aob arq cn M S r2) : r = r2 := Eq.trans h1 (Eq.symm h2)
theorem ru_pass {ac ap : Nat} {ash : Bool} {an : Nat} {aob arq : Nat → Int32} {cn : Nat} {M : Nat → aS} {S : Nat → Option aS} {x : Int32} {r r2 : Int32} (h1 : rs_pass ac ap ash an aob arq cn M S x r) (h2 : rs_pass ac ap ash an aob arq cn M S x r2) : r = r2 := Eq.trans h1 (Eq.symm h2)
theorem ru_addRequest {ac ap : Nat} {ash : Bool} {an : Nat} {aob arq : Nat → Int32} {cn : Nat} {M : Nat → aS} {S : Nat → Option aS} {x : Int32} {y : Int32} {z : Int32} {r r2 : Int32} (h1 : rs_addRequest ac ap ash an aob arq cn M S x y z r) (h2 : rs_addRequest ac ap ash an aob arq cn M S x y z r2) : r = r2 := Eq.trans h1 (Eq.symm h2)
theorem ru_removeRequest {ac ap : Nat} {ash : Bool} {an : Nat} {aob arq : Nat → Int32} {cn : Nat} {M : Nat → aS} {S : Nat → Option aS} {x : Int32} {r r2 : Int32} (h1 : rs_removeRequest ac ap ash an aob arq cn M S x r) (h2 : rs_removeRequest ac ap ash an aob arq cn M S x r2) : r = r2 := Eq.trans h1 (Eq.symm h2)
theorem ru_arrival {ac ap : Nat} {ash : Bool} {an : Nat} {aob arq : Nat → Int32} {cn : Nat} {M : Nat → aS} {S : Nat → Option aS} {x : Int32} {r r2 : Int32} (h1 : rs_arrival ac ap ash an aob arq cn M S x r) (h2 : rs_arrival ac ap ash an aob arq cn M S x r2) : r = r2 := ft_uniq h1 h2
theorem ru_planCell {ac ap : Nat} {ash : Bool} {an : Nat} {aob arq : Nat → Int32} {cn : Nat} {M : Nat → aS} {S : Nat → Option aS} {x : Int32} {y : Int32} {r r2 : Int32} (h1 : rs_planCell ac ap ash an aob arq cn M S x y r) (h2 : rs_planCell ac ap ash an aob arq cn M S x y r2) : r = r2 := bp_uniq h1 h2
theorem ru_reachableCells {ac ap : Nat} {ash : Bool} {an : Nat} {aob arq : Nat → Int32} {cn : Nat} {M : Nat → aS} {S : Nat → Option aS} {x : Int32} {r r2 : Int32} (h1 : rs_reachableCells ac ap ash an aob arq cn M S x r) (h2 : rs_reachableCells ac ap ash an aob arq cn M S x r2) : r = r2 := Eq.trans h1 (Eq.symm h2)
theorem ru_parkingCell {ac ap : Nat} {ash : Bool} {an : Nat} {aob arq : Nat → Int32} {cn : Nat} {M : Nat → aS} {S : Nat → Option aS} {x : Int32} {r r2 : Int32} (h1 : rs_parkingCell ac ap ash an aob arq cn M S x r) (h2 : rs_parkingCell ac ap ash an aob arq cn M S x r2) : r = r2 := by
  obtain ⟨a, h3, h4⟩ := h1
  obtain ⟨b, h5, h6⟩ := h2
  have e := ft_uniq h3 h5
  subst e
  rcases h4 with ⟨h7, h8⟩ | ⟨j, h7, h8, h9⟩
  · rcases h6 with ⟨h10, h11⟩ | ⟨j2, h10, h11, h12⟩
    · rw [h8, h11]
    · exact absurd (h10.symm.trans h7) (nI_n9 (by omega))
  · rcases h6 with ⟨h10, h11⟩ | ⟨j2, h10, h11, h12⟩
    · exact absurd (h7.symm.trans h10) (nI_n9 (by omega))
    · have e2 := (nI_eq (show j < 2 ^ 31 by omega) (show j2 < 2 ^ 31 by omega)).mp (h7.symm.trans h10)
      subst e2
      exact fs_uniq h9 h12
theorem ru_parkingSteps {ac ap : Nat} {ash : Bool} {an : Nat} {aob arq : Nat → Int32} {cn : Nat} {M : Nat → aS} {S : Nat → Option aS} {x : Int32} {r r2 : Int32} (h1 : rs_parkingSteps ac ap ash an aob arq cn M S x r) (h2 : rs_parkingSteps ac ap ash an aob arq cn M S x r2) : r = r2 := ft_uniq h1 h2
theorem ru_requestFinish {ac ap : Nat} {ash : Bool} {an : Nat} {aob arq : Nat → Int32} {cn : Nat} {M : Nat → aS} {S : Nat → Option aS} {x : Int32} {r r2 : Int32} (h1 : rs_requestFinish ac ap ash an aob arq cn M S x r) (h2 : rs_requestFinish ac ap ash an aob arq cn M S x r2) : r = r2 := fin_uniq h1 h2
theorem ru_bestValue {ac ap : Nat} {ash : Bool} {an : Nat} {aob arq : Nat → Int32} {cn : Nat} {M : Nat → aS} {S : Nat → Option aS}  {r r2 : Int32} (h1 : rs_bestValue ac ap ash an aob arq cn M S r) (h2 : rs_bestValue ac ap ash an aob arq cn M S r2) : r = r2 := Eq.trans h1 (Eq.symm h2)
theorem ru_bestOrder {ac ap : Nat} {ash : Bool} {an : Nat} {aob arq : Nat → Int32} {cn : Nat} {M : Nat → aS} {S : Nat → Option aS}  {r r2 : Int32} (h1 : rs_bestOrder ac ap ash an aob arq cn M S r) (h2 : rs_bestOrder ac ap ash an aob arq cn M S r2) : r = r2 := Eq.trans h1 (Eq.symm h2)
theorem ru_randomWalk {ac ap : Nat} {ash : Bool} {an : Nat} {aob arq : Nat → Int32} {cn : Nat} {M : Nat → aS} {S : Nat → Option aS} {sd : Int64} {y : Int32} {r r2 : Int32} (h1 : rs_randomWalk ac ap ash an aob arq cn M S sd y r) (h2 : rs_randomWalk ac ap ash an aob arq cn M S sd y r2) : r = r2 := Eq.trans h1 (Eq.symm h2)
theorem ru_undo {ac ap : Nat} {ash : Bool} {an : Nat} {aob arq : Nat → Int32} {cn : Nat} {M : Nat → aS} {S : Nat → Option aS}  {r r2 : Int32} (h1 : rs_undo ac ap ash an aob arq cn M S r) (h2 : rs_undo ac ap ash an aob arq cn M S r2) : r = r2 := Eq.trans h1 (Eq.symm h2)
theorem ru_save {ac ap : Nat} {ash : Bool} {an : Nat} {aob arq : Nat → Int32} {cn : Nat} {M : Nat → aS} {S : Nat → Option aS} {x : Int32} {r r2 : Int32} (h1 : rs_save ac ap ash an aob arq cn M S x r) (h2 : rs_save ac ap ash an aob arq cn M S x r2) : r = r2 := Eq.trans h1 (Eq.symm h2)
theorem ru_restore {ac ap : Nat} {ash : Bool} {an : Nat} {aob arq : Nat → Int32} {cn : Nat} {M : Nat → aS} {S : Nat → Option aS} {x : Int32} {r r2 : Int32} (h1 : rs_restore ac ap ash an aob arq cn M S x r) (h2 : rs_restore ac ap ash an aob arq cn M S x r2) : r = r2 := by
  obtain ⟨a, h3, h4⟩ := h1
  obtain ⟨b, h5, h6⟩ := h2
  have e := Option.some.inj (h3.symm.trans h5)
  rw [h4, h6, e]
theorem po_setAxis {ac ap : Nat} {ash : Bool} {an : Nat} {aob arq : Nat → Int32} {cn : Nat} {M : Nat → aS} {S : Nat → Option aS} {x : Int32} {y : Int32} {z : Int32} {u : Int32} {r : Int32} (hcn : cn ≤ 14) (O : okS ((ac, ap, ash, an, aob, arq), cn, M, S)) (h : kf_setAxis ac ap ash an aob arq cn M S x y z u = 0) (hr : rs_setAxis ac ap ash an aob arq cn M S x y z u r) : okS (nx_setAxis ac ap ash an aob arq cn M S x y z u r) := by
  have q0 := kz_setAxis h
  obtain ⟨q1, q2, q3⟩ := q0
  obtain ⟨⟨oc, op, on, orq, oco, oob⟩, oM, oS⟩ := okS.of O
  have q5 := btr q2
  rw [Bool.and_eq_true] at q5
  have q6 := ob3_ok (o := xN x) oco oob q5.1
  exact ok_push hcn O ⟨oc, op, on, orq, q6.1, q6.2⟩
theorem po_setDrift {ac ap : Nat} {ash : Bool} {an : Nat} {aob arq : Nat → Int32} {cn : Nat} {M : Nat → aS} {S : Nat → Option aS} {x : Int32} {y : Int32} {z : Int32} {u : Int32} {r : Int32} (hcn : cn ≤ 14) (O : okS ((ac, ap, ash, an, aob, arq), cn, M, S)) (h : kf_setDrift ac ap ash an aob arq cn M S x y z u = 0) (hr : rs_setDrift ac ap ash an aob arq cn M S x y z u r) : okS (nx_setDrift ac ap ash an aob arq cn M S x y z u r) := by
  have q0 := kz_setDrift h
  obtain ⟨q1, q2, q3⟩ := q0
  obtain ⟨⟨oc, op, on, orq, oco, oob⟩, oM, oS⟩ := okS.of O
  have q6 := od3_ok (o := xN x) oco oob (btr q2)
  exact ok_push hcn O ⟨oc, op, on, orq, q6.1, q6.2⟩
theorem po_setCone {ac ap : Nat} {ash : Bool} {an : Nat} {aob arq : Nat → Int32} {cn : Nat} {M : Nat → aS} {S : Nat → Option aS} {x : Int32} {y : Int32} {r : Int32} (hcn : cn ≤ 14) (O : okS ((ac, ap, ash, an, aob, arq), cn, M, S)) (h : kf_setCone ac ap ash an aob arq cn M S x y = 0) (hr : rs_setCone ac ap ash an aob arq cn M S x y r) : okS (nx_setCone ac ap ash an aob arq cn M S x y r) := by
  have q0 := kz_setCone h
  obtain ⟨q1, q2, q3⟩ := q0
  obtain ⟨⟨oc, op, on, orq, oco, oob⟩, oM, oS⟩ := okS.of O
  have q6 := oc_ok (o := xN x) oco oob (btr q2)
  exact ok_push hcn O ⟨oc, op, on, orq, q6.1, q6.2⟩
theorem po_step {ac ap : Nat} {ash : Bool} {an : Nat} {aob arq : Nat → Int32} {cn : Nat} {M : Nat → aS} {S : Nat → Option aS} {x : Int32} {r : Int32} (hcn : cn ≤ 14) (O : okS ((ac, ap, ash, an, aob, arq), cn, M, S)) (h : kf_step ac ap ash an aob arq cn M S x = 0) (hr : rs_step ac ap ash an aob arq cn M S x r) : okS (nx_step ac ap ash an aob arq cn M S x r) := by
  have q0 := kz_step h
  obtain ⟨q1, q2, q3⟩ := q0
  obtain ⟨⟨oc, op, on, orq, oco, oob⟩, oM, oS⟩ := okS.of O
  have q4 := xN_le (b := 149) (btr q1)
  have q5 : ac < 200 := Nat.lt_of_not_le fun q => q3 (or3 (Or.inr (Or.inl q)))
  exact ok_push hcn O ⟨by show ac + 1 ≤ 200; omega, by show xN x < 150; omega, on, orq, oco, oob⟩
theorem po_slew {ac ap : Nat} {ash : Bool} {an : Nat} {aob arq : Nat → Int32} {cn : Nat} {M : Nat → aS} {S : Nat → Option aS} {x : Int32} {r : Int32} (hcn : cn ≤ 14) (O : okS ((ac, ap, ash, an, aob, arq), cn, M, S)) (h : kf_slew ac ap ash an aob arq cn M S x = 0) (hr : rs_slew ac ap ash an aob arq cn M S x r) : okS (nx_slew ac ap ash an aob arq cn M S x r) := by
  have q0 := kz_slew h
  obtain ⟨q1, q2, q3⟩ := q0
  obtain ⟨⟨oc, op, on, orq, oco, oob⟩, oM, oS⟩ := okS.of O
  have q4 := xN_le (b := 149) (btr q1)
  obtain ⟨j, z1, z2, z3⟩ := hr
  obtain ⟨j2, z4, z5, z6⟩ := slwB_i (btr q3)
  have e := (nI_eq (show j < 2 ^ 31 by omega) (show j2 < 2 ^ 31 by omega)).mp (ft_uniq z3 z5)
  have e2 : xN r = j := xN_e z1 (by omega)
  exact ok_push hcn O ⟨by show ac + xN r ≤ 200; omega, by show xN x < 150; omega, on, orq, oco, oob⟩
theorem po_close {ac ap : Nat} {ash : Bool} {an : Nat} {aob arq : Nat → Int32} {cn : Nat} {M : Nat → aS} {S : Nat → Option aS}  {r : Int32} (hcn : cn ≤ 14) (O : okS ((ac, ap, ash, an, aob, arq), cn, M, S)) (h : kf_close ac ap ash an aob arq cn M S = 0) (hr : rs_close ac ap ash an aob arq cn M S r) : okS (nx_close ac ap ash an aob arq cn M S r) := by
  have q1 := kz_close h
  obtain ⟨⟨oc, op, on, orq, oco, oob⟩, oM, oS⟩ := okS.of O
  exact ok_push hcn O ⟨oc, op, on, orq, oco, oob⟩
theorem po_open {ac ap : Nat} {ash : Bool} {an : Nat} {aob arq : Nat → Int32} {cn : Nat} {M : Nat → aS} {S : Nat → Option aS}  {r : Int32} (hcn : cn ≤ 14) (O : okS ((ac, ap, ash, an, aob, arq), cn, M, S)) (h : kf_open ac ap ash an aob arq cn M S = 0) (hr : rs_open ac ap ash an aob arq cn M S r) : okS (nx_open ac ap ash an aob arq cn M S r) := by
  have q1 := kz_open h
  obtain ⟨⟨oc, op, on, orq, oco, oob⟩, oM, oS⟩ := okS.of O
  exact ok_push hcn O ⟨oc, op, on, orq, oco, oob⟩
theorem po_pass {ac ap : Nat} {ash : Bool} {an : Nat} {aob arq : Nat → Int32} {cn : Nat} {M : Nat → aS} {S : Nat → Option aS} {x : Int32} {r : Int32} (hcn : cn ≤ 14) (O : okS ((ac, ap, ash, an, aob, arq), cn, M, S)) (h : kf_pass ac ap ash an aob arq cn M S x = 0) (hr : rs_pass ac ap ash an aob arq cn M S x r) : okS (nx_pass ac ap ash an aob arq cn M S x r) := by
  have q0 := kz_pass h
  obtain ⟨q1, q2⟩ := q0
  obtain ⟨⟨oc, op, on, orq, oco, oob⟩, oM, oS⟩ := okS.of O
  have q4 : ac + xN x ≤ 200 := Nat.le_of_not_lt fun q => q2 (by rw [decide_eq_true q, Bool.or_true])
  exact ok_push hcn O ⟨q4, op, on, orq, oco, oob⟩
theorem po_addRequest {ac ap : Nat} {ash : Bool} {an : Nat} {aob arq : Nat → Int32} {cn : Nat} {M : Nat → aS} {S : Nat → Option aS} {x : Int32} {y : Int32} {z : Int32} {r : Int32} (hcn : cn ≤ 14) (O : okS ((ac, ap, ash, an, aob, arq), cn, M, S)) (h : kf_addRequest ac ap ash an aob arq cn M S x y z = 0) (hr : rs_addRequest ac ap ash an aob arq cn M S x y z r) : okS (nx_addRequest ac ap ash an aob arq cn M S x y z r) := by
  have q0 := kz_addRequest h
  obtain ⟨q1, q2, q3⟩ := q0
  obtain ⟨⟨oc, op, on, orq, oco, oob⟩, oM, oS⟩ := okS.of O
  have q5 := btr q2
  rw [Bool.and_eq_true] at q5
  exact ok_push hcn O ⟨oc, op, by show an + 1 ≤ 4; omega, rq_add orq (btr q1) q5.1 q5.2, oco, oob⟩
theorem po_removeRequest {ac ap : Nat} {ash : Bool} {an : Nat} {aob arq : Nat → Int32} {cn : Nat} {M : Nat → aS} {S : Nat → Option aS} {x : Int32} {r : Int32} (hcn : cn ≤ 14) (O : okS ((ac, ap, ash, an, aob, arq), cn, M, S)) (h : kf_removeRequest ac ap ash an aob arq cn M S x = 0) (hr : rs_removeRequest ac ap ash an aob arq cn M S x r) : okS (nx_removeRequest ac ap ash an aob arq cn M S x r) := by
  have q1 := kz_removeRequest h
  obtain ⟨⟨oc, op, on, orq, oco, oob⟩, oM, oS⟩ := okS.of O
  obtain ⟨i, z1, z2⟩ := inR_M (btr q1)
  have z3 : xN x = i := xN_e z1 (by omega)
  exact ok_push hcn O ⟨oc, op, by show an - 1 ≤ 4; omega, (by rw [z3]; exact rq_drop orq z2), oco, oob⟩
theorem po_undo {ac ap : Nat} {ash : Bool} {an : Nat} {aob arq : Nat → Int32} {cn : Nat} {M : Nat → aS} {S : Nat → Option aS}  {r : Int32} (hcn : cn ≤ 14) (O : okS ((ac, ap, ash, an, aob, arq), cn, M, S)) (h : kf_undo ac ap ash an aob arq cn M S = 0) (hr : rs_undo ac ap ash an aob arq cn M S r) : okS (nx_undo ac ap ash an aob arq cn M S r) := by
  have q1 := kz_undo h
  obtain ⟨⟨oc, op, on, orq, oco, oob⟩, oM, oS⟩ := okS.of O
  exact ⟨oM (cn - 1) (by omega), fun j hj => oM j (by have hj2 : j < cn - 1 := hj; omega), oS⟩
theorem po_save {ac ap : Nat} {ash : Bool} {an : Nat} {aob arq : Nat → Int32} {cn : Nat} {M : Nat → aS} {S : Nat → Option aS} {x : Int32} {r : Int32} (hcn : cn ≤ 14) (O : okS ((ac, ap, ash, an, aob, arq), cn, M, S)) (h : kf_save ac ap ash an aob arq cn M S x = 0) (hr : rs_save ac ap ash an aob arq cn M S x r) : okS (nx_save ac ap ash an aob arq cn M S x r) := by
  have q1 := kz_save h
  obtain ⟨⟨oc, op, on, orq, oco, oob⟩, oM, oS⟩ := okS.of O
  refine ⟨O.1, O.2.1, fun i a ha => ?_⟩
  have ha2 : va_up S (xN x) (some (ac, ap, ash, an, aob, arq)) i = some a := ha
  by_cases e : i = xN x
  · rw [e, va_up_self] at ha2; rw [← Option.some.inj ha2]; exact O.1
  · rw [va_up_ne _ _ e] at ha2; exact oS i a ha2
theorem po_restore {ac ap : Nat} {ash : Bool} {an : Nat} {aob arq : Nat → Int32} {cn : Nat} {M : Nat → aS} {S : Nat → Option aS} {x : Int32} {r : Int32} (hcn : cn ≤ 14) (O : okS ((ac, ap, ash, an, aob, arq), cn, M, S)) (h : kf_restore ac ap ash an aob arq cn M S x = 0) (hr : rs_restore ac ap ash an aob arq cn M S x r) : okS (nx_restore ac ap ash an aob arq cn M S x r) := by
  have q0 := kz_restore h
  obtain ⟨q1, q2⟩ := q0
  obtain ⟨⟨oc, op, on, orq, oco, oob⟩, oM, oS⟩ := okS.of O
  obtain ⟨a, z1, -⟩ := hr
  refine ⟨?_, fun j hj => absurd hj (Nat.not_lt_zero j), oS⟩
  show okA ((S (xN x)).getD (ac, ap, ash, an, aob, arq))
  rw [z1]
  exact oS _ a z1
