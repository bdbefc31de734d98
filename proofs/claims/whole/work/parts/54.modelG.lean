/-! THE MODEL: its making -/
/-- k neighbours of c come before d -/
def nk (c d k : Nat) : Prop := k ≤ 4 ∧ (∀ i, i < k → near4 (4 * c + i) < d) ∧ ∀ i, k ≤ i → i < 4 → d ≤ near4 (4 * c + i)
theorem nk_0 (c : Nat) : nk c 0 0 := ⟨by omega, fun i h => absurd h (Nat.not_lt_zero _), fun i _ _ => Nat.zero_le _⟩
theorem near_asc {c i j : Nat} (hc : c < 150) (h : i < j) (hj : j < 4) : near4 (4 * c + i) < near4 (4 * c + j) := by
  obtain ⟨h1, h2, h3⟩ := tb_asc c hc
  rcases (show (i = 0 ∧ j = 1) ∨ (i = 0 ∧ j = 2) ∨ (i = 0 ∧ j = 3) ∨ (i = 1 ∧ j = 2) ∨ (i = 1 ∧ j = 3) ∨ (i = 2 ∧ j = 3) by omega) with ⟨rfl, rfl⟩ | ⟨rfl, rfl⟩ | ⟨rfl, rfl⟩ | ⟨rfl, rfl⟩ | ⟨rfl, rfl⟩ | ⟨rfl, rfl⟩
  · exact h1
  · exact Nat.lt_trans h1 h2
  · exact Nat.lt_trans h1 (Nat.lt_trans h2 h3)
  · exact h2
  · exact Nat.lt_trans h2 h3
  · exact h3
theorem nk_hit {c d k : Nat} (hc : c < 150) (h : nk c d k) (hn : tb_nb c d = true) : k < 4 ∧ near4 (4 * c + k) = d ∧ nk c (d + 1) (k + 1) := by
  obtain ⟨i, hi, e⟩ := nb_iff.mp hn
  obtain ⟨h1, h2, h3⟩ := h
  have hik : i = k := by
    by_cases a : i < k
    · have := h2 i a; omega
    · by_cases b : k < i
      · have h4 := near_asc hc b hi
        have h5 := h3 k (Nat.le_refl _) (by omega)
        omega
      · omega
  subst hik
  refine ⟨hi, e, by omega, fun j hj => ?_, fun j hj hj4 => ?_⟩
  · by_cases a : j = i
    · rw [a, e]; omega
    · have := h2 j (by omega); omega
  · have := near_asc hc (show i < j by omega) hj4; omega
theorem nk_miss {c d k : Nat} (h : nk c d k) (hn : tb_nb c d = false) : nk c (d + 1) k := by
  obtain ⟨h1, h2, h3⟩ := h
  refine ⟨h1, fun i hi => Nat.lt_succ_of_lt (h2 i hi), fun i hi hi4 => ?_⟩
  have h4 := h3 i hi hi4
  by_cases e : near4 (4 * c + i) = d
  · rw [nb_iff.mpr ⟨i, hi4, e⟩] at hn; cases hn
  · omega
theorem nk_end {c k : Nat} (hc : c < 150) (h : nk c 150 k) : k = 4 := by
  obtain ⟨h1, h2, h3⟩ := h
  by_cases e : k = 4
  · exact e
  · have h4 := h3 k (Nat.le_refl _) (by omega)
    have h5 := (tb_near c hc k (by omega)).1
    omega
theorem nb_self {c : Nat} (hc : c < 150) : tb_nb c c = false := by
  cases h : tb_nb c c with
  | false => rfl
  | true => exact absurd rfl (nb_lt hc h).2
/-- the rows of neighbours, done for the cells below c, and k of c -/
def nrI (c k : Nat) (A : Nat → Int32) : Prop := (∀ e, e < c → ∀ i, i < 4 → A (4 * e + i) = nI (near4 (4 * e + i))) ∧ ∀ i, i < k → A (4 * c + i) = nI (near4 (4 * c + i))
theorem nr_s {c k d : Nat} {A : Nat → Int32} (h : nrI c k A) (hk : k < 4) (hd : near4 (4 * c + k) = d) : nrI c (k + 1) (upd A (4 * c + k) (nI d)) := by
  refine ⟨fun e he i hi => ?_, fun i hi => ?_⟩
  · unfold upd; rw [if_neg (by omega)]; exact h.1 e he i hi
  · unfold upd
    by_cases a : i = k
    · rw [if_pos (by omega), a, hd]
    · rw [if_neg (by omega)]; exact h.2 i (by omega)
theorem nr_n {c : Nat} {A : Nat → Int32} (h : nrI c 4 A) : nrI (c + 1) 0 A := by
  refine ⟨fun e he i hi => ?_, fun i hi => absurd hi (Nat.not_lt_zero _)⟩
  by_cases a : e = c
  · rw [a]; exact h.2 i hi
  · exact h.1 e (by omega) i hi
def pfV (n : Nat) (V : Nat → Int32) : Prop := ∀ j, j < 3 * n → V j = cvec j
theorem pfV_s {n a b c : Nat} {V : Nat → Int32} (h : pfV n V) (ht : ctab n = 121 * a + 11 * b + c) (hb : b < 11) (hc : c < 11) : pfV (n + 1) (upd (upd (upd V (3 * n) (cx a)) (3 * n + 1) (cx b)) (3 * n + 2) (cx c)) :=
  (pfx_step (Q := csq) ⟨h, fun _ _ => rfl⟩ ht hb hc).1
def rw0 (o j : Nat) : Int32 := if j % 8 = 0 ∧ j < 8 * o then nI 1 else 0
theorem rw0_s (o j : Nat) : upd (rw0 o) (7 * o + o) (nI 1) j = rw0 (o + 1) j := by
  unfold upd rw0
  by_cases h : j = 7 * o + o
  · rw [if_pos h, if_pos (by omega)]
  · rw [if_neg h]
    by_cases h2 : j % 8 = 0 ∧ j < 8 * o
    · rw [if_pos h2, if_pos (by omega)]
    · rw [if_neg h2, if_neg (by omega)]
theorem rw0_e : ∀ j < 37, rw0 3 j = rowF 0 0 false 0 st_ob0 (fun _ => 0) j := by decide +kernel
set_option maxHeartbeats 4000000 in
set_option maxRecDepth 100000 in
/-- SlewPlannerModel() -/
theorem c_X8_init (l : Launch) (T : jj_T) (h8 : Nat) : jM l T yX8_init wsX8_init { frames := 3, cells := 14, slots := 36000, locals := 67 } [.ref h8] [(h8, cO 8 [.int (nI 0), .null, .null, .null, .null, .null, .int (nI 0), .int (nI 0), .null, .null, .null, .null, .null, .null, .null, .null, .null, .int (nI 0), .int (nI 0)])] (fun v w1 => ∃ rv : Nat, ∃ rn : Nat, ∃ rnw : Nat, ∃ rt : Nat, ∃ rd : Nat, ∃ rk : Nat, ∃ rik : Nat, ∃ rdk : Nat, ∃ rre : Nat, ∃ rle : Nat, ∃ rhe : Nat, ∃ rth : Nat, ∃ rpa : Nat, ∃ ror : Nat, v = none ∧ w1 = [(h8, cO 8 [.int (nI 0), .ref rv, .ref rn, .ref rnw, .ref rt, .ref rd, .int (nI 0), .int (nI 0), .ref rk, .ref rik, .ref rdk, .ref rre, .ref rle, .ref rhe, .ref rth, .ref rpa, .ref ror, .int (nI 0), .int (nI 0)]), (rv, cI T 450 cvec), (rn, cI T 600 (fun j => nI (near4 j))), (rnw, cI T 37 (rowF 0 0 false 0 st_ob0 (fun _ => 0))), (rt, cI T 37 (fun _ => 0)), (rd, cI T 518 (fun _ => 0)), (rk, cI T 74 (fun _ => 0)), (rik, cZ T 2 (fun _ => 0)), (rdk, cZ T 15300 (fun _ => 0)), (rre, cZ T 9150 (fun _ => 0)), (rle, cZ T 9150 (fun _ => 0)), (rhe, cZ T 150 (fun _ => 0)), (rth, cZ T 150 (fun _ => 0)), (rpa, cI T 61 (fun _ => 0)), (ror, cI T 4 (fun _ => 0))]) := by
  refine jM.of (cc := cX8_init) (maxL := 8) (ret := none) (by decide) rfl (Nat.le_of_ble_eq_true rfl) ?_
  intro X C rw_ hl hT hQ hnm
  subst hl; subst hT
  have hin8 : ∀ w ∈ u_ws RX8 TX8 19, w ∈ wsX8_init := by decide +kernel
  have hl7 : Cond.fieldLink RX8 7 (TX8 1).1 (TX8 1).2.1 (TX8 1).2.2.1 ∈ wsX8_init := by decide +kernel
  have hl13 : Cond.fieldLink RX8 13 (TX8 2).1 (TX8 2).2.1 (TX8 2).2.2.1 ∈ wsX8_init := by decide +kernel
  have hl16 : Cond.fieldLink RX8 16 (TX8 3).1 (TX8 3).2.1 (TX8 3).2.2.1 ∈ wsX8_init := by decide +kernel
  have hl19 : Cond.fieldLink RX8 19 (TX8 4).1 (TX8 4).2.1 (TX8 4).2.2.1 ∈ wsX8_init := by decide +kernel
  have hl22 : Cond.fieldLink RX8 22 (TX8 5).1 (TX8 5).2.1 (TX8 5).2.2.1 ∈ wsX8_init := by decide +kernel
  have hl25 : Cond.fieldLink RX8 25 (TX8 8).1 (TX8 8).2.1 (TX8 8).2.2.1 ∈ wsX8_init := by decide +kernel
  have hl28 : Cond.fieldLink RX8 28 (TX8 9).1 (TX8 9).2.1 (TX8 9).2.2.1 ∈ wsX8_init := by decide +kernel
  have hl32 : Cond.fieldLink RX8 32 (TX8 10).1 (TX8 10).2.1 (TX8 10).2.2.1 ∈ wsX8_init := by decide +kernel
  have hl35 : Cond.fieldLink RX8 35 (TX8 11).1 (TX8 11).2.1 (TX8 11).2.2.1 ∈ wsX8_init := by decide +kernel
  have hl38 : Cond.fieldLink RX8 38 (TX8 12).1 (TX8 12).2.1 (TX8 12).2.2.1 ∈ wsX8_init := by decide +kernel
  have hl41 : Cond.fieldLink RX8 41 (TX8 13).1 (TX8 13).2.1 (TX8 13).2.2.1 ∈ wsX8_init := by decide +kernel
  have hl44 : Cond.fieldLink RX8 44 (TX8 14).1 (TX8 14).2.1 (TX8 14).2.2.1 ∈ wsX8_init := by decide +kernel
  have hl47 : Cond.fieldLink RX8 47 (TX8 15).1 (TX8 15).2.1 (TX8 15).2.2.1 ∈ wsX8_init := by decide +kernel
  have hl50 : Cond.fieldLink RX8 50 (TX8 16).1 (TX8 16).2.1 (TX8 16).2.2.1 ∈ wsX8_init := by decide +kernel
  show jj X 0 0 0 [(0, .ref h8)] [] [(h8, cO 8 [.int (nI 0), .null, .null, .null, .null, .null, .int (nI 0), .int (nI 0), .null, .null, .null, .null, .null, .null, .null, .null, .null, .int (nI 0), .int (nI 0)])]
  refine j_aload_n C dX8_init_0 0 rfl rfl ?_
  refine j_obj C (by decide +kernel) (by decide +kernel) (by decide +kernel) (by decide) (by decide) dX8_init_1 ?_
  refine j_aload_n C dX8_init_4 0 rfl rfl ?_
  refine j_sipush C dX8_init_5 (v := (nI 450)) kc_s_450 ?_
  refine j_newarrI C rw_ (N := 450) rfl (by decide) (by decide +kernel) (by decide) (by decide) dX8_init_8 (fun rv => ?_)
  show jj X 1 450 10 [(0, .ref h8)] [.ref rv, .ref h8] [(h8, cO 8 [.int (nI 0), .null, .null, .null, .null, .null, .int (nI 0), .int (nI 0), .null, .null, .null, .null, .null, .null, .null, .null, .null, .int (nI 0), .int (nI 0)]), (rv, cI (xT X) 450 (fun _ => 0))]
  refine j_putF C rw_ hnm (hin8) tyX8 tyX8_ok nmX8 (ci := 8) rfl 1 (by decide) (hl7) (by decide +kernel) rfl (ty := .array .int) (by decide +kernel) rfl rfl 0 rfl (Nat.le_of_ble_eq_true rfl) (w' := [(h8, cO 8 [.int (nI 0), .ref rv, .null, .null, .null, .null, .int (nI 0), .int (nI 0), .null, .null, .null, .null, .null, .null, .null, .null, .null, .int (nI 0), .int (nI 0)]), (rv, cI (xT X) 450 (fun _ => 0))]) rfl dX8_init_10 ?_
  refine j_aload_n C dX8_init_13 0 rfl rfl ?_
  refine j_sipush C dX8_init_14 (v := (nI 600)) kc_s_600 ?_
  refine j_newarrI C rw_ (N := 600) rfl (by decide) (by decide +kernel) (by decide) (by decide) dX8_init_17 (fun rn => ?_)
  show jj X 2 1050 19 [(0, .ref h8)] [.ref rn, .ref h8] [(h8, cO 8 [.int (nI 0), .ref rv, .null, .null, .null, .null, .int (nI 0), .int (nI 0), .null, .null, .null, .null, .null, .null, .null, .null, .null, .int (nI 0), .int (nI 0)]), (rv, cI (xT X) 450 (fun _ => 0)), (rn, cI (xT X) 600 (fun _ => 0))]
  refine j_putF C rw_ hnm (hin8) tyX8 tyX8_ok nmX8 (ci := 8) rfl 2 (by decide) (hl13) (by decide +kernel) rfl (ty := .array .int) (by decide +kernel) rfl rfl 0 rfl (Nat.le_of_ble_eq_true rfl) (w' := [(h8, cO 8 [.int (nI 0), .ref rv, .ref rn, .null, .null, .null, .int (nI 0), .int (nI 0), .null, .null, .null, .null, .null, .null, .null, .null, .null, .int (nI 0), .int (nI 0)]), (rv, cI (xT X) 450 (fun _ => 0)), (rn, cI (xT X) 600 (fun _ => 0))]) rfl dX8_init_19 ?_
  refine j_aload_n C dX8_init_22 0 rfl rfl ?_
  refine j_bipush C dX8_init_23 (v := (nI 37)) kc_b_37 ?_
  refine j_newarrI C rw_ (N := 37) rfl (by decide) (by decide +kernel) (by decide) (by decide) dX8_init_25 (fun rnw => ?_)
  show jj X 3 1087 27 [(0, .ref h8)] [.ref rnw, .ref h8] [(h8, cO 8 [.int (nI 0), .ref rv, .ref rn, .null, .null, .null, .int (nI 0), .int (nI 0), .null, .null, .null, .null, .null, .null, .null, .null, .null, .int (nI 0), .int (nI 0)]), (rv, cI (xT X) 450 (fun _ => 0)), (rn, cI (xT X) 600 (fun _ => 0)), (rnw, cI (xT X) 37 (fun _ => 0))]
  refine j_putF C rw_ hnm (hin8) tyX8 tyX8_ok nmX8 (ci := 8) rfl 3 (by decide) (hl16) (by decide +kernel) rfl (ty := .array .int) (by decide +kernel) rfl rfl 0 rfl (Nat.le_of_ble_eq_true rfl) (w' := [(h8, cO 8 [.int (nI 0), .ref rv, .ref rn, .ref rnw, .null, .null, .int (nI 0), .int (nI 0), .null, .null, .null, .null, .null, .null, .null, .null, .null, .int (nI 0), .int (nI 0)]), (rv, cI (xT X) 450 (fun _ => 0)), (rn, cI (xT X) 600 (fun _ => 0)), (rnw, cI (xT X) 37 (fun _ => 0))]) rfl dX8_init_27 ?_
  refine j_aload_n C dX8_init_30 0 rfl rfl ?_
  refine j_bipush C dX8_init_31 (v := (nI 37)) kc_b_37 ?_
  refine j_newarrI C rw_ (N := 37) rfl (by decide) (by decide +kernel) (by decide) (by decide) dX8_init_33 (fun rt => ?_)
  show jj X 4 1124 35 [(0, .ref h8)] [.ref rt, .ref h8] [(h8, cO 8 [.int (nI 0), .ref rv, .ref rn, .ref rnw, .null, .null, .int (nI 0), .int (nI 0), .null, .null, .null, .null, .null, .null, .null, .null, .null, .int (nI 0), .int (nI 0)]), (rv, cI (xT X) 450 (fun _ => 0)), (rn, cI (xT X) 600 (fun _ => 0)), (rnw, cI (xT X) 37 (fun _ => 0)), (rt, cI (xT X) 37 (fun _ => 0))]
  refine j_putF C rw_ hnm (hin8) tyX8 tyX8_ok nmX8 (ci := 8) rfl 4 (by decide) (hl19) (by decide +kernel) rfl (ty := .array .int) (by decide +kernel) rfl rfl 0 rfl (Nat.le_of_ble_eq_true rfl) (w' := [(h8, cO 8 [.int (nI 0), .ref rv, .ref rn, .ref rnw, .ref rt, .null, .int (nI 0), .int (nI 0), .null, .null, .null, .null, .null, .null, .null, .null, .null, .int (nI 0), .int (nI 0)]), (rv, cI (xT X) 450 (fun _ => 0)), (rn, cI (xT X) 600 (fun _ => 0)), (rnw, cI (xT X) 37 (fun _ => 0)), (rt, cI (xT X) 37 (fun _ => 0))]) rfl dX8_init_35 ?_
  refine j_aload_n C dX8_init_38 0 rfl rfl ?_
  refine j_sipush C dX8_init_39 (v := (nI 518)) kc_s_518 ?_
  refine j_newarrI C rw_ (N := 518) rfl (by decide) (by decide +kernel) (by decide) (by decide) dX8_init_42 (fun rd => ?_)
  show jj X 5 1642 44 [(0, .ref h8)] [.ref rd, .ref h8] [(h8, cO 8 [.int (nI 0), .ref rv, .ref rn, .ref rnw, .ref rt, .null, .int (nI 0), .int (nI 0), .null, .null, .null, .null, .null, .null, .null, .null, .null, .int (nI 0), .int (nI 0)]), (rv, cI (xT X) 450 (fun _ => 0)), (rn, cI (xT X) 600 (fun _ => 0)), (rnw, cI (xT X) 37 (fun _ => 0)), (rt, cI (xT X) 37 (fun _ => 0)), (rd, cI (xT X) 518 (fun _ => 0))]
  refine j_putF C rw_ hnm (hin8) tyX8 tyX8_ok nmX8 (ci := 8) rfl 5 (by decide) (hl22) (by decide +kernel) rfl (ty := .array .int) (by decide +kernel) rfl rfl 0 rfl (Nat.le_of_ble_eq_true rfl) (w' := [(h8, cO 8 [.int (nI 0), .ref rv, .ref rn, .ref rnw, .ref rt, .ref rd, .int (nI 0), .int (nI 0), .null, .null, .null, .null, .null, .null, .null, .null, .null, .int (nI 0), .int (nI 0)]), (rv, cI (xT X) 450 (fun _ => 0)), (rn, cI (xT X) 600 (fun _ => 0)), (rnw, cI (xT X) 37 (fun _ => 0)), (rt, cI (xT X) 37 (fun _ => 0)), (rd, cI (xT X) 518 (fun _ => 0))]) rfl dX8_init_44 ?_
  refine j_aload_n C dX8_init_47 0 rfl rfl ?_
  refine j_bipush C dX8_init_48 (v := (nI 74)) kc_b_74 ?_
  refine j_newarrI C rw_ (N := 74) rfl (by decide) (by decide +kernel) (by decide) (by decide) dX8_init_50 (fun rk => ?_)
  show jj X 6 1716 52 [(0, .ref h8)] [.ref rk, .ref h8] [(h8, cO 8 [.int (nI 0), .ref rv, .ref rn, .ref rnw, .ref rt, .ref rd, .int (nI 0), .int (nI 0), .null, .null, .null, .null, .null, .null, .null, .null, .null, .int (nI 0), .int (nI 0)]), (rv, cI (xT X) 450 (fun _ => 0)), (rn, cI (xT X) 600 (fun _ => 0)), (rnw, cI (xT X) 37 (fun _ => 0)), (rt, cI (xT X) 37 (fun _ => 0)), (rd, cI (xT X) 518 (fun _ => 0)), (rk, cI (xT X) 74 (fun _ => 0))]
  refine j_putF C rw_ hnm (hin8) tyX8 tyX8_ok nmX8 (ci := 8) rfl 8 (by decide) (hl25) (by decide +kernel) rfl (ty := .array .int) (by decide +kernel) rfl rfl 0 rfl (Nat.le_of_ble_eq_true rfl) (w' := [(h8, cO 8 [.int (nI 0), .ref rv, .ref rn, .ref rnw, .ref rt, .ref rd, .int (nI 0), .int (nI 0), .ref rk, .null, .null, .null, .null, .null, .null, .null, .null, .int (nI 0), .int (nI 0)]), (rv, cI (xT X) 450 (fun _ => 0)), (rn, cI (xT X) 600 (fun _ => 0)), (rnw, cI (xT X) 37 (fun _ => 0)), (rt, cI (xT X) 37 (fun _ => 0)), (rd, cI (xT X) 518 (fun _ => 0)), (rk, cI (xT X) 74 (fun _ => 0))]) rfl dX8_init_52 ?_
  refine j_aload_n C dX8_init_55 0 rfl rfl ?_
  refine j_iconst C dX8_init_56 (v := (nI 2)) kc_i_2 ?_
  refine j_newarrZ C rw_ (N := 2) rfl (by decide) (by decide +kernel) (by decide) (by decide) dX8_init_57 (fun rik => ?_)
  show jj X 7 1718 59 [(0, .ref h8)] [.ref rik, .ref h8] [(h8, cO 8 [.int (nI 0), .ref rv, .ref rn, .ref rnw, .ref rt, .ref rd, .int (nI 0), .int (nI 0), .ref rk, .null, .null, .null, .null, .null, .null, .null, .null, .int (nI 0), .int (nI 0)]), (rv, cI (xT X) 450 (fun _ => 0)), (rn, cI (xT X) 600 (fun _ => 0)), (rnw, cI (xT X) 37 (fun _ => 0)), (rt, cI (xT X) 37 (fun _ => 0)), (rd, cI (xT X) 518 (fun _ => 0)), (rk, cI (xT X) 74 (fun _ => 0)), (rik, cZ (xT X) 2 (fun _ => 0))]
  refine j_putF C rw_ hnm (hin8) tyX8 tyX8_ok nmX8 (ci := 8) rfl 9 (by decide) (hl28) (by decide +kernel) rfl (ty := .array .boolean) (by decide +kernel) rfl rfl 0 rfl (Nat.le_of_ble_eq_true rfl) (w' := [(h8, cO 8 [.int (nI 0), .ref rv, .ref rn, .ref rnw, .ref rt, .ref rd, .int (nI 0), .int (nI 0), .ref rk, .ref rik, .null, .null, .null, .null, .null, .null, .null, .int (nI 0), .int (nI 0)]), (rv, cI (xT X) 450 (fun _ => 0)), (rn, cI (xT X) 600 (fun _ => 0)), (rnw, cI (xT X) 37 (fun _ => 0)), (rt, cI (xT X) 37 (fun _ => 0)), (rd, cI (xT X) 518 (fun _ => 0)), (rk, cI (xT X) 74 (fun _ => 0)), (rik, cZ (xT X) 2 (fun _ => 0))]) rfl dX8_init_59 ?_
  refine j_aload_n C dX8_init_62 0 rfl rfl ?_
  refine j_sipush C dX8_init_63 (v := (nI 15300)) kc_s_15300 ?_
  refine j_newarrZ C rw_ (N := 15300) rfl (by decide) (by decide +kernel) (by decide) (by decide) dX8_init_66 (fun rdk => ?_)
  show jj X 8 17018 68 [(0, .ref h8)] [.ref rdk, .ref h8] [(h8, cO 8 [.int (nI 0), .ref rv, .ref rn, .ref rnw, .ref rt, .ref rd, .int (nI 0), .int (nI 0), .ref rk, .ref rik, .null, .null, .null, .null, .null, .null, .null, .int (nI 0), .int (nI 0)]), (rv, cI (xT X) 450 (fun _ => 0)), (rn, cI (xT X) 600 (fun _ => 0)), (rnw, cI (xT X) 37 (fun _ => 0)), (rt, cI (xT X) 37 (fun _ => 0)), (rd, cI (xT X) 518 (fun _ => 0)), (rk, cI (xT X) 74 (fun _ => 0)), (rik, cZ (xT X) 2 (fun _ => 0)), (rdk, cZ (xT X) 15300 (fun _ => 0))]
  refine j_putF C rw_ hnm (hin8) tyX8 tyX8_ok nmX8 (ci := 8) rfl 10 (by decide) (hl32) (by decide +kernel) rfl (ty := .array .boolean) (by decide +kernel) rfl rfl 0 rfl (Nat.le_of_ble_eq_true rfl) (w' := [(h8, cO 8 [.int (nI 0), .ref rv, .ref rn, .ref rnw, .ref rt, .ref rd, .int (nI 0), .int (nI 0), .ref rk, .ref rik, .ref rdk, .null, .null, .null, .null, .null, .null, .int (nI 0), .int (nI 0)]), (rv, cI (xT X) 450 (fun _ => 0)), (rn, cI (xT X) 600 (fun _ => 0)), (rnw, cI (xT X) 37 (fun _ => 0)), (rt, cI (xT X) 37 (fun _ => 0)), (rd, cI (xT X) 518 (fun _ => 0)), (rk, cI (xT X) 74 (fun _ => 0)), (rik, cZ (xT X) 2 (fun _ => 0)), (rdk, cZ (xT X) 15300 (fun _ => 0))]) rfl dX8_init_68 ?_
  refine j_aload_n C dX8_init_71 0 rfl rfl ?_
  refine j_sipush C dX8_init_72 (v := (nI 9150)) kc_s_9150 ?_
  refine j_newarrZ C rw_ (N := 9150) rfl (by decide) (by decide +kernel) (by decide) (by decide) dX8_init_75 (fun rre => ?_)
  show jj X 9 26168 77 [(0, .ref h8)] [.ref rre, .ref h8] [(h8, cO 8 [.int (nI 0), .ref rv, .ref rn, .ref rnw, .ref rt, .ref rd, .int (nI 0), .int (nI 0), .ref rk, .ref rik, .ref rdk, .null, .null, .null, .null, .null, .null, .int (nI 0), .int (nI 0)]), (rv, cI (xT X) 450 (fun _ => 0)), (rn, cI (xT X) 600 (fun _ => 0)), (rnw, cI (xT X) 37 (fun _ => 0)), (rt, cI (xT X) 37 (fun _ => 0)), (rd, cI (xT X) 518 (fun _ => 0)), (rk, cI (xT X) 74 (fun _ => 0)), (rik, cZ (xT X) 2 (fun _ => 0)), (rdk, cZ (xT X) 15300 (fun _ => 0)), (rre, cZ (xT X) 9150 (fun _ => 0))]
  refine j_putF C rw_ hnm (hin8) tyX8 tyX8_ok nmX8 (ci := 8) rfl 11 (by decide) (hl35) (by decide +kernel) rfl (ty := .array .boolean) (by decide +kernel) rfl rfl 0 rfl (Nat.le_of_ble_eq_true rfl) (w' := [(h8, cO 8 [.int (nI 0), .ref rv, .ref rn, .ref rnw, .ref rt, .ref rd, .int (nI 0), .int (nI 0), .ref rk, .ref rik, .ref rdk, .ref rre, .null, .null, .null, .null, .null, .int (nI 0), .int (nI 0)]), (rv, cI (xT X) 450 (fun _ => 0)), (rn, cI (xT X) 600 (fun _ => 0)), (rnw, cI (xT X) 37 (fun _ => 0)), (rt, cI (xT X) 37 (fun _ => 0)), (rd, cI (xT X) 518 (fun _ => 0)), (rk, cI (xT X) 74 (fun _ => 0)), (rik, cZ (xT X) 2 (fun _ => 0)), (rdk, cZ (xT X) 15300 (fun _ => 0)), (rre, cZ (xT X) 9150 (fun _ => 0))]) rfl dX8_init_77 ?_
  refine j_aload_n C dX8_init_80 0 rfl rfl ?_
  refine j_sipush C dX8_init_81 (v := (nI 9150)) kc_s_9150 ?_
  refine j_newarrZ C rw_ (N := 9150) rfl (by decide) (by decide +kernel) (by decide) (by decide) dX8_init_84 (fun rle => ?_)
  show jj X 10 35318 86 [(0, .ref h8)] [.ref rle, .ref h8] [(h8, cO 8 [.int (nI 0), .ref rv, .ref rn, .ref rnw, .ref rt, .ref rd, .int (nI 0), .int (nI 0), .ref rk, .ref rik, .ref rdk, .ref rre, .null, .null, .null, .null, .null, .int (nI 0), .int (nI 0)]), (rv, cI (xT X) 450 (fun _ => 0)), (rn, cI (xT X) 600 (fun _ => 0)), (rnw, cI (xT X) 37 (fun _ => 0)), (rt, cI (xT X) 37 (fun _ => 0)), (rd, cI (xT X) 518 (fun _ => 0)), (rk, cI (xT X) 74 (fun _ => 0)), (rik, cZ (xT X) 2 (fun _ => 0)), (rdk, cZ (xT X) 15300 (fun _ => 0)), (rre, cZ (xT X) 9150 (fun _ => 0)), (rle, cZ (xT X) 9150 (fun _ => 0))]
  refine j_putF C rw_ hnm (hin8) tyX8 tyX8_ok nmX8 (ci := 8) rfl 12 (by decide) (hl38) (by decide +kernel) rfl (ty := .array .boolean) (by decide +kernel) rfl rfl 0 rfl (Nat.le_of_ble_eq_true rfl) (w' := [(h8, cO 8 [.int (nI 0), .ref rv, .ref rn, .ref rnw, .ref rt, .ref rd, .int (nI 0), .int (nI 0), .ref rk, .ref rik, .ref rdk, .ref rre, .ref rle, .null, .null, .null, .null, .int (nI 0), .int (nI 0)]), (rv, cI (xT X) 450 (fun _ => 0)), (rn, cI (xT X) 600 (fun _ => 0)), (rnw, cI (xT X) 37 (fun _ => 0)), (rt, cI (xT X) 37 (fun _ => 0)), (rd, cI (xT X) 518 (fun _ => 0)), (rk, cI (xT X) 74 (fun _ => 0)), (rik, cZ (xT X) 2 (fun _ => 0)), (rdk, cZ (xT X) 15300 (fun _ => 0)), (rre, cZ (xT X) 9150 (fun _ => 0)), (rle, cZ (xT X) 9150 (fun _ => 0))]) rfl dX8_init_86 ?_
  refine j_aload_n C dX8_init_89 0 rfl rfl ?_
  refine j_sipush C dX8_init_90 (v := (nI 150)) kc_s_150 ?_
  refine j_newarrZ C rw_ (N := 150) rfl (by decide) (by decide +kernel) (by decide) (by decide) dX8_init_93 (fun rhe => ?_)
  show jj X 11 35468 95 [(0, .ref h8)] [.ref rhe, .ref h8] [(h8, cO 8 [.int (nI 0), .ref rv, .ref rn, .ref rnw, .ref rt, .ref rd, .int (nI 0), .int (nI 0), .ref rk, .ref rik, .ref rdk, .ref rre, .ref rle, .null, .null, .null, .null, .int (nI 0), .int (nI 0)]), (rv, cI (xT X) 450 (fun _ => 0)), (rn, cI (xT X) 600 (fun _ => 0)), (rnw, cI (xT X) 37 (fun _ => 0)), (rt, cI (xT X) 37 (fun _ => 0)), (rd, cI (xT X) 518 (fun _ => 0)), (rk, cI (xT X) 74 (fun _ => 0)), (rik, cZ (xT X) 2 (fun _ => 0)), (rdk, cZ (xT X) 15300 (fun _ => 0)), (rre, cZ (xT X) 9150 (fun _ => 0)), (rle, cZ (xT X) 9150 (fun _ => 0)), (rhe, cZ (xT X) 150 (fun _ => 0))]
  refine j_putF C rw_ hnm (hin8) tyX8 tyX8_ok nmX8 (ci := 8) rfl 13 (by decide) (hl41) (by decide +kernel) rfl (ty := .array .boolean) (by decide +kernel) rfl rfl 0 rfl (Nat.le_of_ble_eq_true rfl) (w' := [(h8, cO 8 [.int (nI 0), .ref rv, .ref rn, .ref rnw, .ref rt, .ref rd, .int (nI 0), .int (nI 0), .ref rk, .ref rik, .ref rdk, .ref rre, .ref rle, .ref rhe, .null, .null, .null, .int (nI 0), .int (nI 0)]), (rv, cI (xT X) 450 (fun _ => 0)), (rn, cI (xT X) 600 (fun _ => 0)), (rnw, cI (xT X) 37 (fun _ => 0)), (rt, cI (xT X) 37 (fun _ => 0)), (rd, cI (xT X) 518 (fun _ => 0)), (rk, cI (xT X) 74 (fun _ => 0)), (rik, cZ (xT X) 2 (fun _ => 0)), (rdk, cZ (xT X) 15300 (fun _ => 0)), (rre, cZ (xT X) 9150 (fun _ => 0)), (rle, cZ (xT X) 9150 (fun _ => 0)), (rhe, cZ (xT X) 150 (fun _ => 0))]) rfl dX8_init_95 ?_
  refine j_aload_n C dX8_init_98 0 rfl rfl ?_
  refine j_sipush C dX8_init_99 (v := (nI 150)) kc_s_150 ?_
  refine j_newarrZ C rw_ (N := 150) rfl (by decide) (by decide +kernel) (by decide) (by decide) dX8_init_102 (fun rth => ?_)
  show jj X 12 35618 104 [(0, .ref h8)] [.ref rth, .ref h8] [(h8, cO 8 [.int (nI 0), .ref rv, .ref rn, .ref rnw, .ref rt, .ref rd, .int (nI 0), .int (nI 0), .ref rk, .ref rik, .ref rdk, .ref rre, .ref rle, .ref rhe, .null, .null, .null, .int (nI 0), .int (nI 0)]), (rv, cI (xT X) 450 (fun _ => 0)), (rn, cI (xT X) 600 (fun _ => 0)), (rnw, cI (xT X) 37 (fun _ => 0)), (rt, cI (xT X) 37 (fun _ => 0)), (rd, cI (xT X) 518 (fun _ => 0)), (rk, cI (xT X) 74 (fun _ => 0)), (rik, cZ (xT X) 2 (fun _ => 0)), (rdk, cZ (xT X) 15300 (fun _ => 0)), (rre, cZ (xT X) 9150 (fun _ => 0)), (rle, cZ (xT X) 9150 (fun _ => 0)), (rhe, cZ (xT X) 150 (fun _ => 0)), (rth, cZ (xT X) 150 (fun _ => 0))]
  refine j_putF C rw_ hnm (hin8) tyX8 tyX8_ok nmX8 (ci := 8) rfl 14 (by decide) (hl44) (by decide +kernel) rfl (ty := .array .boolean) (by decide +kernel) rfl rfl 0 rfl (Nat.le_of_ble_eq_true rfl) (w' := [(h8, cO 8 [.int (nI 0), .ref rv, .ref rn, .ref rnw, .ref rt, .ref rd, .int (nI 0), .int (nI 0), .ref rk, .ref rik, .ref rdk, .ref rre, .ref rle, .ref rhe, .ref rth, .null, .null, .int (nI 0), .int (nI 0)]), (rv, cI (xT X) 450 (fun _ => 0)), (rn, cI (xT X) 600 (fun _ => 0)), (rnw, cI (xT X) 37 (fun _ => 0)), (rt, cI (xT X) 37 (fun _ => 0)), (rd, cI (xT X) 518 (fun _ => 0)), (rk, cI (xT X) 74 (fun _ => 0)), (rik, cZ (xT X) 2 (fun _ => 0)), (rdk, cZ (xT X) 15300 (fun _ => 0)), (rre, cZ (xT X) 9150 (fun _ => 0)), (rle, cZ (xT X) 9150 (fun _ => 0)), (rhe, cZ (xT X) 150 (fun _ => 0)), (rth, cZ (xT X) 150 (fun _ => 0))]) rfl dX8_init_104 ?_
  refine j_aload_n C dX8_init_107 0 rfl rfl ?_
  refine j_bipush C dX8_init_108 (v := (nI 61)) kc_b_61 ?_
  refine j_newarrI C rw_ (N := 61) rfl (by decide) (by decide +kernel) (by decide) (by decide) dX8_init_110 (fun rpa => ?_)
  show jj X 13 35679 112 [(0, .ref h8)] [.ref rpa, .ref h8] [(h8, cO 8 [.int (nI 0), .ref rv, .ref rn, .ref rnw, .ref rt, .ref rd, .int (nI 0), .int (nI 0), .ref rk, .ref rik, .ref rdk, .ref rre, .ref rle, .ref rhe, .ref rth, .null, .null, .int (nI 0), .int (nI 0)]), (rv, cI (xT X) 450 (fun _ => 0)), (rn, cI (xT X) 600 (fun _ => 0)), (rnw, cI (xT X) 37 (fun _ => 0)), (rt, cI (xT X) 37 (fun _ => 0)), (rd, cI (xT X) 518 (fun _ => 0)), (rk, cI (xT X) 74 (fun _ => 0)), (rik, cZ (xT X) 2 (fun _ => 0)), (rdk, cZ (xT X) 15300 (fun _ => 0)), (rre, cZ (xT X) 9150 (fun _ => 0)), (rle, cZ (xT X) 9150 (fun _ => 0)), (rhe, cZ (xT X) 150 (fun _ => 0)), (rth, cZ (xT X) 150 (fun _ => 0)), (rpa, cI (xT X) 61 (fun _ => 0))]
  refine j_putF C rw_ hnm (hin8) tyX8 tyX8_ok nmX8 (ci := 8) rfl 15 (by decide) (hl47) (by decide +kernel) rfl (ty := .array .int) (by decide +kernel) rfl rfl 0 rfl (Nat.le_of_ble_eq_true rfl) (w' := [(h8, cO 8 [.int (nI 0), .ref rv, .ref rn, .ref rnw, .ref rt, .ref rd, .int (nI 0), .int (nI 0), .ref rk, .ref rik, .ref rdk, .ref rre, .ref rle, .ref rhe, .ref rth, .ref rpa, .null, .int (nI 0), .int (nI 0)]), (rv, cI (xT X) 450 (fun _ => 0)), (rn, cI (xT X) 600 (fun _ => 0)), (rnw, cI (xT X) 37 (fun _ => 0)), (rt, cI (xT X) 37 (fun _ => 0)), (rd, cI (xT X) 518 (fun _ => 0)), (rk, cI (xT X) 74 (fun _ => 0)), (rik, cZ (xT X) 2 (fun _ => 0)), (rdk, cZ (xT X) 15300 (fun _ => 0)), (rre, cZ (xT X) 9150 (fun _ => 0)), (rle, cZ (xT X) 9150 (fun _ => 0)), (rhe, cZ (xT X) 150 (fun _ => 0)), (rth, cZ (xT X) 150 (fun _ => 0)), (rpa, cI (xT X) 61 (fun _ => 0))]) rfl dX8_init_112 ?_
  refine j_aload_n C dX8_init_115 0 rfl rfl ?_
  refine j_iconst C dX8_init_116 (v := (nI 4)) kc_i_4 ?_
  refine j_newarrI C rw_ (N := 4) rfl (by decide) (by decide +kernel) (by decide) (by decide) dX8_init_117 (fun ror => ?_)
  show jj X 14 35683 119 [(0, .ref h8)] [.ref ror, .ref h8] [(h8, cO 8 [.int (nI 0), .ref rv, .ref rn, .ref rnw, .ref rt, .ref rd, .int (nI 0), .int (nI 0), .ref rk, .ref rik, .ref rdk, .ref rre, .ref rle, .ref rhe, .ref rth, .ref rpa, .null, .int (nI 0), .int (nI 0)]), (rv, cI (xT X) 450 (fun _ => 0)), (rn, cI (xT X) 600 (fun _ => 0)), (rnw, cI (xT X) 37 (fun _ => 0)), (rt, cI (xT X) 37 (fun _ => 0)), (rd, cI (xT X) 518 (fun _ => 0)), (rk, cI (xT X) 74 (fun _ => 0)), (rik, cZ (xT X) 2 (fun _ => 0)), (rdk, cZ (xT X) 15300 (fun _ => 0)), (rre, cZ (xT X) 9150 (fun _ => 0)), (rle, cZ (xT X) 9150 (fun _ => 0)), (rhe, cZ (xT X) 150 (fun _ => 0)), (rth, cZ (xT X) 150 (fun _ => 0)), (rpa, cI (xT X) 61 (fun _ => 0)), (ror, cI (xT X) 4 (fun _ => 0))]
  refine j_putF C rw_ hnm (hin8) tyX8 tyX8_ok nmX8 (ci := 8) rfl 16 (by decide) (hl50) (by decide +kernel) rfl (ty := .array .int) (by decide +kernel) rfl rfl 0 rfl (Nat.le_of_ble_eq_true rfl) (w' := [(h8, cO 8 [.int (nI 0), .ref rv, .ref rn, .ref rnw, .ref rt, .ref rd, .int (nI 0), .int (nI 0), .ref rk, .ref rik, .ref rdk, .ref rre, .ref rle, .ref rhe, .ref rth, .ref rpa, .ref ror, .int (nI 0), .int (nI 0)]), (rv, cI (xT X) 450 (fun _ => 0)), (rn, cI (xT X) 600 (fun _ => 0)), (rnw, cI (xT X) 37 (fun _ => 0)), (rt, cI (xT X) 37 (fun _ => 0)), (rd, cI (xT X) 518 (fun _ => 0)), (rk, cI (xT X) 74 (fun _ => 0)), (rik, cZ (xT X) 2 (fun _ => 0)), (rdk, cZ (xT X) 15300 (fun _ => 0)), (rre, cZ (xT X) 9150 (fun _ => 0)), (rle, cZ (xT X) 9150 (fun _ => 0)), (rhe, cZ (xT X) 150 (fun _ => 0)), (rth, cZ (xT X) 150 (fun _ => 0)), (rpa, cI (xT X) 61 (fun _ => 0)), (ror, cI (xT X) 4 (fun _ => 0))]) rfl dX8_init_119 ?_
  refine j_iconst C dX8_init_122 (v := (nI 0)) kc_i_0 ?_
  refine j_istore_n C dX8_init_123 rfl (by decide) (lv' := [(1, .int (nI 0)), (0, .ref h8)]) rfl ?_
  refine j_bipush C dX8_init_124 (v := (-5)) kc_b_m5 ?_
  refine j_ieq (cx 0) (by exact cx_0) ?_
  refine j_istore_n C dX8_init_126 rfl (by decide) (lv' := [(2, .int (cx 0)), (1, .int (nI 0)), (0, .ref h8)]) rfl ?_
  refine j_lv [2, 1, 0] rfl ?_
  suffices hc127 : ∀ (mm : Nat) (a n : Nat) (V : Nat → Int32), 11 - a < mm → (a ≤ 11) → (n = cidx (121 * a)) → (pfV n V) → jj X 14 35683 127 [(0, .ref h8), (1, .int (nI n)), (2, .int (cx a))] [] [(h8, cO 8 [.int (nI 0), .ref rv, .ref rn, .ref rnw, .ref rt, .ref rd, .int (nI 0), .int (nI 0), .ref rk, .ref rik, .ref rdk, .ref rre, .ref rle, .ref rhe, .ref rth, .ref rpa, .ref ror, .int (nI 0), .int (nI 0)]), (rv, cI (xT X) 450 V), (rn, cI (xT X) 600 (fun _ => 0)), (rnw, cI (xT X) 37 (fun _ => 0)), (rt, cI (xT X) 37 (fun _ => 0)), (rd, cI (xT X) 518 (fun _ => 0)), (rk, cI (xT X) 74 (fun _ => 0)), (rik, cZ (xT X) 2 (fun _ => 0)), (rdk, cZ (xT X) 15300 (fun _ => 0)), (rre, cZ (xT X) 9150 (fun _ => 0)), (rle, cZ (xT X) 9150 (fun _ => 0)), (rhe, cZ (xT X) 150 (fun _ => 0)), (rth, cZ (xT X) 150 (fun _ => 0)), (rpa, cI (xT X) 61 (fun _ => 0)), (ror, cI (xT X) 4 (fun _ => 0))] by
    refine hc127 _ 0 0 _ (Nat.lt_succ_self _) ?_ ?_ ?_
    · omega
    · exact tb_ix0.symm
    · exact fun j hj => by omega
  intro mm
  induction mm with
  | zero => intro a n V hm; exact absurd hm (Nat.not_lt_zero _)
  | succ mm ih127 =>
    intro a n V hm127 ha1 hn1 hp1
    refine j_iload_n C dX8_init_127 2 rfl rfl ?_
    refine j_iconst C dX8_init_128 (v := (nI 5)) kc_i_5 ?_
    refine j_icmp_gt C dX8_init_129 (tgt := 213) (by decide) (fun q129 => ?_) (fun q129 => ?_)
    · skip
      refine j_extI C cvec 1 rfl (fun j hj => ?_) (w' := [(h8, cO 8 [.int (nI 0), .ref rv, .ref rn, .ref rnw, .ref rt, .ref rd, .int (nI 0), .int (nI 0), .ref rk, .ref rik, .ref rdk, .ref rre, .ref rle, .ref rhe, .ref rth, .ref rpa, .ref ror, .int (nI 0), .int (nI 0)]), (rv, cI (xT X) 450 cvec), (rn, cI (xT X) 600 (fun _ => 0)), (rnw, cI (xT X) 37 (fun _ => 0)), (rt, cI (xT X) 37 (fun _ => 0)), (rd, cI (xT X) 518 (fun _ => 0)), (rk, cI (xT X) 74 (fun _ => 0)), (rik, cZ (xT X) 2 (fun _ => 0)), (rdk, cZ (xT X) 15300 (fun _ => 0)), (rre, cZ (xT X) 9150 (fun _ => 0)), (rle, cZ (xT X) 9150 (fun _ => 0)), (rhe, cZ (xT X) 150 (fun _ => 0)), (rth, cZ (xT X) 150 (fun _ => 0)), (rpa, cI (xT X) 61 (fun _ => 0)), (ror, cI (xT X) 4 (fun _ => 0))]) rfl ?_
      · exact hp1 j (by have := (cx_gt a (by omega)).mp q129; rw [hn1, show 121 * a = 1331 by omega, tb_ixE]; omega)
      refine j_iconst C dX8_init_213 (v := (nI 0)) kc_i_0 ?_
      refine j_istore_n C dX8_init_214 rfl (by decide) (lv' := [(2, .int (nI 0)), (0, .ref h8), (1, .int (nI n))]) rfl ?_
      refine j_lv [1, 0] rfl ?_
      suffices hc215 : ∀ (mm : Nat) (c : Nat) (A : Nat → Int32), 150 - c < mm → (c ≤ 150) → (nrI c 0 A) → jj X 14 35683 215 [(0, .ref h8), (2, .int (nI c))] [] [(h8, cO 8 [.int (nI 0), .ref rv, .ref rn, .ref rnw, .ref rt, .ref rd, .int (nI 0), .int (nI 0), .ref rk, .ref rik, .ref rdk, .ref rre, .ref rle, .ref rhe, .ref rth, .ref rpa, .ref ror, .int (nI 0), .int (nI 0)]), (rv, cI (xT X) 450 cvec), (rn, cI (xT X) 600 A), (rnw, cI (xT X) 37 (fun _ => 0)), (rt, cI (xT X) 37 (fun _ => 0)), (rd, cI (xT X) 518 (fun _ => 0)), (rk, cI (xT X) 74 (fun _ => 0)), (rik, cZ (xT X) 2 (fun _ => 0)), (rdk, cZ (xT X) 15300 (fun _ => 0)), (rre, cZ (xT X) 9150 (fun _ => 0)), (rle, cZ (xT X) 9150 (fun _ => 0)), (rhe, cZ (xT X) 150 (fun _ => 0)), (rth, cZ (xT X) 150 (fun _ => 0)), (rpa, cI (xT X) 61 (fun _ => 0)), (ror, cI (xT X) 4 (fun _ => 0))] by
        refine hc215 _ 0 _ (Nat.lt_succ_self _) ?_ ?_
        · omega
        · exact ⟨fun e he => absurd he (Nat.not_lt_zero _), fun i hi => absurd hi (Nat.not_lt_zero _)⟩
      intro mm
      induction mm with
      | zero => intro c A hm; exact absurd hm (Nat.not_lt_zero _)
      | succ mm ih215 =>
        intro c A hm215 hc hr1
        refine j_iload_n C dX8_init_215 1 rfl rfl ?_
        refine j_sipush C dX8_init_216 (v := (nI 150)) kc_s_150 ?_
        refine j_icmp_ge C dX8_init_219 (tgt := 328) (by decide) (fun q219 => ?_) (fun q219 => ?_)
        · skip
          have q219 := (kn_ge (a := c) (b := 150) (by omega) (by omega)).mp q219
          refine j_extI C (fun j => nI (near4 j)) 2 rfl (fun j hj => ?_) (w' := [(h8, cO 8 [.int (nI 0), .ref rv, .ref rn, .ref rnw, .ref rt, .ref rd, .int (nI 0), .int (nI 0), .ref rk, .ref rik, .ref rdk, .ref rre, .ref rle, .ref rhe, .ref rth, .ref rpa, .ref ror, .int (nI 0), .int (nI 0)]), (rv, cI (xT X) 450 cvec), (rn, cI (xT X) 600 (fun j => nI (near4 j))), (rnw, cI (xT X) 37 (fun _ => 0)), (rt, cI (xT X) 37 (fun _ => 0)), (rd, cI (xT X) 518 (fun _ => 0)), (rk, cI (xT X) 74 (fun _ => 0)), (rik, cZ (xT X) 2 (fun _ => 0)), (rdk, cZ (xT X) 15300 (fun _ => 0)), (rre, cZ (xT X) 9150 (fun _ => 0)), (rle, cZ (xT X) 9150 (fun _ => 0)), (rhe, cZ (xT X) 150 (fun _ => 0)), (rth, cZ (xT X) 150 (fun _ => 0)), (rpa, cI (xT X) 61 (fun _ => 0)), (ror, cI (xT X) 4 (fun _ => 0))]) rfl ?_
          · have h9 := hr1.1 (j / 4) (by omega) (j % 4) (by omega); rw [show 4 * (j / 4) + j % 4 = j by omega] at h9; exact h9
          refine j_iconst C dX8_init_328 (v := (nI 0)) kc_i_0 ?_
          refine j_extI C (rw0 0) 3 rfl (fun j hj => ?_) (w' := [(h8, cO 8 [.int (nI 0), .ref rv, .ref rn, .ref rnw, .ref rt, .ref rd, .int (nI 0), .int (nI 0), .ref rk, .ref rik, .ref rdk, .ref rre, .ref rle, .ref rhe, .ref rth, .ref rpa, .ref ror, .int (nI 0), .int (nI 0)]), (rv, cI (xT X) 450 cvec), (rn, cI (xT X) 600 (fun j => nI (near4 j))), (rnw, cI (xT X) 37 (rw0 0)), (rt, cI (xT X) 37 (fun _ => 0)), (rd, cI (xT X) 518 (fun _ => 0)), (rk, cI (xT X) 74 (fun _ => 0)), (rik, cZ (xT X) 2 (fun _ => 0)), (rdk, cZ (xT X) 15300 (fun _ => 0)), (rre, cZ (xT X) 9150 (fun _ => 0)), (rle, cZ (xT X) 9150 (fun _ => 0)), (rhe, cZ (xT X) 150 (fun _ => 0)), (rth, cZ (xT X) 150 (fun _ => 0)), (rpa, cI (xT X) 61 (fun _ => 0)), (ror, cI (xT X) 4 (fun _ => 0))]) rfl ?_
          · unfold rw0; rw [if_neg (by omega)]
          refine j_istore_n C dX8_init_329 rfl (by decide) (lv' := [(2, .int (nI 0)), (0, .ref h8)]) rfl ?_
          refine j_lv [1, 0] rfl ?_
          suffices hc330 : ∀ (mm : Nat) (o : Nat), 3 - o < mm → (o ≤ 3) → jj X 14 35683 330 [(0, .ref h8), (2, .int (nI o))] [] [(h8, cO 8 [.int (nI 0), .ref rv, .ref rn, .ref rnw, .ref rt, .ref rd, .int (nI 0), .int (nI 0), .ref rk, .ref rik, .ref rdk, .ref rre, .ref rle, .ref rhe, .ref rth, .ref rpa, .ref ror, .int (nI 0), .int (nI 0)]), (rv, cI (xT X) 450 cvec), (rn, cI (xT X) 600 (fun j => nI (near4 j))), (rnw, cI (xT X) 37 (rw0 o)), (rt, cI (xT X) 37 (fun _ => 0)), (rd, cI (xT X) 518 (fun _ => 0)), (rk, cI (xT X) 74 (fun _ => 0)), (rik, cZ (xT X) 2 (fun _ => 0)), (rdk, cZ (xT X) 15300 (fun _ => 0)), (rre, cZ (xT X) 9150 (fun _ => 0)), (rle, cZ (xT X) 9150 (fun _ => 0)), (rhe, cZ (xT X) 150 (fun _ => 0)), (rth, cZ (xT X) 150 (fun _ => 0)), (rpa, cI (xT X) 61 (fun _ => 0)), (ror, cI (xT X) 4 (fun _ => 0))] by
            refine hc330 _ 0 (Nat.lt_succ_self _) ?_
            · omega
          intro mm
          induction mm with
          | zero => intro o hm; exact absurd hm (Nat.not_lt_zero _)
          | succ mm ih330 =>
            intro o hm330 ho
            refine j_iload_n C dX8_init_330 1 rfl rfl ?_
            refine j_iconst C dX8_init_331 (v := (nI 3)) kc_i_3 ?_
            refine j_icmp_ge C dX8_init_332 (tgt := 353) (by decide) (fun q332 => ?_) (fun q332 => ?_)
            · skip
              have q332 := (kn_ge (a := o) (b := 3) (by omega) (by omega)).mp q332
              refine j_extI C (rowF 0 0 false 0 st_ob0 (fun _ => 0)) 3 rfl (fun j hj => ?_) (w' := [(h8, cO 8 [.int (nI 0), .ref rv, .ref rn, .ref rnw, .ref rt, .ref rd, .int (nI 0), .int (nI 0), .ref rk, .ref rik, .ref rdk, .ref rre, .ref rle, .ref rhe, .ref rth, .ref rpa, .ref ror, .int (nI 0), .int (nI 0)]), (rv, cI (xT X) 450 cvec), (rn, cI (xT X) 600 (fun j => nI (near4 j))), (rnw, cI (xT X) 37 (rowF 0 0 false 0 st_ob0 (fun _ => 0))), (rt, cI (xT X) 37 (fun _ => 0)), (rd, cI (xT X) 518 (fun _ => 0)), (rk, cI (xT X) 74 (fun _ => 0)), (rik, cZ (xT X) 2 (fun _ => 0)), (rdk, cZ (xT X) 15300 (fun _ => 0)), (rre, cZ (xT X) 9150 (fun _ => 0)), (rle, cZ (xT X) 9150 (fun _ => 0)), (rhe, cZ (xT X) 150 (fun _ => 0)), (rth, cZ (xT X) 150 (fun _ => 0)), (rpa, cI (xT X) 61 (fun _ => 0)), (ror, cI (xT X) 4 (fun _ => 0))]) rfl ?_
              · rw [show o = 3 by omega]; exact rw0_e j hj
              refine j_vretM C rw_ hQ (by decide) (by decide) ?_ dX8_init_353
              exact ⟨_, _, _, _, _, _, _, _, _, _, _, _, _, _, rfl, rfl⟩
            · skip
              have q332 := (kn_nge (a := o) (b := 3) (by omega) (by omega)).mp q332
              refine j_aload_n C dX8_init_335 0 rfl rfl ?_
              refine j_get C (hin8) (ci := 8) rfl 3 (by decide) (hl16) 0 rfl (v := .ref rnw) rfl dX8_init_336 ?_
              refine j_bipush C dX8_init_339 (v := (nI 7)) kc_b_7 ?_
              refine j_iload_n C dX8_init_341 1 rfl rfl ?_
              refine j_imul C dX8_init_342 (v := (nI (7 * o))) (pk_mul _ _) ?_
              refine j_iload_n C dX8_init_343 1 rfl rfl ?_
              refine j_iadd C dX8_init_344 (v := (nI (7 * o + o))) (nI_add _ _) ?_
              refine j_iconst C dX8_init_345 (v := (nI 1)) kc_i_1 ?_
              refine j_iastoreN C rw_ (7 * o + o) rfl 3 rfl (by omega) (by decide) (w' := [(h8, cO 8 [.int (nI 0), .ref rv, .ref rn, .ref rnw, .ref rt, .ref rd, .int (nI 0), .int (nI 0), .ref rk, .ref rik, .ref rdk, .ref rre, .ref rle, .ref rhe, .ref rth, .ref rpa, .ref ror, .int (nI 0), .int (nI 0)]), (rv, cI (xT X) 450 cvec), (rn, cI (xT X) 600 (fun j => nI (near4 j))), (rnw, cI (xT X) 37 (upd (rw0 o) (7 * o + o) (nI 1))), (rt, cI (xT X) 37 (fun _ => 0)), (rd, cI (xT X) 518 (fun _ => 0)), (rk, cI (xT X) 74 (fun _ => 0)), (rik, cZ (xT X) 2 (fun _ => 0)), (rdk, cZ (xT X) 15300 (fun _ => 0)), (rre, cZ (xT X) 9150 (fun _ => 0)), (rle, cZ (xT X) 9150 (fun _ => 0)), (rhe, cZ (xT X) 150 (fun _ => 0)), (rth, cZ (xT X) 150 (fun _ => 0)), (rpa, cI (xT X) 61 (fun _ => 0)), (ror, cI (xT X) 4 (fun _ => 0))]) rfl dX8_init_346 ?_
              refine j_extI C (rw0 (o + 1)) 3 rfl (fun j hj => ?_) (w' := [(h8, cO 8 [.int (nI 0), .ref rv, .ref rn, .ref rnw, .ref rt, .ref rd, .int (nI 0), .int (nI 0), .ref rk, .ref rik, .ref rdk, .ref rre, .ref rle, .ref rhe, .ref rth, .ref rpa, .ref ror, .int (nI 0), .int (nI 0)]), (rv, cI (xT X) 450 cvec), (rn, cI (xT X) 600 (fun j => nI (near4 j))), (rnw, cI (xT X) 37 (rw0 (o + 1))), (rt, cI (xT X) 37 (fun _ => 0)), (rd, cI (xT X) 518 (fun _ => 0)), (rk, cI (xT X) 74 (fun _ => 0)), (rik, cZ (xT X) 2 (fun _ => 0)), (rdk, cZ (xT X) 15300 (fun _ => 0)), (rre, cZ (xT X) 9150 (fun _ => 0)), (rle, cZ (xT X) 9150 (fun _ => 0)), (rhe, cZ (xT X) 150 (fun _ => 0)), (rth, cZ (xT X) 150 (fun _ => 0)), (rpa, cI (xT X) 61 (fun _ => 0)), (ror, cI (xT X) 4 (fun _ => 0))]) rfl ?_
              · exact rw0_s o j
              refine j_iinc C dX8_init_347 (q := 1) (v := (nI (o + 1))) rfl (kc_inc o) (by decide) (lv' := [(2, .int (nI (o + 1))), (0, .ref h8)]) rfl ?_
              refine j_goto C dX8_init_350 (tgt := 330) (by decide) ?_
              refine j_lv [1, 0] rfl ?_
              refine ih330 (o + 1) (by omega) ?_
              · omega
        · skip
          have q219 := (kn_nge (a := c) (b := 150) (by omega) (by omega)).mp q219
          have hc9 : c < 150 := by omega
          refine j_iconst C dX8_init_222 (v := (nI 0)) kc_i_0 ?_
          refine j_istore_n C dX8_init_223 rfl (by decide) (lv' := [(3, .int (nI 0)), (0, .ref h8), (2, .int (nI c))]) rfl ?_
          refine j_iconst C dX8_init_224 (v := (nI 0)) kc_i_0 ?_
          refine j_istore C dX8_init_225 (by decide) (lv' := [(4, .int (nI 0)), (3, .int (nI 0)), (0, .ref h8), (2, .int (nI c))]) rfl ?_
          refine j_lv [2, 3, 1, 0] rfl ?_
          suffices hc227 : ∀ (mm : Nat) (d k : Nat) (A : Nat → Int32), 150 - d < mm → (d ≤ 150) → (nk c d k) → (nrI c k A) → jj X 14 35683 227 [(0, .ref h8), (2, .int (nI c)), (3, .int (nI k)), (4, .int (nI d))] [] [(h8, cO 8 [.int (nI 0), .ref rv, .ref rn, .ref rnw, .ref rt, .ref rd, .int (nI 0), .int (nI 0), .ref rk, .ref rik, .ref rdk, .ref rre, .ref rle, .ref rhe, .ref rth, .ref rpa, .ref ror, .int (nI 0), .int (nI 0)]), (rv, cI (xT X) 450 cvec), (rn, cI (xT X) 600 A), (rnw, cI (xT X) 37 (fun _ => 0)), (rt, cI (xT X) 37 (fun _ => 0)), (rd, cI (xT X) 518 (fun _ => 0)), (rk, cI (xT X) 74 (fun _ => 0)), (rik, cZ (xT X) 2 (fun _ => 0)), (rdk, cZ (xT X) 15300 (fun _ => 0)), (rre, cZ (xT X) 9150 (fun _ => 0)), (rle, cZ (xT X) 9150 (fun _ => 0)), (rhe, cZ (xT X) 150 (fun _ => 0)), (rth, cZ (xT X) 150 (fun _ => 0)), (rpa, cI (xT X) 61 (fun _ => 0)), (ror, cI (xT X) 4 (fun _ => 0))] by
            refine hc227 _ 0 0 _ (Nat.lt_succ_self _) ?_ ?_ ?_
            · omega
            · exact nk_0 c
            · exact hr1
          intro mm
          induction mm with
          | zero => intro d k A hm; exact absurd hm (Nat.not_lt_zero _)
          | succ mm ih227 =>
            intro d k A hm227 hd hnk hr2
            refine j_iload C dX8_init_227 3 rfl ?_
            refine j_sipush C dX8_init_229 (v := (nI 150)) kc_s_150 ?_
            refine j_icmp_ge C dX8_init_232 (tgt := 322) (by decide) (fun q232 => ?_) (fun q232 => ?_)
            · skip
              have q232 := (kn_ge (a := d) (b := 150) (by omega) (by omega)).mp q232
              refine j_iinc C dX8_init_322 (q := 1) (v := (nI (c + 1))) rfl (kc_inc c) (by decide) (lv' := [(2, .int (nI (c + 1))), (0, .ref h8), (3, .int (nI k)), (4, .int (nI d))]) rfl ?_
              refine j_goto C dX8_init_325 (tgt := 215) (by decide) ?_
              refine j_lv [1, 0] rfl ?_
              refine ih215 (c + 1) _ (by omega) ?_ ?_
              · omega
              · have h9 := nk_end hc9 (show nk c 150 k from (show d = 150 by omega) ▸ hnk)
                subst h9
                exact nr_n hr2
            · skip
              have q232 := (kn_nge (a := d) (b := 150) (by omega) (by omega)).mp q232
              refine j_iconst C dX8_init_235 (v := (nI 0)) kc_i_0 ?_
              refine j_istore C dX8_init_236 (by decide) (lv' := [(5, .int (nI 0)), (0, .ref h8), (2, .int (nI c)), (3, .int (nI k)), (4, .int (nI d))]) rfl ?_
              refine j_iconst C dX8_init_238 (v := (nI 0)) kc_i_0 ?_
              refine j_istore C dX8_init_239 (by decide) (lv' := [(6, .int (nI 0)), (5, .int (nI 0)), (0, .ref h8), (2, .int (nI c)), (3, .int (nI k)), (4, .int (nI d))]) rfl ?_
              refine j_lv [2, 3, 4, 5, 1, 0] rfl ?_
              suffices hc241 : ∀ (mm : Nat) (i : Nat) (s9 : Int32), 3 - i < mm → (i ≤ 3) → (s9 = sm3 (fun k => (cvec (3 * c + k) - cvec (3 * d + k)) * (cvec (3 * c + k) - cvec (3 * d + k))) i) → jj X 14 35683 241 [(0, .ref h8), (2, .int (nI c)), (3, .int (nI k)), (4, .int (nI d)), (5, .int s9), (6, .int (nI i))] [] [(h8, cO 8 [.int (nI 0), .ref rv, .ref rn, .ref rnw, .ref rt, .ref rd, .int (nI 0), .int (nI 0), .ref rk, .ref rik, .ref rdk, .ref rre, .ref rle, .ref rhe, .ref rth, .ref rpa, .ref ror, .int (nI 0), .int (nI 0)]), (rv, cI (xT X) 450 cvec), (rn, cI (xT X) 600 A), (rnw, cI (xT X) 37 (fun _ => 0)), (rt, cI (xT X) 37 (fun _ => 0)), (rd, cI (xT X) 518 (fun _ => 0)), (rk, cI (xT X) 74 (fun _ => 0)), (rik, cZ (xT X) 2 (fun _ => 0)), (rdk, cZ (xT X) 15300 (fun _ => 0)), (rre, cZ (xT X) 9150 (fun _ => 0)), (rle, cZ (xT X) 9150 (fun _ => 0)), (rhe, cZ (xT X) 150 (fun _ => 0)), (rth, cZ (xT X) 150 (fun _ => 0)), (rpa, cI (xT X) 61 (fun _ => 0)), (ror, cI (xT X) 4 (fun _ => 0))] by
                refine hc241 _ 0 _ (Nat.lt_succ_self _) ?_ ?_
                · omega
                · rfl
              intro mm
              induction mm with
              | zero => intro i s9 hm; exact absurd hm (Nat.not_lt_zero _)
              | succ mm ih241 =>
                intro i s9 hm241 hi hs9
                refine j_iload C dX8_init_241 5 rfl ?_
                refine j_iconst C dX8_init_243 (v := (nI 3)) kc_i_3 ?_
                refine j_icmp_ge C dX8_init_244 (tgt := 289) (by decide) (fun q244 => ?_) (fun q244 => ?_)
                · skip
                  have q244 := (kn_ge (a := i) (b := 3) (by omega) (by omega)).mp q244
                  refine j_iload C dX8_init_289 3 rfl ?_
                  refine j_iload_n C dX8_init_291 1 rfl rfl ?_
                  refine j_icmp_eq C dX8_init_292 (tgt := 316) (by decide) (fun q292 => ?_) (fun q292 => ?_)
                  · skip
                    have q292 := (kn_eq (a := d) (b := c) (by omega) (by omega)).mp q292
                    have hms : nk c (d + 1) k := by rw [q292] at hnk ⊢; exact nk_miss hnk (nb_self hc9)
                    refine j_iinc C dX8_init_316 (q := 3) (v := (nI (d + 1))) rfl (kc_inc d) (by decide) (lv' := [(4, .int (nI (d + 1))), (0, .ref h8), (2, .int (nI c)), (3, .int (nI k)), (5, .int s9), (6, .int (nI i))]) rfl ?_
                    refine j_goto C dX8_init_319 (tgt := 227) (by decide) ?_
                    refine j_lv [1, 2, 3, 0] rfl ?_
                    refine ih227 (d + 1) k _ (by omega) ?_ ?_ ?_
                    · omega
                    · exact hms
                    · exact hr2
                  · skip
                    have q292 := (kn_neq (a := d) (b := c) (by omega) (by omega)).mp q292
                    refine j_iload C dX8_init_295 4 rfl ?_
                    refine j_iconst C dX8_init_297 (v := (nI 4)) kc_i_4 ?_
                    refine j_icmp_gt C dX8_init_298 (tgt := 316) (by decide) (fun q298 => ?_) (fun q298 => ?_)
                    · skip
                      have hms : nk c (d + 1) k := by
                        refine nk_miss hnk ?_
                        cases h9 : tb_nb c d with
                        | false => rfl
                        | true =>
                          have h8_ := (nb_dist hc9 (by omega) (fun e => q292 e.symm)).mpr h9
                          rw [hs9, show i = 3 by omega, sm3_3] at q298
                          exact absurd h8_ (Int32.not_le.mpr q298)
                      refine j_iinc C dX8_init_316 (q := 3) (v := (nI (d + 1))) rfl (kc_inc d) (by decide) (lv' := [(4, .int (nI (d + 1))), (0, .ref h8), (2, .int (nI c)), (3, .int (nI k)), (5, .int s9), (6, .int (nI i))]) rfl ?_
                      refine j_goto C dX8_init_319 (tgt := 227) (by decide) ?_
                      refine j_lv [1, 2, 3, 0] rfl ?_
                      refine ih227 (d + 1) k _ (by omega) ?_ ?_ ?_
                      · omega
                      · exact hms
                      · exact hr2
                    · skip
                      have hhit := nk_hit hc9 hnk (by
                        rw [hs9, show i = 3 by omega, sm3_3] at q298
                        exact (nb_dist hc9 (by omega) (fun e => q292 e.symm)).mp (Int32.not_lt.mp q298))
                      refine j_aload_n C dX8_init_301 0 rfl rfl ?_
                      refine j_get C (hin8) (ci := 8) rfl 2 (by decide) (hl13) 0 rfl (v := .ref rn) rfl dX8_init_302 ?_
                      refine j_iconst C dX8_init_305 (v := (nI 4)) kc_i_4 ?_
                      refine j_iload_n C dX8_init_306 1 rfl rfl ?_
                      refine j_imul C dX8_init_307 (v := (nI (4 * c))) (pk_mul _ _) ?_
                      refine j_iload_n C dX8_init_308 2 rfl rfl ?_
                      refine j_iadd C dX8_init_309 (v := (nI (4 * c + k))) (nI_add _ _) ?_
                      refine j_iload C dX8_init_310 3 rfl ?_
                      refine j_iastoreN C rw_ (4 * c + k) rfl 2 rfl (by have := hhit.1; omega) (by decide) (w' := [(h8, cO 8 [.int (nI 0), .ref rv, .ref rn, .ref rnw, .ref rt, .ref rd, .int (nI 0), .int (nI 0), .ref rk, .ref rik, .ref rdk, .ref rre, .ref rle, .ref rhe, .ref rth, .ref rpa, .ref ror, .int (nI 0), .int (nI 0)]), (rv, cI (xT X) 450 cvec), (rn, cI (xT X) 600 (upd A (4 * c + k) (nI d))), (rnw, cI (xT X) 37 (fun _ => 0)), (rt, cI (xT X) 37 (fun _ => 0)), (rd, cI (xT X) 518 (fun _ => 0)), (rk, cI (xT X) 74 (fun _ => 0)), (rik, cZ (xT X) 2 (fun _ => 0)), (rdk, cZ (xT X) 15300 (fun _ => 0)), (rre, cZ (xT X) 9150 (fun _ => 0)), (rle, cZ (xT X) 9150 (fun _ => 0)), (rhe, cZ (xT X) 150 (fun _ => 0)), (rth, cZ (xT X) 150 (fun _ => 0)), (rpa, cI (xT X) 61 (fun _ => 0)), (ror, cI (xT X) 4 (fun _ => 0))]) rfl dX8_init_312 ?_
                      refine j_iinc C dX8_init_313 (q := 2) (v := (nI (k + 1))) rfl (kc_inc k) (by decide) (lv' := [(3, .int (nI (k + 1))), (0, .ref h8), (2, .int (nI c)), (4, .int (nI d)), (5, .int s9), (6, .int (nI i))]) rfl ?_
                      refine j_iinc C dX8_init_316 (q := 3) (v := (nI (d + 1))) rfl (kc_inc d) (by decide) (lv' := [(4, .int (nI (d + 1))), (3, .int (nI (k + 1))), (0, .ref h8), (2, .int (nI c)), (5, .int s9), (6, .int (nI i))]) rfl ?_
                      refine j_goto C dX8_init_319 (tgt := 227) (by decide) ?_
                      refine j_lv [2, 3, 1, 0] rfl ?_
                      refine ih227 (d + 1) (k + 1) _ (by omega) ?_ ?_ ?_
                      · omega
                      · exact hhit.2.2
                      · exact nr_s hr2 hhit.1 hhit.2.1
                · skip
                  have q244 := (kn_nge (a := i) (b := 3) (by omega) (by omega)).mp q244
                  refine j_aload_n C dX8_init_247 0 rfl rfl ?_
                  refine j_get C (hin8) (ci := 8) rfl 1 (by decide) (hl7) 0 rfl (v := .ref rv) rfl dX8_init_248 ?_
                  refine j_iconst C dX8_init_251 (v := (nI 3)) kc_i_3 ?_
                  refine j_iload_n C dX8_init_252 1 rfl rfl ?_
                  refine j_imul C dX8_init_253 (v := (nI (3 * c))) (pk_mul _ _) ?_
                  refine j_iload C dX8_init_254 5 rfl ?_
                  refine j_iadd C dX8_init_256 (v := (nI (3 * c + i))) (nI_add _ _) ?_
                  refine j_ialoadN C (3 * c + i) rfl 1 rfl (by omega) (by decide) dX8_init_257 ?_
                  refine j_aload_n C dX8_init_258 0 rfl rfl ?_
                  refine j_get C (hin8) (ci := 8) rfl 1 (by decide) (hl7) 0 rfl (v := .ref rv) rfl dX8_init_259 ?_
                  refine j_iconst C dX8_init_262 (v := (nI 3)) kc_i_3 ?_
                  refine j_iload C dX8_init_263 3 rfl ?_
                  refine j_imul C dX8_init_265 (v := (nI (3 * d))) (pk_mul _ _) ?_
                  refine j_iload C dX8_init_266 5 rfl ?_
                  refine j_iadd C dX8_init_268 (v := (nI (3 * d + i))) (nI_add _ _) ?_
                  refine j_ialoadN C (3 * d + i) rfl 1 rfl (by omega) (by decide) dX8_init_269 ?_
                  refine j_isub C dX8_init_270 (v := ((cvec (3 * c + i)) - (cvec (3 * d + i)))) rfl ?_
                  refine j_istore C dX8_init_271 (by decide) (lv' := [(7, .int ((cvec (3 * c + i)) - (cvec (3 * d + i)))), (0, .ref h8), (2, .int (nI c)), (3, .int (nI k)), (4, .int (nI d)), (5, .int s9), (6, .int (nI i))]) rfl ?_
                  refine j_iload C dX8_init_273 5 rfl ?_
                  refine j_iload C dX8_init_275 0 rfl ?_
                  refine j_iload C dX8_init_277 0 rfl ?_
                  refine j_imul C dX8_init_279 (v := (((cvec (3 * c + i)) - (cvec (3 * d + i))) * ((cvec (3 * c + i)) - (cvec (3 * d + i))))) rfl ?_
                  refine j_iadd C dX8_init_280 (v := (s9 + (((cvec (3 * c + i)) - (cvec (3 * d + i))) * ((cvec (3 * c + i)) - (cvec (3 * d + i)))))) rfl ?_
                  refine j_istore C dX8_init_281 (by decide) (lv' := [(5, .int (s9 + (((cvec (3 * c + i)) - (cvec (3 * d + i))) * ((cvec (3 * c + i)) - (cvec (3 * d + i)))))), (7, .int ((cvec (3 * c + i)) - (cvec (3 * d + i)))), (0, .ref h8), (2, .int (nI c)), (3, .int (nI k)), (4, .int (nI d)), (6, .int (nI i))]) rfl ?_
                  refine j_iinc C dX8_init_283 (q := 6) (v := (nI (i + 1))) rfl (kc_inc i) (by decide) (lv' := [(6, .int (nI (i + 1))), (5, .int (s9 + (((cvec (3 * c + i)) - (cvec (3 * d + i))) * ((cvec (3 * c + i)) - (cvec (3 * d + i)))))), (7, .int ((cvec (3 * c + i)) - (cvec (3 * d + i)))), (0, .ref h8), (2, .int (nI c)), (3, .int (nI k)), (4, .int (nI d))]) rfl ?_
                  refine j_goto C dX8_init_286 (tgt := 241) (by decide) ?_
                  refine j_lv [3, 4, 5, 6, 1, 0] rfl ?_
                  refine ih241 (i + 1) _ (by omega) ?_ ?_
                  · omega
                  · rw [hs9]; rfl
    · skip
      refine j_bipush C dX8_init_132 (v := (-5)) kc_b_m5 ?_
      refine j_ieq (cx 0) (by exact cx_0) ?_
      refine j_istore_n C dX8_init_134 rfl (by decide) (lv' := [(3, .int (cx 0)), (0, .ref h8), (1, .int (nI n)), (2, .int (cx a))]) rfl ?_
      refine j_lv [1, 2, 3, 0] rfl ?_
      suffices hc135 : ∀ (mm : Nat) (b n : Nat) (V : Nat → Int32), 11 - b < mm → (b ≤ 11) → (n = cidx (121 * a + 11 * b)) → (pfV n V) → jj X 14 35683 135 [(0, .ref h8), (1, .int (nI n)), (2, .int (cx a)), (3, .int (cx b))] [] [(h8, cO 8 [.int (nI 0), .ref rv, .ref rn, .ref rnw, .ref rt, .ref rd, .int (nI 0), .int (nI 0), .ref rk, .ref rik, .ref rdk, .ref rre, .ref rle, .ref rhe, .ref rth, .ref rpa, .ref ror, .int (nI 0), .int (nI 0)]), (rv, cI (xT X) 450 V), (rn, cI (xT X) 600 (fun _ => 0)), (rnw, cI (xT X) 37 (fun _ => 0)), (rt, cI (xT X) 37 (fun _ => 0)), (rd, cI (xT X) 518 (fun _ => 0)), (rk, cI (xT X) 74 (fun _ => 0)), (rik, cZ (xT X) 2 (fun _ => 0)), (rdk, cZ (xT X) 15300 (fun _ => 0)), (rre, cZ (xT X) 9150 (fun _ => 0)), (rle, cZ (xT X) 9150 (fun _ => 0)), (rhe, cZ (xT X) 150 (fun _ => 0)), (rth, cZ (xT X) 150 (fun _ => 0)), (rpa, cI (xT X) 61 (fun _ => 0)), (ror, cI (xT X) 4 (fun _ => 0))] by
        refine hc135 _ 0 _ _ (Nat.lt_succ_self _) ?_ ?_ ?_
        · omega
        · exact hn1
        · exact hp1
      intro mm
      induction mm with
      | zero => intro b n V hm; exact absurd hm (Nat.not_lt_zero _)
      | succ mm ih135 =>
        intro b n V hm135 hb1 hn2 hp2
        refine j_iload_n C dX8_init_135 3 rfl rfl ?_
        refine j_iconst C dX8_init_136 (v := (nI 5)) kc_i_5 ?_
        refine j_icmp_gt C dX8_init_137 (tgt := 207) (by decide) (fun q137 => ?_) (fun q137 => ?_)
        · skip
          refine j_iinc C dX8_init_207 (q := 2) (v := (cx (a + 1))) rfl (cx_inc _) (by decide) (lv' := [(2, .int (cx (a + 1))), (0, .ref h8), (1, .int (nI n)), (3, .int (cx b))]) rfl ?_
          refine j_goto C dX8_init_210 (tgt := 127) (by decide) ?_
          refine j_lv [1, 2, 0] rfl ?_
          refine ih127 _ _ _ (by have := mt (cx_gt a (by omega)).mpr q129; omega) ?_ ?_ ?_
          · have := mt (cx_gt a (by omega)).mpr q129; omega
          · rw [hn2]; have := (cx_gt b (by omega)).mp q137; congr 1; omega
          · exact hp2
        · skip
          refine j_bipush C dX8_init_140 (v := (-5)) kc_b_m5 ?_
          refine j_ieq (cx 0) (by exact cx_0) ?_
          refine j_istore C dX8_init_142 (by decide) (lv' := [(4, .int (cx 0)), (0, .ref h8), (1, .int (nI n)), (2, .int (cx a)), (3, .int (cx b))]) rfl ?_
          refine j_lv [1, 2, 3, 4, 0] rfl ?_
          suffices hc144 : ∀ (mm : Nat) (c n : Nat) (V : Nat → Int32), 11 - c < mm → (c ≤ 11) → (n = cidx (121 * a + 11 * b + c)) → (pfV n V) → jj X 14 35683 144 [(0, .ref h8), (1, .int (nI n)), (2, .int (cx a)), (3, .int (cx b)), (4, .int (cx c))] [] [(h8, cO 8 [.int (nI 0), .ref rv, .ref rn, .ref rnw, .ref rt, .ref rd, .int (nI 0), .int (nI 0), .ref rk, .ref rik, .ref rdk, .ref rre, .ref rle, .ref rhe, .ref rth, .ref rpa, .ref ror, .int (nI 0), .int (nI 0)]), (rv, cI (xT X) 450 V), (rn, cI (xT X) 600 (fun _ => 0)), (rnw, cI (xT X) 37 (fun _ => 0)), (rt, cI (xT X) 37 (fun _ => 0)), (rd, cI (xT X) 518 (fun _ => 0)), (rk, cI (xT X) 74 (fun _ => 0)), (rik, cZ (xT X) 2 (fun _ => 0)), (rdk, cZ (xT X) 15300 (fun _ => 0)), (rre, cZ (xT X) 9150 (fun _ => 0)), (rle, cZ (xT X) 9150 (fun _ => 0)), (rhe, cZ (xT X) 150 (fun _ => 0)), (rth, cZ (xT X) 150 (fun _ => 0)), (rpa, cI (xT X) 61 (fun _ => 0)), (ror, cI (xT X) 4 (fun _ => 0))] by
            refine hc144 _ 0 _ _ (Nat.lt_succ_self _) ?_ ?_ ?_
            · omega
            · exact hn2
            · exact hp2
          intro mm
          induction mm with
          | zero => intro c n V hm; exact absurd hm (Nat.not_lt_zero _)
          | succ mm ih144 =>
            intro c n V hm144 hc1 hn3 hp3
            refine j_iload C dX8_init_144 4 rfl ?_
            refine j_iconst C dX8_init_146 (v := (nI 5)) kc_i_5 ?_
            refine j_icmp_gt C dX8_init_147 (tgt := 201) (by decide) (fun q147 => ?_) (fun q147 => ?_)
            · skip
              refine j_iinc C dX8_init_201 (q := 3) (v := (cx (b + 1))) rfl (cx_inc _) (by decide) (lv' := [(3, .int (cx (b + 1))), (0, .ref h8), (1, .int (nI n)), (2, .int (cx a)), (4, .int (cx c))]) rfl ?_
              refine j_goto C dX8_init_204 (tgt := 135) (by decide) ?_
              refine j_lv [1, 2, 3, 0] rfl ?_
              refine ih135 _ _ _ (by have := mt (cx_gt b (by omega)).mpr q137; omega) ?_ ?_ ?_
              · have := mt (cx_gt b (by omega)).mpr q137; omega
              · rw [hn3]; have := (cx_gt c (by omega)).mp q147; congr 1; omega
              · exact hp3
            · skip
              have hal : a < 11 := by have := mt (cx_gt a (by omega)).mpr q129; omega
              have hbl : b < 11 := by have := mt (cx_gt b (by omega)).mpr q137; omega
              have hcl : c < 11 := by have := mt (cx_gt c (by omega)).mpr q147; omega
              have htl : 121 * a + 11 * b + c < 1331 := by omega
              refine j_iload_n C dX8_init_150 2 rfl rfl ?_
              refine j_iload_n C dX8_init_151 3 rfl rfl ?_
              refine j_iload C dX8_init_152 4 rfl ?_
              refine j_callSR C (nA := 3) (As := [.int (cx a), .int (cx b), .int (cx c)]) (c_X8_isCellVector (xl X) (xT X) a b c (by exact hal) (by exact hbl) (by exact hcl)) gX8_init_X8_isCellVector rfl (by decide +kernel) rfl ⟨rfl, rfl⟩ (by decide) (by decide) [] rfl rfl (rest := []) rfl (Nat.le_of_ble_eq_true rfl) dX8_init_154 ?_
              rintro _ rfl
              show jj X 14 35683 157 [(0, .ref h8), (1, .int (nI n)), (2, .int (cx a)), (3, .int (cx b)), (4, .int (cx c))] [.int (bI (tisV (121 * a + 11 * b + c)))] [(h8, cO 8 [.int (nI 0), .ref rv, .ref rn, .ref rnw, .ref rt, .ref rd, .int (nI 0), .int (nI 0), .ref rk, .ref rik, .ref rdk, .ref rre, .ref rle, .ref rhe, .ref rth, .ref rpa, .ref ror, .int (nI 0), .int (nI 0)]), (rv, cI (xT X) 450 V), (rn, cI (xT X) 600 (fun _ => 0)), (rnw, cI (xT X) 37 (fun _ => 0)), (rt, cI (xT X) 37 (fun _ => 0)), (rd, cI (xT X) 518 (fun _ => 0)), (rk, cI (xT X) 74 (fun _ => 0)), (rik, cZ (xT X) 2 (fun _ => 0)), (rdk, cZ (xT X) 15300 (fun _ => 0)), (rre, cZ (xT X) 9150 (fun _ => 0)), (rle, cZ (xT X) 9150 (fun _ => 0)), (rhe, cZ (xT X) 150 (fun _ => 0)), (rth, cZ (xT X) 150 (fun _ => 0)), (rpa, cI (xT X) 61 (fun _ => 0)), (ror, cI (xT X) 4 (fun _ => 0))]
              refine j_if_eq C dX8_init_157 (tgt := 195) (by decide) (fun q157 => ?_) (fun q157 => ?_)
              · skip
                have q157 := (kb_eq).mp q157
                refine j_iinc C dX8_init_195 (q := 4) (v := (cx (c + 1))) rfl (cx_inc _) (by decide) (lv' := [(4, .int (cx (c + 1))), (0, .ref h8), (1, .int (nI n)), (2, .int (cx a)), (3, .int (cx b))]) rfl ?_
                refine j_goto C dX8_init_198 (tgt := 144) (by decide) ?_
                refine j_lv [1, 2, 3, 4, 0] rfl ?_
                refine ih144 _ _ _ (by omega) ?_ ?_ ?_
                · omega
                · rw [hn3, ← Nat.add_assoc, (tb_ix _ htl).1, q157]; rfl
                · exact hp3
              · skip
                have q157 := (kb_neq).mp q157
                have h2 := (tb_ix _ htl).2 q157
                have hlt : n < 150 := by rw [hn3]; exact h2.2
                have htab : ctab n = 121 * a + 11 * b + c := by rw [hn3]; exact h2.1
                refine j_aload_n C dX8_init_160 0 rfl rfl ?_
                refine j_get C (hin8) (ci := 8) rfl 1 (by decide) (hl7) 0 rfl (v := .ref rv) rfl dX8_init_161 ?_
                refine j_iconst C dX8_init_164 (v := (nI 3)) kc_i_3 ?_
                refine j_iload_n C dX8_init_165 1 rfl rfl ?_
                refine j_imul C dX8_init_166 (v := (nI (3 * n))) (pk_mul _ _) ?_
                refine j_iload_n C dX8_init_167 2 rfl rfl ?_
                refine j_iastoreN C rw_ (3 * n) rfl 1 rfl (by omega) (by decide) (w' := [(h8, cO 8 [.int (nI 0), .ref rv, .ref rn, .ref rnw, .ref rt, .ref rd, .int (nI 0), .int (nI 0), .ref rk, .ref rik, .ref rdk, .ref rre, .ref rle, .ref rhe, .ref rth, .ref rpa, .ref ror, .int (nI 0), .int (nI 0)]), (rv, cI (xT X) 450 (upd V (3 * n) (cx a))), (rn, cI (xT X) 600 (fun _ => 0)), (rnw, cI (xT X) 37 (fun _ => 0)), (rt, cI (xT X) 37 (fun _ => 0)), (rd, cI (xT X) 518 (fun _ => 0)), (rk, cI (xT X) 74 (fun _ => 0)), (rik, cZ (xT X) 2 (fun _ => 0)), (rdk, cZ (xT X) 15300 (fun _ => 0)), (rre, cZ (xT X) 9150 (fun _ => 0)), (rle, cZ (xT X) 9150 (fun _ => 0)), (rhe, cZ (xT X) 150 (fun _ => 0)), (rth, cZ (xT X) 150 (fun _ => 0)), (rpa, cI (xT X) 61 (fun _ => 0)), (ror, cI (xT X) 4 (fun _ => 0))]) rfl dX8_init_168 ?_
                refine j_aload_n C dX8_init_169 0 rfl rfl ?_
                refine j_get C (hin8) (ci := 8) rfl 1 (by decide) (hl7) 0 rfl (v := .ref rv) rfl dX8_init_170 ?_
                refine j_iconst C dX8_init_173 (v := (nI 3)) kc_i_3 ?_
                refine j_iload_n C dX8_init_174 1 rfl rfl ?_
                refine j_imul C dX8_init_175 (v := (nI (3 * n))) (pk_mul _ _) ?_
                refine j_iconst C dX8_init_176 (v := (nI 1)) kc_i_1 ?_
                refine j_iadd C dX8_init_177 (v := (nI (3 * n + 1))) (nI_add _ _) ?_
                refine j_iload_n C dX8_init_178 3 rfl rfl ?_
                refine j_iastoreN C rw_ (3 * n + 1) rfl 1 rfl (by omega) (by decide) (w' := [(h8, cO 8 [.int (nI 0), .ref rv, .ref rn, .ref rnw, .ref rt, .ref rd, .int (nI 0), .int (nI 0), .ref rk, .ref rik, .ref rdk, .ref rre, .ref rle, .ref rhe, .ref rth, .ref rpa, .ref ror, .int (nI 0), .int (nI 0)]), (rv, cI (xT X) 450 (upd (upd V (3 * n) (cx a)) (3 * n + 1) (cx b))), (rn, cI (xT X) 600 (fun _ => 0)), (rnw, cI (xT X) 37 (fun _ => 0)), (rt, cI (xT X) 37 (fun _ => 0)), (rd, cI (xT X) 518 (fun _ => 0)), (rk, cI (xT X) 74 (fun _ => 0)), (rik, cZ (xT X) 2 (fun _ => 0)), (rdk, cZ (xT X) 15300 (fun _ => 0)), (rre, cZ (xT X) 9150 (fun _ => 0)), (rle, cZ (xT X) 9150 (fun _ => 0)), (rhe, cZ (xT X) 150 (fun _ => 0)), (rth, cZ (xT X) 150 (fun _ => 0)), (rpa, cI (xT X) 61 (fun _ => 0)), (ror, cI (xT X) 4 (fun _ => 0))]) rfl dX8_init_179 ?_
                refine j_aload_n C dX8_init_180 0 rfl rfl ?_
                refine j_get C (hin8) (ci := 8) rfl 1 (by decide) (hl7) 0 rfl (v := .ref rv) rfl dX8_init_181 ?_
                refine j_iconst C dX8_init_184 (v := (nI 3)) kc_i_3 ?_
                refine j_iload_n C dX8_init_185 1 rfl rfl ?_
                refine j_imul C dX8_init_186 (v := (nI (3 * n))) (pk_mul _ _) ?_
                refine j_iconst C dX8_init_187 (v := (nI 2)) kc_i_2 ?_
                refine j_iadd C dX8_init_188 (v := (nI (3 * n + 2))) (nI_add _ _) ?_
                refine j_iload C dX8_init_189 4 rfl ?_
                refine j_iastoreN C rw_ (3 * n + 2) rfl 1 rfl (by omega) (by decide) (w' := [(h8, cO 8 [.int (nI 0), .ref rv, .ref rn, .ref rnw, .ref rt, .ref rd, .int (nI 0), .int (nI 0), .ref rk, .ref rik, .ref rdk, .ref rre, .ref rle, .ref rhe, .ref rth, .ref rpa, .ref ror, .int (nI 0), .int (nI 0)]), (rv, cI (xT X) 450 (upd (upd (upd V (3 * n) (cx a)) (3 * n + 1) (cx b)) (3 * n + 2) (cx c))), (rn, cI (xT X) 600 (fun _ => 0)), (rnw, cI (xT X) 37 (fun _ => 0)), (rt, cI (xT X) 37 (fun _ => 0)), (rd, cI (xT X) 518 (fun _ => 0)), (rk, cI (xT X) 74 (fun _ => 0)), (rik, cZ (xT X) 2 (fun _ => 0)), (rdk, cZ (xT X) 15300 (fun _ => 0)), (rre, cZ (xT X) 9150 (fun _ => 0)), (rle, cZ (xT X) 9150 (fun _ => 0)), (rhe, cZ (xT X) 150 (fun _ => 0)), (rth, cZ (xT X) 150 (fun _ => 0)), (rpa, cI (xT X) 61 (fun _ => 0)), (ror, cI (xT X) 4 (fun _ => 0))]) rfl dX8_init_191 ?_
                refine j_iinc C dX8_init_192 (q := 1) (v := (nI (n + 1))) rfl (kc_inc n) (by decide) (lv' := [(1, .int (nI (n + 1))), (0, .ref h8), (2, .int (cx a)), (3, .int (cx b)), (4, .int (cx c))]) rfl ?_
                refine j_iinc C dX8_init_195 (q := 4) (v := (cx (c + 1))) rfl (cx_inc _) (by decide) (lv' := [(4, .int (cx (c + 1))), (1, .int (nI (n + 1))), (0, .ref h8), (2, .int (cx a)), (3, .int (cx b))]) rfl ?_
                refine j_goto C dX8_init_198 (tgt := 144) (by decide) ?_
                refine j_lv [2, 1, 3, 4, 0] rfl ?_
                refine ih144 _ _ _ (by omega) ?_ ?_ ?_
                · omega
                · rw [hn3, ← Nat.add_assoc, (tb_ix _ htl).1, if_pos q157]
                · exact pfV_s hp3 htab hbl hcl
