/-! THE MODEL: what changes an object -/
theorem row_c {c p n c' : Nat} {s : Bool} {ob rq : Nat → Int32} : upd (rowF c p s n ob rq) 21 (nI c') = rowF c' p s n ob rq := by
  funext j; unfold upd rowF
  by_cases h : j = 21
  · subst h; simp
  · simp [h]
theorem row_p {c p n p' : Nat} {s : Bool} {ob rq : Nat → Int32} : upd (rowF c p s n ob rq) 22 (nI p') = rowF c p' s n ob rq := by
  funext j; unfold upd rowF
  by_cases h : j = 22
  · subst h; simp
  · simp [h]
theorem row_s {c p n : Nat} {s s' : Bool} {ob rq : Nat → Int32} : upd (rowF c p s n ob rq) 23 (bI s') = rowF c p s' n ob rq := by
  funext j; unfold upd rowF
  by_cases h : j = 23
  · subst h; simp
  · simp [h]
theorem row_n {c p n n' : Nat} {s : Bool} {ob rq : Nat → Int32} : upd (rowF c p s n ob rq) 24 (nI n') = rowF c p s n' ob rq := by
  funext j; unfold upd rowF
  by_cases h : j = 24
  · subst h; simp
  · simp [h]
theorem row_o {c p n k : Nat} {s : Bool} {ob rq : Nat → Int32} {x : Int32} (hk : k < 21) : upd (rowF c p s n ob rq) k x = rowF c p s n (upd ob k x) rq := by
  funext j; unfold upd rowF
  by_cases h : j = k
  · subst h; simp [hk]
  · simp [h]
theorem row_r {c p n k : Nat} {s : Bool} {ob rq : Nat → Int32} {x : Int32} : upd (rowF c p s n ob rq) (25 + k) x = rowF c p s n ob (upd rq k x) := by
  funext j; unfold upd rowF
  by_cases h : j = 25 + k
  · subst h
    rw [if_pos rfl, if_neg (by omega), if_neg (by omega), if_neg (by omega), if_neg (by omega), if_neg (by omega)]
    exact (if_pos (show 25 + k - 25 = k by omega)).symm
  · rw [if_neg h]
    by_cases h2 : j < 25
    · by_cases h3 : j < 21
      · rw [if_pos h3, if_pos h3]
      · rw [if_neg h3, if_neg h3]
        by_cases h4 : j = 21
        · rw [if_pos h4, if_pos h4]
        · rw [if_neg h4, if_neg h4]
          by_cases h5 : j = 22
          · rw [if_pos h5, if_pos h5]
          · rw [if_neg h5, if_neg h5]
            by_cases h6 : j = 23
            · rw [if_pos h6, if_pos h6]
            · rw [if_neg h6, if_neg h6, if_pos (by omega), if_pos (by omega)]
    · rw [if_neg (by omega), if_neg (by omega), if_neg (by omega), if_neg (by omega), if_neg (by omega), if_neg (by omega), if_neg (by omega), if_neg (by omega), if_neg (by omega), if_neg (by omega)]
      exact (if_neg (show ¬ j - 25 = k by omega)).symm
theorem co_upd {ob : Nat → Int32} {k : Nat} {x : Int32} (h : coI ob) (hk : k % 7 ≠ 6) : coI (upd ob k x) := fun o ho => by
  unfold upd; rw [if_neg (by omega)]; exact h o ho
theorem co_cone {ob : Nat → Int32} {k : Nat} {x : Int32} (h : coI ob) (hx : inR x 0 99 = true) : coI (upd ob k x) := fun o ho => by
  unfold upd
  by_cases e : 7 * o + 6 = k
  · rw [if_pos e]; exact hx
  · rw [if_neg e]; exact h o ho
set_option maxHeartbeats 4000000 in
set_option maxRecDepth 100000 in
/-- setDrift -/
theorem c_X8_setDrift (l : Launch) (T : jj_T) (h8 rv rn rnw rt rd rk rik rdk rre rle rhe rth rpa ror na nx : Nat) (rf bv bo : Int32) (ac ap an : Nat) (ash : Bool) (aob arq : Nat → Int32) (g9 D : Nat → Int32) (x y z u : Int32) (hna : na ≤ 14) (hnx : nx < 14) (hap : ap < 150) (hco : coI aob) : jM l T yX8_setDrift wsX8_setDrift { frames := 5, cells := 0, slots := 0, locals := 122 } [.ref h8, .int x, .int y, .int z, .int u] [(h8, cO 8 [.int rf, .ref rv, .ref rn, .ref rnw, .ref rt, .ref rd, .int (nI na), .int (nI nx), .ref rk, .ref rik, .ref rdk, .ref rre, .ref rle, .ref rhe, .ref rth, .ref rpa, .ref ror, .int bv, .int bo]), (rv, cI T 450 cvec), (rnw, cI T 37 (rowF ac ap ash an aob arq)), (rt, cI T 37 g9), (rd, cI T 518 D)] (fun v w1 => ∃ (k8 : Nat) (r : Int32), v = some (.int r) ∧ ((∃ g' : Nat → Int32, w1 = [(h8, cO 8 [.int (nI k8), .ref rv, .ref rn, .ref rnw, .ref rt, .ref rd, .int (nI na), .int (nI nx), .ref rk, .ref rik, .ref rdk, .ref rre, .ref rle, .ref rhe, .ref rth, .ref rpa, .ref ror, .int bv, .int bo]), (rv, cI T 450 cvec), (rnw, cI T 37 (rowF ac ap ash an aob arq)), (rt, cI T 37 g'), (rd, cI T 518 D)] ∧ ((k8 = 1 ∧ inR x 0 2 = false) ∨ (k8 = 2 ∧ inR x 0 2 = true ∧ (inR y (-(9 : Int)) 9 && (inR z (-(9 : Int)) 9 && inR u (-(9 : Int)) 9)) = false) ∨ (k8 = 3 ∧ ∃ o : Nat, x = nI o ∧ o < 3 ∧ (inR y (-(9 : Int)) 9 && (inR z (-(9 : Int)) 9 && inR u (-(9 : Int)) 9)) = true ∧ (!ash && br (upd (upd (upd aob (7 * o + 3) y) (7 * o + (3 + 1)) z) (7 * o + (3 + 2)) u) ap ac) = true))) ∨ (k8 = 0 ∧ ∃ o : Nat, w1 = [(h8, cO 8 [.int (nI 0), .ref rv, .ref rn, .ref rnw, .ref rt, .ref rd, .int (nI (if na < 14 then na + 1 else 14)), .int (nI ((nx + 1) % 14)), .ref rk, .ref rik, .ref rdk, .ref rre, .ref rle, .ref rhe, .ref rth, .ref rpa, .ref ror, .int bv, .int bo]), (rv, cI T 450 cvec), (rnw, cI T 37 (rowF ac ap ash an (upd (upd (upd aob (7 * o + 3) y) (7 * o + (3 + 1)) z) (7 * o + (3 + 2)) u) arq)), (rt, cI T 37 (rowF ac ap ash an (upd (upd (upd aob (7 * o + 3) y) (7 * o + (3 + 1)) z) (7 * o + (3 + 2)) u) arq)), (rd, cI T 518 (dgN D nx (rowF ac ap ash an aob arq)))] ∧ x = nI o ∧ o < 3 ∧ (inR y (-(9 : Int)) 9 && (inR z (-(9 : Int)) 9 && inR u (-(9 : Int)) 9)) = true ∧ (!ash && br (upd (upd (upd aob (7 * o + 3) y) (7 * o + (3 + 1)) z) (7 * o + (3 + 2)) u) ap ac) = false ∧ r = nI (fb_ct (fun c => br (upd (upd (upd aob (7 * o + 3) y) (7 * o + (3 + 1)) z) (7 * o + (3 + 2)) u) c ac) 150)))) := by
  refine jM.of (cc := cX8_setDrift) (maxL := 5) (ret := (some .int)) (by decide) rfl (Nat.le_of_ble_eq_true rfl) ?_
  intro X C rw_ hl hT hQ hnm
  subst hl; subst hT
  have hin8 : ∀ w ∈ u_ws RX8 TX8 19, w ∈ wsX8_setDrift := by decide +kernel
  have hl16 : Cond.fieldLink RX8 16 (TX8 3).1 (TX8 3).2.1 (TX8 3).2.2.1 ∈ wsX8_setDrift := by decide +kernel
  have hl19 : Cond.fieldLink RX8 19 (TX8 4).1 (TX8 4).2.1 (TX8 4).2.2.1 ∈ wsX8_setDrift := by decide +kernel
  show jj X 0 0 0 [(0, .ref h8), (1, .int x), (2, .int y), (3, .int z), (4, .int u)] [] [(h8, cO 8 [.int rf, .ref rv, .ref rn, .ref rnw, .ref rt, .ref rd, .int (nI na), .int (nI nx), .ref rk, .ref rik, .ref rdk, .ref rre, .ref rle, .ref rhe, .ref rth, .ref rpa, .ref ror, .int bv, .int bo]), (rv, cI (xT X) 450 cvec), (rnw, cI (xT X) 37 (rowF ac ap ash an aob arq)), (rt, cI (xT X) 37 g9), (rd, cI (xT X) 518 D)]
  refine j_aload_n C dX8_setDrift_0 0 rfl rfl ?_
  refine j_iload_n C dX8_setDrift_1 1 rfl rfl ?_
  refine j_callSR C (nA := 1) (As := [.int x]) (c_X8_isThird (xl X) (xT X) x ) gX8_setDrift_X8_isThird rfl (by decide +kernel) rfl ⟨rfl, rfl⟩ (by decide) (by decide) [] rfl rfl (rest := [.ref h8]) rfl (Nat.le_of_ble_eq_true rfl) dX8_setDrift_2 ?_
  rintro _ rfl
  show jj X 0 0 5 [(0, .ref h8), (1, .int x), (2, .int y), (3, .int z), (4, .int u)] [.int (bI (inR x 0 2)), .ref h8] [(h8, cO 8 [.int rf, .ref rv, .ref rn, .ref rnw, .ref rt, .ref rd, .int (nI na), .int (nI nx), .ref rk, .ref rik, .ref rdk, .ref rre, .ref rle, .ref rhe, .ref rth, .ref rpa, .ref ror, .int bv, .int bo]), (rv, cI (xT X) 450 cvec), (rnw, cI (xT X) 37 (rowF ac ap ash an aob arq)), (rt, cI (xT X) 37 g9), (rd, cI (xT X) 518 D)]
  refine j_if_ne C dX8_setDrift_5 (tgt := 12) (by decide) (fun q5 => ?_) (fun q5 => ?_)
  · skip
    have q5 := (kb_ne).mp q5
    refine j_iload_n C dX8_setDrift_12 2 rfl rfl ?_
    refine j_iload_n C dX8_setDrift_13 3 rfl rfl ?_
    refine j_iload C dX8_setDrift_14 4 rfl ?_
    refine j_bipush C dX8_setDrift_16 (v := (nI 9)) kc_b_9 ?_
    refine j_callSR C (nA := 4) (As := [.int y, .int z, .int u, .int (nI 9)]) (c_X8_areIn (xl X) (xT X) y z u 9 (by omega)) gX8_setDrift_X8_areIn rfl (by decide +kernel) rfl ⟨rfl, rfl⟩ (by decide) (by decide) [] rfl rfl (rest := [.ref h8]) rfl (Nat.le_of_ble_eq_true rfl) dX8_setDrift_18 ?_
    rintro _ rfl
    show jj X 0 0 21 [(0, .ref h8), (1, .int x), (2, .int y), (3, .int z), (4, .int u)] [.int (bI (inR y (-(9 : Int)) 9 && (inR z (-(9 : Int)) 9 && inR u (-(9 : Int)) 9))), .ref h8] [(h8, cO 8 [.int rf, .ref rv, .ref rn, .ref rnw, .ref rt, .ref rd, .int (nI na), .int (nI nx), .ref rk, .ref rik, .ref rdk, .ref rre, .ref rle, .ref rhe, .ref rth, .ref rpa, .ref ror, .int bv, .int bo]), (rv, cI (xT X) 450 cvec), (rnw, cI (xT X) 37 (rowF ac ap ash an aob arq)), (rt, cI (xT X) 37 g9), (rd, cI (xT X) 518 D)]
    refine j_if_ne C dX8_setDrift_21 (tgt := 28) (by decide) (fun q21 => ?_) (fun q21 => ?_)
    · skip
      have q21 := (kb_ne).mp q21
      refine j_iconst C dX8_setDrift_28 (v := (nI 0)) kc_i_0 ?_
      refine j_callVM C rw_ (nA := 1) (As := [.int (nI 0)]) (wr := [(rv, cI (xT X) 450 cvec), (rnw, cI (xT X) 37 (rowF ac ap ash an aob arq)), (rt, cI (xT X) 37 g9), (rd, cI (xT X) 518 D)]) (c_X8_refused_0 (xl X) (xT X) h8 rv rn rnw rt rd rk rik rdk rre rle rhe rth rpa ror na nx rf bv bo ) gX8_setDrift_X8_refused rfl (by decide +kernel) rfl (by decide) (by decide) [0] [1, 2, 3, 4] rfl rfl rfl rfl (by decide) 0 rfl rfl (rest := []) rfl (Nat.le_of_ble_eq_true rfl) dX8_setDrift_29 ?_
      rintro _ _ ⟨rfl, rfl⟩
      show jj X 0 0 32 [(0, .ref h8), (1, .int x), (2, .int y), (3, .int z), (4, .int u)] [.int (bI false)] [(rv, cI (xT X) 450 cvec), (rnw, cI (xT X) 37 (rowF ac ap ash an aob arq)), (rt, cI (xT X) 37 g9), (rd, cI (xT X) 518 D), (h8, cO 8 [.int (nI 0), .ref rv, .ref rn, .ref rnw, .ref rt, .ref rd, .int (nI na), .int (nI nx), .ref rk, .ref rik, .ref rdk, .ref rre, .ref rle, .ref rhe, .ref rth, .ref rpa, .ref ror, .int bv, .int bo])]
      refine j_if_eq C dX8_setDrift_32 (tgt := 37) (by decide) (fun _ => ?_) (fun h9 => absurd h9 (by decide +kernel))
      obtain ⟨o, rfl, hb_o⟩ := inR_N (b := 2) q5
      refine j_aload_n C dX8_setDrift_37 0 rfl rfl ?_
      refine j_get C (hin8) (ci := 8) rfl 3 (by decide) (hl16) 4 rfl (v := .ref rnw) rfl dX8_setDrift_38 ?_
      refine j_aload_n C dX8_setDrift_41 0 rfl rfl ?_
      refine j_get C (hin8) (ci := 8) rfl 4 (by decide) (hl19) 4 rfl (v := .ref rt) rfl dX8_setDrift_42 ?_
      refine j_callSM C rw_ (nA := 2) (As := [.ref rnw, .ref rt]) (wr := [(rv, cI (xT X) 450 cvec), (rd, cI (xT X) 518 D), (h8, cO 8 [.int (nI 0), .ref rv, .ref rn, .ref rnw, .ref rt, .ref rd, .int (nI na), .int (nI nx), .ref rk, .ref rik, .ref rdk, .ref rre, .ref rle, .ref rhe, .ref rth, .ref rpa, .ref ror, .int bv, .int bo])]) (c_X8_copy (xl X) (xT X) rnw rt (rowF ac ap ash an aob arq) g9 ) gX8_setDrift_X8_copy rfl (by decide +kernel) rfl (by decide) (by decide) [1, 2] [0, 3, 4] rfl rfl rfl rfl (by decide) (rest := []) rfl (Nat.le_of_ble_eq_true rfl) dX8_setDrift_45 ?_
      rintro _ _ ⟨rfl, rfl⟩
      show jj X 0 0 48 [(0, .ref h8), (1, .int (nI o)), (2, .int y), (3, .int z), (4, .int u)] [] [(rv, cI (xT X) 450 cvec), (rd, cI (xT X) 518 D), (h8, cO 8 [.int (nI 0), .ref rv, .ref rn, .ref rnw, .ref rt, .ref rd, .int (nI na), .int (nI nx), .ref rk, .ref rik, .ref rdk, .ref rre, .ref rle, .ref rhe, .ref rth, .ref rpa, .ref ror, .int bv, .int bo]), (rnw, cI (xT X) 37 (rowF ac ap ash an aob arq)), (rt, cI (xT X) 37 (rowF ac ap ash an aob arq))]
      refine j_aload_n C dX8_setDrift_48 0 rfl rfl ?_
      refine j_get C (hin8) (ci := 8) rfl 4 (by decide) (hl19) 2 rfl (v := .ref rt) rfl dX8_setDrift_49 ?_
      refine j_bipush C dX8_setDrift_52 (v := (nI 7)) kc_b_7 ?_
      refine j_iload_n C dX8_setDrift_54 1 rfl rfl ?_
      refine j_imul C dX8_setDrift_55 (v := (nI (7 * o))) (pk_mul _ _) ?_
      refine j_iconst C dX8_setDrift_56 (v := (nI 3)) kc_i_3 ?_
      refine j_iadd C dX8_setDrift_57 (v := (nI (7 * o + 3))) (nI_add _ _) ?_
      refine j_iload_n C dX8_setDrift_58 2 rfl rfl ?_
      refine j_iastoreN C rw_ (7 * o + 3) rfl 4 rfl (by omega) (by decide) (w' := [(rv, cI (xT X) 450 cvec), (rd, cI (xT X) 518 D), (h8, cO 8 [.int (nI 0), .ref rv, .ref rn, .ref rnw, .ref rt, .ref rd, .int (nI na), .int (nI nx), .ref rk, .ref rik, .ref rdk, .ref rre, .ref rle, .ref rhe, .ref rth, .ref rpa, .ref ror, .int bv, .int bo]), (rnw, cI (xT X) 37 (rowF ac ap ash an aob arq)), (rt, cI (xT X) 37 (upd (rowF ac ap ash an aob arq) (7 * o + 3) y))]) rfl dX8_setDrift_59 ?_
      rw [row_o (k := 7 * o + 3) (by omega)]
      refine j_aload_n C dX8_setDrift_60 0 rfl rfl ?_
      refine j_get C (hin8) (ci := 8) rfl 4 (by decide) (hl19) 2 rfl (v := .ref rt) rfl dX8_setDrift_61 ?_
      refine j_bipush C dX8_setDrift_64 (v := (nI 7)) kc_b_7 ?_
      refine j_iload_n C dX8_setDrift_66 1 rfl rfl ?_
      refine j_imul C dX8_setDrift_67 (v := (nI (7 * o))) (pk_mul _ _) ?_
      refine j_iconst C dX8_setDrift_68 (v := (nI 4)) kc_i_4 ?_
      refine j_iadd C dX8_setDrift_69 (v := (nI (7 * o + 4))) (nI_add _ _) ?_
      refine j_iload_n C dX8_setDrift_70 3 rfl rfl ?_
      refine j_iastoreN C rw_ (7 * o + 4) rfl 4 rfl (by omega) (by decide) (w' := [(rv, cI (xT X) 450 cvec), (rd, cI (xT X) 518 D), (h8, cO 8 [.int (nI 0), .ref rv, .ref rn, .ref rnw, .ref rt, .ref rd, .int (nI na), .int (nI nx), .ref rk, .ref rik, .ref rdk, .ref rre, .ref rle, .ref rhe, .ref rth, .ref rpa, .ref ror, .int bv, .int bo]), (rnw, cI (xT X) 37 (rowF ac ap ash an aob arq)), (rt, cI (xT X) 37 (upd (rowF ac ap ash an (upd aob (7 * o + 3) y) arq) (7 * o + 4) z))]) rfl dX8_setDrift_71 ?_
      rw [row_o (k := 7 * o + 4) (by omega)]
      refine j_aload_n C dX8_setDrift_72 0 rfl rfl ?_
      refine j_get C (hin8) (ci := 8) rfl 4 (by decide) (hl19) 2 rfl (v := .ref rt) rfl dX8_setDrift_73 ?_
      refine j_bipush C dX8_setDrift_76 (v := (nI 7)) kc_b_7 ?_
      refine j_iload_n C dX8_setDrift_78 1 rfl rfl ?_
      refine j_imul C dX8_setDrift_79 (v := (nI (7 * o))) (pk_mul _ _) ?_
      refine j_iconst C dX8_setDrift_80 (v := (nI 5)) kc_i_5 ?_
      refine j_iadd C dX8_setDrift_81 (v := (nI (7 * o + 5))) (nI_add _ _) ?_
      refine j_iload C dX8_setDrift_82 4 rfl ?_
      refine j_iastoreN C rw_ (7 * o + 5) rfl 4 rfl (by omega) (by decide) (w' := [(rv, cI (xT X) 450 cvec), (rd, cI (xT X) 518 D), (h8, cO 8 [.int (nI 0), .ref rv, .ref rn, .ref rnw, .ref rt, .ref rd, .int (nI na), .int (nI nx), .ref rk, .ref rik, .ref rdk, .ref rre, .ref rle, .ref rhe, .ref rth, .ref rpa, .ref ror, .int bv, .int bo]), (rnw, cI (xT X) 37 (rowF ac ap ash an aob arq)), (rt, cI (xT X) 37 (upd (rowF ac ap ash an (upd (upd aob (7 * o + 3) y) (7 * o + 4) z) arq) (7 * o + 5) u))]) rfl dX8_setDrift_84 ?_
      rw [row_o (k := 7 * o + 5) (by omega)]
      show jj X 0 0 85 [(0, .ref h8), (1, .int (nI o)), (2, .int y), (3, .int z), (4, .int u)] [] [(rv, cI (xT X) 450 cvec), (rd, cI (xT X) 518 D), (h8, cO 8 [.int (nI 0), .ref rv, .ref rn, .ref rnw, .ref rt, .ref rd, .int (nI na), .int (nI nx), .ref rk, .ref rik, .ref rdk, .ref rre, .ref rle, .ref rhe, .ref rth, .ref rpa, .ref ror, .int bv, .int bo]), (rnw, cI (xT X) 37 (rowF ac ap ash an aob arq)), (rt, cI (xT X) 37 (rowF ac ap ash an (upd (upd (upd aob (7 * o + 3) y) (7 * o + (3 + 1)) z) (7 * o + (3 + 2)) u) arq))]
      refine j_aload_n C dX8_setDrift_85 0 rfl rfl ?_
      have hco2 : coI (upd (upd (upd aob (7 * o + 3) y) (7 * o + (3 + 1)) z) (7 * o + (3 + 2)) u) := co_upd (co_upd (co_upd hco (by omega)) (by omega)) (by omega)
      rcases Bool.eq_false_or_eq_true (!ash && br (upd (upd (upd aob (7 * o + 3) y) (7 * o + (3 + 1)) z) (7 * o + (3 + 2)) u) ap ac) with hlit | hlit
      · skip
        refine j_callVM C rw_ (nA := 0) (As := []) (wr := []) (c_X8_changed_3 (xl X) (xT X) h8 rv rn rnw rt rd rk rik rdk rre rle rhe rth rpa ror na nx (nI 0) bv bo ac ap an ash aob arq ac ap an ash (upd (upd (upd aob (7 * o + 3) y) (7 * o + (3 + 1)) z) (7 * o + (3 + 2)) u) arq D (by exact hna) (by exact hnx) (by exact hap) (by exact hco2) (by exact hlit)) gX8_setDrift_X8_changed rfl (by decide +kernel) rfl (by decide) (by decide) [2, 0, 3, 4, 1] [] rfl rfl rfl rfl (by decide) 2 rfl rfl (rest := []) rfl (Nat.le_of_ble_eq_true rfl) dX8_setDrift_86 ?_
        rintro _ _ ⟨rfl, rfl⟩
        show jj X 0 0 89 [(0, .ref h8), (1, .int (nI o)), (2, .int y), (3, .int z), (4, .int u)] [.int (nI 0)] [(h8, cO 8 [.int (nI 3), .ref rv, .ref rn, .ref rnw, .ref rt, .ref rd, .int (nI na), .int (nI nx), .ref rk, .ref rik, .ref rdk, .ref rre, .ref rle, .ref rhe, .ref rth, .ref rpa, .ref ror, .int bv, .int bo]), (rv, cI (xT X) 450 cvec), (rnw, cI (xT X) 37 (rowF ac ap ash an aob arq)), (rt, cI (xT X) 37 (rowF ac ap ash an (upd (upd (upd aob (7 * o + 3) y) (7 * o + (3 + 1)) z) (7 * o + (3 + 2)) u) arq)), (rd, cI (xT X) 518 D)]
        refine j_iretM C rw_ hQ (by decide) (by decide) rfl ?_ dX8_setDrift_89
        exact ⟨3, _, rfl, Or.inl ⟨_, rfl, Or.inr (Or.inr (⟨rfl, o, rfl, by omega, q21, hlit⟩))⟩⟩
      · skip
        refine j_callVM C rw_ (nA := 0) (As := []) (wr := []) (c_X8_changed_0 (xl X) (xT X) h8 rv rn rnw rt rd rk rik rdk rre rle rhe rth rpa ror na nx (nI 0) bv bo ac ap an ash aob arq ac ap an ash (upd (upd (upd aob (7 * o + 3) y) (7 * o + (3 + 1)) z) (7 * o + (3 + 2)) u) arq D (by exact hna) (by exact hnx) (by exact hap) (by exact hco2) (by exact hlit)) gX8_setDrift_X8_changed rfl (by decide +kernel) rfl (by decide) (by decide) [2, 0, 3, 4, 1] [] rfl rfl rfl rfl (by decide) 2 rfl rfl (rest := []) rfl (Nat.le_of_ble_eq_true rfl) dX8_setDrift_86 ?_
        rintro _ _ ⟨rfl, rfl⟩
        show jj X 0 0 89 [(0, .ref h8), (1, .int (nI o)), (2, .int y), (3, .int z), (4, .int u)] [.int (nI (fb_ct (fun c => br (upd (upd (upd aob (7 * o + 3) y) (7 * o + (3 + 1)) z) (7 * o + (3 + 2)) u) c ac) 150))] [(h8, cO 8 [.int (nI 0), .ref rv, .ref rn, .ref rnw, .ref rt, .ref rd, .int (nI (if na < 14 then na + 1 else 14)), .int (nI ((nx + 1) % 14)), .ref rk, .ref rik, .ref rdk, .ref rre, .ref rle, .ref rhe, .ref rth, .ref rpa, .ref ror, .int bv, .int bo]), (rv, cI (xT X) 450 cvec), (rnw, cI (xT X) 37 (rowF ac ap ash an (upd (upd (upd aob (7 * o + 3) y) (7 * o + (3 + 1)) z) (7 * o + (3 + 2)) u) arq)), (rt, cI (xT X) 37 (rowF ac ap ash an (upd (upd (upd aob (7 * o + 3) y) (7 * o + (3 + 1)) z) (7 * o + (3 + 2)) u) arq)), (rd, cI (xT X) 518 (dgN D nx (rowF ac ap ash an aob arq)))]
        refine j_iretM C rw_ hQ (by decide) (by decide) rfl ?_ dX8_setDrift_89
        exact ⟨0, _, rfl, Or.inr ⟨rfl, o, rfl, rfl, by omega, q21, hlit, rfl⟩⟩
    · skip
      have q21 := (kb_nne).mp q21
      refine j_iconst C dX8_setDrift_24 (v := (nI 2)) kc_i_2 ?_
      refine j_goto C dX8_setDrift_25 (tgt := 29) (by decide) ?_
      refine j_callVM C rw_ (nA := 1) (As := [.int (nI 2)]) (wr := [(rv, cI (xT X) 450 cvec), (rnw, cI (xT X) 37 (rowF ac ap ash an aob arq)), (rt, cI (xT X) 37 g9), (rd, cI (xT X) 518 D)]) (c_X8_refused_s (xl X) (xT X) h8 rv rn rnw rt rd rk rik rdk rre rle rhe rth rpa ror na nx rf bv bo 2 (by omega) (by omega)) gX8_setDrift_X8_refused rfl (by decide +kernel) rfl (by decide) (by decide) [0] [1, 2, 3, 4] rfl rfl rfl rfl (by decide) 0 rfl rfl (rest := []) rfl (Nat.le_of_ble_eq_true rfl) dX8_setDrift_29 ?_
      rintro _ _ ⟨rfl, rfl⟩
      show jj X 0 0 32 [(0, .ref h8), (1, .int x), (2, .int y), (3, .int z), (4, .int u)] [.int (bI true)] [(rv, cI (xT X) 450 cvec), (rnw, cI (xT X) 37 (rowF ac ap ash an aob arq)), (rt, cI (xT X) 37 g9), (rd, cI (xT X) 518 D), (h8, cO 8 [.int (nI 2), .ref rv, .ref rn, .ref rnw, .ref rt, .ref rd, .int (nI na), .int (nI nx), .ref rk, .ref rik, .ref rdk, .ref rre, .ref rle, .ref rhe, .ref rth, .ref rpa, .ref ror, .int bv, .int bo])]
      refine j_if_eq C dX8_setDrift_32 (tgt := 37) (by decide) (fun h9 => absurd h9 (by decide +kernel)) (fun _ => ?_)
      refine j_iconst C dX8_setDrift_35 (v := (nI 0)) kc_i_0 ?_
      refine j_perm C (w' := [(h8, cO 8 [.int (nI 2), .ref rv, .ref rn, .ref rnw, .ref rt, .ref rd, .int (nI na), .int (nI nx), .ref rk, .ref rik, .ref rdk, .ref rre, .ref rle, .ref rhe, .ref rth, .ref rpa, .ref ror, .int bv, .int bo]), (rv, cI (xT X) 450 cvec), (rnw, cI (xT X) 37 (rowF ac ap ash an aob arq)), (rt, cI (xT X) 37 g9), (rd, cI (xT X) 518 D)]) [4, 0, 1, 2, 3] rfl rfl ?_
      refine j_iretM C rw_ hQ (by decide) (by decide) rfl ?_ dX8_setDrift_36
      exact ⟨2, _, rfl, Or.inl ⟨_, rfl, Or.inr (Or.inl ⟨rfl, q5, q21⟩)⟩⟩
  · skip
    have q5 := (kb_nne).mp q5
    refine j_iconst C dX8_setDrift_8 (v := (nI 1)) kc_i_1 ?_
    refine j_goto C dX8_setDrift_9 (tgt := 29) (by decide) ?_
    refine j_callVM C rw_ (nA := 1) (As := [.int (nI 1)]) (wr := [(rv, cI (xT X) 450 cvec), (rnw, cI (xT X) 37 (rowF ac ap ash an aob arq)), (rt, cI (xT X) 37 g9), (rd, cI (xT X) 518 D)]) (c_X8_refused_s (xl X) (xT X) h8 rv rn rnw rt rd rk rik rdk rre rle rhe rth rpa ror na nx rf bv bo 1 (by omega) (by omega)) gX8_setDrift_X8_refused rfl (by decide +kernel) rfl (by decide) (by decide) [0] [1, 2, 3, 4] rfl rfl rfl rfl (by decide) 0 rfl rfl (rest := []) rfl (Nat.le_of_ble_eq_true rfl) dX8_setDrift_29 ?_
    rintro _ _ ⟨rfl, rfl⟩
    show jj X 0 0 32 [(0, .ref h8), (1, .int x), (2, .int y), (3, .int z), (4, .int u)] [.int (bI true)] [(rv, cI (xT X) 450 cvec), (rnw, cI (xT X) 37 (rowF ac ap ash an aob arq)), (rt, cI (xT X) 37 g9), (rd, cI (xT X) 518 D), (h8, cO 8 [.int (nI 1), .ref rv, .ref rn, .ref rnw, .ref rt, .ref rd, .int (nI na), .int (nI nx), .ref rk, .ref rik, .ref rdk, .ref rre, .ref rle, .ref rhe, .ref rth, .ref rpa, .ref ror, .int bv, .int bo])]
    refine j_if_eq C dX8_setDrift_32 (tgt := 37) (by decide) (fun h9 => absurd h9 (by decide +kernel)) (fun _ => ?_)
    refine j_iconst C dX8_setDrift_35 (v := (nI 0)) kc_i_0 ?_
    refine j_perm C (w' := [(h8, cO 8 [.int (nI 1), .ref rv, .ref rn, .ref rnw, .ref rt, .ref rd, .int (nI na), .int (nI nx), .ref rk, .ref rik, .ref rdk, .ref rre, .ref rle, .ref rhe, .ref rth, .ref rpa, .ref ror, .int bv, .int bo]), (rv, cI (xT X) 450 cvec), (rnw, cI (xT X) 37 (rowF ac ap ash an aob arq)), (rt, cI (xT X) 37 g9), (rd, cI (xT X) 518 D)]) [4, 0, 1, 2, 3] rfl rfl ?_
    refine j_iretM C rw_ hQ (by decide) (by decide) rfl ?_ dX8_setDrift_36
    exact ⟨1, _, rfl, Or.inl ⟨_, rfl, Or.inl ⟨rfl, q5⟩⟩⟩

set_option maxHeartbeats 4000000 in
set_option maxRecDepth 100000 in
/-- setCone -/
theorem c_X8_setCone (l : Launch) (T : jj_T) (h8 rv rn rnw rt rd rk rik rdk rre rle rhe rth rpa ror na nx : Nat) (rf bv bo : Int32) (ac ap an : Nat) (ash : Bool) (aob arq : Nat → Int32) (g9 D : Nat → Int32) (x y : Int32) (hna : na ≤ 14) (hnx : nx < 14) (hap : ap < 150) (hco : coI aob) : jM l T yX8_setCone wsX8_setCone { frames := 5, cells := 0, slots := 0, locals := 122 } [.ref h8, .int x, .int y] [(h8, cO 8 [.int rf, .ref rv, .ref rn, .ref rnw, .ref rt, .ref rd, .int (nI na), .int (nI nx), .ref rk, .ref rik, .ref rdk, .ref rre, .ref rle, .ref rhe, .ref rth, .ref rpa, .ref ror, .int bv, .int bo]), (rv, cI T 450 cvec), (rnw, cI T 37 (rowF ac ap ash an aob arq)), (rt, cI T 37 g9), (rd, cI T 518 D)] (fun v w1 => ∃ (k8 : Nat) (r : Int32), v = some (.int r) ∧ ((∃ g' : Nat → Int32, w1 = [(h8, cO 8 [.int (nI k8), .ref rv, .ref rn, .ref rnw, .ref rt, .ref rd, .int (nI na), .int (nI nx), .ref rk, .ref rik, .ref rdk, .ref rre, .ref rle, .ref rhe, .ref rth, .ref rpa, .ref ror, .int bv, .int bo]), (rv, cI T 450 cvec), (rnw, cI T 37 (rowF ac ap ash an aob arq)), (rt, cI T 37 g'), (rd, cI T 518 D)] ∧ ((k8 = 1 ∧ inR x 0 2 = false) ∨ (k8 = 2 ∧ inR x 0 2 = true ∧ inR y 0 99 = false) ∨ (k8 = 3 ∧ ∃ o : Nat, x = nI o ∧ o < 3 ∧ inR y 0 99 = true ∧ (!ash && br (upd aob (7 * o + 6) y) ap ac) = true))) ∨ (k8 = 0 ∧ ∃ o : Nat, w1 = [(h8, cO 8 [.int (nI 0), .ref rv, .ref rn, .ref rnw, .ref rt, .ref rd, .int (nI (if na < 14 then na + 1 else 14)), .int (nI ((nx + 1) % 14)), .ref rk, .ref rik, .ref rdk, .ref rre, .ref rle, .ref rhe, .ref rth, .ref rpa, .ref ror, .int bv, .int bo]), (rv, cI T 450 cvec), (rnw, cI T 37 (rowF ac ap ash an (upd aob (7 * o + 6) y) arq)), (rt, cI T 37 (rowF ac ap ash an (upd aob (7 * o + 6) y) arq)), (rd, cI T 518 (dgN D nx (rowF ac ap ash an aob arq)))] ∧ x = nI o ∧ o < 3 ∧ inR y 0 99 = true ∧ (!ash && br (upd aob (7 * o + 6) y) ap ac) = false ∧ r = nI (fb_ct (fun c => br (upd aob (7 * o + 6) y) c ac) 150)))) := by
  refine jM.of (cc := cX8_setCone) (maxL := 3) (ret := (some .int)) (by decide) rfl (Nat.le_of_ble_eq_true rfl) ?_
  intro X C rw_ hl hT hQ hnm
  subst hl; subst hT
  have hin8 : ∀ w ∈ u_ws RX8 TX8 19, w ∈ wsX8_setCone := by decide +kernel
  have hl16 : Cond.fieldLink RX8 16 (TX8 3).1 (TX8 3).2.1 (TX8 3).2.2.1 ∈ wsX8_setCone := by decide +kernel
  have hl19 : Cond.fieldLink RX8 19 (TX8 4).1 (TX8 4).2.1 (TX8 4).2.2.1 ∈ wsX8_setCone := by decide +kernel
  show jj X 0 0 0 [(0, .ref h8), (1, .int x), (2, .int y)] [] [(h8, cO 8 [.int rf, .ref rv, .ref rn, .ref rnw, .ref rt, .ref rd, .int (nI na), .int (nI nx), .ref rk, .ref rik, .ref rdk, .ref rre, .ref rle, .ref rhe, .ref rth, .ref rpa, .ref ror, .int bv, .int bo]), (rv, cI (xT X) 450 cvec), (rnw, cI (xT X) 37 (rowF ac ap ash an aob arq)), (rt, cI (xT X) 37 g9), (rd, cI (xT X) 518 D)]
  refine j_aload_n C dX8_setCone_0 0 rfl rfl ?_
  refine j_iload_n C dX8_setCone_1 1 rfl rfl ?_
  refine j_callSR C (nA := 1) (As := [.int x]) (c_X8_isThird (xl X) (xT X) x ) gX8_setCone_X8_isThird rfl (by decide +kernel) rfl ⟨rfl, rfl⟩ (by decide) (by decide) [] rfl rfl (rest := [.ref h8]) rfl (Nat.le_of_ble_eq_true rfl) dX8_setCone_2 ?_
  rintro _ rfl
  show jj X 0 0 5 [(0, .ref h8), (1, .int x), (2, .int y)] [.int (bI (inR x 0 2)), .ref h8] [(h8, cO 8 [.int rf, .ref rv, .ref rn, .ref rnw, .ref rt, .ref rd, .int (nI na), .int (nI nx), .ref rk, .ref rik, .ref rdk, .ref rre, .ref rle, .ref rhe, .ref rth, .ref rpa, .ref ror, .int bv, .int bo]), (rv, cI (xT X) 450 cvec), (rnw, cI (xT X) 37 (rowF ac ap ash an aob arq)), (rt, cI (xT X) 37 g9), (rd, cI (xT X) 518 D)]
  refine j_if_ne C dX8_setCone_5 (tgt := 12) (by decide) (fun q5 => ?_) (fun q5 => ?_)
  · skip
    have q5 := (kb_ne).mp q5
    refine j_iload_n C dX8_setCone_12 2 rfl rfl ?_
    refine j_i2l C dX8_setCone_13 (v := y.toInt64) rfl ?_
    refine j_lconst C dX8_setCone_14 (v := lN 0) rfl ?_
    refine j_ldc2l C dX8_setCone_15 (v := lN 99) (by decide +kernel) ?_
    refine j_callSR C (nA := 3) (As := [.long y.toInt64, .long (lN 0), .long (lN 99)]) (c_X8_in (xl X) (xT X) y (lN 0) (lN 99) (0) (99) (by decide +kernel) (by decide +kernel)) gX8_setCone_X8_in rfl (by decide +kernel) rfl ⟨rfl, rfl⟩ (by decide) (by decide) [] rfl rfl (rest := [.ref h8]) rfl (Nat.le_of_ble_eq_true rfl) dX8_setCone_18 ?_
    rintro _ rfl
    show jj X 0 0 21 [(0, .ref h8), (1, .int x), (2, .int y)] [.int (bI (inR y (0) (99))), .ref h8] [(h8, cO 8 [.int rf, .ref rv, .ref rn, .ref rnw, .ref rt, .ref rd, .int (nI na), .int (nI nx), .ref rk, .ref rik, .ref rdk, .ref rre, .ref rle, .ref rhe, .ref rth, .ref rpa, .ref ror, .int bv, .int bo]), (rv, cI (xT X) 450 cvec), (rnw, cI (xT X) 37 (rowF ac ap ash an aob arq)), (rt, cI (xT X) 37 g9), (rd, cI (xT X) 518 D)]
    refine j_if_ne C dX8_setCone_21 (tgt := 28) (by decide) (fun q21 => ?_) (fun q21 => ?_)
    · skip
      have q21 := (kb_ne).mp q21
      refine j_iconst C dX8_setCone_28 (v := (nI 0)) kc_i_0 ?_
      refine j_callVM C rw_ (nA := 1) (As := [.int (nI 0)]) (wr := [(rv, cI (xT X) 450 cvec), (rnw, cI (xT X) 37 (rowF ac ap ash an aob arq)), (rt, cI (xT X) 37 g9), (rd, cI (xT X) 518 D)]) (c_X8_refused_0 (xl X) (xT X) h8 rv rn rnw rt rd rk rik rdk rre rle rhe rth rpa ror na nx rf bv bo ) gX8_setCone_X8_refused rfl (by decide +kernel) rfl (by decide) (by decide) [0] [1, 2, 3, 4] rfl rfl rfl rfl (by decide) 0 rfl rfl (rest := []) rfl (Nat.le_of_ble_eq_true rfl) dX8_setCone_29 ?_
      rintro _ _ ⟨rfl, rfl⟩
      show jj X 0 0 32 [(0, .ref h8), (1, .int x), (2, .int y)] [.int (bI false)] [(rv, cI (xT X) 450 cvec), (rnw, cI (xT X) 37 (rowF ac ap ash an aob arq)), (rt, cI (xT X) 37 g9), (rd, cI (xT X) 518 D), (h8, cO 8 [.int (nI 0), .ref rv, .ref rn, .ref rnw, .ref rt, .ref rd, .int (nI na), .int (nI nx), .ref rk, .ref rik, .ref rdk, .ref rre, .ref rle, .ref rhe, .ref rth, .ref rpa, .ref ror, .int bv, .int bo])]
      refine j_if_eq C dX8_setCone_32 (tgt := 37) (by decide) (fun _ => ?_) (fun h9 => absurd h9 (by decide +kernel))
      obtain ⟨o, rfl, hb_o⟩ := inR_N (b := 2) q5
      refine j_aload_n C dX8_setCone_37 0 rfl rfl ?_
      refine j_get C (hin8) (ci := 8) rfl 3 (by decide) (hl16) 4 rfl (v := .ref rnw) rfl dX8_setCone_38 ?_
      refine j_aload_n C dX8_setCone_41 0 rfl rfl ?_
      refine j_get C (hin8) (ci := 8) rfl 4 (by decide) (hl19) 4 rfl (v := .ref rt) rfl dX8_setCone_42 ?_
      refine j_callSM C rw_ (nA := 2) (As := [.ref rnw, .ref rt]) (wr := [(rv, cI (xT X) 450 cvec), (rd, cI (xT X) 518 D), (h8, cO 8 [.int (nI 0), .ref rv, .ref rn, .ref rnw, .ref rt, .ref rd, .int (nI na), .int (nI nx), .ref rk, .ref rik, .ref rdk, .ref rre, .ref rle, .ref rhe, .ref rth, .ref rpa, .ref ror, .int bv, .int bo])]) (c_X8_copy (xl X) (xT X) rnw rt (rowF ac ap ash an aob arq) g9 ) gX8_setCone_X8_copy rfl (by decide +kernel) rfl (by decide) (by decide) [1, 2] [0, 3, 4] rfl rfl rfl rfl (by decide) (rest := []) rfl (Nat.le_of_ble_eq_true rfl) dX8_setCone_45 ?_
      rintro _ _ ⟨rfl, rfl⟩
      show jj X 0 0 48 [(0, .ref h8), (1, .int (nI o)), (2, .int y)] [] [(rv, cI (xT X) 450 cvec), (rd, cI (xT X) 518 D), (h8, cO 8 [.int (nI 0), .ref rv, .ref rn, .ref rnw, .ref rt, .ref rd, .int (nI na), .int (nI nx), .ref rk, .ref rik, .ref rdk, .ref rre, .ref rle, .ref rhe, .ref rth, .ref rpa, .ref ror, .int bv, .int bo]), (rnw, cI (xT X) 37 (rowF ac ap ash an aob arq)), (rt, cI (xT X) 37 (rowF ac ap ash an aob arq))]
      refine j_aload_n C dX8_setCone_48 0 rfl rfl ?_
      refine j_get C (hin8) (ci := 8) rfl 4 (by decide) (hl19) 2 rfl (v := .ref rt) rfl dX8_setCone_49 ?_
      refine j_bipush C dX8_setCone_52 (v := (nI 7)) kc_b_7 ?_
      refine j_iload_n C dX8_setCone_54 1 rfl rfl ?_
      refine j_imul C dX8_setCone_55 (v := (nI (7 * o))) (pk_mul _ _) ?_
      refine j_bipush C dX8_setCone_56 (v := (nI 6)) kc_b_6 ?_
      refine j_iadd C dX8_setCone_58 (v := (nI (7 * o + 6))) (nI_add _ _) ?_
      refine j_iload_n C dX8_setCone_59 2 rfl rfl ?_
      refine j_iastoreN C rw_ (7 * o + 6) rfl 4 rfl (by omega) (by decide) (w' := [(rv, cI (xT X) 450 cvec), (rd, cI (xT X) 518 D), (h8, cO 8 [.int (nI 0), .ref rv, .ref rn, .ref rnw, .ref rt, .ref rd, .int (nI na), .int (nI nx), .ref rk, .ref rik, .ref rdk, .ref rre, .ref rle, .ref rhe, .ref rth, .ref rpa, .ref ror, .int bv, .int bo]), (rnw, cI (xT X) 37 (rowF ac ap ash an aob arq)), (rt, cI (xT X) 37 (upd (rowF ac ap ash an aob arq) (7 * o + 6) y))]) rfl dX8_setCone_60 ?_
      rw [row_o (k := 7 * o + 6) (by omega)]
      refine j_aload_n C dX8_setCone_61 0 rfl rfl ?_
      have hco2 : coI (upd aob (7 * o + 6) y) := co_cone hco q21
      rcases Bool.eq_false_or_eq_true (!ash && br (upd aob (7 * o + 6) y) ap ac) with hlit | hlit
      · skip
        refine j_callVM C rw_ (nA := 0) (As := []) (wr := []) (c_X8_changed_3 (xl X) (xT X) h8 rv rn rnw rt rd rk rik rdk rre rle rhe rth rpa ror na nx (nI 0) bv bo ac ap an ash aob arq ac ap an ash (upd aob (7 * o + 6) y) arq D (by exact hna) (by exact hnx) (by exact hap) (by exact hco2) (by exact hlit)) gX8_setCone_X8_changed rfl (by decide +kernel) rfl (by decide) (by decide) [2, 0, 3, 4, 1] [] rfl rfl rfl rfl (by decide) 2 rfl rfl (rest := []) rfl (Nat.le_of_ble_eq_true rfl) dX8_setCone_62 ?_
        rintro _ _ ⟨rfl, rfl⟩
        show jj X 0 0 65 [(0, .ref h8), (1, .int (nI o)), (2, .int y)] [.int (nI 0)] [(h8, cO 8 [.int (nI 3), .ref rv, .ref rn, .ref rnw, .ref rt, .ref rd, .int (nI na), .int (nI nx), .ref rk, .ref rik, .ref rdk, .ref rre, .ref rle, .ref rhe, .ref rth, .ref rpa, .ref ror, .int bv, .int bo]), (rv, cI (xT X) 450 cvec), (rnw, cI (xT X) 37 (rowF ac ap ash an aob arq)), (rt, cI (xT X) 37 (rowF ac ap ash an (upd aob (7 * o + 6) y) arq)), (rd, cI (xT X) 518 D)]
        refine j_iretM C rw_ hQ (by decide) (by decide) rfl ?_ dX8_setCone_65
        exact ⟨3, _, rfl, Or.inl ⟨_, rfl, Or.inr (Or.inr (⟨rfl, o, rfl, by omega, q21, hlit⟩))⟩⟩
      · skip
        refine j_callVM C rw_ (nA := 0) (As := []) (wr := []) (c_X8_changed_0 (xl X) (xT X) h8 rv rn rnw rt rd rk rik rdk rre rle rhe rth rpa ror na nx (nI 0) bv bo ac ap an ash aob arq ac ap an ash (upd aob (7 * o + 6) y) arq D (by exact hna) (by exact hnx) (by exact hap) (by exact hco2) (by exact hlit)) gX8_setCone_X8_changed rfl (by decide +kernel) rfl (by decide) (by decide) [2, 0, 3, 4, 1] [] rfl rfl rfl rfl (by decide) 2 rfl rfl (rest := []) rfl (Nat.le_of_ble_eq_true rfl) dX8_setCone_62 ?_
        rintro _ _ ⟨rfl, rfl⟩
        show jj X 0 0 65 [(0, .ref h8), (1, .int (nI o)), (2, .int y)] [.int (nI (fb_ct (fun c => br (upd aob (7 * o + 6) y) c ac) 150))] [(h8, cO 8 [.int (nI 0), .ref rv, .ref rn, .ref rnw, .ref rt, .ref rd, .int (nI (if na < 14 then na + 1 else 14)), .int (nI ((nx + 1) % 14)), .ref rk, .ref rik, .ref rdk, .ref rre, .ref rle, .ref rhe, .ref rth, .ref rpa, .ref ror, .int bv, .int bo]), (rv, cI (xT X) 450 cvec), (rnw, cI (xT X) 37 (rowF ac ap ash an (upd aob (7 * o + 6) y) arq)), (rt, cI (xT X) 37 (rowF ac ap ash an (upd aob (7 * o + 6) y) arq)), (rd, cI (xT X) 518 (dgN D nx (rowF ac ap ash an aob arq)))]
        refine j_iretM C rw_ hQ (by decide) (by decide) rfl ?_ dX8_setCone_65
        exact ⟨0, _, rfl, Or.inr ⟨rfl, o, rfl, rfl, by omega, q21, hlit, rfl⟩⟩
    · skip
      have q21 := (kb_nne).mp q21
      refine j_iconst C dX8_setCone_24 (v := (nI 2)) kc_i_2 ?_
      refine j_goto C dX8_setCone_25 (tgt := 29) (by decide) ?_
      refine j_callVM C rw_ (nA := 1) (As := [.int (nI 2)]) (wr := [(rv, cI (xT X) 450 cvec), (rnw, cI (xT X) 37 (rowF ac ap ash an aob arq)), (rt, cI (xT X) 37 g9), (rd, cI (xT X) 518 D)]) (c_X8_refused_s (xl X) (xT X) h8 rv rn rnw rt rd rk rik rdk rre rle rhe rth rpa ror na nx rf bv bo 2 (by omega) (by omega)) gX8_setCone_X8_refused rfl (by decide +kernel) rfl (by decide) (by decide) [0] [1, 2, 3, 4] rfl rfl rfl rfl (by decide) 0 rfl rfl (rest := []) rfl (Nat.le_of_ble_eq_true rfl) dX8_setCone_29 ?_
      rintro _ _ ⟨rfl, rfl⟩
      show jj X 0 0 32 [(0, .ref h8), (1, .int x), (2, .int y)] [.int (bI true)] [(rv, cI (xT X) 450 cvec), (rnw, cI (xT X) 37 (rowF ac ap ash an aob arq)), (rt, cI (xT X) 37 g9), (rd, cI (xT X) 518 D), (h8, cO 8 [.int (nI 2), .ref rv, .ref rn, .ref rnw, .ref rt, .ref rd, .int (nI na), .int (nI nx), .ref rk, .ref rik, .ref rdk, .ref rre, .ref rle, .ref rhe, .ref rth, .ref rpa, .ref ror, .int bv, .int bo])]
      refine j_if_eq C dX8_setCone_32 (tgt := 37) (by decide) (fun h9 => absurd h9 (by decide +kernel)) (fun _ => ?_)
      refine j_iconst C dX8_setCone_35 (v := (nI 0)) kc_i_0 ?_
      refine j_perm C (w' := [(h8, cO 8 [.int (nI 2), .ref rv, .ref rn, .ref rnw, .ref rt, .ref rd, .int (nI na), .int (nI nx), .ref rk, .ref rik, .ref rdk, .ref rre, .ref rle, .ref rhe, .ref rth, .ref rpa, .ref ror, .int bv, .int bo]), (rv, cI (xT X) 450 cvec), (rnw, cI (xT X) 37 (rowF ac ap ash an aob arq)), (rt, cI (xT X) 37 g9), (rd, cI (xT X) 518 D)]) [4, 0, 1, 2, 3] rfl rfl ?_
      refine j_iretM C rw_ hQ (by decide) (by decide) rfl ?_ dX8_setCone_36
      exact ⟨2, _, rfl, Or.inl ⟨_, rfl, Or.inr (Or.inl ⟨rfl, q5, q21⟩)⟩⟩
  · skip
    have q5 := (kb_nne).mp q5
    refine j_iconst C dX8_setCone_8 (v := (nI 1)) kc_i_1 ?_
    refine j_goto C dX8_setCone_9 (tgt := 29) (by decide) ?_
    refine j_callVM C rw_ (nA := 1) (As := [.int (nI 1)]) (wr := [(rv, cI (xT X) 450 cvec), (rnw, cI (xT X) 37 (rowF ac ap ash an aob arq)), (rt, cI (xT X) 37 g9), (rd, cI (xT X) 518 D)]) (c_X8_refused_s (xl X) (xT X) h8 rv rn rnw rt rd rk rik rdk rre rle rhe rth rpa ror na nx rf bv bo 1 (by omega) (by omega)) gX8_setCone_X8_refused rfl (by decide +kernel) rfl (by decide) (by decide) [0] [1, 2, 3, 4] rfl rfl rfl rfl (by decide) 0 rfl rfl (rest := []) rfl (Nat.le_of_ble_eq_true rfl) dX8_setCone_29 ?_
    rintro _ _ ⟨rfl, rfl⟩
    show jj X 0 0 32 [(0, .ref h8), (1, .int x), (2, .int y)] [.int (bI true)] [(rv, cI (xT X) 450 cvec), (rnw, cI (xT X) 37 (rowF ac ap ash an aob arq)), (rt, cI (xT X) 37 g9), (rd, cI (xT X) 518 D), (h8, cO 8 [.int (nI 1), .ref rv, .ref rn, .ref rnw, .ref rt, .ref rd, .int (nI na), .int (nI nx), .ref rk, .ref rik, .ref rdk, .ref rre, .ref rle, .ref rhe, .ref rth, .ref rpa, .ref ror, .int bv, .int bo])]
    refine j_if_eq C dX8_setCone_32 (tgt := 37) (by decide) (fun h9 => absurd h9 (by decide +kernel)) (fun _ => ?_)
    refine j_iconst C dX8_setCone_35 (v := (nI 0)) kc_i_0 ?_
    refine j_perm C (w' := [(h8, cO 8 [.int (nI 1), .ref rv, .ref rn, .ref rnw, .ref rt, .ref rd, .int (nI na), .int (nI nx), .ref rk, .ref rik, .ref rdk, .ref rre, .ref rle, .ref rhe, .ref rth, .ref rpa, .ref ror, .int bv, .int bo]), (rv, cI (xT X) 450 cvec), (rnw, cI (xT X) 37 (rowF ac ap ash an aob arq)), (rt, cI (xT X) 37 g9), (rd, cI (xT X) 518 D)]) [4, 0, 1, 2, 3] rfl rfl ?_
    refine j_iretM C rw_ hQ (by decide) (by decide) rfl ?_ dX8_setCone_36
    exact ⟨1, _, rfl, Or.inl ⟨_, rfl, Or.inl ⟨rfl, q5⟩⟩⟩
