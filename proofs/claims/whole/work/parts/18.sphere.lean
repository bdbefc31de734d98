/-! SPHERE: what reads -/
set_option maxHeartbeats 4000000 in
set_option maxRecDepth 100000 in
/-- part(cell, coordinate) -/
theorem c_X5_part (l : Launch) (T : jj_T) (h0 hh hv hs ha c k : Nat) (V : Nat → Int32) (hc : 3 * c + k < 450) : jR l T yX5_part wsX5_part { frames := 0, cells := 0, slots := 0, locals := 0 } [.ref h0, .int (nI c), .int (nI k)] [(h0, cO 5 [.ref hh, .ref hv, .ref hs, .ref ha]), (hv, cI T 450 V)] (fun v => v = some (.int (V (3 * c + k)))) := by
  refine jR.of (cc := cX5_part) (maxL := 4) (ret := (some .int)) (by decide) rfl (Nat.le_of_ble_eq_true rfl) ?_
  intro X C ro hl hT hQ
  subst hl; subst hT
  have hin5 : ∀ w ∈ u_ws RX5 TX5 4, w ∈ wsX5_part := by decide +kernel
  have hl20 : Cond.fieldLink RX5 20 (TX5 1).1 (TX5 1).2.1 (TX5 1).2.2.1 ∈ wsX5_part := by decide +kernel
  show jj X 0 0 0 [(0, .ref h0), (1, .int (nI c)), (2, .int (nI k))] [] [(h0, cO 5 [.ref hh, .ref hv, .ref hs, .ref ha]), (hv, cI (xT X) 450 V)]
  refine j_iconst C dX5_part_0 (v := (nI 3)) kc_i_3 ?_
  refine j_iload_n C dX5_part_1 1 rfl rfl ?_
  refine j_imul C dX5_part_2 (v := (nI (3 * c))) (pk_mul _ _) ?_
  refine j_iload_n C dX5_part_3 2 rfl rfl ?_
  refine j_iadd C dX5_part_4 (v := (nI (3 * c + k))) (nI_add _ _) ?_
  refine j_istore_n C dX5_part_5 rfl (by decide) (lv' := [(3, .int (nI (3 * c + k))), (0, .ref h0), (1, .int (nI c)), (2, .int (nI k))]) rfl ?_
  refine j_iload_n C dX5_part_6 0 rfl rfl ?_
  refine j_if_lt C dX5_part_7 (tgt := 28) (by decide) (fun c1 => ?_) (fun c1 => ?_)
  · skip
    have c1 := (kz_lt (a := 3 * c + k) (by omega)).mp c1
    exfalso
    first | exact c1.elim | omega
  · skip
    have c1 := (kz_nlt (a := 3 * c + k) (by omega)).mp c1
    refine j_iload_n C dX5_part_10 0 rfl rfl ?_
    refine j_aload_n C dX5_part_11 1 rfl rfl ?_
    refine j_get C (hin5) (ci := 5) rfl 1 (by decide) (hl20) 0 rfl (v := .ref hv) rfl dX5_part_12 ?_
    refine j_alenI C 1 rfl dX5_part_15 ?_
    refine j_icmp_ge C dX5_part_16 (tgt := 28) (by decide) (fun c2 => ?_) (fun c2 => ?_)
    · skip
      have c2 := (kn_ge (a := 3 * c + k) (b := 450) (by omega) (by omega)).mp c2
      exfalso
      first | exact c2.elim | omega
    · skip
      have c2 := (kn_nge (a := 3 * c + k) (b := 450) (by omega) (by omega)).mp c2
      refine j_aload_n C dX5_part_19 1 rfl rfl ?_
      refine j_get C (hin5) (ci := 5) rfl 1 (by decide) (hl20) 0 rfl (v := .ref hv) rfl dX5_part_20 ?_
      refine j_iload_n C dX5_part_23 0 rfl rfl ?_
      refine j_ialoadN C (3 * c + k) rfl 1 rfl (by omega) (by decide) dX5_part_24 ?_
      refine j_goto C dX5_part_25 (tgt := 29) (by decide) ?_
      refine j_iretR C ro hQ rfl ?_ dX5_part_29
      rfl

set_option maxHeartbeats 4000000 in
set_option maxRecDepth 100000 in
/-- find(x, y, z) -/
theorem c_X5_find (l : Launch) (T : jj_T) (h0 hh hv hs ha : Nat) (x y z : Int32) (V : Nat → Int32) : jR l T yX5_find wsX5_find { frames := 1, cells := 0, slots := 0, locals := 23 } [.ref h0, .int x, .int y, .int z] [(h0, cO 5 [.ref hh, .ref hv, .ref hs, .ref ha]), (hv, cI T 450 V)] (fun v => ∃ r : Int32, v = some (.int r) ∧ (fs_is (fun c => decide (V (3 * c + 0) = x ∧ V (3 * c + 1) = y ∧ V (3 * c + 2) = z)) 150 r)) := by
  refine jR.of (cc := cX5_find) (maxL := 5) (ret := (some .int)) (by decide) rfl (Nat.le_of_ble_eq_true rfl) ?_
  intro X C ro hl hT hQ
  subst hl; subst hT
  show jj X 0 0 0 [(0, .ref h0), (1, .int x), (2, .int y), (3, .int z)] [] [(h0, cO 5 [.ref hh, .ref hv, .ref hs, .ref ha]), (hv, cI (xT X) 450 V)]
  refine j_iconst C dX5_find_0 (v := (nI 0)) kc_i_0 ?_
  refine j_istore C dX5_find_1 (by decide) (lv' := [(4, .int (nI 0)), (0, .ref h0), (1, .int x), (2, .int y), (3, .int z)]) rfl ?_
  refine j_lv [1, 2, 3, 4, 0] rfl ?_
  suffices hc3 : ∀ (mm : Nat) (c : Nat), 150 - c < mm → (c ≤ 150) → (∀ d, d < c → ¬ (V (3 * d + 0) = x ∧ V (3 * d + 1) = y ∧ V (3 * d + 2) = z)) → jj X 0 0 3 [(0, .ref h0), (1, .int x), (2, .int y), (3, .int z), (4, .int (nI c))] [] [(h0, cO 5 [.ref hh, .ref hv, .ref hs, .ref ha]), (hv, cI (xT X) 450 V)] by
    refine hc3 _ _ (Nat.lt_succ_self _) ?_ ?_
    · omega
    · intro d hd; omega
  intro mm
  induction mm with
  | zero => intro c hm; exact absurd hm (Nat.not_lt_zero _)
  | succ mm ih3 =>
    intro c hm3 hc hf
    refine j_iload C dX5_find_3 4 rfl ?_
    refine j_sipush C dX5_find_5 (v := (nI 150)) kc_s_150 ?_
    refine j_icmp_ge C dX5_find_8 (tgt := 53) (by decide) (fun c1 => ?_) (fun c1 => ?_)
    · skip
      have c1 := (kn_ge (a := c) (b := 150) (by omega) (by omega)).mp c1
      refine j_bipush C dX5_find_53 (v := (-9)) kc_b_m9 ?_
      refine j_iretR C ro hQ rfl ?_ dX5_find_55
      exact ⟨_, rfl, Or.inr ⟨fun d hd => decide_eq_false (hf d (by omega)), rfl⟩⟩
    · skip
      have c1 := (kn_nge (a := c) (b := 150) (by omega) (by omega)).mp c1
      refine j_aload_n C dX5_find_11 0 rfl rfl ?_
      refine j_iload C dX5_find_12 4 rfl ?_
      refine j_iconst C dX5_find_14 (v := (nI 0)) kc_i_0 ?_
      refine j_callVR C (nA := 2) (As := [.int (nI c), .int (nI 0)]) (c_X5_part (xl X) (xT X) h0 hh hv hs ha c 0 V (by omega)) gX5_find_X5_part rfl (by decide +kernel) rfl ⟨rfl, rfl⟩ (by decide) (by decide) [0, 1] rfl rfl 0 rfl rfl (rest := []) rfl (Nat.le_of_ble_eq_true rfl) dX5_find_15 ?_
      rintro _ rfl
      show jj X 0 0 18 [(0, .ref h0), (1, .int x), (2, .int y), (3, .int z), (4, .int (nI c))] [.int (V (3 * c + 0))] [(h0, cO 5 [.ref hh, .ref hv, .ref hs, .ref ha]), (hv, cI (xT X) 450 V)]
      refine j_iload_n C dX5_find_18 1 rfl rfl ?_
      refine j_icmp_ne C dX5_find_19 (tgt := 47) (by decide) (fun c2 => ?_) (fun c2 => ?_)
      · skip
        refine j_iinc C dX5_find_47 (q := 4) (v := (nI (c + 1))) rfl (kc_inc c) (by decide) (lv' := [(4, .int (nI (c + 1))), (0, .ref h0), (1, .int x), (2, .int y), (3, .int z)]) rfl ?_
        refine j_goto C dX5_find_50 (tgt := 3) (by decide) ?_
        refine j_lv [1, 2, 3, 4, 0] rfl ?_
        refine ih3 _ (by omega) ?_ ?_
        · omega
        · intro d hd
          by_cases h : d = c
          · rw [h]; exact fun q => c2 q.1
          · exact hf d (by omega)
      · skip
        refine j_aload_n C dX5_find_22 0 rfl rfl ?_
        refine j_iload C dX5_find_23 4 rfl ?_
        refine j_iconst C dX5_find_25 (v := (nI 1)) kc_i_1 ?_
        refine j_callVR C (nA := 2) (As := [.int (nI c), .int (nI 1)]) (c_X5_part (xl X) (xT X) h0 hh hv hs ha c 1 V (by omega)) gX5_find_X5_part rfl (by decide +kernel) rfl ⟨rfl, rfl⟩ (by decide) (by decide) [0, 1] rfl rfl 0 rfl rfl (rest := []) rfl (Nat.le_of_ble_eq_true rfl) dX5_find_26 ?_
        rintro _ rfl
        show jj X 0 0 29 [(0, .ref h0), (1, .int x), (2, .int y), (3, .int z), (4, .int (nI c))] [.int (V (3 * c + 1))] [(h0, cO 5 [.ref hh, .ref hv, .ref hs, .ref ha]), (hv, cI (xT X) 450 V)]
        refine j_iload_n C dX5_find_29 2 rfl rfl ?_
        refine j_icmp_ne C dX5_find_30 (tgt := 47) (by decide) (fun c3 => ?_) (fun c3 => ?_)
        · skip
          refine j_iinc C dX5_find_47 (q := 4) (v := (nI (c + 1))) rfl (kc_inc c) (by decide) (lv' := [(4, .int (nI (c + 1))), (0, .ref h0), (1, .int x), (2, .int y), (3, .int z)]) rfl ?_
          refine j_goto C dX5_find_50 (tgt := 3) (by decide) ?_
          refine j_lv [1, 2, 3, 4, 0] rfl ?_
          refine ih3 _ (by omega) ?_ ?_
          · omega
          · intro d hd
            by_cases h : d = c
            · rw [h]; exact fun q => c3 q.2.1
            · exact hf d (by omega)
        · skip
          refine j_aload_n C dX5_find_33 0 rfl rfl ?_
          refine j_iload C dX5_find_34 4 rfl ?_
          refine j_iconst C dX5_find_36 (v := (nI 2)) kc_i_2 ?_
          refine j_callVR C (nA := 2) (As := [.int (nI c), .int (nI 2)]) (c_X5_part (xl X) (xT X) h0 hh hv hs ha c 2 V (by omega)) gX5_find_X5_part rfl (by decide +kernel) rfl ⟨rfl, rfl⟩ (by decide) (by decide) [0, 1] rfl rfl 0 rfl rfl (rest := []) rfl (Nat.le_of_ble_eq_true rfl) dX5_find_37 ?_
          rintro _ rfl
          show jj X 0 0 40 [(0, .ref h0), (1, .int x), (2, .int y), (3, .int z), (4, .int (nI c))] [.int (V (3 * c + 2))] [(h0, cO 5 [.ref hh, .ref hv, .ref hs, .ref ha]), (hv, cI (xT X) 450 V)]
          refine j_iload_n C dX5_find_40 3 rfl rfl ?_
          refine j_icmp_ne C dX5_find_41 (tgt := 47) (by decide) (fun c4 => ?_) (fun c4 => ?_)
          · skip
            refine j_iinc C dX5_find_47 (q := 4) (v := (nI (c + 1))) rfl (kc_inc c) (by decide) (lv' := [(4, .int (nI (c + 1))), (0, .ref h0), (1, .int x), (2, .int y), (3, .int z)]) rfl ?_
            refine j_goto C dX5_find_50 (tgt := 3) (by decide) ?_
            refine j_lv [1, 2, 3, 4, 0] rfl ?_
            refine ih3 _ (by omega) ?_ ?_
            · omega
            · intro d hd
              by_cases h : d = c
              · rw [h]; exact fun q => c4 q.2.2
              · exact hf d (by omega)
          · skip
            refine j_iload C dX5_find_44 4 rfl ?_
            refine j_iretR C ro hQ rfl ?_ dX5_find_46
            exact ⟨_, rfl, Or.inl ⟨c, by omega, decide_eq_true ⟨c2, c3, c4⟩, fun d hd => decide_eq_false (hf d hd), rfl⟩⟩

set_option maxHeartbeats 4000000 in
set_option maxRecDepth 100000 in
/-- beside(cell, k) -/
theorem c_X5_beside (l : Launch) (T : jj_T) (h0 hh hv hs ha c k : Nat) (hc : 4 * c + k < 600) : jR l T yX5_beside wsX5_beside { frames := 0, cells := 0, slots := 0, locals := 0 } [.ref h0, .int (nI c), .int (nI k)] [(h0, cO 5 [.ref hh, .ref hv, .ref hs, .ref ha]), (ha, cI T 600 (fun j => nI (near4 j)))] (fun v => v = some (.int (nI (near4 (4 * c + k))))) := by
  refine jR.of (cc := cX5_beside) (maxL := 4) (ret := (some .int)) (by decide) rfl (Nat.le_of_ble_eq_true rfl) ?_
  intro X C ro hl hT hQ
  subst hl; subst hT
  have hin5 : ∀ w ∈ u_ws RX5 TX5 4, w ∈ wsX5_beside := by decide +kernel
  have hl27 : Cond.fieldLink RX5 27 (TX5 3).1 (TX5 3).2.1 (TX5 3).2.2.1 ∈ wsX5_beside := by decide +kernel
  show jj X 0 0 0 [(0, .ref h0), (1, .int (nI c)), (2, .int (nI k))] [] [(h0, cO 5 [.ref hh, .ref hv, .ref hs, .ref ha]), (ha, cI (xT X) 600 (fun j => nI (near4 j)))]
  refine j_iconst C dX5_beside_0 (v := (nI 4)) kc_i_4 ?_
  refine j_iload_n C dX5_beside_1 1 rfl rfl ?_
  refine j_imul C dX5_beside_2 (v := (nI (4 * c))) (pk_mul _ _) ?_
  refine j_iload_n C dX5_beside_3 2 rfl rfl ?_
  refine j_iadd C dX5_beside_4 (v := (nI (4 * c + k))) (nI_add _ _) ?_
  refine j_istore_n C dX5_beside_5 rfl (by decide) (lv' := [(3, .int (nI (4 * c + k))), (0, .ref h0), (1, .int (nI c)), (2, .int (nI k))]) rfl ?_
  refine j_iload_n C dX5_beside_6 0 rfl rfl ?_
  refine j_if_lt C dX5_beside_7 (tgt := 28) (by decide) (fun c1 => ?_) (fun c1 => ?_)
  · skip
    have c1 := (kz_lt (a := 4 * c + k) (by omega)).mp c1
    exfalso
    first | exact c1.elim | omega
  · skip
    have c1 := (kz_nlt (a := 4 * c + k) (by omega)).mp c1
    refine j_iload_n C dX5_beside_10 0 rfl rfl ?_
    refine j_aload_n C dX5_beside_11 1 rfl rfl ?_
    refine j_get C (hin5) (ci := 5) rfl 3 (by decide) (hl27) 0 rfl (v := .ref ha) rfl dX5_beside_12 ?_
    refine j_alenI C 1 rfl dX5_beside_15 ?_
    refine j_icmp_ge C dX5_beside_16 (tgt := 28) (by decide) (fun c2 => ?_) (fun c2 => ?_)
    · skip
      have c2 := (kn_ge (a := 4 * c + k) (b := 600) (by omega) (by omega)).mp c2
      exfalso
      first | exact c2.elim | omega
    · skip
      have c2 := (kn_nge (a := 4 * c + k) (b := 600) (by omega) (by omega)).mp c2
      refine j_aload_n C dX5_beside_19 1 rfl rfl ?_
      refine j_get C (hin5) (ci := 5) rfl 3 (by decide) (hl27) 0 rfl (v := .ref ha) rfl dX5_beside_20 ?_
      refine j_iload_n C dX5_beside_23 0 rfl rfl ?_
      refine j_ialoadN C (4 * c + k) rfl 1 rfl (by omega) (by decide) dX5_beside_24 ?_
      refine j_goto C dX5_beside_25 (tgt := 30) (by decide) ?_
      refine j_iretR C ro hQ rfl ?_ dX5_beside_30
      rfl

set_option maxHeartbeats 4000000 in
set_option maxRecDepth 100000 in
/-- isStep(cell, next) -/
theorem c_X5_isStep (l : Launch) (T : jj_T) (h0 hh hw hv hs ha c d : Nat) (hd : Nat → Int64) (hc : c < 150) (hd1 : d < 150) : jR l T yX5_isStep wsX5_isStep { frames := 2, cells := 0, slots := 0, locals := 45 } [.ref h0, .int (nI c), .int (nI d)] [(h0, cO 5 [.ref hh, .ref hv, .ref hs, .ref ha]), (hh, cO 0 [.ref hw]), (hw, cJ T 450 hd)] (fun v => v = some (.int (bI (cs_b hd c d)))) := by
  refine jR.of (cc := cX5_isStep) (maxL := 3) (ret := (some .boolean)) (by decide) rfl (Nat.le_of_ble_eq_true rfl) ?_
  intro X C ro hl hT hQ
  subst hl; subst hT
  have hin5 : ∀ w ∈ u_ws RX5 TX5 4, w ∈ wsX5_isStep := by decide +kernel
  have hl14 : Cond.fieldLink RX5 14 (TX5 0).1 (TX5 0).2.1 (TX5 0).2.2.1 ∈ wsX5_isStep := by decide +kernel
  show jj X 0 0 0 [(0, .ref h0), (1, .int (nI c)), (2, .int (nI d))] [] [(h0, cO 5 [.ref hh, .ref hv, .ref hs, .ref ha]), (hh, cO 0 [.ref hw]), (hw, cJ (xT X) 450 hd)]
  refine j_aload_n C dX5_isStep_0 0 rfl rfl ?_
  refine j_get C (hin5) (ci := 5) rfl 0 (by decide) (hl14) 0 rfl (v := .ref hh) rfl dX5_isStep_1 ?_
  refine j_iload_n C dX5_isStep_4 1 rfl rfl ?_
  refine j_iload_n C dX5_isStep_5 2 rfl rfl ?_
  refine j_callVR C (nA := 2) (As := [.int (nI c), .int (nI d)]) (c_X0_has (xl X) (xT X) hh hw 450 c d hd (by omega) (by omega) (by omega)) gX5_isStep_X0_has rfl (by decide +kernel) rfl ⟨rfl, rfl⟩ (by decide) (by decide) [1, 2] rfl rfl 1 rfl rfl (rest := []) rfl (Nat.le_of_ble_eq_true rfl) dX5_isStep_6 ?_
  rintro _ rfl
  show jj X 0 0 9 [(0, .ref h0), (1, .int (nI c)), (2, .int (nI d))] [.int (bI (cs_b hd c d))] [(h0, cO 5 [.ref hh, .ref hv, .ref hs, .ref ha]), (hh, cO 0 [.ref hw]), (hw, cJ (xT X) 450 hd)]
  refine j_iretR C ro hQ (bI_nar _) ?_ dX5_isStep_9
  rfl

set_option maxHeartbeats 4000000 in
set_option maxRecDepth 100000 in
/-- scalar(cell, x, y, z) -/
theorem c_X5_scalar (l : Launch) (T : jj_T) (h0 hh hv hs ha c : Nat) (x y z : Int32) (V : Nat → Int32) (hc : c < 150) : jR l T yX5_scalar wsX5_scalar { frames := 0, cells := 0, slots := 0, locals := 0 } [.ref h0, .int (nI c), .int x, .int y, .int z] [(h0, cO 5 [.ref hh, .ref hv, .ref hs, .ref ha]), (hv, cI T 450 V)] (fun v => v = some (.int (V (3 * c) * x + V (3 * c + 1) * y + V (3 * c + 2) * z))) := by
  refine jR.of (cc := cX5_scalar) (maxL := 6) (ret := (some .int)) (by decide) rfl (Nat.le_of_ble_eq_true rfl) ?_
  intro X C ro hl hT hQ
  subst hl; subst hT
  have hin5 : ∀ w ∈ u_ws RX5 TX5 4, w ∈ wsX5_scalar := by decide +kernel
  have hl20 : Cond.fieldLink RX5 20 (TX5 1).1 (TX5 1).2.1 (TX5 1).2.2.1 ∈ wsX5_scalar := by decide +kernel
  show jj X 0 0 0 [(0, .ref h0), (1, .int (nI c)), (2, .int x), (3, .int y), (4, .int z)] [] [(h0, cO 5 [.ref hh, .ref hv, .ref hs, .ref ha]), (hv, cI (xT X) 450 V)]
  refine j_iconst C dX5_scalar_0 (v := (nI 3)) kc_i_3 ?_
  refine j_iload_n C dX5_scalar_1 1 rfl rfl ?_
  refine j_imul C dX5_scalar_2 (v := (nI (3 * c))) (pk_mul _ _) ?_
  refine j_istore C dX5_scalar_3 (by decide) (lv' := [(5, .int (nI (3 * c))), (0, .ref h0), (1, .int (nI c)), (2, .int x), (3, .int y), (4, .int z)]) rfl ?_
  refine j_iload C dX5_scalar_5 0 rfl ?_
  refine j_if_lt C dX5_scalar_7 (tgt := 22) (by decide) (fun c1 => ?_) (fun c1 => ?_)
  · skip
    have c1 := (kz_lt (a := 3 * c) (by omega)).mp c1
    exfalso
    first | exact c1.elim | omega
  · skip
    have c1 := (kz_nlt (a := 3 * c) (by omega)).mp c1
    refine j_iload C dX5_scalar_10 0 rfl ?_
    refine j_aload_n C dX5_scalar_12 1 rfl rfl ?_
    refine j_get C (hin5) (ci := 5) rfl 1 (by decide) (hl20) 0 rfl (v := .ref hv) rfl dX5_scalar_13 ?_
    refine j_alenI C 1 rfl dX5_scalar_16 ?_
    refine j_iconst C dX5_scalar_17 (v := (nI 3)) kc_i_3 ?_
    refine j_isub C dX5_scalar_18 (v := (nI (450 - 3))) (pk_sub (by omega)) ?_
    refine j_icmp_le C dX5_scalar_19 (tgt := 24) (by decide) (fun c2 => ?_) (fun c2 => ?_)
    · skip
      have c2 := (kn_le (a := 3 * c) (b := 450 - 3) (by omega) (by omega)).mp c2
      refine j_aload_n C dX5_scalar_24 1 rfl rfl ?_
      refine j_get C (hin5) (ci := 5) rfl 1 (by decide) (hl20) 0 rfl (v := .ref hv) rfl dX5_scalar_25 ?_
      refine j_iload C dX5_scalar_28 0 rfl ?_
      refine j_ialoadN C (3 * c) rfl 1 rfl (by omega) (by decide) dX5_scalar_30 ?_
      refine j_iload_n C dX5_scalar_31 3 rfl rfl ?_
      refine j_imul C dX5_scalar_32 (v := ((V (3 * c)) * x)) rfl ?_
      refine j_aload_n C dX5_scalar_33 1 rfl rfl ?_
      refine j_get C (hin5) (ci := 5) rfl 1 (by decide) (hl20) 0 rfl (v := .ref hv) rfl dX5_scalar_34 ?_
      refine j_iload C dX5_scalar_37 0 rfl ?_
      refine j_iconst C dX5_scalar_39 (v := (nI 1)) kc_i_1 ?_
      refine j_iadd C dX5_scalar_40 (v := (nI (3 * c + 1))) (nI_add _ _) ?_
      refine j_ialoadN C (3 * c + 1) rfl 1 rfl (by omega) (by decide) dX5_scalar_41 ?_
      refine j_iload_n C dX5_scalar_42 4 rfl rfl ?_
      refine j_imul C dX5_scalar_43 (v := ((V (3 * c + 1)) * y)) rfl ?_
      refine j_iadd C dX5_scalar_44 (v := (((V (3 * c)) * x) + ((V (3 * c + 1)) * y))) rfl ?_
      refine j_aload_n C dX5_scalar_45 1 rfl rfl ?_
      refine j_get C (hin5) (ci := 5) rfl 1 (by decide) (hl20) 0 rfl (v := .ref hv) rfl dX5_scalar_46 ?_
      refine j_iload C dX5_scalar_49 0 rfl ?_
      refine j_iconst C dX5_scalar_51 (v := (nI 2)) kc_i_2 ?_
      refine j_iadd C dX5_scalar_52 (v := (nI (3 * c + 2))) (nI_add _ _) ?_
      refine j_ialoadN C (3 * c + 2) rfl 1 rfl (by omega) (by decide) dX5_scalar_53 ?_
      refine j_iload C dX5_scalar_54 5 rfl ?_
      refine j_imul C dX5_scalar_56 (v := ((V (3 * c + 2)) * z)) rfl ?_
      refine j_iadd C dX5_scalar_57 (v := ((((V (3 * c)) * x) + ((V (3 * c + 1)) * y)) + ((V (3 * c + 2)) * z))) rfl ?_
      refine j_iretR C ro hQ rfl ?_ dX5_scalar_58
      rfl
    · skip
      have c2 := (kn_nle (a := 3 * c) (b := 450 - 3) (by omega) (by omega)).mp c2
      exfalso
      first | exact c2.elim | omega

set_option maxHeartbeats 4000000 in
set_option maxRecDepth 100000 in
/-- square(cell) -/
theorem c_X5_square (l : Launch) (T : jj_T) (h0 hh hv hs ha c : Nat) (Q : Nat → Int32) (hc : c < 150) : jR l T yX5_square wsX5_square { frames := 0, cells := 0, slots := 0, locals := 0 } [.ref h0, .int (nI c)] [(h0, cO 5 [.ref hh, .ref hv, .ref hs, .ref ha]), (hs, cI T 150 Q)] (fun v => v = some (.int (Q c))) := by
  refine jR.of (cc := cX5_square) (maxL := 2) (ret := (some .int)) (by decide) rfl (Nat.le_of_ble_eq_true rfl) ?_
  intro X C ro hl hT hQ
  subst hl; subst hT
  have hin5 : ∀ w ∈ u_ws RX5 TX5 4, w ∈ wsX5_square := by decide +kernel
  have hl24 : Cond.fieldLink RX5 24 (TX5 2).1 (TX5 2).2.1 (TX5 2).2.2.1 ∈ wsX5_square := by decide +kernel
  show jj X 0 0 0 [(0, .ref h0), (1, .int (nI c))] [] [(h0, cO 5 [.ref hh, .ref hv, .ref hs, .ref ha]), (hs, cI (xT X) 150 Q)]
  refine j_iload_n C dX5_square_0 1 rfl rfl ?_
  refine j_if_lt C dX5_square_1 (tgt := 22) (by decide) (fun c1 => ?_) (fun c1 => ?_)
  · skip
    have c1 := (kz_lt (a := c) (by omega)).mp c1
    exfalso
    first | exact c1.elim | omega
  · skip
    have c1 := (kz_nlt (a := c) (by omega)).mp c1
    refine j_iload_n C dX5_square_4 1 rfl rfl ?_
    refine j_aload_n C dX5_square_5 0 rfl rfl ?_
    refine j_get C (hin5) (ci := 5) rfl 2 (by decide) (hl24) 0 rfl (v := .ref hs) rfl dX5_square_6 ?_
    refine j_alenI C 1 rfl dX5_square_9 ?_
    refine j_icmp_ge C dX5_square_10 (tgt := 22) (by decide) (fun c2 => ?_) (fun c2 => ?_)
    · skip
      have c2 := (kn_ge (a := c) (b := 150) (by omega) (by omega)).mp c2
      exfalso
      first | exact c2.elim | omega
    · skip
      have c2 := (kn_nge (a := c) (b := 150) (by omega) (by omega)).mp c2
      refine j_aload_n C dX5_square_13 0 rfl rfl ?_
      refine j_get C (hin5) (ci := 5) rfl 2 (by decide) (hl24) 0 rfl (v := .ref hs) rfl dX5_square_14 ?_
      refine j_iload_n C dX5_square_17 1 rfl rfl ?_
      refine j_ialoadN C c rfl 1 rfl (by omega) (by decide) dX5_square_18 ?_
      refine j_goto C dX5_square_19 (tgt := 23) (by decide) ?_
      refine j_iretR C ro hQ rfl ?_ dX5_square_23
      rfl

set_option maxHeartbeats 4000000 in
set_option maxRecDepth 100000 in
/-- distance(cell, other) -/
theorem c_X5_distance (l : Launch) (T : jj_T) (h0 hh hv hs ha c d : Nat) (V : Nat → Int32) (hc : c < 150) (hd : d < 150) : jR l T yX5_distance wsX5_distance { frames := 1, cells := 0, slots := 0, locals := 23 } [.ref h0, .int (nI c), .int (nI d)] [(h0, cO 5 [.ref hh, .ref hv, .ref hs, .ref ha]), (hv, cI T 450 V)] (fun v => v = some (.int (c_dist V c d))) := by
  refine jR.of (cc := cX5_distance) (maxL := 6) (ret := (some .int)) (by decide) rfl (Nat.le_of_ble_eq_true rfl) ?_
  intro X C ro hl hT hQ
  subst hl; subst hT
  show jj X 0 0 0 [(0, .ref h0), (1, .int (nI c)), (2, .int (nI d))] [] [(h0, cO 5 [.ref hh, .ref hv, .ref hs, .ref ha]), (hv, cI (xT X) 450 V)]
  refine j_aload_n C dX5_distance_0 0 rfl rfl ?_
  refine j_iload_n C dX5_distance_1 1 rfl rfl ?_
  refine j_iconst C dX5_distance_2 (v := (nI 0)) kc_i_0 ?_
  refine j_callVR C (nA := 2) (As := [.int (nI c), .int (nI 0)]) (c_X5_part (xl X) (xT X) h0 hh hv hs ha c 0 V (by omega)) gX5_distance_X5_part rfl (by decide +kernel) rfl ⟨rfl, rfl⟩ (by decide) (by decide) [0, 1] rfl rfl 0 rfl rfl (rest := []) rfl (Nat.le_of_ble_eq_true rfl) dX5_distance_3 ?_
  rintro _ rfl
  show jj X 0 0 6 [(0, .ref h0), (1, .int (nI c)), (2, .int (nI d))] [.int (V (3 * c + 0))] [(h0, cO 5 [.ref hh, .ref hv, .ref hs, .ref ha]), (hv, cI (xT X) 450 V)]
  refine j_aload_n C dX5_distance_6 0 rfl rfl ?_
  refine j_iload_n C dX5_distance_7 2 rfl rfl ?_
  refine j_iconst C dX5_distance_8 (v := (nI 0)) kc_i_0 ?_
  refine j_callVR C (nA := 2) (As := [.int (nI d), .int (nI 0)]) (c_X5_part (xl X) (xT X) h0 hh hv hs ha d 0 V (by omega)) gX5_distance_X5_part rfl (by decide +kernel) rfl ⟨rfl, rfl⟩ (by decide) (by decide) [0, 1] rfl rfl 0 rfl rfl (rest := [.int (V (3 * c + 0))]) rfl (Nat.le_of_ble_eq_true rfl) dX5_distance_9 ?_
  rintro _ rfl
  show jj X 0 0 12 [(0, .ref h0), (1, .int (nI c)), (2, .int (nI d))] [.int (V (3 * d + 0)), .int (V (3 * c + 0))] [(h0, cO 5 [.ref hh, .ref hv, .ref hs, .ref ha]), (hv, cI (xT X) 450 V)]
  refine j_isub C dX5_distance_12 (v := ((V (3 * c + 0)) - (V (3 * d + 0)))) rfl ?_
  refine j_istore_n C dX5_distance_13 rfl (by decide) (lv' := [(3, .int ((V (3 * c + 0)) - (V (3 * d + 0)))), (0, .ref h0), (1, .int (nI c)), (2, .int (nI d))]) rfl ?_
  refine j_aload_n C dX5_distance_14 1 rfl rfl ?_
  refine j_iload_n C dX5_distance_15 2 rfl rfl ?_
  refine j_iconst C dX5_distance_16 (v := (nI 1)) kc_i_1 ?_
  refine j_callVR C (nA := 2) (As := [.int (nI c), .int (nI 1)]) (c_X5_part (xl X) (xT X) h0 hh hv hs ha c 1 V (by omega)) gX5_distance_X5_part rfl (by decide +kernel) rfl ⟨rfl, rfl⟩ (by decide) (by decide) [0, 1] rfl rfl 0 rfl rfl (rest := []) rfl (Nat.le_of_ble_eq_true rfl) dX5_distance_17 ?_
  rintro _ rfl
  show jj X 0 0 20 [(3, .int ((V (3 * c + 0)) - (V (3 * d + 0)))), (0, .ref h0), (1, .int (nI c)), (2, .int (nI d))] [.int (V (3 * c + 1))] [(h0, cO 5 [.ref hh, .ref hv, .ref hs, .ref ha]), (hv, cI (xT X) 450 V)]
  refine j_aload_n C dX5_distance_20 1 rfl rfl ?_
  refine j_iload_n C dX5_distance_21 3 rfl rfl ?_
  refine j_iconst C dX5_distance_22 (v := (nI 1)) kc_i_1 ?_
  refine j_callVR C (nA := 2) (As := [.int (nI d), .int (nI 1)]) (c_X5_part (xl X) (xT X) h0 hh hv hs ha d 1 V (by omega)) gX5_distance_X5_part rfl (by decide +kernel) rfl ⟨rfl, rfl⟩ (by decide) (by decide) [0, 1] rfl rfl 0 rfl rfl (rest := [.int (V (3 * c + 1))]) rfl (Nat.le_of_ble_eq_true rfl) dX5_distance_23 ?_
  rintro _ rfl
  show jj X 0 0 26 [(3, .int ((V (3 * c + 0)) - (V (3 * d + 0)))), (0, .ref h0), (1, .int (nI c)), (2, .int (nI d))] [.int (V (3 * d + 1)), .int (V (3 * c + 1))] [(h0, cO 5 [.ref hh, .ref hv, .ref hs, .ref ha]), (hv, cI (xT X) 450 V)]
  refine j_isub C dX5_distance_26 (v := ((V (3 * c + 1)) - (V (3 * d + 1)))) rfl ?_
  refine j_istore C dX5_distance_27 (by decide) (lv' := [(4, .int ((V (3 * c + 1)) - (V (3 * d + 1)))), (3, .int ((V (3 * c + 0)) - (V (3 * d + 0)))), (0, .ref h0), (1, .int (nI c)), (2, .int (nI d))]) rfl ?_
  refine j_aload_n C dX5_distance_29 2 rfl rfl ?_
  refine j_iload_n C dX5_distance_30 3 rfl rfl ?_
  refine j_iconst C dX5_distance_31 (v := (nI 2)) kc_i_2 ?_
  refine j_callVR C (nA := 2) (As := [.int (nI c), .int (nI 2)]) (c_X5_part (xl X) (xT X) h0 hh hv hs ha c 2 V (by omega)) gX5_distance_X5_part rfl (by decide +kernel) rfl ⟨rfl, rfl⟩ (by decide) (by decide) [0, 1] rfl rfl 0 rfl rfl (rest := []) rfl (Nat.le_of_ble_eq_true rfl) dX5_distance_32 ?_
  rintro _ rfl
  show jj X 0 0 35 [(4, .int ((V (3 * c + 1)) - (V (3 * d + 1)))), (3, .int ((V (3 * c + 0)) - (V (3 * d + 0)))), (0, .ref h0), (1, .int (nI c)), (2, .int (nI d))] [.int (V (3 * c + 2))] [(h0, cO 5 [.ref hh, .ref hv, .ref hs, .ref ha]), (hv, cI (xT X) 450 V)]
  refine j_aload_n C dX5_distance_35 2 rfl rfl ?_
  refine j_iload_n C dX5_distance_36 4 rfl rfl ?_
  refine j_iconst C dX5_distance_37 (v := (nI 2)) kc_i_2 ?_
  refine j_callVR C (nA := 2) (As := [.int (nI d), .int (nI 2)]) (c_X5_part (xl X) (xT X) h0 hh hv hs ha d 2 V (by omega)) gX5_distance_X5_part rfl (by decide +kernel) rfl ⟨rfl, rfl⟩ (by decide) (by decide) [0, 1] rfl rfl 0 rfl rfl (rest := [.int (V (3 * c + 2))]) rfl (Nat.le_of_ble_eq_true rfl) dX5_distance_38 ?_
  rintro _ rfl
  show jj X 0 0 41 [(4, .int ((V (3 * c + 1)) - (V (3 * d + 1)))), (3, .int ((V (3 * c + 0)) - (V (3 * d + 0)))), (0, .ref h0), (1, .int (nI c)), (2, .int (nI d))] [.int (V (3 * d + 2)), .int (V (3 * c + 2))] [(h0, cO 5 [.ref hh, .ref hv, .ref hs, .ref ha]), (hv, cI (xT X) 450 V)]
  refine j_isub C dX5_distance_41 (v := ((V (3 * c + 2)) - (V (3 * d + 2)))) rfl ?_
  refine j_istore C dX5_distance_42 (by decide) (lv' := [(5, .int ((V (3 * c + 2)) - (V (3 * d + 2)))), (4, .int ((V (3 * c + 1)) - (V (3 * d + 1)))), (3, .int ((V (3 * c + 0)) - (V (3 * d + 0)))), (0, .ref h0), (1, .int (nI c)), (2, .int (nI d))]) rfl ?_
  refine j_iload_n C dX5_distance_44 2 rfl rfl ?_
  refine j_iload_n C dX5_distance_45 2 rfl rfl ?_
  refine j_imul C dX5_distance_46 (v := (((V (3 * c + 0)) - (V (3 * d + 0))) * ((V (3 * c + 0)) - (V (3 * d + 0))))) rfl ?_
  refine j_iload C dX5_distance_47 1 rfl ?_
  refine j_iload C dX5_distance_49 1 rfl ?_
  refine j_imul C dX5_distance_51 (v := (((V (3 * c + 1)) - (V (3 * d + 1))) * ((V (3 * c + 1)) - (V (3 * d + 1))))) rfl ?_
  refine j_iadd C dX5_distance_52 (v := ((((V (3 * c + 0)) - (V (3 * d + 0))) * ((V (3 * c + 0)) - (V (3 * d + 0)))) + (((V (3 * c + 1)) - (V (3 * d + 1))) * ((V (3 * c + 1)) - (V (3 * d + 1)))))) rfl ?_
  refine j_iload C dX5_distance_53 0 rfl ?_
  refine j_iload C dX5_distance_55 0 rfl ?_
  refine j_imul C dX5_distance_57 (v := (((V (3 * c + 2)) - (V (3 * d + 2))) * ((V (3 * c + 2)) - (V (3 * d + 2))))) rfl ?_
  refine j_iadd C dX5_distance_58 (v := (((((V (3 * c + 0)) - (V (3 * d + 0))) * ((V (3 * c + 0)) - (V (3 * d + 0)))) + (((V (3 * c + 1)) - (V (3 * d + 1))) * ((V (3 * c + 1)) - (V (3 * d + 1))))) + (((V (3 * c + 2)) - (V (3 * d + 2))) * ((V (3 * c + 2)) - (V (3 * d + 2)))))) rfl ?_
  refine j_iretR C ro hQ rfl ?_ dX5_distance_59
  rfl

set_option maxHeartbeats 4000000 in
set_option maxRecDepth 100000 in
/-- isFace(c) -/
theorem c_X5_isFace (l : Launch) (T : jj_T) (x : Int32) : jR l T yX5_isFace wsX5_isFace { frames := 0, cells := 0, slots := 0, locals := 0 } [.int x] [] (fun v => v = some (.int (bI (v_face x)))) := by
  refine jR.of (cc := cX5_isFace) (maxL := 1) (ret := (some .boolean)) (by decide) rfl (Nat.le_of_ble_eq_true rfl) ?_
  intro X C ro hl hT hQ
  subst hl; subst hT
  show jj X 0 0 0 [(0, .int x)] [] []
  refine j_iload_n C dX5_isFace_0 0 rfl rfl ?_
  refine j_iconst C dX5_isFace_1 (v := (nI 5)) kc_i_5 ?_
  refine j_icmp_eq C dX5_isFace_2 (tgt := 11) (by decide) (fun c1 => ?_) (fun c1 => ?_)
  · skip
    refine j_iconst C dX5_isFace_11 (v := (nI 1)) kc_i_1 ?_
    refine j_goto C dX5_isFace_12 (tgt := 16) (by decide) ?_
    refine j_iretR C ro hQ (by decide +kernel) ?_ dX5_isFace_16
    refine kb_t ?_
    unfold v_face; rw [decide_eq_true c1, Bool.true_or]
  · skip
    refine j_iload_n C dX5_isFace_5 0 rfl rfl ?_
    refine j_bipush C dX5_isFace_6 (v := (-5)) kc_b_m5 ?_
    refine j_icmp_ne C dX5_isFace_8 (tgt := 15) (by decide) (fun c2 => ?_) (fun c2 => ?_)
    · skip
      refine j_iconst C dX5_isFace_15 (v := (nI 0)) kc_i_0 ?_
      refine j_iretR C ro hQ (by decide +kernel) ?_ dX5_isFace_16
      refine kb_f ?_
      unfold v_face; rw [decide_eq_false c1, decide_eq_false c2]; rfl
    · skip
      refine j_iconst C dX5_isFace_11 (v := (nI 1)) kc_i_1 ?_
      refine j_goto C dX5_isFace_12 (tgt := 16) (by decide) ?_
      refine j_iretR C ro hQ (by decide +kernel) ?_ dX5_isFace_16
      refine kb_t ?_
      unfold v_face; rw [decide_eq_true c2, Bool.or_true]

set_option maxHeartbeats 4000000 in
set_option maxRecDepth 100000 in
/-- isInner(c) -/
theorem c_X5_isInner (l : Launch) (T : jj_T) (x : Int32) : jR l T yX5_isInner wsX5_isInner { frames := 0, cells := 0, slots := 0, locals := 0 } [.int x] [] (fun v => v = some (.int (bI (v_inner x)))) := by
  refine jR.of (cc := cX5_isInner) (maxL := 1) (ret := (some .boolean)) (by decide) rfl (Nat.le_of_ble_eq_true rfl) ?_
  intro X C ro hl hT hQ
  subst hl; subst hT
  show jj X 0 0 0 [(0, .int x)] [] []
  refine j_iload_n C dX5_isInner_0 0 rfl rfl ?_
  refine j_bipush C dX5_isInner_1 (v := (-5)) kc_b_m5 ?_
  refine j_icmp_le C dX5_isInner_3 (tgt := 21) (by decide) (fun c1 => ?_) (fun c1 => ?_)
  · skip
    refine j_iconst C dX5_isInner_21 (v := (nI 0)) kc_i_0 ?_
    refine j_iretR C ro hQ (by decide +kernel) ?_ dX5_isInner_22
    refine kb_f ?_
    unfold v_inner; rw [decide_eq_false (fun h => absurd c1 (Int32.not_le.mpr h))]; rfl
  · skip
    refine j_iload_n C dX5_isInner_6 0 rfl rfl ?_
    refine j_iconst C dX5_isInner_7 (v := (nI 5)) kc_i_5 ?_
    refine j_icmp_ge C dX5_isInner_8 (tgt := 21) (by decide) (fun c2 => ?_) (fun c2 => ?_)
    · skip
      refine j_iconst C dX5_isInner_21 (v := (nI 0)) kc_i_0 ?_
      refine j_iretR C ro hQ (by decide +kernel) ?_ dX5_isInner_22
      refine kb_f ?_
      unfold v_inner; rw [decide_eq_false (fun h => absurd c2 (Int32.not_le.mpr h)), Bool.false_and, Bool.and_false]
    · skip
      refine j_iload_n C dX5_isInner_11 0 rfl rfl ?_
      refine j_iconst C dX5_isInner_12 (v := (nI 1)) kc_i_1 ?_
      refine j_iand C dX5_isInner_13 (v := (x &&& (nI 1))) rfl ?_
      refine j_if_ne C dX5_isInner_14 (tgt := 21) (by decide) (fun c3 => ?_) (fun c3 => ?_)
      · skip
        refine j_iconst C dX5_isInner_21 (v := (nI 0)) kc_i_0 ?_
        refine j_iretR C ro hQ (by decide +kernel) ?_ dX5_isInner_22
        refine kb_f ?_
        unfold v_inner; rw [decide_eq_false c3, Bool.and_false, Bool.and_false]
      · skip
        refine j_iconst C dX5_isInner_17 (v := (nI 1)) kc_i_1 ?_
        refine j_goto C dX5_isInner_18 (tgt := 22) (by decide) ?_
        refine j_iretR C ro hQ (by decide +kernel) ?_ dX5_isInner_22
        refine kb_t ?_
        unfold v_inner; rw [decide_eq_true (Int32.not_le.mp c1), decide_eq_true (Int32.not_le.mp c2), decide_eq_true c3]; rfl

set_option maxHeartbeats 4000000 in
set_option maxRecDepth 100000 in
/-- isVector(x, y, z) -/
theorem c_X5_isVector (l : Launch) (T : jj_T) (x y z : Int32) : jR l T yX5_isVector wsX5_isVector { frames := 1, cells := 0, slots := 0, locals := 20 } [.int x, .int y, .int z] [] (fun v => v = some (.int (bI (v_is x y z)))) := by
  refine jR.of (cc := cX5_isVector) (maxL := 3) (ret := (some .boolean)) (by decide) rfl (Nat.le_of_ble_eq_true rfl) ?_
  intro X C ro hl hT hQ
  subst hl; subst hT
  show jj X 0 0 0 [(0, .int x), (1, .int y), (2, .int z)] [] []
  refine j_iload_n C dX5_isVector_0 0 rfl rfl ?_
  refine j_callSR C (nA := 1) (As := [.int x]) (c_X5_isFace (xl X) (xT X) x ) gX5_isVector_X5_isFace rfl (by decide +kernel) rfl ⟨rfl, rfl⟩ (by decide) (by decide) [] rfl rfl (rest := []) rfl (Nat.le_of_ble_eq_true rfl) dX5_isVector_1 ?_
  rintro _ rfl
  show jj X 0 0 4 [(0, .int x), (1, .int y), (2, .int z)] [.int (bI (v_face x))] []
  refine j_if_eq C dX5_isVector_4 (tgt := 27) (by decide) (fun c1 => ?_) (fun c1 => ?_)
  · skip
    have c1 := (kb_eq).mp c1
    refine j_iload_n C dX5_isVector_27 1 rfl rfl ?_
    refine j_callSR C (nA := 1) (As := [.int y]) (c_X5_isFace (xl X) (xT X) y ) gX5_isVector_X5_isFace rfl (by decide +kernel) rfl ⟨rfl, rfl⟩ (by decide) (by decide) [] rfl rfl (rest := []) rfl (Nat.le_of_ble_eq_true rfl) dX5_isVector_28 ?_
    rintro _ rfl
    show jj X 0 0 31 [(0, .int x), (1, .int y), (2, .int z)] [.int (bI (v_face y))] []
    refine j_if_eq C dX5_isVector_31 (tgt := 54) (by decide) (fun c2 => ?_) (fun c2 => ?_)
    · skip
      have c2 := (kb_eq).mp c2
      refine j_iload_n C dX5_isVector_54 2 rfl rfl ?_
      refine j_callSR C (nA := 1) (As := [.int z]) (c_X5_isFace (xl X) (xT X) z ) gX5_isVector_X5_isFace rfl (by decide +kernel) rfl ⟨rfl, rfl⟩ (by decide) (by decide) [] rfl rfl (rest := []) rfl (Nat.le_of_ble_eq_true rfl) dX5_isVector_55 ?_
      rintro _ rfl
      show jj X 0 0 58 [(0, .int x), (1, .int y), (2, .int z)] [.int (bI (v_face z))] []
      refine j_if_eq C dX5_isVector_58 (tgt := 79) (by decide) (fun c3 => ?_) (fun c3 => ?_)
      · skip
        have c3 := (kb_eq).mp c3
        refine j_iconst C dX5_isVector_79 (v := (nI 0)) kc_i_0 ?_
        refine j_iretR C ro hQ (by decide +kernel) ?_ dX5_isVector_80
        first | (refine kb_f ?_; simp [v_is, *]; done) | (refine kb_t ?_; simp [v_is, *]; done)
      · skip
        have c3 := (kb_neq).mp c3
        refine j_iload_n C dX5_isVector_61 0 rfl rfl ?_
        refine j_callSR C (nA := 1) (As := [.int x]) (c_X5_isInner (xl X) (xT X) x ) gX5_isVector_X5_isInner rfl (by decide +kernel) rfl ⟨rfl, rfl⟩ (by decide) (by decide) [] rfl rfl (rest := []) rfl (Nat.le_of_ble_eq_true rfl) dX5_isVector_62 ?_
        rintro _ rfl
        show jj X 0 0 65 [(0, .int x), (1, .int y), (2, .int z)] [.int (bI (v_inner x))] []
        refine j_if_eq C dX5_isVector_65 (tgt := 79) (by decide) (fun c4 => ?_) (fun c4 => ?_)
        · skip
          have c4 := (kb_eq).mp c4
          refine j_iconst C dX5_isVector_79 (v := (nI 0)) kc_i_0 ?_
          refine j_iretR C ro hQ (by decide +kernel) ?_ dX5_isVector_80
          first | (refine kb_f ?_; simp [v_is, *]; done) | (refine kb_t ?_; simp [v_is, *]; done)
        · skip
          have c4 := (kb_neq).mp c4
          refine j_iload_n C dX5_isVector_68 1 rfl rfl ?_
          refine j_callSR C (nA := 1) (As := [.int y]) (c_X5_isInner (xl X) (xT X) y ) gX5_isVector_X5_isInner rfl (by decide +kernel) rfl ⟨rfl, rfl⟩ (by decide) (by decide) [] rfl rfl (rest := []) rfl (Nat.le_of_ble_eq_true rfl) dX5_isVector_69 ?_
          rintro _ rfl
          show jj X 0 0 72 [(0, .int x), (1, .int y), (2, .int z)] [.int (bI (v_inner y))] []
          refine j_if_eq C dX5_isVector_72 (tgt := 79) (by decide) (fun c5 => ?_) (fun c5 => ?_)
          · skip
            have c5 := (kb_eq).mp c5
            refine j_iconst C dX5_isVector_79 (v := (nI 0)) kc_i_0 ?_
            refine j_iretR C ro hQ (by decide +kernel) ?_ dX5_isVector_80
            first | (refine kb_f ?_; simp [v_is, *]; done) | (refine kb_t ?_; simp [v_is, *]; done)
          · skip
            have c5 := (kb_neq).mp c5
            refine j_iconst C dX5_isVector_75 (v := (nI 1)) kc_i_1 ?_
            refine j_goto C dX5_isVector_76 (tgt := 80) (by decide) ?_
            refine j_iretR C ro hQ (by decide +kernel) ?_ dX5_isVector_80
            first | (refine kb_f ?_; simp [v_is, *]; done) | (refine kb_t ?_; simp [v_is, *]; done)
    · skip
      have c2 := (kb_neq).mp c2
      refine j_iload_n C dX5_isVector_34 0 rfl rfl ?_
      refine j_callSR C (nA := 1) (As := [.int x]) (c_X5_isInner (xl X) (xT X) x ) gX5_isVector_X5_isInner rfl (by decide +kernel) rfl ⟨rfl, rfl⟩ (by decide) (by decide) [] rfl rfl (rest := []) rfl (Nat.le_of_ble_eq_true rfl) dX5_isVector_35 ?_
      rintro _ rfl
      show jj X 0 0 38 [(0, .int x), (1, .int y), (2, .int z)] [.int (bI (v_inner x))] []
      refine j_if_eq C dX5_isVector_38 (tgt := 52) (by decide) (fun c6 => ?_) (fun c6 => ?_)
      · skip
        have c6 := (kb_eq).mp c6
        refine j_iconst C dX5_isVector_52 (v := (nI 0)) kc_i_0 ?_
        refine j_iretR C ro hQ (by decide +kernel) ?_ dX5_isVector_53
        first | (refine kb_f ?_; simp [v_is, *]; done) | (refine kb_t ?_; simp [v_is, *]; done)
      · skip
        have c6 := (kb_neq).mp c6
        refine j_iload_n C dX5_isVector_41 2 rfl rfl ?_
        refine j_callSR C (nA := 1) (As := [.int z]) (c_X5_isInner (xl X) (xT X) z ) gX5_isVector_X5_isInner rfl (by decide +kernel) rfl ⟨rfl, rfl⟩ (by decide) (by decide) [] rfl rfl (rest := []) rfl (Nat.le_of_ble_eq_true rfl) dX5_isVector_42 ?_
        rintro _ rfl
        show jj X 0 0 45 [(0, .int x), (1, .int y), (2, .int z)] [.int (bI (v_inner z))] []
        refine j_if_eq C dX5_isVector_45 (tgt := 52) (by decide) (fun c7 => ?_) (fun c7 => ?_)
        · skip
          have c7 := (kb_eq).mp c7
          refine j_iconst C dX5_isVector_52 (v := (nI 0)) kc_i_0 ?_
          refine j_iretR C ro hQ (by decide +kernel) ?_ dX5_isVector_53
          first | (refine kb_f ?_; simp [v_is, *]; done) | (refine kb_t ?_; simp [v_is, *]; done)
        · skip
          have c7 := (kb_neq).mp c7
          refine j_iconst C dX5_isVector_48 (v := (nI 1)) kc_i_1 ?_
          refine j_goto C dX5_isVector_49 (tgt := 53) (by decide) ?_
          refine j_iretR C ro hQ (by decide +kernel) ?_ dX5_isVector_53
          first | (refine kb_f ?_; simp [v_is, *]; done) | (refine kb_t ?_; simp [v_is, *]; done)
  · skip
    have c1 := (kb_neq).mp c1
    refine j_iload_n C dX5_isVector_7 1 rfl rfl ?_
    refine j_callSR C (nA := 1) (As := [.int y]) (c_X5_isInner (xl X) (xT X) y ) gX5_isVector_X5_isInner rfl (by decide +kernel) rfl ⟨rfl, rfl⟩ (by decide) (by decide) [] rfl rfl (rest := []) rfl (Nat.le_of_ble_eq_true rfl) dX5_isVector_8 ?_
    rintro _ rfl
    show jj X 0 0 11 [(0, .int x), (1, .int y), (2, .int z)] [.int (bI (v_inner y))] []
    refine j_if_eq C dX5_isVector_11 (tgt := 25) (by decide) (fun c8 => ?_) (fun c8 => ?_)
    · skip
      have c8 := (kb_eq).mp c8
      refine j_iconst C dX5_isVector_25 (v := (nI 0)) kc_i_0 ?_
      refine j_iretR C ro hQ (by decide +kernel) ?_ dX5_isVector_26
      first | (refine kb_f ?_; simp [v_is, *]; done) | (refine kb_t ?_; simp [v_is, *]; done)
    · skip
      have c8 := (kb_neq).mp c8
      refine j_iload_n C dX5_isVector_14 2 rfl rfl ?_
      refine j_callSR C (nA := 1) (As := [.int z]) (c_X5_isInner (xl X) (xT X) z ) gX5_isVector_X5_isInner rfl (by decide +kernel) rfl ⟨rfl, rfl⟩ (by decide) (by decide) [] rfl rfl (rest := []) rfl (Nat.le_of_ble_eq_true rfl) dX5_isVector_15 ?_
      rintro _ rfl
      show jj X 0 0 18 [(0, .int x), (1, .int y), (2, .int z)] [.int (bI (v_inner z))] []
      refine j_if_eq C dX5_isVector_18 (tgt := 25) (by decide) (fun c9 => ?_) (fun c9 => ?_)
      · skip
        have c9 := (kb_eq).mp c9
        refine j_iconst C dX5_isVector_25 (v := (nI 0)) kc_i_0 ?_
        refine j_iretR C ro hQ (by decide +kernel) ?_ dX5_isVector_26
        first | (refine kb_f ?_; simp [v_is, *]; done) | (refine kb_t ?_; simp [v_is, *]; done)
      · skip
        have c9 := (kb_neq).mp c9
        refine j_iconst C dX5_isVector_21 (v := (nI 1)) kc_i_1 ?_
        refine j_goto C dX5_isVector_22 (tgt := 26) (by decide) ?_
        refine j_iretR C ro hQ (by decide +kernel) ?_ dX5_isVector_26
        first | (refine kb_f ?_; simp [v_is, *]; done) | (refine kb_t ?_; simp [v_is, *]; done)
