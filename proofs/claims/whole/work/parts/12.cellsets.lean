/-! SETS OF CELLS: rows of three words of bits -/
def cs_lb (x : Int64) (i : Nat) : Bool := x.toBitVec.getLsbD i
def cs_b (f : Nat → Int64) (r c : Nat) : Bool := cs_lb (f (3 * r + c / 64)) (c % 64)
/-- x is the first place below n with p, or NONE -/
def fs_is (p : Nat → Bool) (n : Nat) (x : Int32) : Prop := (∃ c, c < n ∧ p c = true ∧ (∀ d, d < c → p d = false) ∧ x = nI c) ∨ ((∀ c, c < n → p c = false) ∧ x = -9)
theorem fs_uniq {p : Nat → Bool} {n : Nat} {x y : Int32} (hx : fs_is p n x) (hy : fs_is p n y) : x = y := by
  rcases hx with ⟨c, h1, h2, h3, rfl⟩ | ⟨h1, rfl⟩ <;> rcases hy with ⟨d, g1, g2, g3, rfl⟩ | ⟨g1, rfl⟩
  · rcases Nat.lt_trichotomy c d with h | h | h
    · rw [g3 c h] at h2; cases h2
    · rw [h]
    · rw [h3 d h] at g2; cases g2
  · rw [g1 c h1] at h2; cases h2
  · rw [h1 d g1] at g2; cases g2
  · rfl
theorem cs_and (w : Int64) {j : Nat} (hj : j < 64) : ((w.toUInt64 >>> ((nI j).toInt64.toUInt64 &&& Int64.toUInt64 63)).toInt64 &&& lN 1) = lN 0 ↔ cs_lb w j = false := ts_bit hj (by rw [wb_cu j hj]; exact u_tn (by omega))
theorem cs_or (x y : Int64) (i : Nat) : cs_lb (x ||| y) i = (cs_lb x i || cs_lb y i) := by simp [cs_lb]
theorem cs_an (x y : Int64) (i : Nat) : cs_lb (x &&& y) i = (cs_lb x i && cs_lb y i) := by simp [cs_lb]
theorem cs_0 (i : Nat) : cs_lb (lN 0) i = false := by simp [cs_lb, lN]
theorem cs_inv (x : Int64) {i : Nat} (hi : i < 64) : cs_lb (x ^^^ (-1)) i = !cs_lb x i := by
  have : (-1 : Int64).toBitVec = BitVec.allOnes 64 := by decide +kernel
  simp [cs_lb, this, hi]
theorem cs_one {j : Nat} (hj : j < 64) {i : Nat} (hi : i < 64) : cs_lb (lN 1 <<< ((nI j).toInt64 &&& 63)) i = decide (i = j) := by
  rw [wb_shl 1 hj, cs_lb, wb_tb, Nat.one_mul]
  rw [BitVec.getLsbD_ofNat, Nat.testBit_two_pow, decide_eq_true hi, Bool.true_and]
  exact decide_eq_decide.mpr eq_comm
theorem cs_shr1 (x : Int64) (i : Nat) : cs_lb ((x.toUInt64 >>> ((nI 1).toInt64.toUInt64 &&& Int64.toUInt64 63)).toInt64) i = cs_lb x (i + 1) := by
  have h : ((nI 1).toInt64.toUInt64 &&& Int64.toUInt64 63) = 1 := by decide +kernel
  rw [h]
  simp [cs_lb, Nat.add_comm]
set_option maxHeartbeats 4000000 in
set_option maxRecDepth 100000 in
/-- word(row, w): the word itself -/
theorem c_X0_word (l : Launch) (T : jj_T) (h0 hw nW r w : Nat) (f : Nat → Int64) (hr : 3 * r + w < nW) (hn : nW < 100000) : jR l T yX0_word wsX0_word { frames := 0, cells := 0, slots := 0, locals := 0 } [.ref h0, .int (nI r), .int (nI w)] [(h0, cO 0 [.ref hw]), (hw, cJ T nW f)] (fun v => v = some (.long (f (3 * r + w)))) := by
  refine jR.of (cc := cX0_word) (maxL := 4) (ret := (some .long)) (by decide) rfl (Nat.le_of_ble_eq_true rfl) ?_
  intro X C ro hl hT hQ
  subst hl; subst hT
  have hin0 : ∀ w ∈ u_ws RX0 TX0 1, w ∈ wsX0_word := by decide +kernel
  have hl11 : Cond.fieldLink RX0 11 (TX0 0).1 (TX0 0).2.1 (TX0 0).2.2.1 ∈ wsX0_word := by decide +kernel
  show jj X 0 0 0 [(0, .ref h0), (1, .int (nI r)), (2, .int (nI w))] [] [(h0, cO 0 [.ref hw]), (hw, cJ (xT X) nW f)]
  refine j_iconst C dX0_word_0 (v := (nI 3)) kc_i_3 ?_
  refine j_iload_n C dX0_word_1 1 rfl rfl ?_
  refine j_imul C dX0_word_2 (v := (nI (3 * r))) (pk_mul _ _) ?_
  refine j_iload_n C dX0_word_3 2 rfl rfl ?_
  refine j_iadd C dX0_word_4 (v := (nI (3 * r + w))) (nI_add _ _) ?_
  refine j_istore_n C dX0_word_5 rfl (by decide) (lv' := [(3, .int (nI (3 * r + w))), (0, .ref h0), (1, .int (nI r)), (2, .int (nI w))]) rfl ?_
  refine j_iload_n C dX0_word_6 0 rfl rfl ?_
  refine j_if_lt C dX0_word_7 (tgt := 28) (by decide) (fun c1 => ?_) (fun c1 => ?_)
  · skip
    have c1 := (kz_lt (a := 3 * r + w) (by omega)).mp c1
    exfalso
    first | exact c1.elim | omega
  · skip
    have c1 := (kz_nlt (a := 3 * r + w) (by omega)).mp c1
    refine j_iload_n C dX0_word_10 0 rfl rfl ?_
    refine j_aload_n C dX0_word_11 1 rfl rfl ?_
    refine j_get C (hin0) (ci := 0) rfl 0 (by decide) (hl11) 0 rfl (v := .ref hw) rfl dX0_word_12 ?_
    refine j_alenJ C 1 rfl dX0_word_15 ?_
    refine j_icmp_ge C dX0_word_16 (tgt := 28) (by decide) (fun c2 => ?_) (fun c2 => ?_)
    · skip
      have c2 := (kn_ge (a := 3 * r + w) (b := nW) (by omega) (by omega)).mp c2
      exfalso
      first | exact c2.elim | omega
    · skip
      have c2 := (kn_nge (a := 3 * r + w) (b := nW) (by omega) (by omega)).mp c2
      refine j_aload_n C dX0_word_19 1 rfl rfl ?_
      refine j_get C (hin0) (ci := 0) rfl 0 (by decide) (hl11) 0 rfl (v := .ref hw) rfl dX0_word_20 ?_
      refine j_iload_n C dX0_word_23 0 rfl rfl ?_
      refine j_laloadN C (3 * r + w) rfl 1 rfl (by omega) (by omega) dX0_word_24 ?_
      refine j_goto C dX0_word_25 (tgt := 29) (by decide) ?_
      refine j_lretR C ro hQ ?_ dX0_word_29
      rfl

set_option maxHeartbeats 4000000 in
set_option maxRecDepth 100000 in
/-- hasRow of a row that is there -/
theorem c_X0_hasRow (l : Launch) (T : jj_T) (h0 hw nW r : Nat) (f : Nat → Int64) (hr : 3 * r + 3 ≤ nW) (hn : nW < 100000) : jR l T yX0_hasRow wsX0_hasRow { frames := 0, cells := 0, slots := 0, locals := 0 } [.ref h0, .int (nI r)] [(h0, cO 0 [.ref hw]), (hw, cJ T nW f)] (fun v => v = some (.int (bI true))) := by
  refine jR.of (cc := cX0_hasRow) (maxL := 3) (ret := (some .boolean)) (by decide) rfl (Nat.le_of_ble_eq_true rfl) ?_
  intro X C ro hl hT hQ
  subst hl; subst hT
  have hin0 : ∀ w ∈ u_ws RX0 TX0 1, w ∈ wsX0_hasRow := by decide +kernel
  have hl11 : Cond.fieldLink RX0 11 (TX0 0).1 (TX0 0).2.1 (TX0 0).2.2.1 ∈ wsX0_hasRow := by decide +kernel
  show jj X 0 0 0 [(0, .ref h0), (1, .int (nI r))] [] [(h0, cO 0 [.ref hw]), (hw, cJ (xT X) nW f)]
  refine j_iconst C dX0_hasRow_0 (v := (nI 3)) kc_i_3 ?_
  refine j_iload_n C dX0_hasRow_1 1 rfl rfl ?_
  refine j_imul C dX0_hasRow_2 (v := (nI (3 * r))) (pk_mul _ _) ?_
  refine j_istore_n C dX0_hasRow_3 rfl (by decide) (lv' := [(2, .int (nI (3 * r))), (0, .ref h0), (1, .int (nI r))]) rfl ?_
  refine j_iload_n C dX0_hasRow_4 0 rfl rfl ?_
  refine j_if_lt C dX0_hasRow_5 (tgt := 23) (by decide) (fun c1 => ?_) (fun c1 => ?_)
  · skip
    have c1 := (kz_lt (a := 3 * r) (by omega)).mp c1
    exfalso
    first | exact c1.elim | omega
  · skip
    have c1 := (kz_nlt (a := 3 * r) (by omega)).mp c1
    refine j_iload_n C dX0_hasRow_8 0 rfl rfl ?_
    refine j_aload_n C dX0_hasRow_9 1 rfl rfl ?_
    refine j_get C (hin0) (ci := 0) rfl 0 (by decide) (hl11) 0 rfl (v := .ref hw) rfl dX0_hasRow_10 ?_
    refine j_alenJ C 1 rfl dX0_hasRow_13 ?_
    refine j_iconst C dX0_hasRow_14 (v := (nI 3)) kc_i_3 ?_
    refine j_isub C dX0_hasRow_15 (v := (nI (nW - 3))) (pk_sub (by omega)) ?_
    refine j_icmp_gt C dX0_hasRow_16 (tgt := 23) (by decide) (fun c2 => ?_) (fun c2 => ?_)
    · skip
      have c2 := (kn_gt (a := 3 * r) (b := nW - 3) (by omega) (by omega)).mp c2
      exfalso
      first | exact c2.elim | omega
    · skip
      have c2 := (kn_ngt (a := 3 * r) (b := nW - 3) (by omega) (by omega)).mp c2
      refine j_iconst C dX0_hasRow_19 (v := (nI 1)) kc_i_1 ?_
      refine j_goto C dX0_hasRow_20 (tgt := 24) (by decide) ?_
      refine j_iretR C ro hQ (by decide +kernel) ?_ dX0_hasRow_24
      rfl

set_option maxHeartbeats 4000000 in
set_option maxRecDepth 100000 in
/-- has(row, cell) -/
theorem c_X0_has (l : Launch) (T : jj_T) (h0 hw nW r c : Nat) (f : Nat → Int64) (hc : c < 150) (hr : 3 * r + 3 ≤ nW) (hn : nW < 100000) : jR l T yX0_has wsX0_has { frames := 1, cells := 0, slots := 0, locals := 23 } [.ref h0, .int (nI r), .int (nI c)] [(h0, cO 0 [.ref hw]), (hw, cJ T nW f)] (fun v => v = some (.int (bI (cs_b f r c)))) := by
  refine jR.of (cc := cX0_has) (maxL := 3) (ret := (some .boolean)) (by decide) rfl (Nat.le_of_ble_eq_true rfl) ?_
  intro X C ro hl hT hQ
  subst hl; subst hT
  show jj X 0 0 0 [(0, .ref h0), (1, .int (nI r)), (2, .int (nI c))] [] [(h0, cO 0 [.ref hw]), (hw, cJ (xT X) nW f)]
  refine j_iload_n C dX0_has_0 2 rfl rfl ?_
  refine j_if_lt C dX0_has_1 (tgt := 36) (by decide) (fun c1 => ?_) (fun c1 => ?_)
  · skip
    have c1 := (kz_lt (a := c) (by omega)).mp c1
    exfalso
    first | exact c1.elim | omega
  · skip
    have c1 := (kz_nlt (a := c) (by omega)).mp c1
    refine j_iload_n C dX0_has_4 2 rfl rfl ?_
    refine j_sipush C dX0_has_5 (v := (nI 150)) kc_s_150 ?_
    refine j_icmp_ge C dX0_has_8 (tgt := 36) (by decide) (fun c2 => ?_) (fun c2 => ?_)
    · skip
      have c2 := (kn_ge (a := c) (b := 150) (by omega) (by omega)).mp c2
      exfalso
      first | exact c2.elim | omega
    · skip
      have c2 := (kn_nge (a := c) (b := 150) (by omega) (by omega)).mp c2
      refine j_aload_n C dX0_has_11 0 rfl rfl ?_
      refine j_iload_n C dX0_has_12 1 rfl rfl ?_
      refine j_iload_n C dX0_has_13 2 rfl rfl ?_
      refine j_bipush C dX0_has_14 (v := (nI 6)) kc_b_6 ?_
      refine j_ishr C dX0_has_16 (v := (nI (c / 64))) (pk_shrN (by omega) _ 6 (by decide +kernel)) ?_
      refine j_callVR C (nA := 2) (As := [.int (nI r), .int (nI (c / 64))]) (c_X0_word (xl X) (xT X) h0 hw nW r (c / 64) f (by omega) (by omega)) gX0_has_X0_word rfl (by decide +kernel) rfl ⟨rfl, rfl⟩ (by decide) (by decide) [0, 1] rfl rfl 0 rfl rfl (rest := []) rfl (Nat.le_of_ble_eq_true rfl) dX0_has_17 ?_
      rintro _ rfl
      show jj X 0 0 20 [(0, .ref h0), (1, .int (nI r)), (2, .int (nI c))] [.long (f (3 * r + (c / 64)))] [(h0, cO 0 [.ref hw]), (hw, cJ (xT X) nW f)]
      refine j_iload_n C dX0_has_20 2 rfl rfl ?_
      refine j_bipush C dX0_has_21 (v := (nI 63)) kc_b_63 ?_
      refine j_iand C dX0_has_23 (v := (nI (c % 64))) (pk_andN (by omega) 6 (by decide +kernel)) ?_
      refine j_lushr C dX0_has_24 (v := (((f (3 * r + (c / 64))).toUInt64 >>> ((nI (c % 64)).toInt64.toUInt64 &&& Int64.toUInt64 63)).toInt64)) rfl ?_
      refine j_lconst C dX0_has_25 (v := lN 1) rfl ?_
      refine j_land C dX0_has_26 (v := ((((f (3 * r + (c / 64))).toUInt64 >>> ((nI (c % 64)).toInt64.toUInt64 &&& Int64.toUInt64 63)).toInt64) &&& (lN 1))) rfl ?_
      refine j_lconst C dX0_has_27 (v := lN 0) rfl ?_
      refine j_lcmp C dX0_has_28 ?_
      refine j_if_eq C dX0_has_29 (tgt := 36) (by decide) (fun c3 => ?_) (fun c3 => ?_)
      · skip
        have c3 := (kl_eq).mp c3
        refine j_iconst C dX0_has_36 (v := (nI 0)) kc_i_0 ?_
        refine j_iretR C ro hQ (by decide +kernel) ?_ dX0_has_37
        exact kb_f ((cs_and _ (Nat.mod_lt _ (by decide))).mp c3)
      · skip
        have c3 := (kl_neq).mp c3
        refine j_iconst C dX0_has_32 (v := (nI 1)) kc_i_1 ?_
        refine j_goto C dX0_has_33 (tgt := 37) (by decide) ?_
        refine j_iretR C ro hQ (by decide +kernel) ?_ dX0_has_37
        refine kb_t ?_
        cases h : cs_b f r c
        · exact absurd ((cs_and _ (Nat.mod_lt _ (by decide))).mpr h) c3
        · rfl

set_option maxHeartbeats 4000000 in
set_option maxRecDepth 100000 in
/-- add(row, cell) -/
theorem c_X0_add (l : Launch) (T : jj_T) (h0 hw nW r c : Nat) (f : Nat → Int64) (hc : c < 150) (hr : 3 * r + 3 ≤ nW) (hn : nW < 100000) : jM l T yX0_add wsX0_add { frames := 0, cells := 0, slots := 0, locals := 0 } [.ref h0, .int (nI r), .int (nI c)] [(h0, cO 0 [.ref hw]), (hw, cJ T nW f)] (fun v w1 => ∃ g : Nat → Int64, v = none ∧ w1 = [(h0, cO 0 [.ref hw]), (hw, cJ T nW g)] ∧ (∀ r' c', c' < 192 → cs_b g r' c' = (decide (r' = r ∧ c' = c) || cs_b f r' c'))) := by
  refine jM.of (cc := cX0_add) (maxL := 4) (ret := none) (by decide) rfl (Nat.le_of_ble_eq_true rfl) ?_
  intro X C rw_ hl hT hQ hnm
  subst hl; subst hT
  have hin0 : ∀ w ∈ u_ws RX0 TX0 1, w ∈ wsX0_add := by decide +kernel
  have hl11 : Cond.fieldLink RX0 11 (TX0 0).1 (TX0 0).2.1 (TX0 0).2.2.1 ∈ wsX0_add := by decide +kernel
  show jj X 0 0 0 [(0, .ref h0), (1, .int (nI r)), (2, .int (nI c))] [] [(h0, cO 0 [.ref hw]), (hw, cJ (xT X) nW f)]
  refine j_iconst C dX0_add_0 (v := (nI 3)) kc_i_3 ?_
  refine j_iload_n C dX0_add_1 1 rfl rfl ?_
  refine j_imul C dX0_add_2 (v := (nI (3 * r))) (pk_mul _ _) ?_
  refine j_iload_n C dX0_add_3 2 rfl rfl ?_
  refine j_bipush C dX0_add_4 (v := (nI 6)) kc_b_6 ?_
  refine j_ishr C dX0_add_6 (v := (nI (c / 64))) (pk_shrN (by omega) _ 6 (by decide +kernel)) ?_
  refine j_iadd C dX0_add_7 (v := (nI (3 * r + c / 64))) (nI_add _ _) ?_
  refine j_istore_n C dX0_add_8 rfl (by decide) (lv' := [(3, .int (nI (3 * r + c / 64))), (0, .ref h0), (1, .int (nI r)), (2, .int (nI c))]) rfl ?_
  refine j_iload_n C dX0_add_9 3 rfl rfl ?_
  refine j_if_lt C dX0_add_10 (tgt := 48) (by decide) (fun c1 => ?_) (fun c1 => ?_)
  · skip
    have c1 := (kz_lt (a := c) (by omega)).mp c1
    exfalso
    first | exact c1.elim | omega
  · skip
    have c1 := (kz_nlt (a := c) (by omega)).mp c1
    refine j_iload_n C dX0_add_13 3 rfl rfl ?_
    refine j_sipush C dX0_add_14 (v := (nI 150)) kc_s_150 ?_
    refine j_icmp_ge C dX0_add_17 (tgt := 48) (by decide) (fun c2 => ?_) (fun c2 => ?_)
    · skip
      have c2 := (kn_ge (a := c) (b := 150) (by omega) (by omega)).mp c2
      exfalso
      first | exact c2.elim | omega
    · skip
      have c2 := (kn_nge (a := c) (b := 150) (by omega) (by omega)).mp c2
      refine j_iload_n C dX0_add_20 0 rfl rfl ?_
      refine j_if_lt C dX0_add_21 (tgt := 48) (by decide) (fun c3 => ?_) (fun c3 => ?_)
      · skip
        have c3 := (kz_lt (a := 3 * r + c / 64) (by omega)).mp c3
        exfalso
        first | exact c3.elim | omega
      · skip
        have c3 := (kz_nlt (a := 3 * r + c / 64) (by omega)).mp c3
        refine j_iload_n C dX0_add_24 0 rfl rfl ?_
        refine j_aload_n C dX0_add_25 1 rfl rfl ?_
        refine j_get C (hin0) (ci := 0) rfl 0 (by decide) (hl11) 0 rfl (v := .ref hw) rfl dX0_add_26 ?_
        refine j_alenJ C 1 rfl dX0_add_29 ?_
        refine j_icmp_ge C dX0_add_30 (tgt := 48) (by decide) (fun c4 => ?_) (fun c4 => ?_)
        · skip
          have c4 := (kn_ge (a := 3 * r + c / 64) (b := nW) (by omega) (by omega)).mp c4
          exfalso
          first | exact c4.elim | omega
        · skip
          have c4 := (kn_nge (a := 3 * r + c / 64) (b := nW) (by omega) (by omega)).mp c4
          refine j_aload_n C dX0_add_33 1 rfl rfl ?_
          refine j_get C (hin0) (ci := 0) rfl 0 (by decide) (hl11) 0 rfl (v := .ref hw) rfl dX0_add_34 ?_
          refine j_iload_n C dX0_add_37 0 rfl rfl ?_
          refine j_dup2 C dX0_add_38 rfl rfl ?_
          refine j_laloadN C (3 * r + c / 64) rfl 1 rfl (by omega) (by omega) dX0_add_39 ?_
          refine j_lconst C dX0_add_40 (v := lN 1) rfl ?_
          refine j_iload_n C dX0_add_41 3 rfl rfl ?_
          refine j_bipush C dX0_add_42 (v := (nI 63)) kc_b_63 ?_
          refine j_iand C dX0_add_44 (v := (nI (c % 64))) (pk_andN (by omega) 6 (by decide +kernel)) ?_
          refine j_lshl C dX0_add_45 (v := ((lN 1) <<< ((nI (c % 64)).toInt64 &&& 63))) rfl ?_
          refine j_lor C dX0_add_46 (v := ((f (3 * r + c / 64)) ||| ((lN 1) <<< ((nI (c % 64)).toInt64 &&& 63)))) rfl ?_
          refine j_lastoreN C rw_ (3 * r + c / 64) rfl 1 rfl (by omega) (by omega) (w' := [(h0, cO 0 [.ref hw]), (hw, cJ (xT X) nW (vp_updL f (3 * r + c / 64) ((f (3 * r + c / 64)) ||| ((lN 1) <<< ((nI (c % 64)).toInt64 &&& 63)))))]) rfl dX0_add_47 ?_
          refine j_vretM C rw_ hQ (by decide) (by decide) ?_ dX0_add_48
          refine ⟨_, rfl, rfl, fun r' c' hc' => ?_⟩
          unfold cs_b vp_updL
          by_cases h : 3 * r' + c' / 64 = 3 * r + c / 64
          · rw [if_pos h, cs_or, cs_one (Nat.mod_lt _ (by decide)) (Nat.mod_lt _ (by decide)), h, Bool.or_comm]
            congr 1
            apply decide_eq_decide.mpr
            omega
          · rw [if_neg h, decide_eq_false (by omega), Bool.false_or]

set_option maxHeartbeats 4000000 in
set_option maxRecDepth 100000 in
/-- clear(row) -/
theorem c_X0_clear (l : Launch) (T : jj_T) (h0 hw nW r : Nat) (f : Nat → Int64) (hr : 3 * r + 3 ≤ nW) (hn : nW < 100000) : jM l T yX0_clear wsX0_clear { frames := 1, cells := 0, slots := 0, locals := 22 } [.ref h0, .int (nI r)] [(h0, cO 0 [.ref hw]), (hw, cJ T nW f)] (fun v w1 => ∃ g : Nat → Int64, v = none ∧ w1 = [(h0, cO 0 [.ref hw]), (hw, cJ T nW g)] ∧ (∀ r' c', c' < 192 → cs_b g r' c' = (decide (r' ≠ r) && cs_b f r' c'))) := by
  refine jM.of (cc := cX0_clear) (maxL := 3) (ret := none) (by decide) rfl (Nat.le_of_ble_eq_true rfl) ?_
  intro X C rw_ hl hT hQ hnm
  subst hl; subst hT
  have hin0 : ∀ w ∈ u_ws RX0 TX0 1, w ∈ wsX0_clear := by decide +kernel
  have hl11 : Cond.fieldLink RX0 11 (TX0 0).1 (TX0 0).2.1 (TX0 0).2.2.1 ∈ wsX0_clear := by decide +kernel
  show jj X 0 0 0 [(0, .ref h0), (1, .int (nI r))] [] [(h0, cO 0 [.ref hw]), (hw, cJ (xT X) nW f)]
  refine j_aload_n C dX0_clear_0 0 rfl rfl ?_
  refine j_iload_n C dX0_clear_1 1 rfl rfl ?_
  refine j_callVR C (nA := 1) (As := [.int (nI r)]) (c_X0_hasRow (xl X) (xT X) h0 hw nW r f (by omega) (by omega)) gX0_clear_X0_hasRow rfl (by decide +kernel) rfl ⟨rfl, rfl⟩ (by decide) (by decide) [0, 1] rfl rfl 0 rfl rfl (rest := []) rfl (Nat.le_of_ble_eq_true rfl) dX0_clear_2 ?_
  rintro _ rfl
  show jj X 0 0 5 [(0, .ref h0), (1, .int (nI r))] [.int (bI true)] [(h0, cO 0 [.ref hw]), (hw, cJ (xT X) nW f)]
  refine j_if_eq C dX0_clear_5 (tgt := 32) (by decide) (fun h9 => absurd h9 (by decide +kernel)) (fun _ => ?_)
  refine j_iconst C dX0_clear_8 (v := (nI 0)) kc_i_0 ?_
  refine j_istore_n C dX0_clear_9 rfl (by decide) (lv' := [(2, .int (nI 0)), (0, .ref h0), (1, .int (nI r))]) rfl ?_
  refine j_lv [1, 2, 0] rfl ?_
  suffices hc10 : ∀ (mm : Nat) (i : Nat) (g : Nat → Int64), 3 - i < mm → (i ≤ 3) → (∀ j, g j = if 3 * r ≤ j ∧ j < 3 * r + i then lN 0 else f j) → jj X 0 0 10 [(0, .ref h0), (1, .int (nI r)), (2, .int (nI i))] [] [(h0, cO 0 [.ref hw]), (hw, cJ (xT X) nW g)] by
    refine hc10 _ _ f (Nat.lt_succ_self _) ?_ ?_
    · omega
    · intro j; rw [if_neg (by omega)]
  intro mm
  induction mm with
  | zero => intro i g hm; exact absurd hm (Nat.not_lt_zero _)
  | succ mm ih10 =>
    intro i g hm10 hi hg
    refine j_iload_n C dX0_clear_10 2 rfl rfl ?_
    refine j_iconst C dX0_clear_11 (v := (nI 3)) kc_i_3 ?_
    refine j_icmp_ge C dX0_clear_12 (tgt := 32) (by decide) (fun c1 => ?_) (fun c1 => ?_)
    · skip
      have c1 := (kn_ge (a := i) (b := 3) (by omega) (by omega)).mp c1
      refine j_vretM C rw_ hQ (by decide) (by decide) ?_ dX0_clear_32
      refine ⟨_, rfl, rfl, fun r' c' hc' => ?_⟩
      unfold cs_b
      rw [hg]
      by_cases h : r' = r
      · rw [if_pos (by omega), decide_eq_false (by omega), cs_0, Bool.false_and]
      · rw [if_neg (by omega), decide_eq_true h, Bool.true_and]
    · skip
      have c1 := (kn_nge (a := i) (b := 3) (by omega) (by omega)).mp c1
      refine j_aload_n C dX0_clear_15 0 rfl rfl ?_
      refine j_get C (hin0) (ci := 0) rfl 0 (by decide) (hl11) 0 rfl (v := .ref hw) rfl dX0_clear_16 ?_
      refine j_iconst C dX0_clear_19 (v := (nI 3)) kc_i_3 ?_
      refine j_iload_n C dX0_clear_20 1 rfl rfl ?_
      refine j_imul C dX0_clear_21 (v := (nI (3 * r))) (pk_mul _ _) ?_
      refine j_iload_n C dX0_clear_22 2 rfl rfl ?_
      refine j_iadd C dX0_clear_23 (v := (nI (3 * r + i))) (nI_add _ _) ?_
      refine j_lconst C dX0_clear_24 (v := lN 0) rfl ?_
      refine j_lastoreN C rw_ (3 * r + i) rfl 1 rfl (by omega) (by omega) (w' := [(h0, cO 0 [.ref hw]), (hw, cJ (xT X) nW (vp_updL g (3 * r + i) (lN 0)))]) rfl dX0_clear_25 ?_
      refine j_iinc C dX0_clear_26 (q := 2) (v := (nI (i + 1))) rfl (kc_inc i) (by decide) (lv' := [(2, .int (nI (i + 1))), (0, .ref h0), (1, .int (nI r))]) rfl ?_
      refine j_goto C dX0_clear_29 (tgt := 10) (by decide) ?_
      refine j_lv [1, 2, 0] rfl ?_
      refine ih10 _ _ (by omega) ?_ ?_
      · omega
      · intro j; unfold vp_updL; rw [hg j]; by_cases h1 : j = 3 * r + i
        · rw [if_pos h1, if_pos (by omega)]
        · rw [if_neg h1]; by_cases h2 : 3 * r ≤ j ∧ j < 3 * r + i
          · rw [if_pos h2, if_pos (by omega)]
          · rw [if_neg h2, if_neg (by omega)]

set_option maxHeartbeats 4000000 in
set_option maxRecDepth 100000 in
/-- unite(row, other, otherRow) -/
theorem c_X0_unite (l : Launch) (T : jj_T) (h0 hw nW r ho hv nV ro : Nat) (f o : Nat → Int64) (hr : 3 * r + 3 ≤ nW) (hn : nW < 100000) (hro : 3 * ro + 3 ≤ nV) (hnv : nV < 100000) : jM l T yX0_unite wsX0_unite { frames := 1, cells := 0, slots := 0, locals := 22 } [.ref h0, .int (nI r), .ref ho, .int (nI ro)] [(h0, cO 0 [.ref hw]), (hw, cJ T nW f), (ho, cO 0 [.ref hv]), (hv, cJ T nV o)] (fun v w1 => ∃ g : Nat → Int64, v = none ∧ w1 = [(h0, cO 0 [.ref hw]), (hw, cJ T nW g), (ho, cO 0 [.ref hv]), (hv, cJ T nV o)] ∧ (∀ r' c', c' < 192 → cs_b g r' c' = if r' = r then (cs_b f r c' || cs_b o ro c') else cs_b f r' c')) := by
  refine jM.of (cc := cX0_unite) (maxL := 5) (ret := none) (by decide) rfl (Nat.le_of_ble_eq_true rfl) ?_
  intro X C rw_ hl hT hQ hnm
  subst hl; subst hT
  have hin0 : ∀ w ∈ u_ws RX0 TX0 1, w ∈ wsX0_unite := by decide +kernel
  have hl11 : Cond.fieldLink RX0 11 (TX0 0).1 (TX0 0).2.1 (TX0 0).2.2.1 ∈ wsX0_unite := by decide +kernel
  show jj X 0 0 0 [(0, .ref h0), (1, .int (nI r)), (2, .ref ho), (3, .int (nI ro))] [] [(h0, cO 0 [.ref hw]), (hw, cJ (xT X) nW f), (ho, cO 0 [.ref hv]), (hv, cJ (xT X) nV o)]
  refine j_aload_n C dX0_unite_0 0 rfl rfl ?_
  refine j_iload_n C dX0_unite_1 1 rfl rfl ?_
  refine j_callVR C (nA := 1) (As := [.int (nI r)]) (c_X0_hasRow (xl X) (xT X) h0 hw nW r f (by omega) (by omega)) gX0_unite_X0_hasRow rfl (by decide +kernel) rfl ⟨rfl, rfl⟩ (by decide) (by decide) [0, 1] rfl rfl 0 rfl rfl (rest := []) rfl (Nat.le_of_ble_eq_true rfl) dX0_unite_2 ?_
  rintro _ rfl
  show jj X 0 0 5 [(0, .ref h0), (1, .int (nI r)), (2, .ref ho), (3, .int (nI ro))] [.int (bI true)] [(h0, cO 0 [.ref hw]), (hw, cJ (xT X) nW f), (ho, cO 0 [.ref hv]), (hv, cJ (xT X) nV o)]
  refine j_if_eq C dX0_unite_5 (tgt := 56) (by decide) (fun h9 => absurd h9 (by decide +kernel)) (fun _ => ?_)
  refine j_aload_n C dX0_unite_8 2 rfl rfl ?_
  refine j_iload_n C dX0_unite_9 3 rfl rfl ?_
  refine j_callVR C (nA := 1) (As := [.int (nI ro)]) (c_X0_hasRow (xl X) (xT X) ho hv nV ro o (by omega) (by omega)) gX0_unite_X0_hasRow rfl (by decide +kernel) rfl ⟨rfl, rfl⟩ (by decide) (by decide) [2, 3] rfl rfl 2 rfl rfl (rest := []) rfl (Nat.le_of_ble_eq_true rfl) dX0_unite_10 ?_
  rintro _ rfl
  show jj X 0 0 13 [(0, .ref h0), (1, .int (nI r)), (2, .ref ho), (3, .int (nI ro))] [.int (bI true)] [(h0, cO 0 [.ref hw]), (hw, cJ (xT X) nW f), (ho, cO 0 [.ref hv]), (hv, cJ (xT X) nV o)]
  refine j_if_eq C dX0_unite_13 (tgt := 56) (by decide) (fun h9 => absurd h9 (by decide +kernel)) (fun _ => ?_)
  refine j_iconst C dX0_unite_16 (v := (nI 0)) kc_i_0 ?_
  refine j_istore C dX0_unite_17 (by decide) (lv' := [(4, .int (nI 0)), (0, .ref h0), (1, .int (nI r)), (2, .ref ho), (3, .int (nI ro))]) rfl ?_
  refine j_lv [1, 2, 3, 4, 0] rfl ?_
  suffices hc19 : ∀ (mm : Nat) (i : Nat) (g : Nat → Int64), 3 - i < mm → (i ≤ 3) → (∀ j, g j = if 3 * r ≤ j ∧ j < 3 * r + i then (f j ||| o (3 * ro + (j - 3 * r))) else f j) → jj X 0 0 19 [(0, .ref h0), (1, .int (nI r)), (2, .ref ho), (3, .int (nI ro)), (4, .int (nI i))] [] [(h0, cO 0 [.ref hw]), (hw, cJ (xT X) nW g), (ho, cO 0 [.ref hv]), (hv, cJ (xT X) nV o)] by
    refine hc19 _ _ f (Nat.lt_succ_self _) ?_ ?_
    · omega
    · intro j; rw [if_neg (by omega)]
  intro mm
  induction mm with
  | zero => intro i g hm; exact absurd hm (Nat.not_lt_zero _)
  | succ mm ih19 =>
    intro i g hm19 hi hg
    refine j_iload C dX0_unite_19 4 rfl ?_
    refine j_iconst C dX0_unite_21 (v := (nI 3)) kc_i_3 ?_
    refine j_icmp_ge C dX0_unite_22 (tgt := 56) (by decide) (fun c1 => ?_) (fun c1 => ?_)
    · skip
      have c1 := (kn_ge (a := i) (b := 3) (by omega) (by omega)).mp c1
      refine j_vretM C rw_ hQ (by decide) (by decide) ?_ dX0_unite_56
      refine ⟨_, rfl, rfl, fun r' c' hc' => ?_⟩
      unfold cs_b
      rw [hg]
      by_cases h : r' = r
      · subst h
        rw [if_pos (by omega), if_pos rfl, cs_or, show 3 * r' + c' / 64 - 3 * r' = c' / 64 by omega]
      · rw [if_neg (by omega), if_neg h]
    · skip
      have c1 := (kn_nge (a := i) (b := 3) (by omega) (by omega)).mp c1
      refine j_aload_n C dX0_unite_25 0 rfl rfl ?_
      refine j_get C (hin0) (ci := 0) rfl 0 (by decide) (hl11) 0 rfl (v := .ref hw) rfl dX0_unite_26 ?_
      refine j_iconst C dX0_unite_29 (v := (nI 3)) kc_i_3 ?_
      refine j_iload_n C dX0_unite_30 1 rfl rfl ?_
      refine j_imul C dX0_unite_31 (v := (nI (3 * r))) (pk_mul _ _) ?_
      refine j_iload C dX0_unite_32 4 rfl ?_
      refine j_iadd C dX0_unite_34 (v := (nI (3 * r + i))) (nI_add _ _) ?_
      refine j_dup2 C dX0_unite_35 rfl rfl ?_
      refine j_laloadN C (3 * r + i) rfl 1 rfl (by omega) (by omega) dX0_unite_36 ?_
      refine j_aload_n C dX0_unite_37 2 rfl rfl ?_
      refine j_get C (hin0) (ci := 0) rfl 0 (by decide) (hl11) 2 rfl (v := .ref hv) rfl dX0_unite_38 ?_
      refine j_iconst C dX0_unite_41 (v := (nI 3)) kc_i_3 ?_
      refine j_iload_n C dX0_unite_42 3 rfl rfl ?_
      refine j_imul C dX0_unite_43 (v := (nI (3 * ro))) (pk_mul _ _) ?_
      refine j_iload C dX0_unite_44 4 rfl ?_
      refine j_iadd C dX0_unite_46 (v := (nI (3 * ro + i))) (nI_add _ _) ?_
      refine j_laloadN C (3 * ro + i) rfl 3 rfl (by omega) (by omega) dX0_unite_47 ?_
      refine j_lor C dX0_unite_48 (v := ((g (3 * r + i)) ||| (o (3 * ro + i)))) rfl ?_
      refine j_lastoreN C rw_ (3 * r + i) rfl 1 rfl (by omega) (by omega) (w' := [(h0, cO 0 [.ref hw]), (hw, cJ (xT X) nW (vp_updL g (3 * r + i) ((g (3 * r + i)) ||| (o (3 * ro + i))))), (ho, cO 0 [.ref hv]), (hv, cJ (xT X) nV o)]) rfl dX0_unite_49 ?_
      refine j_iinc C dX0_unite_50 (q := 4) (v := (nI (i + 1))) rfl (kc_inc i) (by decide) (lv' := [(4, .int (nI (i + 1))), (0, .ref h0), (1, .int (nI r)), (2, .ref ho), (3, .int (nI ro))]) rfl ?_
      refine j_goto C dX0_unite_53 (tgt := 19) (by decide) ?_
      refine j_lv [1, 2, 3, 4, 0] rfl ?_
      refine ih19 _ _ (by omega) ?_ ?_
      · omega
      · intro j; unfold vp_updL; by_cases h1 : j = 3 * r + i
        · rw [if_pos h1, if_pos (by omega), hg, if_neg (by omega), h1, show 3 * r + i - 3 * r = i by omega]
        · rw [if_neg h1, hg j]; by_cases h2 : 3 * r ≤ j ∧ j < 3 * r + i
          · rw [if_pos h2, if_pos (by omega)]
          · rw [if_neg h2, if_neg (by omega)]

set_option maxHeartbeats 4000000 in
set_option maxRecDepth 100000 in
/-- retain(row, other, otherRow) -/
theorem c_X0_retain (l : Launch) (T : jj_T) (h0 hw nW r ho hv nV ro : Nat) (f o : Nat → Int64) (hr : 3 * r + 3 ≤ nW) (hn : nW < 100000) (hro : 3 * ro + 3 ≤ nV) (hnv : nV < 100000) : jM l T yX0_retain wsX0_retain { frames := 1, cells := 0, slots := 0, locals := 22 } [.ref h0, .int (nI r), .ref ho, .int (nI ro)] [(h0, cO 0 [.ref hw]), (hw, cJ T nW f), (ho, cO 0 [.ref hv]), (hv, cJ T nV o)] (fun v w1 => ∃ g : Nat → Int64, v = none ∧ w1 = [(h0, cO 0 [.ref hw]), (hw, cJ T nW g), (ho, cO 0 [.ref hv]), (hv, cJ T nV o)] ∧ (∀ r' c', c' < 192 → cs_b g r' c' = if r' = r then (cs_b f r c' && cs_b o ro c') else cs_b f r' c')) := by
  refine jM.of (cc := cX0_retain) (maxL := 5) (ret := none) (by decide) rfl (Nat.le_of_ble_eq_true rfl) ?_
  intro X C rw_ hl hT hQ hnm
  subst hl; subst hT
  have hin0 : ∀ w ∈ u_ws RX0 TX0 1, w ∈ wsX0_retain := by decide +kernel
  have hl11 : Cond.fieldLink RX0 11 (TX0 0).1 (TX0 0).2.1 (TX0 0).2.2.1 ∈ wsX0_retain := by decide +kernel
  show jj X 0 0 0 [(0, .ref h0), (1, .int (nI r)), (2, .ref ho), (3, .int (nI ro))] [] [(h0, cO 0 [.ref hw]), (hw, cJ (xT X) nW f), (ho, cO 0 [.ref hv]), (hv, cJ (xT X) nV o)]
  refine j_aload_n C dX0_retain_0 0 rfl rfl ?_
  refine j_iload_n C dX0_retain_1 1 rfl rfl ?_
  refine j_callVR C (nA := 1) (As := [.int (nI r)]) (c_X0_hasRow (xl X) (xT X) h0 hw nW r f (by omega) (by omega)) gX0_retain_X0_hasRow rfl (by decide +kernel) rfl ⟨rfl, rfl⟩ (by decide) (by decide) [0, 1] rfl rfl 0 rfl rfl (rest := []) rfl (Nat.le_of_ble_eq_true rfl) dX0_retain_2 ?_
  rintro _ rfl
  show jj X 0 0 5 [(0, .ref h0), (1, .int (nI r)), (2, .ref ho), (3, .int (nI ro))] [.int (bI true)] [(h0, cO 0 [.ref hw]), (hw, cJ (xT X) nW f), (ho, cO 0 [.ref hv]), (hv, cJ (xT X) nV o)]
  refine j_if_eq C dX0_retain_5 (tgt := 56) (by decide) (fun h9 => absurd h9 (by decide +kernel)) (fun _ => ?_)
  refine j_aload_n C dX0_retain_8 2 rfl rfl ?_
  refine j_iload_n C dX0_retain_9 3 rfl rfl ?_
  refine j_callVR C (nA := 1) (As := [.int (nI ro)]) (c_X0_hasRow (xl X) (xT X) ho hv nV ro o (by omega) (by omega)) gX0_retain_X0_hasRow rfl (by decide +kernel) rfl ⟨rfl, rfl⟩ (by decide) (by decide) [2, 3] rfl rfl 2 rfl rfl (rest := []) rfl (Nat.le_of_ble_eq_true rfl) dX0_retain_10 ?_
  rintro _ rfl
  show jj X 0 0 13 [(0, .ref h0), (1, .int (nI r)), (2, .ref ho), (3, .int (nI ro))] [.int (bI true)] [(h0, cO 0 [.ref hw]), (hw, cJ (xT X) nW f), (ho, cO 0 [.ref hv]), (hv, cJ (xT X) nV o)]
  refine j_if_eq C dX0_retain_13 (tgt := 56) (by decide) (fun h9 => absurd h9 (by decide +kernel)) (fun _ => ?_)
  refine j_iconst C dX0_retain_16 (v := (nI 0)) kc_i_0 ?_
  refine j_istore C dX0_retain_17 (by decide) (lv' := [(4, .int (nI 0)), (0, .ref h0), (1, .int (nI r)), (2, .ref ho), (3, .int (nI ro))]) rfl ?_
  refine j_lv [1, 2, 3, 4, 0] rfl ?_
  suffices hc19 : ∀ (mm : Nat) (i : Nat) (g : Nat → Int64), 3 - i < mm → (i ≤ 3) → (∀ j, g j = if 3 * r ≤ j ∧ j < 3 * r + i then (f j &&& o (3 * ro + (j - 3 * r))) else f j) → jj X 0 0 19 [(0, .ref h0), (1, .int (nI r)), (2, .ref ho), (3, .int (nI ro)), (4, .int (nI i))] [] [(h0, cO 0 [.ref hw]), (hw, cJ (xT X) nW g), (ho, cO 0 [.ref hv]), (hv, cJ (xT X) nV o)] by
    refine hc19 _ _ f (Nat.lt_succ_self _) ?_ ?_
    · omega
    · intro j; rw [if_neg (by omega)]
  intro mm
  induction mm with
  | zero => intro i g hm; exact absurd hm (Nat.not_lt_zero _)
  | succ mm ih19 =>
    intro i g hm19 hi hg
    refine j_iload C dX0_retain_19 4 rfl ?_
    refine j_iconst C dX0_retain_21 (v := (nI 3)) kc_i_3 ?_
    refine j_icmp_ge C dX0_retain_22 (tgt := 56) (by decide) (fun c1 => ?_) (fun c1 => ?_)
    · skip
      have c1 := (kn_ge (a := i) (b := 3) (by omega) (by omega)).mp c1
      refine j_vretM C rw_ hQ (by decide) (by decide) ?_ dX0_retain_56
      refine ⟨_, rfl, rfl, fun r' c' hc' => ?_⟩
      unfold cs_b
      rw [hg]
      by_cases h : r' = r
      · subst h
        rw [if_pos (by omega), if_pos rfl, cs_an, show 3 * r' + c' / 64 - 3 * r' = c' / 64 by omega]
      · rw [if_neg (by omega), if_neg h]
    · skip
      have c1 := (kn_nge (a := i) (b := 3) (by omega) (by omega)).mp c1
      refine j_aload_n C dX0_retain_25 0 rfl rfl ?_
      refine j_get C (hin0) (ci := 0) rfl 0 (by decide) (hl11) 0 rfl (v := .ref hw) rfl dX0_retain_26 ?_
      refine j_iconst C dX0_retain_29 (v := (nI 3)) kc_i_3 ?_
      refine j_iload_n C dX0_retain_30 1 rfl rfl ?_
      refine j_imul C dX0_retain_31 (v := (nI (3 * r))) (pk_mul _ _) ?_
      refine j_iload C dX0_retain_32 4 rfl ?_
      refine j_iadd C dX0_retain_34 (v := (nI (3 * r + i))) (nI_add _ _) ?_
      refine j_dup2 C dX0_retain_35 rfl rfl ?_
      refine j_laloadN C (3 * r + i) rfl 1 rfl (by omega) (by omega) dX0_retain_36 ?_
      refine j_aload_n C dX0_retain_37 2 rfl rfl ?_
      refine j_get C (hin0) (ci := 0) rfl 0 (by decide) (hl11) 2 rfl (v := .ref hv) rfl dX0_retain_38 ?_
      refine j_iconst C dX0_retain_41 (v := (nI 3)) kc_i_3 ?_
      refine j_iload_n C dX0_retain_42 3 rfl rfl ?_
      refine j_imul C dX0_retain_43 (v := (nI (3 * ro))) (pk_mul _ _) ?_
      refine j_iload C dX0_retain_44 4 rfl ?_
      refine j_iadd C dX0_retain_46 (v := (nI (3 * ro + i))) (nI_add _ _) ?_
      refine j_laloadN C (3 * ro + i) rfl 3 rfl (by omega) (by omega) dX0_retain_47 ?_
      refine j_land C dX0_retain_48 (v := ((g (3 * r + i)) &&& (o (3 * ro + i)))) rfl ?_
      refine j_lastoreN C rw_ (3 * r + i) rfl 1 rfl (by omega) (by omega) (w' := [(h0, cO 0 [.ref hw]), (hw, cJ (xT X) nW (vp_updL g (3 * r + i) ((g (3 * r + i)) &&& (o (3 * ro + i))))), (ho, cO 0 [.ref hv]), (hv, cJ (xT X) nV o)]) rfl dX0_retain_49 ?_
      refine j_iinc C dX0_retain_50 (q := 4) (v := (nI (i + 1))) rfl (kc_inc i) (by decide) (lv' := [(4, .int (nI (i + 1))), (0, .ref h0), (1, .int (nI r)), (2, .ref ho), (3, .int (nI ro))]) rfl ?_
      refine j_goto C dX0_retain_53 (tgt := 19) (by decide) ?_
      refine j_lv [1, 2, 3, 4, 0] rfl ?_
      refine ih19 _ _ (by omega) ?_ ?_
      · omega
      · intro j; unfold vp_updL; by_cases h1 : j = 3 * r + i
        · rw [if_pos h1, if_pos (by omega), hg, if_neg (by omega), h1, show 3 * r + i - 3 * r = i by omega]
        · rw [if_neg h1, hg j]; by_cases h2 : 3 * r ≤ j ∧ j < 3 * r + i
          · rw [if_pos h2, if_pos (by omega)]
          · rw [if_neg h2, if_neg (by omega)]

set_option maxHeartbeats 4000000 in
set_option maxRecDepth 100000 in
/-- takeAway(row, other, otherRow) -/
theorem c_X0_takeAway (l : Launch) (T : jj_T) (h0 hw nW r ho hv nV ro : Nat) (f o : Nat → Int64) (hr : 3 * r + 3 ≤ nW) (hn : nW < 100000) (hro : 3 * ro + 3 ≤ nV) (hnv : nV < 100000) : jM l T yX0_takeAway wsX0_takeAway { frames := 1, cells := 0, slots := 0, locals := 22 } [.ref h0, .int (nI r), .ref ho, .int (nI ro)] [(h0, cO 0 [.ref hw]), (hw, cJ T nW f), (ho, cO 0 [.ref hv]), (hv, cJ T nV o)] (fun v w1 => ∃ g : Nat → Int64, v = none ∧ w1 = [(h0, cO 0 [.ref hw]), (hw, cJ T nW g), (ho, cO 0 [.ref hv]), (hv, cJ T nV o)] ∧ (∀ r' c', c' < 192 → cs_b g r' c' = if r' = r then (cs_b f r c' && !cs_b o ro c') else cs_b f r' c')) := by
  refine jM.of (cc := cX0_takeAway) (maxL := 5) (ret := none) (by decide) rfl (Nat.le_of_ble_eq_true rfl) ?_
  intro X C rw_ hl hT hQ hnm
  subst hl; subst hT
  have hin0 : ∀ w ∈ u_ws RX0 TX0 1, w ∈ wsX0_takeAway := by decide +kernel
  have hl11 : Cond.fieldLink RX0 11 (TX0 0).1 (TX0 0).2.1 (TX0 0).2.2.1 ∈ wsX0_takeAway := by decide +kernel
  show jj X 0 0 0 [(0, .ref h0), (1, .int (nI r)), (2, .ref ho), (3, .int (nI ro))] [] [(h0, cO 0 [.ref hw]), (hw, cJ (xT X) nW f), (ho, cO 0 [.ref hv]), (hv, cJ (xT X) nV o)]
  refine j_aload_n C dX0_takeAway_0 0 rfl rfl ?_
  refine j_iload_n C dX0_takeAway_1 1 rfl rfl ?_
  refine j_callVR C (nA := 1) (As := [.int (nI r)]) (c_X0_hasRow (xl X) (xT X) h0 hw nW r f (by omega) (by omega)) gX0_takeAway_X0_hasRow rfl (by decide +kernel) rfl ⟨rfl, rfl⟩ (by decide) (by decide) [0, 1] rfl rfl 0 rfl rfl (rest := []) rfl (Nat.le_of_ble_eq_true rfl) dX0_takeAway_2 ?_
  rintro _ rfl
  show jj X 0 0 5 [(0, .ref h0), (1, .int (nI r)), (2, .ref ho), (3, .int (nI ro))] [.int (bI true)] [(h0, cO 0 [.ref hw]), (hw, cJ (xT X) nW f), (ho, cO 0 [.ref hv]), (hv, cJ (xT X) nV o)]
  refine j_if_eq C dX0_takeAway_5 (tgt := 60) (by decide) (fun h9 => absurd h9 (by decide +kernel)) (fun _ => ?_)
  refine j_aload_n C dX0_takeAway_8 2 rfl rfl ?_
  refine j_iload_n C dX0_takeAway_9 3 rfl rfl ?_
  refine j_callVR C (nA := 1) (As := [.int (nI ro)]) (c_X0_hasRow (xl X) (xT X) ho hv nV ro o (by omega) (by omega)) gX0_takeAway_X0_hasRow rfl (by decide +kernel) rfl ⟨rfl, rfl⟩ (by decide) (by decide) [2, 3] rfl rfl 2 rfl rfl (rest := []) rfl (Nat.le_of_ble_eq_true rfl) dX0_takeAway_10 ?_
  rintro _ rfl
  show jj X 0 0 13 [(0, .ref h0), (1, .int (nI r)), (2, .ref ho), (3, .int (nI ro))] [.int (bI true)] [(h0, cO 0 [.ref hw]), (hw, cJ (xT X) nW f), (ho, cO 0 [.ref hv]), (hv, cJ (xT X) nV o)]
  refine j_if_eq C dX0_takeAway_13 (tgt := 60) (by decide) (fun h9 => absurd h9 (by decide +kernel)) (fun _ => ?_)
  refine j_iconst C dX0_takeAway_16 (v := (nI 0)) kc_i_0 ?_
  refine j_istore C dX0_takeAway_17 (by decide) (lv' := [(4, .int (nI 0)), (0, .ref h0), (1, .int (nI r)), (2, .ref ho), (3, .int (nI ro))]) rfl ?_
  refine j_lv [1, 2, 3, 4, 0] rfl ?_
  suffices hc19 : ∀ (mm : Nat) (i : Nat) (g : Nat → Int64), 3 - i < mm → (i ≤ 3) → (∀ j, g j = if 3 * r ≤ j ∧ j < 3 * r + i then (f j &&& (o (3 * ro + (j - 3 * r)) ^^^ (-1))) else f j) → jj X 0 0 19 [(0, .ref h0), (1, .int (nI r)), (2, .ref ho), (3, .int (nI ro)), (4, .int (nI i))] [] [(h0, cO 0 [.ref hw]), (hw, cJ (xT X) nW g), (ho, cO 0 [.ref hv]), (hv, cJ (xT X) nV o)] by
    refine hc19 _ _ f (Nat.lt_succ_self _) ?_ ?_
    · omega
    · intro j; rw [if_neg (by omega)]
  intro mm
  induction mm with
  | zero => intro i g hm; exact absurd hm (Nat.not_lt_zero _)
  | succ mm ih19 =>
    intro i g hm19 hi hg
    refine j_iload C dX0_takeAway_19 4 rfl ?_
    refine j_iconst C dX0_takeAway_21 (v := (nI 3)) kc_i_3 ?_
    refine j_icmp_ge C dX0_takeAway_22 (tgt := 60) (by decide) (fun c1 => ?_) (fun c1 => ?_)
    · skip
      have c1 := (kn_ge (a := i) (b := 3) (by omega) (by omega)).mp c1
      refine j_vretM C rw_ hQ (by decide) (by decide) ?_ dX0_takeAway_60
      refine ⟨_, rfl, rfl, fun r' c' hc' => ?_⟩
      unfold cs_b
      rw [hg]
      by_cases h : r' = r
      · subst h
        rw [if_pos (by omega), if_pos rfl, cs_an, cs_inv _ (Nat.mod_lt _ (by decide)), show 3 * r' + c' / 64 - 3 * r' = c' / 64 by omega]
      · rw [if_neg (by omega), if_neg h]
    · skip
      have c1 := (kn_nge (a := i) (b := 3) (by omega) (by omega)).mp c1
      refine j_aload_n C dX0_takeAway_25 0 rfl rfl ?_
      refine j_get C (hin0) (ci := 0) rfl 0 (by decide) (hl11) 0 rfl (v := .ref hw) rfl dX0_takeAway_26 ?_
      refine j_iconst C dX0_takeAway_29 (v := (nI 3)) kc_i_3 ?_
      refine j_iload_n C dX0_takeAway_30 1 rfl rfl ?_
      refine j_imul C dX0_takeAway_31 (v := (nI (3 * r))) (pk_mul _ _) ?_
      refine j_iload C dX0_takeAway_32 4 rfl ?_
      refine j_iadd C dX0_takeAway_34 (v := (nI (3 * r + i))) (nI_add _ _) ?_
      refine j_dup2 C dX0_takeAway_35 rfl rfl ?_
      refine j_laloadN C (3 * r + i) rfl 1 rfl (by omega) (by omega) dX0_takeAway_36 ?_
      refine j_aload_n C dX0_takeAway_37 2 rfl rfl ?_
      refine j_get C (hin0) (ci := 0) rfl 0 (by decide) (hl11) 2 rfl (v := .ref hv) rfl dX0_takeAway_38 ?_
      refine j_iconst C dX0_takeAway_41 (v := (nI 3)) kc_i_3 ?_
      refine j_iload_n C dX0_takeAway_42 3 rfl rfl ?_
      refine j_imul C dX0_takeAway_43 (v := (nI (3 * ro))) (pk_mul _ _) ?_
      refine j_iload C dX0_takeAway_44 4 rfl ?_
      refine j_iadd C dX0_takeAway_46 (v := (nI (3 * ro + i))) (nI_add _ _) ?_
      refine j_laloadN C (3 * ro + i) rfl 3 rfl (by omega) (by omega) dX0_takeAway_47 ?_
      refine j_ldc2l C dX0_takeAway_48 (v := -1) (by decide +kernel) ?_
      refine j_lxor C dX0_takeAway_51 (v := ((o (3 * ro + i)) ^^^ (-1))) rfl ?_
      refine j_land C dX0_takeAway_52 (v := ((g (3 * r + i)) &&& ((o (3 * ro + i)) ^^^ (-1)))) rfl ?_
      refine j_lastoreN C rw_ (3 * r + i) rfl 1 rfl (by omega) (by omega) (w' := [(h0, cO 0 [.ref hw]), (hw, cJ (xT X) nW (vp_updL g (3 * r + i) ((g (3 * r + i)) &&& ((o (3 * ro + i)) ^^^ (-1))))), (ho, cO 0 [.ref hv]), (hv, cJ (xT X) nV o)]) rfl dX0_takeAway_53 ?_
      refine j_iinc C dX0_takeAway_54 (q := 4) (v := (nI (i + 1))) rfl (kc_inc i) (by decide) (lv' := [(4, .int (nI (i + 1))), (0, .ref h0), (1, .int (nI r)), (2, .ref ho), (3, .int (nI ro))]) rfl ?_
      refine j_goto C dX0_takeAway_57 (tgt := 19) (by decide) ?_
      refine j_lv [1, 2, 3, 4, 0] rfl ?_
      refine ih19 _ _ (by omega) ?_ ?_
      · omega
      · intro j; unfold vp_updL; by_cases h1 : j = 3 * r + i
        · rw [if_pos h1, if_pos (by omega), hg, if_neg (by omega), h1, show 3 * r + i - 3 * r = i by omega]
        · rw [if_neg h1, hg j]; by_cases h2 : 3 * r ≤ j ∧ j < 3 * r + i
          · rw [if_pos h2, if_pos (by omega)]
          · rw [if_neg h2, if_neg (by omega)]
