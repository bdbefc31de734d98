/-! CellSets: size, smallest, the constructor -/
set_option maxHeartbeats 4000000 in
set_option maxRecDepth 100000 in
/-- size(row) -/
theorem c_X0_size (l : Launch) (T : jj_T) (h0 hw nW r : Nat) (f : Nat → Int64) (hr : 3 * r + 3 ≤ nW) (hn : nW < 100000) : jR l T yX0_size wsX0_size { frames := 1, cells := 0, slots := 0, locals := 23 } [.ref h0, .int (nI r)] [(h0, cO 0 [.ref hw]), (hw, cJ T nW f)] (fun v => v = some (.int (nI (fb_ct (cs_b f r) 192)))) := by
  refine jR.of (cc := cX0_size) (maxL := 4) (ret := (some .int)) (by decide) rfl (Nat.le_of_ble_eq_true rfl) ?_
  intro X C ro hl hT hQ
  subst hl; subst hT
  show jj X 0 0 0 [(0, .ref h0), (1, .int (nI r))] [] [(h0, cO 0 [.ref hw]), (hw, cJ (xT X) nW f)]
  refine j_iconst C dX0_size_0 (v := (nI 0)) kc_i_0 ?_
  refine j_istore_n C dX0_size_1 rfl (by decide) (lv' := [(2, .int (nI 0)), (0, .ref h0), (1, .int (nI r))]) rfl ?_
  refine j_iconst C dX0_size_2 (v := (nI 0)) kc_i_0 ?_
  refine j_istore_n C dX0_size_3 rfl (by decide) (lv' := [(3, .int (nI 0)), (2, .int (nI 0)), (0, .ref h0), (1, .int (nI r))]) rfl ?_
  refine j_lv [2, 3, 1, 0] rfl ?_
  suffices hc4 : ∀ (mm : Nat) (i t : Nat), 3 - i < mm → (i ≤ 3) → (t = fb_ct (cs_b f r) (64 * i)) → jj X 0 0 4 [(0, .ref h0), (1, .int (nI r)), (2, .int (nI t)), (3, .int (nI i))] [] [(h0, cO 0 [.ref hw]), (hw, cJ (xT X) nW f)] by
    refine hc4 _ _ _ (Nat.lt_succ_self _) ?_ ?_
    · omega
    · rfl
  intro mm
  induction mm with
  | zero => intro i t hm; exact absurd hm (Nat.not_lt_zero _)
  | succ mm ih4 =>
    intro i t hm4 hi ht
    refine j_iload_n C dX0_size_4 3 rfl rfl ?_
    refine j_iconst C dX0_size_5 (v := (nI 3)) kc_i_3 ?_
    refine j_icmp_ge C dX0_size_6 (tgt := 27) (by decide) (fun c1 => ?_) (fun c1 => ?_)
    · skip
      have c1 := (kn_ge (a := i) (b := 3) (by omega) (by omega)).mp c1
      refine j_iload_n C dX0_size_27 2 rfl rfl ?_
      refine j_iretR C ro hQ rfl ?_ dX0_size_28
      refine kn_e ?_
      rw [ht, show 64 * i = 192 by omega]
    · skip
      have c1 := (kn_nge (a := i) (b := 3) (by omega) (by omega)).mp c1
      refine j_iload_n C dX0_size_9 2 rfl rfl ?_
      refine j_aload_n C dX0_size_10 0 rfl rfl ?_
      refine j_iload_n C dX0_size_11 1 rfl rfl ?_
      refine j_iload_n C dX0_size_12 3 rfl rfl ?_
      refine j_callVR C (nA := 2) (As := [.int (nI r), .int (nI i)]) (c_X0_word (xl X) (xT X) h0 hw nW r i f (by omega) (by omega)) gX0_size_X0_word rfl (by decide +kernel) rfl ⟨rfl, rfl⟩ (by decide) (by decide) [0, 1] rfl rfl 0 rfl rfl (rest := [.int (nI t)]) rfl (Nat.le_of_ble_eq_true rfl) dX0_size_13 ?_
      rintro _ rfl
      show jj X 0 0 16 [(0, .ref h0), (1, .int (nI r)), (2, .int (nI t)), (3, .int (nI i))] [.long (f (3 * r + i)), .int (nI t)] [(h0, cO 0 [.ref hw]), (hw, cJ (xT X) nW f)]
      refine j_callSR C (nA := 1) (As := [.long (f (3 * r + i))]) (c_J13_bitCount_95d88 (xl X) (xT X) (f (3 * r + i)) ) gX0_size_J13_bitCount_95d88 rfl (by decide +kernel) rfl ⟨rfl, rfl⟩ (by decide) (by decide) [] rfl rfl (rest := [.int (nI t)]) rfl (Nat.le_of_ble_eq_true rfl) dX0_size_16 ?_
      rintro _ rfl
      show jj X 0 0 19 [(0, .ref h0), (1, .int (nI r)), (2, .int (nI t)), (3, .int (nI i))] [.int (nI (fb_ct (cs_lb (f (3 * r + i))) 64)), .int (nI t)] [(h0, cO 0 [.ref hw]), (hw, cJ (xT X) nW f)]
      refine j_iadd C dX0_size_19 (v := (nI (t + (fb_ct (cs_lb (f (3 * r + i))) 64)))) (nI_add _ _) ?_
      refine j_istore_n C dX0_size_20 rfl (by decide) (lv' := [(2, .int (nI (t + (fb_ct (cs_lb (f (3 * r + i))) 64)))), (0, .ref h0), (1, .int (nI r)), (3, .int (nI i))]) rfl ?_
      refine j_iinc C dX0_size_21 (q := 3) (v := (nI (i + 1))) rfl (kc_inc i) (by decide) (lv' := [(3, .int (nI (i + 1))), (2, .int (nI (t + (fb_ct (cs_lb (f (3 * r + i))) 64)))), (0, .ref h0), (1, .int (nI r))]) rfl ?_
      refine j_goto C dX0_size_24 (tgt := 4) (by decide) ?_
      refine j_lv [2, 3, 1, 0] rfl ?_
      refine ih4 _ _ (by omega) ?_ ?_
      · omega
      · rw [show 64 * (i + 1) = 64 * i + 64 by omega, fb_ct_split, ht]
        congr 1
        exact fb_ct_cong (fun k hk => by
          unfold cs_b
          rw [show 3 * r + (64 * i + k) / 64 = 3 * r + i by omega, show (64 * i + k) % 64 = k by omega])

set_option maxHeartbeats 4000000 in
set_option maxRecDepth 100000 in
/-- smallest(row) -/
theorem c_X0_smallest (l : Launch) (T : jj_T) (h0 hw nW r : Nat) (f : Nat → Int64) (hr : 3 * r + 3 ≤ nW) (hn : nW < 100000) : jR l T yX0_smallest wsX0_smallest { frames := 2, cells := 0, slots := 0, locals := 45 } [.ref h0, .int (nI r)] [(h0, cO 0 [.ref hw]), (hw, cJ T nW f)] (fun v => ∃ x : Int32, v = some (.int x) ∧ (fs_is (cs_b f r) 150 x)) := by
  refine jR.of (cc := cX0_smallest) (maxL := 3) (ret := (some .int)) (by decide) rfl (Nat.le_of_ble_eq_true rfl) ?_
  intro X C ro hl hT hQ
  subst hl; subst hT
  show jj X 0 0 0 [(0, .ref h0), (1, .int (nI r))] [] [(h0, cO 0 [.ref hw]), (hw, cJ (xT X) nW f)]
  refine j_iconst C dX0_smallest_0 (v := (nI 0)) kc_i_0 ?_
  refine j_istore_n C dX0_smallest_1 rfl (by decide) (lv' := [(2, .int (nI 0)), (0, .ref h0), (1, .int (nI r))]) rfl ?_
  refine j_lv [1, 2, 0] rfl ?_
  suffices hc2 : ∀ (mm : Nat) (c : Nat), 150 - c < mm → (c ≤ 150) → (∀ d, d < c → cs_b f r d = false) → jj X 0 0 2 [(0, .ref h0), (1, .int (nI r)), (2, .int (nI c))] [] [(h0, cO 0 [.ref hw]), (hw, cJ (xT X) nW f)] by
    refine hc2 _ _ (Nat.lt_succ_self _) ?_ ?_
    · omega
    · intro d hd; omega
  intro mm
  induction mm with
  | zero => intro c hm; exact absurd hm (Nat.not_lt_zero _)
  | succ mm ih2 =>
    intro c hm2 hc hf
    refine j_iload_n C dX0_smallest_2 2 rfl rfl ?_
    refine j_sipush C dX0_smallest_3 (v := (nI 150)) kc_s_150 ?_
    refine j_icmp_ge C dX0_smallest_6 (tgt := 26) (by decide) (fun c1 => ?_) (fun c1 => ?_)
    · skip
      have c1 := (kn_ge (a := c) (b := 150) (by omega) (by omega)).mp c1
      refine j_bipush C dX0_smallest_26 (v := (-9)) kc_b_m9 ?_
      refine j_iretR C ro hQ rfl ?_ dX0_smallest_28
      exact ⟨_, rfl, Or.inr ⟨fun d hd => hf d (by omega), rfl⟩⟩
    · skip
      have c1 := (kn_nge (a := c) (b := 150) (by omega) (by omega)).mp c1
      refine j_aload_n C dX0_smallest_9 0 rfl rfl ?_
      refine j_iload_n C dX0_smallest_10 1 rfl rfl ?_
      refine j_iload_n C dX0_smallest_11 2 rfl rfl ?_
      refine j_callVR C (nA := 2) (As := [.int (nI r), .int (nI c)]) (c_X0_has (xl X) (xT X) h0 hw nW r c f (by omega) (by omega) (by omega)) gX0_smallest_X0_has rfl (by decide +kernel) rfl ⟨rfl, rfl⟩ (by decide) (by decide) [0, 1] rfl rfl 0 rfl rfl (rest := []) rfl (Nat.le_of_ble_eq_true rfl) dX0_smallest_12 ?_
      rintro _ rfl
      show jj X 0 0 15 [(0, .ref h0), (1, .int (nI r)), (2, .int (nI c))] [.int (bI (cs_b f r c))] [(h0, cO 0 [.ref hw]), (hw, cJ (xT X) nW f)]
      refine j_if_eq C dX0_smallest_15 (tgt := 20) (by decide) (fun c2 => ?_) (fun c2 => ?_)
      · skip
        have c2 := (kb_eq).mp c2
        refine j_iinc C dX0_smallest_20 (q := 2) (v := (nI (c + 1))) rfl (kc_inc c) (by decide) (lv' := [(2, .int (nI (c + 1))), (0, .ref h0), (1, .int (nI r))]) rfl ?_
        refine j_goto C dX0_smallest_23 (tgt := 2) (by decide) ?_
        refine j_lv [1, 2, 0] rfl ?_
        refine ih2 _ (by omega) ?_ ?_
        · omega
        · intro d hd
          by_cases h : d = c
          · rw [h]; exact c2
          · exact hf d (by omega)
      · skip
        have c2 := (kb_neq).mp c2
        refine j_iload_n C dX0_smallest_18 2 rfl rfl ?_
        refine j_iretR C ro hQ rfl ?_ dX0_smallest_19
        exact ⟨_, rfl, Or.inl ⟨c, by omega, c2, hf, rfl⟩⟩

set_option maxHeartbeats 4000000 in
set_option maxRecDepth 100000 in
/-- CellSets(rows) -/
theorem c_X0_init (l : Launch) (T : jj_T) (h0 rows : Nat) (h1 : 0 < rows) (h2 : rows ≤ 301) : jM l T yX0_init wsX0_init { frames := 1, cells := 1, slots := 903, locals := 20 } [.ref h0, .int (nI rows)] [(h0, cO 0 [.null])] (fun v w1 => ∃ q : Nat, v = none ∧ w1 = [(h0, cO 0 [.ref q]), (q, cJ T (3 * rows) (fun _ => 0))]) := by
  refine jM.of (cc := cX0_init) (maxL := 2) (ret := none) (by decide) rfl (Nat.le_of_ble_eq_true rfl) ?_
  intro X C rw_ hl hT hQ hnm
  subst hl; subst hT
  have hin0 : ∀ w ∈ u_ws RX0 TX0 1, w ∈ wsX0_init := by decide +kernel
  have hl11 : Cond.fieldLink RX0 11 (TX0 0).1 (TX0 0).2.1 (TX0 0).2.2.1 ∈ wsX0_init := by decide +kernel
  show jj X 0 0 0 [(0, .ref h0), (1, .int (nI rows))] [] [(h0, cO 0 [.null])]
  refine j_aload_n C dX0_init_0 0 rfl rfl ?_
  refine j_obj C (by decide +kernel) (by decide +kernel) (by decide +kernel) (by decide) (by decide) dX0_init_1 ?_
  refine j_aload_n C dX0_init_4 0 rfl rfl ?_
  refine j_iload_n C dX0_init_5 1 rfl rfl ?_
  refine j_if_le C dX0_init_6 (tgt := 15) (by decide) (fun c1 => ?_) (fun c1 => ?_)
  · skip
    have c1 := (kz_le (a := rows) (by omega)).mp c1
    exfalso
    first | exact c1.elim | omega
  · skip
    have c1 := (kz_nle (a := rows) (by omega)).mp c1
    refine j_iconst C dX0_init_9 (v := (nI 3)) kc_i_3 ?_
    refine j_iload_n C dX0_init_10 1 rfl rfl ?_
    refine j_imul C dX0_init_11 (v := (nI (3 * rows))) (pk_mul _ _) ?_
    refine j_goto C dX0_init_12 (tgt := 16) (by decide) ?_
    refine j_newarrJ C rw_ (N := (3 * rows)) rfl (by omega) (by decide +kernel) (by decide) (by show 0 + (3 * rows) ≤ 903; omega) dX0_init_16 (fun q => ?_)
    show jj X 1 (0 + (3 * rows)) 18 [(0, .ref h0), (1, .int (nI rows))] [.ref q, .ref h0] [(h0, cO 0 [.null]), (q, cJ (xT X) (3 * rows) (fun _ => 0))]
    refine j_putF C rw_ hnm (hin0) tyX0 tyX0_ok nmX0 (ci := 0) rfl 0 (by decide) (hl11) (by decide +kernel) rfl (ty := .array .long) (by decide +kernel) rfl rfl 0 rfl (Nat.le_of_ble_eq_true rfl) (w' := [(h0, cO 0 [.ref q]), (q, cJ (xT X) (3 * rows) (fun _ => 0))]) rfl dX0_init_18 ?_
    refine j_vretM C rw_ hQ (by decide) (by show 0 + (3 * rows) ≤ 903; omega) ?_ dX0_init_21
    exact ⟨q, rfl, rfl⟩
