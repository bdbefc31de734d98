/-! what is left of CellSets -/
/-- the union of the rows of hd that src names, below n -/
def cs_un (src : Nat → Bool) (hd : Nat → Int64) : Nat → Nat → Bool
  | 0, _ => false
  | n + 1, c => cs_un src hd n c || (src n && cs_b hd n c)
theorem cs_un_skip {src : Nat → Bool} {hd : Nat → Int64} {c : Nat} : ∀ {m n : Nat}, n ≤ m → (∀ b, n ≤ b → b < m → src b = false) → cs_un src hd m c = cs_un src hd n c
  | 0, n, h, _ => by rw [Nat.le_zero.mp h]
  | m + 1, n, h, hs => by
    by_cases e : n = m + 1
    · rw [e]
    · rw [cs_un, hs m (by omega) (by omega), Bool.false_and, Bool.or_false]
      exact cs_un_skip (by omega) (fun b h1 h2 => hs b h1 (by omega))
theorem cs_un_iff {src : Nat → Bool} {hd : Nat → Int64} {c : Nat} : ∀ {n : Nat}, cs_un src hd n c = true ↔ ∃ b, b < n ∧ src b = true ∧ cs_b hd b c = true
  | 0 => ⟨fun h => (by cases h), fun ⟨b, h, _⟩ => absurd h (Nat.not_lt_zero _)⟩
  | n + 1 => by
    rw [cs_un, Bool.or_eq_true, cs_un_iff, Bool.and_eq_true]
    constructor
    · rintro (⟨b, h1, h2, h3⟩ | ⟨h2, h3⟩)
      · exact ⟨b, by omega, h2, h3⟩
      · exact ⟨n, by omega, h2, h3⟩
    · rintro ⟨b, h1, h2, h3⟩
      by_cases e : b = n
      · subst e; exact Or.inr ⟨h2, h3⟩
      · exact Or.inl ⟨b, by omega, h2, h3⟩
theorem cs_and1 (w : Int64) : (w &&& lN 1) = lN 0 ↔ cs_lb w 0 = false := by
  have h := ts_bit (w := w) (s := 0) (j := 0) (by decide) rfl
  have e : (w.toUInt64 >>> (0 : UInt64)).toInt64 = w := by
    apply Int64.toBitVec_inj.mp
    show (w.toBitVec >>> (0 % 64 : Nat)) = w.toBitVec
    simp
  rw [e] at h
  exact h
theorem cs_z {w : Int64} (h : w = lN 0) (i : Nat) : cs_lb w i = false := by rw [h]; exact cs_0 i
set_option maxHeartbeats 4000000 in
set_option maxRecDepth 100000 in
/-- spread(row, fromRow, hoods) -/
theorem c_X0_spread (l : Launch) (T : jj_T) (h0 hw nW r fr ho hv nV : Nat) (f o : Nat → Int64) (hr : 3 * r + 3 ≤ nW) (hfr : 3 * fr + 3 ≤ nW) (hne : r ≠ fr) (hn : nW < 100000) (hv1 : 450 ≤ nV) (hv2 : nV < 100000) (hcl : ∀ b, 150 ≤ b → b < 192 → cs_b f fr b = false) : jM l T yX0_spread wsX0_spread { frames := 2, cells := 0, slots := 0, locals := 46 } [.ref h0, .int (nI r), .int (nI fr), .ref ho] [(h0, cO 0 [.ref hw]), (hw, cJ T nW f), (ho, cO 0 [.ref hv]), (hv, cJ T nV o)] (fun v w1 => ∃ g : Nat → Int64, v = none ∧ w1 = [(h0, cO 0 [.ref hw]), (hw, cJ T nW g), (ho, cO 0 [.ref hv]), (hv, cJ T nV o)] ∧ (∀ r' c', c' < 192 → cs_b g r' c' = if r' = r then cs_un (cs_b f fr) o (192) c' else cs_b f r' c')) := by
  refine jM.of (cc := cX0_spread) (maxL := 8) (ret := none) (by decide) rfl (Nat.le_of_ble_eq_true rfl) ?_
  intro X C rw_ hl hT hQ hnm
  subst hl; subst hT
  show jj X 0 0 0 [(0, .ref h0), (1, .int (nI r)), (2, .int (nI fr)), (3, .ref ho)] [] [(h0, cO 0 [.ref hw]), (hw, cJ (xT X) nW f), (ho, cO 0 [.ref hv]), (hv, cJ (xT X) nV o)]
  refine j_aload_n C dX0_spread_0 0 rfl rfl ?_
  refine j_iload_n C dX0_spread_1 1 rfl rfl ?_
  refine j_callVM C rw_ (nA := 1) (As := [.int (nI r)]) (wr := [(ho, cO 0 [.ref hv]), (hv, cJ (xT X) nV o)]) (c_X0_clear (xl X) (xT X) h0 hw nW r f (by omega) (by omega)) gX0_spread_X0_clear rfl (by decide +kernel) rfl (by decide) (by decide) [0, 1] [2, 3] rfl rfl rfl rfl (by decide) 0 rfl rfl (rest := []) rfl (Nat.le_of_ble_eq_true rfl) dX0_spread_2 ?_
  rintro _ _ ⟨g_1, rfl, rfl, hg0⟩
  show jj X 0 0 5 [(0, .ref h0), (1, .int (nI r)), (2, .int (nI fr)), (3, .ref ho)] [] [(ho, cO 0 [.ref hv]), (hv, cJ (xT X) nV o), (h0, cO 0 [.ref hw]), (hw, cJ (xT X) nW g_1)]
  refine j_iconst C dX0_spread_5 (v := (nI 0)) kc_i_0 ?_
  refine j_istore C dX0_spread_6 (by decide) (lv' := [(4, .int (nI 0)), (0, .ref h0), (1, .int (nI r)), (2, .int (nI fr)), (3, .ref ho)]) rfl ?_
  refine j_lv [1, 2, 3, 4, 0] rfl ?_
  refine j_perm C (w' := [(h0, cO 0 [.ref hw]), (hw, cJ (xT X) nW g_1), (ho, cO 0 [.ref hv]), (hv, cJ (xT X) nV o)]) [2, 3, 0, 1] rfl rfl ?_
  suffices hc8 : ∀ (mm : Nat) (i : Nat) (g : Nat → Int64), 3 - i < mm → (i ≤ 3) → (∀ r' c', c' < 192 → cs_b g r' c' = if r' = r then cs_un (cs_b f fr) o (64 * i) c' else cs_b f r' c') → jj X 0 0 8 [(0, .ref h0), (1, .int (nI r)), (2, .int (nI fr)), (3, .ref ho), (4, .int (nI i))] [] [(h0, cO 0 [.ref hw]), (hw, cJ (xT X) nW g), (ho, cO 0 [.ref hv]), (hv, cJ (xT X) nV o)] by
    refine hc8 _ _ _ (Nat.lt_succ_self _) ?_ ?_
    · omega
    · intro r' c' hc'
      rw [hg0 r' c' hc']
      by_cases h : r' = r
      · rw [if_pos h, decide_eq_false (by omega), Bool.false_and]; rfl
      · rw [if_neg h, decide_eq_true h, Bool.true_and]
  intro mm
  induction mm with
  | zero => intro i g hm; exact absurd hm (Nat.not_lt_zero _)
  | succ mm ih8 =>
    intro i g hm8 hi hg
    refine j_iload C dX0_spread_8 4 rfl ?_
    refine j_iconst C dX0_spread_10 (v := (nI 3)) kc_i_3 ?_
    refine j_icmp_ge C dX0_spread_11 (tgt := 81) (by decide) (fun c2 => ?_) (fun c2 => ?_)
    · skip
      have c2 := (kn_ge (a := i) (b := 3) (by omega) (by omega)).mp c2
      refine j_vretM C rw_ hQ (by decide) (by decide) ?_ dX0_spread_81
      refine ⟨_, rfl, rfl, fun r' c' hc' => ?_⟩
      rw [hg r' c' hc', show 64 * i = 192 by omega]
    · skip
      have c2 := (kn_nge (a := i) (b := 3) (by omega) (by omega)).mp c2
      refine j_aload_n C dX0_spread_14 0 rfl rfl ?_
      refine j_iload_n C dX0_spread_15 2 rfl rfl ?_
      refine j_iload C dX0_spread_16 4 rfl ?_
      refine j_callVR C (nA := 2) (As := [.int (nI fr), .int (nI i)]) (c_X0_word (xl X) (xT X) h0 hw nW fr i g (by omega) (by omega)) gX0_spread_X0_word rfl (by decide +kernel) rfl ⟨rfl, rfl⟩ (by decide) (by decide) [0, 1] rfl rfl 0 rfl rfl (rest := []) rfl (Nat.le_of_ble_eq_true rfl) dX0_spread_18 ?_
      rintro _ rfl
      show jj X 0 0 21 [(0, .ref h0), (1, .int (nI r)), (2, .int (nI fr)), (3, .ref ho), (4, .int (nI i))] [.long (g (3 * fr + i))] [(h0, cO 0 [.ref hw]), (hw, cJ (xT X) nW g), (ho, cO 0 [.ref hv]), (hv, cJ (xT X) nV o)]
      refine j_lstore C dX0_spread_21 (by decide) (lv' := [(5, .long (g (3 * fr + i))), (0, .ref h0), (1, .int (nI r)), (2, .int (nI fr)), (3, .ref ho), (4, .int (nI i))]) rfl ?_
      refine j_iconst C dX0_spread_23 (v := (nI 0)) kc_i_0 ?_
      refine j_istore C dX0_spread_24 (by decide) (lv' := [(7, .int (nI 0)), (5, .long (g (3 * fr + i))), (0, .ref h0), (1, .int (nI r)), (2, .int (nI fr)), (3, .ref ho), (4, .int (nI i))]) rfl ?_
      refine j_lv [2, 3, 4, 5, 6, 1, 0] rfl ?_
      suffices hc26 : ∀ (mm : Nat) (b : Nat) (bs : Int64) (g2 : Nat → Int64), 64 - b < mm → (b ≤ 64) → (∀ q, q < 64 → cs_lb bs q = (decide (q + b < 64) && cs_b f fr (64 * i + b + q))) → (∀ r' c', c' < 192 → cs_b g2 r' c' = if r' = r then cs_un (cs_b f fr) o (64 * i + b) c' else cs_b f r' c') → jj X 0 0 26 [(0, .ref h0), (1, .int (nI r)), (2, .int (nI fr)), (3, .ref ho), (4, .int (nI i)), (5, .long bs), (7, .int (nI b))] [] [(h0, cO 0 [.ref hw]), (hw, cJ (xT X) nW g2), (ho, cO 0 [.ref hv]), (hv, cJ (xT X) nV o)] by
        refine hc26 _ _ _ _ (Nat.lt_succ_self _) ?_ ?_ ?_
        · omega
        · intro q hq
          rw [decide_eq_true (by omega), Bool.true_and]
          have h := hg fr (64 * i + 0 + q) (by omega)
          rw [if_neg (by omega)] at h
          rw [← h]
          unfold cs_b
          rw [show 3 * fr + (64 * i + 0 + q) / 64 = 3 * fr + i by omega, show (64 * i + 0 + q) % 64 = q by omega]
        · exact hg
      intro mm
      induction mm with
      | zero => intro b bs g2 hm; exact absurd hm (Nat.not_lt_zero _)
      | succ mm ih26 =>
        intro b bs g2 hm26 hb hbs hg2
        refine j_iload C dX0_spread_26 6 rfl ?_
        refine j_bipush C dX0_spread_28 (v := (nI 64)) kc_b_64 ?_
        refine j_icmp_ge C dX0_spread_30 (tgt := 75) (by decide) (fun c3 => ?_) (fun c3 => ?_)
        · skip
          have c3 := (kn_ge (a := b) (b := 64) (by omega) (by omega)).mp c3
          refine j_iinc C dX0_spread_75 (q := 4) (v := (nI (i + 1))) rfl (kc_inc i) (by decide) (lv' := [(4, .int (nI (i + 1))), (0, .ref h0), (1, .int (nI r)), (2, .int (nI fr)), (3, .ref ho), (5, .long bs), (7, .int (nI b))]) rfl ?_
          refine j_goto C dX0_spread_78 (tgt := 8) (by decide) ?_
          refine j_lv [1, 2, 3, 4, 0] rfl ?_
          refine ih8 _ _ (by omega) ?_ ?_
          · omega
          · intro r' c' hc'
            rw [hg2 r' c' hc', show 64 * (i + 1) = 64 * i + b by omega]
        · skip
          have c3 := (kn_nge (a := b) (b := 64) (by omega) (by omega)).mp c3
          refine j_lload C dX0_spread_33 5 rfl ?_
          refine j_lconst C dX0_spread_35 (v := lN 0) rfl ?_
          refine j_lcmp C dX0_spread_36 ?_
          refine j_if_eq C dX0_spread_37 (tgt := 75) (by decide) (fun c4 => ?_) (fun c4 => ?_)
          · skip
            have c4 := (kl_eq).mp c4
            refine j_iinc C dX0_spread_75 (q := 4) (v := (nI (i + 1))) rfl (kc_inc i) (by decide) (lv' := [(4, .int (nI (i + 1))), (0, .ref h0), (1, .int (nI r)), (2, .int (nI fr)), (3, .ref ho), (5, .long bs), (7, .int (nI b))]) rfl ?_
            refine j_goto C dX0_spread_78 (tgt := 8) (by decide) ?_
            refine j_lv [1, 2, 3, 4, 0] rfl ?_
            refine ih8 _ _ (by omega) ?_ ?_
            · omega
            · intro r' c' hc'
              rw [hg2 r' c' hc', cs_un_skip (m := 64 * (i + 1)) (n := 64 * i + b) (by omega) (fun b' h1 h2 => by
                have h3 := hbs (b' - (64 * i + b)) (by omega)
                rw [cs_z c4, decide_eq_true (by omega), Bool.true_and, show 64 * i + b + (b' - (64 * i + b)) = b' by omega] at h3
                exact h3.symm)]
          · skip
            have c4 := (kl_neq).mp c4
            have hc63 : ∀ (g3 : Nat → Int64), (∀ r' c', c' < 192 → cs_b g3 r' c' = if r' = r then cs_un (cs_b f fr) o (64 * i + (b + 1)) c' else cs_b f r' c') → jj X 0 0 63 [(0, .ref h0), (1, .int (nI r)), (2, .int (nI fr)), (3, .ref ho), (4, .int (nI i)), (5, .long bs), (7, .int (nI b))] [] [(h0, cO 0 [.ref hw]), (hw, cJ (xT X) nW g3), (ho, cO 0 [.ref hv]), (hv, cJ (xT X) nV o)] := by
              intro g3 hg3
              refine j_lload C dX0_spread_63 5 rfl ?_
              refine j_iconst C dX0_spread_65 (v := (nI 1)) kc_i_1 ?_
              refine j_lushr C dX0_spread_66 (v := ((bs.toUInt64 >>> ((nI 1).toInt64.toUInt64 &&& Int64.toUInt64 63)).toInt64)) rfl ?_
              refine j_lstore C dX0_spread_67 (by decide) (lv' := [(5, .long ((bs.toUInt64 >>> ((nI 1).toInt64.toUInt64 &&& Int64.toUInt64 63)).toInt64)), (0, .ref h0), (1, .int (nI r)), (2, .int (nI fr)), (3, .ref ho), (4, .int (nI i)), (7, .int (nI b))]) rfl ?_
              refine j_iinc C dX0_spread_69 (q := 6) (v := (nI (b + 1))) rfl (kc_inc b) (by decide) (lv' := [(7, .int (nI (b + 1))), (5, .long ((bs.toUInt64 >>> ((nI 1).toInt64.toUInt64 &&& Int64.toUInt64 63)).toInt64)), (0, .ref h0), (1, .int (nI r)), (2, .int (nI fr)), (3, .ref ho), (4, .int (nI i))]) rfl ?_
              refine j_goto C dX0_spread_72 (tgt := 26) (by decide) ?_
              refine j_lv [2, 3, 4, 5, 6, 1, 0] rfl ?_
              refine ih26 _ _ _ (by omega) ?_ ?_ ?_
              · omega
              · intro q hq
                rw [cs_shr1]
                by_cases h : q + 1 < 64
                · rw [hbs (q + 1) h, show q + 1 + b = q + (b + 1) by omega, show 64 * i + b + (q + 1) = 64 * i + (b + 1) + q by omega]
                · rw [decide_eq_false (by omega), Bool.false_and]
                  unfold cs_lb
                  exact BitVec.getLsbD_of_ge _ _ (by omega)
              · exact hg3
            refine j_lload C dX0_spread_40 5 rfl ?_
            refine j_lconst C dX0_spread_42 (v := lN 1) rfl ?_
            refine j_land C dX0_spread_43 (v := (bs &&& (lN 1))) rfl ?_
            refine j_lconst C dX0_spread_44 (v := lN 0) rfl ?_
            refine j_lcmp C dX0_spread_45 ?_
            refine j_if_eq C dX0_spread_46 (tgt := 63) (by decide) (fun c5 => ?_) (fun c5 => ?_)
            · skip
              have c5 := (kl_eq).mp c5
              refine hc63 _ ?_
              · intro r' c' hc'
                rw [hg2 r' c' hc', show 64 * i + (b + 1) = 64 * i + b + 1 by omega, cs_un]
                have h3 := hbs 0 (by omega)
                rw [(cs_and1 bs).mp c5, decide_eq_true (by omega), Bool.true_and, Nat.add_zero] at h3
                rw [← h3, Bool.false_and, Bool.or_false]
            · skip
              have c5 := (kl_neq).mp c5
              have hsrc : cs_b f fr (64 * i + b) = true := by
                have h3 := hbs 0 (by omega)
                rw [decide_eq_true (by omega), Bool.true_and, Nat.add_zero] at h3
                rw [← h3]
                cases h4 : cs_lb bs 0
                · exact absurd ((cs_and1 bs).mpr h4) c5
                · rfl
              have hlt : 64 * i + b < 150 := by
                by_cases h4 : 64 * i + b < 150
                · exact h4
                · rw [hcl _ (by omega) (by omega)] at hsrc; cases hsrc
              refine j_aload_n C dX0_spread_49 0 rfl rfl ?_
              refine j_iload_n C dX0_spread_50 1 rfl rfl ?_
              refine j_aload_n C dX0_spread_51 3 rfl rfl ?_
              refine j_bipush C dX0_spread_52 (v := (nI 64)) kc_b_64 ?_
              refine j_iload C dX0_spread_54 4 rfl ?_
              refine j_imul C dX0_spread_56 (v := (nI (64 * i))) (pk_mul _ _) ?_
              refine j_iload C dX0_spread_57 6 rfl ?_
              refine j_iadd C dX0_spread_59 (v := (nI (64 * i + b))) (nI_add _ _) ?_
              refine j_callVM C rw_ (nA := 3) (As := [.int (nI r), .ref ho, .int (nI (64 * i + b))]) (wr := []) (c_X0_unite (xl X) (xT X) h0 hw nW r ho hv nV (64 * i + b) g2 o (by omega) (by omega) (by omega) (by omega)) gX0_spread_X0_unite rfl (by decide +kernel) rfl (by decide) (by decide) [0, 1, 2, 3] [] rfl rfl rfl rfl (by decide) 0 rfl rfl (rest := []) rfl (Nat.le_of_ble_eq_true rfl) dX0_spread_60 ?_
              rintro _ _ ⟨g_6, rfl, rfl, hgu⟩
              show jj X 0 0 63 [(0, .ref h0), (1, .int (nI r)), (2, .int (nI fr)), (3, .ref ho), (4, .int (nI i)), (5, .long bs), (7, .int (nI b))] [] [(h0, cO 0 [.ref hw]), (hw, cJ (xT X) nW g_6), (ho, cO 0 [.ref hv]), (hv, cJ (xT X) nV o)]
              refine hc63 _ ?_
              · intro r' c' hc'
                rw [hgu r' c' hc', hg2 r' c' hc', hg2 r c' hc', show 64 * i + (b + 1) = 64 * i + b + 1 by omega, cs_un, hsrc, Bool.true_and, if_pos rfl]
                by_cases h : r' = r
                · rw [if_pos h, if_pos h]
                · rw [if_neg h, if_neg h, if_neg h]
