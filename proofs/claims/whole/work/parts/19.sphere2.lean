/-! SPHERE: its making -/
theorem cvec_0 (n : Nat) : cvec (3 * n) = cx (ctab n / 121) := by
  unfold cvec; rw [if_pos (by omega), show 3 * n / 3 = n by omega]
theorem cvec_1 (n : Nat) : cvec (3 * n + 1) = cx (ctab n / 11 % 11) := by
  unfold cvec; rw [if_neg (by omega), if_pos (by omega), show (3 * n + 1) / 3 = n by omega]
theorem cvec_2 (n : Nat) : cvec (3 * n + 2) = cx (ctab n % 11) := by
  unfold cvec; rw [if_neg (by omega), if_neg (by omega), show (3 * n + 2) / 3 = n by omega]
def pfx (n : Nat) (V Q : Nat → Int32) : Prop := (∀ j, j < 3 * n → V j = cvec j) ∧ ∀ j, j < n → Q j = csq j
theorem pfx_step {n a b c : Nat} {V Q : Nat → Int32} (h : pfx n V Q) (ht : ctab n = 121 * a + 11 * b + c) (hb : b < 11) (hc : c < 11) :
    pfx (n + 1) (upd (upd (upd V (3 * n) (cx a)) (3 * n + 1) (cx b)) (3 * n + 2) (cx c)) (upd Q n (cx a * cx a + cx b * cx b + cx c * cx c)) := by
  have e0 : cvec (3 * n) = cx a := by rw [cvec_0, ht, show (121 * a + 11 * b + c) / 121 = a by omega]
  have e1 : cvec (3 * n + 1) = cx b := by rw [cvec_1, ht, show (121 * a + 11 * b + c) / 11 % 11 = b by omega]
  have e2 : cvec (3 * n + 2) = cx c := by rw [cvec_2, ht, show (121 * a + 11 * b + c) % 11 = c by omega]
  refine ⟨fun j hj => ?_, fun j hj => ?_⟩
  · unfold upd
    by_cases h2 : j = 3 * n + 2
    · rw [if_pos h2, h2, e2]
    · rw [if_neg h2]
      by_cases h1 : j = 3 * n + 1
      · rw [if_pos h1, h1, e1]
      · rw [if_neg h1]
        by_cases h0 : j = 3 * n
        · rw [if_pos h0, h0, e0]
        · rw [if_neg h0]; exact h.1 j (by omega)
  · unfold upd
    by_cases h2 : j = n
    · rw [if_pos h2, h2]; unfold csq; rw [e0, e1, e2]
    · rw [if_neg h2]; exact h.2 j (by omega)
theorem nb_dist {a b : Nat} (ha : a < 150) (hb : b < 150) (h : a ≠ b) : c_dist cvec a b ≤ nI 4 ↔ tb_nb a b = true := by
  have := tb_dist a ha b hb
  rw [beq_eq_false_iff_ne.mpr h, Bool.false_or] at this
  rw [← this]; exact decide_eq_true_iff.symm
def lkI (a b a' : Nat) (L A : Nat → Nat) (g : Nat → Int64) : Prop := (∀ c, c < 150 → L c = kc a b c) ∧ (∀ c, c < 150 → ∀ k, k < kc a b c → A (4 * c + k) = near4 (4 * c + k)) ∧ ∀ r, r < 150 → ∀ c, c < 192 → cs_b g r c = (decide (r = c ∧ r < a') || kx (kc a b r) r c)
theorem lk_eq {a b a1 b1 a' : Nat} {L A : Nat → Nat} {g : Nat → Int64} (h : lkI a b a' L A g) (e : ∀ c, c < 150 → kc a b c = kc a1 b1 c) : lkI a1 b1 a' L A g :=
  ⟨fun c hc => (h.1 c hc).trans (e c hc), fun c hc k hk => h.2.1 c hc k (by rw [e c hc]; exact hk), fun r hr c hc => by rw [h.2.2 r hr c hc, e r hr]⟩
theorem lk_next {a a' : Nat} {L A : Nat → Nat} {g : Nat → Int64} (h : lkI a 150 a' L A g) : lkI (a + 1) (a + 1 + 1) a' L A g := lk_eq h (fun c hc => kc_next hc)
theorem lk_skip {a b a' : Nat} {L A : Nat → Nat} {g : Nat → Int64} (h : lkI a b a' L A g) (hab : a < b) (ha : a < 150) (hb : b < 150) (hn : tb_nb a b = false) : lkI a (b + 1) a' L A g := lk_eq h (fun c hc => (kc_same hab ha hb (Or.inr hn)).symm)
theorem lk_rest {a b a' : Nat} {L A : Nat → Nat} {g : Nat → Int64} (h : lkI a b a' L A g) (hab : a < b) (ha : a < 150) (hb : b ≤ 150) (hn : ∀ b', b ≤ b' → b' < 150 → tb_nb a b' = false) : lkI a 150 a' L A g := lk_eq h (fun c hc => kc_rest ha (m := 150 - b) hab (by omega) hn)
theorem lk_far {a b : Nat} (ha : a < 150) (hb : b < 150) (hab : a < b) (h : nI 2 < cvec (3 * b) - cvec (3 * a)) : ∀ b', b ≤ b' → b' < 150 → tb_nb a b' = false := by
  intro b' h1 h2
  cases hn : tb_nb a b' with
  | false => rfl
  | true =>
    obtain ⟨k, hk, e⟩ := nb_iff.mp hn
    have h3 := tb_far a ha k hk b hb (by omega)
    rw [cvec_0, cvec_0] at h
    have h4 := (cx_far _ (tb_x a ha) _ (tb_x b hb)).mp h
    omega
/-- what the tables say of one link -/
theorem lk_tb {a b : Nat} (ha : a < 150) (hab : a < b) (hn : tb_nb a b = true) : near4 (4 * a + kc a b a) = b ∧ kc a b a < 4 ∧ kc a b b < 4 ∧ near4 (4 * b + kc a b b) = a ∧ kc a (b + 1) a = kc a b a + 1 ∧ kc a (b + 1) b = kc a b b + 1 := by
  obtain ⟨k, hk, e⟩ := nb_iff.mp hn
  have h := tb_kc a ha k hk (by omega)
  rw [e] at h
  exact ⟨by rw [h.1]; exact e, by rw [h.1]; exact hk, h.2.1, h.2.2.1, by rw [h.2.2.2.1, h.1], h.2.2.2.2⟩
theorem lk_link {a b a' : Nat} {L A : Nat → Nat} {g g1 g2 : Nat → Int64} (h : lkI a b a' L A g) (hab : a < b) (ha : a < 150) (hb : b < 150) (hn : tb_nb a b = true)
    (h1 : ∀ r' c', c' < 192 → cs_b g1 r' c' = (decide (r' = a ∧ c' = b) || cs_b g r' c')) (h2 : ∀ r' c', c' < 192 → cs_b g2 r' c' = (decide (r' = b ∧ c' = a) || cs_b g1 r' c')) :
    lkI a (b + 1) a' (va_up (va_up L a (L a + 1)) b (va_up L a (L a + 1) b + 1)) (va_up (va_up A (4 * a + L a) b) (4 * b + va_up L a (L a + 1) b) a) g2 := by
  obtain ⟨t1, t2, t3, t4, t5, t6⟩ := lk_tb ha hab hn
  have eb : va_up L a (L a + 1) b = kc a b b := by unfold va_up; rw [if_neg (by omega)]; exact h.1 b hb
  have ea : L a = kc a b a := h.1 a ha
  rw [eb, ea]
  refine ⟨fun c hc => ?_, fun c hc k hk => ?_, fun r hr c hc => ?_⟩
  · unfold va_up
    by_cases e : c = b
    · rw [if_pos e, e, t6]
    · rw [if_neg e]
      by_cases e2 : c = a
      · rw [if_pos e2, e2, t5]
      · rw [if_neg e2, h.1 c hc]; exact (kc_same hab ha hb (Or.inl ⟨e2, e⟩)).symm
  · unfold va_up
    by_cases e : 4 * c + k = 4 * b + kc a b b
    · rw [if_pos e, e, t4]
    · rw [if_neg e]
      by_cases e2 : 4 * c + k = 4 * a + kc a b a
      · rw [if_pos e2, e2, t1]
      · rw [if_neg e2]
        refine h.2.1 c hc k ?_
        by_cases q : c = b
        · rw [q] at e hk ⊢; rw [t6] at hk; omega
        · by_cases q2 : c = a
          · rw [q2] at e2 hk ⊢; rw [t5] at hk; omega
          · rw [kc_same hab ha hb (Or.inl ⟨q2, q⟩)] at hk; exact hk
  · rw [h2 r c hc, h1 r c hc, h.2.2 r hr c hc]
    by_cases q : r = b
    · subst q
      rw [t6, kx, t4, decide_eq_false (show ¬ (r = a ∧ c = r) by omega), Bool.false_or]
      by_cases z : c = a
      · subst z; simp
      · rw [decide_eq_false (by omega), beq_eq_false_iff_ne.mpr (by omega), Bool.false_or, Bool.or_false]
    · by_cases q2 : r = a
      · subst q2
        rw [t5, kx, t1, decide_eq_false (show ¬ (r = b ∧ c = r) by omega), Bool.false_or]
        by_cases z : c = b
        · subst z; simp
        · rw [decide_eq_false (by omega), beq_eq_false_iff_ne.mpr (by omega), Bool.false_or, Bool.or_false]
      · rw [kc_same hab ha hb (Or.inl ⟨q2, q⟩), decide_eq_false (by omega), decide_eq_false (show ¬ (r = a ∧ c = b) by omega), Bool.false_or, Bool.false_or]
set_option maxHeartbeats 4000000 in
set_option maxRecDepth 100000 in
/-- listCells() -/
theorem c_X5_listCells (l : Launch) (T : jj_T) (h0 hh hv hs ha : Nat) : jM l T yX5_listCells wsX5_listCells { frames := 2, cells := 0, slots := 0, locals := 42 } [.ref h0] [(h0, cO 5 [.ref hh, .ref hv, .ref hs, .ref ha]), (hv, cI T 450 (fun _ => 0)), (hs, cI T 150 (fun _ => 0))] (fun v w1 => v = none ∧ w1 = [(h0, cO 5 [.ref hh, .ref hv, .ref hs, .ref ha]), (hv, cI T 450 cvec), (hs, cI T 150 csq)]) := by
  refine jM.of (cc := cX5_listCells) (maxL := 5) (ret := none) (by decide) rfl (Nat.le_of_ble_eq_true rfl) ?_
  intro X C rw_ hl hT hQ hnm
  subst hl; subst hT
  have hin5 : ∀ w ∈ u_ws RX5 TX5 4, w ∈ wsX5_listCells := by decide +kernel
  have hl20 : Cond.fieldLink RX5 20 (TX5 1).1 (TX5 1).2.1 (TX5 1).2.2.1 ∈ wsX5_listCells := by decide +kernel
  have hl24 : Cond.fieldLink RX5 24 (TX5 2).1 (TX5 2).2.1 (TX5 2).2.2.1 ∈ wsX5_listCells := by decide +kernel
  show jj X 0 0 0 [(0, .ref h0)] [] [(h0, cO 5 [.ref hh, .ref hv, .ref hs, .ref ha]), (hv, cI (xT X) 450 (fun _ => 0)), (hs, cI (xT X) 150 (fun _ => 0))]
  refine j_iconst C dX5_listCells_0 (v := (nI 0)) kc_i_0 ?_
  refine j_istore_n C dX5_listCells_1 rfl (by decide) (lv' := [(1, .int (nI 0)), (0, .ref h0)]) rfl ?_
  refine j_bipush C dX5_listCells_2 (v := (-5)) kc_b_m5 ?_
  refine j_ieq (cx 0) (by exact cx_0) ?_
  refine j_istore_n C dX5_listCells_4 rfl (by decide) (lv' := [(2, .int (cx 0)), (1, .int (nI 0)), (0, .ref h0)]) rfl ?_
  refine j_lv [2, 1, 0] rfl ?_
  suffices hc5 : ∀ (mm : Nat) (a n : Nat) (V Q : Nat → Int32), 11 - a < mm → (a ≤ 11) → (n = cidx (121 * a)) → (pfx n V Q) → jj X 0 0 5 [(0, .ref h0), (1, .int (nI n)), (2, .int (cx a))] [] [(h0, cO 5 [.ref hh, .ref hv, .ref hs, .ref ha]), (hv, cI (xT X) 450 V), (hs, cI (xT X) 150 Q)] by
    refine hc5 _ _ _ _ _ (Nat.lt_succ_self _) ?_ ?_ ?_
    · omega
    · exact tb_ix0.symm
    · exact ⟨fun j hj => by omega, fun j hj => by omega⟩
  intro mm
  induction mm with
  | zero => intro a n V Q hm; exact absurd hm (Nat.not_lt_zero _)
  | succ mm ih5 =>
    intro a n V Q hm5 ha1 hn1 hp1
    refine j_iload_n C dX5_listCells_5 2 rfl rfl ?_
    refine j_iconst C dX5_listCells_6 (v := (nI 5)) kc_i_5 ?_
    refine j_icmp_gt C dX5_listCells_7 (tgt := 117) (by decide) (fun c1 => ?_) (fun c1 => ?_)
    · skip
      refine j_extI C cvec 1 rfl (fun j hj => ?_) (w' := [(h0, cO 5 [.ref hh, .ref hv, .ref hs, .ref ha]), (hv, cI (xT X) 450 cvec), (hs, cI (xT X) 150 Q)]) rfl ?_
      · exact hp1.1 j (by have := (cx_gt a (by omega)).mp c1; rw [hn1, show 121 * a = 1331 by omega, tb_ixE]; omega)
      refine j_extI C csq 2 rfl (fun j hj => ?_) (w' := [(h0, cO 5 [.ref hh, .ref hv, .ref hs, .ref ha]), (hv, cI (xT X) 450 cvec), (hs, cI (xT X) 150 csq)]) rfl ?_
      · exact hp1.2 j (by have := (cx_gt a (by omega)).mp c1; rw [hn1, show 121 * a = 1331 by omega, tb_ixE]; omega)
      refine j_vretM C rw_ hQ (by decide) (by decide) ?_ dX5_listCells_117
      exact ⟨rfl, rfl⟩
    · skip
      refine j_bipush C dX5_listCells_10 (v := (-5)) kc_b_m5 ?_
      refine j_ieq (cx 0) (by exact cx_0) ?_
      refine j_istore_n C dX5_listCells_12 rfl (by decide) (lv' := [(3, .int (cx 0)), (0, .ref h0), (1, .int (nI n)), (2, .int (cx a))]) rfl ?_
      refine j_lv [1, 2, 3, 0] rfl ?_
      suffices hc13 : ∀ (mm : Nat) (b n : Nat) (V Q : Nat → Int32), 11 - b < mm → (b ≤ 11) → (n = cidx (121 * a + 11 * b)) → (pfx n V Q) → jj X 0 0 13 [(0, .ref h0), (1, .int (nI n)), (2, .int (cx a)), (3, .int (cx b))] [] [(h0, cO 5 [.ref hh, .ref hv, .ref hs, .ref ha]), (hv, cI (xT X) 450 V), (hs, cI (xT X) 150 Q)] by
        refine hc13 _ _ _ _ _ (Nat.lt_succ_self _) ?_ ?_ ?_
        · omega
        · exact hn1
        · exact hp1
      intro mm
      induction mm with
      | zero => intro b n V Q hm; exact absurd hm (Nat.not_lt_zero _)
      | succ mm ih13 =>
        intro b n V Q hm13 hb1 hn2 hp2
        refine j_iload_n C dX5_listCells_13 3 rfl rfl ?_
        refine j_iconst C dX5_listCells_14 (v := (nI 5)) kc_i_5 ?_
        refine j_icmp_gt C dX5_listCells_15 (tgt := 111) (by decide) (fun c2 => ?_) (fun c2 => ?_)
        · skip
          refine j_iinc C dX5_listCells_111 (q := 2) (v := (cx (a + 1))) rfl (cx_inc _) (by decide) (lv' := [(2, .int (cx (a + 1))), (0, .ref h0), (1, .int (nI n)), (3, .int (cx b))]) rfl ?_
          refine j_goto C dX5_listCells_114 (tgt := 5) (by decide) ?_
          refine j_lv [1, 2, 0] rfl ?_
          refine ih5 _ _ _ _ (by have := mt (cx_gt a (by omega)).mpr c1; omega) ?_ ?_ ?_
          · have := mt (cx_gt a (by omega)).mpr c1; omega
          · rw [hn2]; have := (cx_gt b (by omega)).mp c2; congr 1; omega
          · exact hp2
        · skip
          refine j_bipush C dX5_listCells_18 (v := (-5)) kc_b_m5 ?_
          refine j_ieq (cx 0) (by exact cx_0) ?_
          refine j_istore C dX5_listCells_20 (by decide) (lv' := [(4, .int (cx 0)), (0, .ref h0), (1, .int (nI n)), (2, .int (cx a)), (3, .int (cx b))]) rfl ?_
          refine j_lv [1, 2, 3, 4, 0] rfl ?_
          suffices hc22 : ∀ (mm : Nat) (c n : Nat) (V Q : Nat → Int32), 11 - c < mm → (c ≤ 11) → (n = cidx (121 * a + 11 * b + c)) → (pfx n V Q) → jj X 0 0 22 [(0, .ref h0), (1, .int (nI n)), (2, .int (cx a)), (3, .int (cx b)), (4, .int (cx c))] [] [(h0, cO 5 [.ref hh, .ref hv, .ref hs, .ref ha]), (hv, cI (xT X) 450 V), (hs, cI (xT X) 150 Q)] by
            refine hc22 _ _ _ _ _ (Nat.lt_succ_self _) ?_ ?_ ?_
            · omega
            · exact hn2
            · exact hp2
          intro mm
          induction mm with
          | zero => intro c n V Q hm; exact absurd hm (Nat.not_lt_zero _)
          | succ mm ih22 =>
            intro c n V Q hm22 hc1 hn3 hp3
            refine j_iload C dX5_listCells_22 4 rfl ?_
            refine j_iconst C dX5_listCells_24 (v := (nI 5)) kc_i_5 ?_
            refine j_icmp_gt C dX5_listCells_25 (tgt := 105) (by decide) (fun c3 => ?_) (fun c3 => ?_)
            · skip
              refine j_iinc C dX5_listCells_105 (q := 3) (v := (cx (b + 1))) rfl (cx_inc _) (by decide) (lv' := [(3, .int (cx (b + 1))), (0, .ref h0), (1, .int (nI n)), (2, .int (cx a)), (4, .int (cx c))]) rfl ?_
              refine j_goto C dX5_listCells_108 (tgt := 13) (by decide) ?_
              refine j_lv [1, 2, 3, 0] rfl ?_
              refine ih13 _ _ _ _ (by have := mt (cx_gt b (by omega)).mpr c2; omega) ?_ ?_ ?_
              · have := mt (cx_gt b (by omega)).mpr c2; omega
              · rw [hn3]; have := (cx_gt c (by omega)).mp c3; congr 1; omega
              · exact hp3
            · skip
              have hal : a < 11 := by have := mt (cx_gt a (by omega)).mpr c1; omega
              have hbl : b < 11 := by have := mt (cx_gt b (by omega)).mpr c2; omega
              have hcl : c < 11 := by have := mt (cx_gt c (by omega)).mpr c3; omega
              have htl : 121 * a + 11 * b + c < 1331 := by omega
              refine j_iload_n C dX5_listCells_28 2 rfl rfl ?_
              refine j_iload_n C dX5_listCells_29 3 rfl rfl ?_
              refine j_iload C dX5_listCells_30 4 rfl ?_
              refine j_callSR C (nA := 3) (As := [.int (cx a), .int (cx b), .int (cx c)]) (c_X5_isVector (xl X) (xT X) (cx a) (cx b) (cx c) ) gX5_listCells_X5_isVector rfl (by decide +kernel) rfl ⟨rfl, rfl⟩ (by decide) (by decide) [] rfl rfl (rest := []) rfl (Nat.le_of_ble_eq_true rfl) dX5_listCells_32 ?_
              rintro _ rfl
              show jj X 0 0 35 [(0, .ref h0), (1, .int (nI n)), (2, .int (cx a)), (3, .int (cx b)), (4, .int (cx c))] [.int (bI (v_is (cx a) (cx b) (cx c)))] [(h0, cO 5 [.ref hh, .ref hv, .ref hs, .ref ha]), (hv, cI (xT X) 450 V), (hs, cI (xT X) 150 Q)]
              refine j_if_eq C dX5_listCells_35 (tgt := 99) (by decide) (fun c4 => ?_) (fun c4 => ?_)
              · skip
                have c4 := (kb_eq).mp c4
                refine j_iinc C dX5_listCells_99 (q := 4) (v := (cx (c + 1))) rfl (cx_inc _) (by decide) (lv' := [(4, .int (cx (c + 1))), (0, .ref h0), (1, .int (nI n)), (2, .int (cx a)), (3, .int (cx b))]) rfl ?_
                refine j_goto C dX5_listCells_102 (tgt := 22) (by decide) ?_
                refine j_lv [1, 2, 3, 4, 0] rfl ?_
                refine ih22 _ _ _ _ (by omega) ?_ ?_ ?_
                · omega
                · rw [hn3, ← Nat.add_assoc, (tb_ix _ htl).1, ← tb_is a hal b hbl c hcl, c4]; rfl
                · exact hp3
              · skip
                have c4 := (kb_neq).mp c4
                have ht : tisV (121 * a + 11 * b + c) = true := by rw [← tb_is a hal b hbl c hcl]; exact c4
                have h2 := (tb_ix _ htl).2 ht
                have hlt : n < 150 := by rw [hn3]; exact h2.2
                have htab : ctab n = 121 * a + 11 * b + c := by rw [hn3]; exact h2.1
                refine j_iload_n C dX5_listCells_38 1 rfl rfl ?_
                refine j_sipush C dX5_listCells_39 (v := (nI 150)) kc_s_150 ?_
                refine j_icmp_ge C dX5_listCells_42 (tgt := 99) (by decide) (fun c5 => ?_) (fun c5 => ?_)
                · skip
                  have c5 := (kn_ge (a := n) (b := 150) (by omega) (by omega)).mp c5
                  exfalso
                  first | exact c5.elim | omega
                · skip
                  have c5 := (kn_nge (a := n) (b := 150) (by omega) (by omega)).mp c5
                  refine j_aload_n C dX5_listCells_45 0 rfl rfl ?_
                  refine j_get C (hin5) (ci := 5) rfl 1 (by decide) (hl20) 0 rfl (v := .ref hv) rfl dX5_listCells_46 ?_
                  refine j_iconst C dX5_listCells_49 (v := (nI 3)) kc_i_3 ?_
                  refine j_iload_n C dX5_listCells_50 1 rfl rfl ?_
                  refine j_imul C dX5_listCells_51 (v := (nI (3 * n))) (pk_mul _ _) ?_
                  refine j_iload_n C dX5_listCells_52 2 rfl rfl ?_
                  refine j_iastoreN C rw_ (3 * n) rfl 1 rfl (by omega) (by decide) (w' := [(h0, cO 5 [.ref hh, .ref hv, .ref hs, .ref ha]), (hv, cI (xT X) 450 (upd V (3 * n) (cx a))), (hs, cI (xT X) 150 Q)]) rfl dX5_listCells_53 ?_
                  refine j_aload_n C dX5_listCells_54 0 rfl rfl ?_
                  refine j_get C (hin5) (ci := 5) rfl 1 (by decide) (hl20) 0 rfl (v := .ref hv) rfl dX5_listCells_55 ?_
                  refine j_iconst C dX5_listCells_58 (v := (nI 3)) kc_i_3 ?_
                  refine j_iload_n C dX5_listCells_59 1 rfl rfl ?_
                  refine j_imul C dX5_listCells_60 (v := (nI (3 * n))) (pk_mul _ _) ?_
                  refine j_iconst C dX5_listCells_61 (v := (nI 1)) kc_i_1 ?_
                  refine j_iadd C dX5_listCells_62 (v := (nI (3 * n + 1))) (nI_add _ _) ?_
                  refine j_iload_n C dX5_listCells_63 3 rfl rfl ?_
                  refine j_iastoreN C rw_ (3 * n + 1) rfl 1 rfl (by omega) (by decide) (w' := [(h0, cO 5 [.ref hh, .ref hv, .ref hs, .ref ha]), (hv, cI (xT X) 450 (upd (upd V (3 * n) (cx a)) (3 * n + 1) (cx b))), (hs, cI (xT X) 150 Q)]) rfl dX5_listCells_64 ?_
                  refine j_aload_n C dX5_listCells_65 0 rfl rfl ?_
                  refine j_get C (hin5) (ci := 5) rfl 1 (by decide) (hl20) 0 rfl (v := .ref hv) rfl dX5_listCells_66 ?_
                  refine j_iconst C dX5_listCells_69 (v := (nI 3)) kc_i_3 ?_
                  refine j_iload_n C dX5_listCells_70 1 rfl rfl ?_
                  refine j_imul C dX5_listCells_71 (v := (nI (3 * n))) (pk_mul _ _) ?_
                  refine j_iconst C dX5_listCells_72 (v := (nI 2)) kc_i_2 ?_
                  refine j_iadd C dX5_listCells_73 (v := (nI (3 * n + 2))) (nI_add _ _) ?_
                  refine j_iload C dX5_listCells_74 4 rfl ?_
                  refine j_iastoreN C rw_ (3 * n + 2) rfl 1 rfl (by omega) (by decide) (w' := [(h0, cO 5 [.ref hh, .ref hv, .ref hs, .ref ha]), (hv, cI (xT X) 450 (upd (upd (upd V (3 * n) (cx a)) (3 * n + 1) (cx b)) (3 * n + 2) (cx c))), (hs, cI (xT X) 150 Q)]) rfl dX5_listCells_76 ?_
                  refine j_aload_n C dX5_listCells_77 0 rfl rfl ?_
                  refine j_get C (hin5) (ci := 5) rfl 2 (by decide) (hl24) 0 rfl (v := .ref hs) rfl dX5_listCells_78 ?_
                  refine j_iload_n C dX5_listCells_81 1 rfl rfl ?_
                  refine j_iload_n C dX5_listCells_82 2 rfl rfl ?_
                  refine j_iload_n C dX5_listCells_83 2 rfl rfl ?_
                  refine j_imul C dX5_listCells_84 (v := ((cx a) * (cx a))) rfl ?_
                  refine j_iload_n C dX5_listCells_85 3 rfl rfl ?_
                  refine j_iload_n C dX5_listCells_86 3 rfl rfl ?_
                  refine j_imul C dX5_listCells_87 (v := ((cx b) * (cx b))) rfl ?_
                  refine j_iadd C dX5_listCells_88 (v := (((cx a) * (cx a)) + ((cx b) * (cx b)))) rfl ?_
                  refine j_iload C dX5_listCells_89 4 rfl ?_
                  refine j_iload C dX5_listCells_91 4 rfl ?_
                  refine j_imul C dX5_listCells_93 (v := ((cx c) * (cx c))) rfl ?_
                  refine j_iadd C dX5_listCells_94 (v := ((((cx a) * (cx a)) + ((cx b) * (cx b))) + ((cx c) * (cx c)))) rfl ?_
                  refine j_iastoreN C rw_ n rfl 2 rfl (by omega) (by decide) (w' := [(h0, cO 5 [.ref hh, .ref hv, .ref hs, .ref ha]), (hv, cI (xT X) 450 (upd (upd (upd V (3 * n) (cx a)) (3 * n + 1) (cx b)) (3 * n + 2) (cx c))), (hs, cI (xT X) 150 (upd Q n ((((cx a) * (cx a)) + ((cx b) * (cx b))) + ((cx c) * (cx c)))))]) rfl dX5_listCells_95 ?_
                  refine j_iinc C dX5_listCells_96 (q := 1) (v := (nI (n + 1))) rfl (kc_inc n) (by decide) (lv' := [(1, .int (nI (n + 1))), (0, .ref h0), (2, .int (cx a)), (3, .int (cx b)), (4, .int (cx c))]) rfl ?_
                  refine j_iinc C dX5_listCells_99 (q := 4) (v := (cx (c + 1))) rfl (cx_inc _) (by decide) (lv' := [(4, .int (cx (c + 1))), (1, .int (nI (n + 1))), (0, .ref h0), (2, .int (cx a)), (3, .int (cx b))]) rfl ?_
                  refine j_goto C dX5_listCells_102 (tgt := 22) (by decide) ?_
                  refine j_lv [2, 1, 3, 4, 0] rfl ?_
                  refine ih22 _ _ _ _ (by omega) ?_ ?_ ?_
                  · omega
                  · rw [hn3, ← Nat.add_assoc, (tb_ix _ htl).1, if_pos ht]
                  · exact pfx_step hp3 htab hbl hcl

set_option maxHeartbeats 4000000 in
set_option maxRecDepth 100000 in
/-- link(cell, other, links) -/
theorem c_X5_link (l : Launch) (T : jj_T) (h0 hh hw hv hs ha lk c d : Nat) (L A : Nat → Nat) (f : Nat → Int64) (hc : c < 150) (hd : d < 150) (hL : L c < 4) : jM l T yX5_link wsX5_link { frames := 1, cells := 0, slots := 0, locals := 23 } [.ref h0, .int (nI c), .int (nI d), .ref lk] [(h0, cO 5 [.ref hh, .ref hv, .ref hs, .ref ha]), (hh, cO 0 [.ref hw]), (hw, cJ T 450 f), (ha, cI T 600 (fun j => nI (A j))), (lk, cI T 150 (fun j => nI (L j)))] (fun v w1 => ∃ g : Nat → Int64, v = none ∧ w1 = [(h0, cO 5 [.ref hh, .ref hv, .ref hs, .ref ha]), (hh, cO 0 [.ref hw]), (hw, cJ T 450 g), (ha, cI T 600 (fun j => nI (va_up A (4 * c + L c) d j))), (lk, cI T 150 (fun j => nI (va_up L c (L c + 1) j)))] ∧ (∀ r' c', c' < 192 → cs_b g r' c' = (decide (r' = c ∧ c' = d) || cs_b f r' c'))) := by
  refine jM.of (cc := cX5_link) (maxL := 5) (ret := none) (by decide) rfl (Nat.le_of_ble_eq_true rfl) ?_
  intro X C rw_ hl hT hQ hnm
  subst hl; subst hT
  have hin5 : ∀ w ∈ u_ws RX5 TX5 4, w ∈ wsX5_link := by decide +kernel
  have hl14 : Cond.fieldLink RX5 14 (TX5 0).1 (TX5 0).2.1 (TX5 0).2.2.1 ∈ wsX5_link := by decide +kernel
  have hl27 : Cond.fieldLink RX5 27 (TX5 3).1 (TX5 3).2.1 (TX5 3).2.2.1 ∈ wsX5_link := by decide +kernel
  show jj X 0 0 0 [(0, .ref h0), (1, .int (nI c)), (2, .int (nI d)), (3, .ref lk)] [] [(h0, cO 5 [.ref hh, .ref hv, .ref hs, .ref ha]), (hh, cO 0 [.ref hw]), (hw, cJ (xT X) 450 f), (ha, cI (xT X) 600 (fun j => nI (A j))), (lk, cI (xT X) 150 (fun j => nI (L j)))]
  refine j_iload_n C dX5_link_0 1 rfl rfl ?_
  refine j_if_lt C dX5_link_1 (tgt := 72) (by decide) (fun c1 => ?_) (fun c1 => ?_)
  · skip
    have c1 := (kz_lt (a := c) (by omega)).mp c1
    exfalso
    first | exact c1.elim | omega
  · skip
    have c1 := (kz_nlt (a := c) (by omega)).mp c1
    refine j_iload_n C dX5_link_4 1 rfl rfl ?_
    refine j_sipush C dX5_link_5 (v := (nI 150)) kc_s_150 ?_
    refine j_icmp_ge C dX5_link_8 (tgt := 72) (by decide) (fun c2 => ?_) (fun c2 => ?_)
    · skip
      have c2 := (kn_ge (a := c) (b := 150) (by omega) (by omega)).mp c2
      exfalso
      first | exact c2.elim | omega
    · skip
      have c2 := (kn_nge (a := c) (b := 150) (by omega) (by omega)).mp c2
      refine j_iload_n C dX5_link_11 1 rfl rfl ?_
      refine j_aload_n C dX5_link_12 3 rfl rfl ?_
      refine j_alenI C 4 rfl dX5_link_13 ?_
      refine j_icmp_ge C dX5_link_14 (tgt := 72) (by decide) (fun c3 => ?_) (fun c3 => ?_)
      · skip
        have c3 := (kn_ge (a := c) (b := 150) (by omega) (by omega)).mp c3
        exfalso
        first | exact c3.elim | omega
      · skip
        have c3 := (kn_nge (a := c) (b := 150) (by omega) (by omega)).mp c3
        refine j_aload_n C dX5_link_17 3 rfl rfl ?_
        refine j_iload_n C dX5_link_18 1 rfl rfl ?_
        refine j_ialoadN C c rfl 4 rfl (by omega) (by decide) dX5_link_19 ?_
        refine j_iconst C dX5_link_20 (v := (nI 4)) kc_i_4 ?_
        refine j_icmp_ge C dX5_link_21 (tgt := 72) (by decide) (fun c4 => ?_) (fun c4 => ?_)
        · skip
          have c4 := (kn_ge (a := L c) (b := 4) (by omega) (by omega)).mp c4
          exfalso
          first | exact c4.elim | omega
        · skip
          have c4 := (kn_nge (a := L c) (b := 4) (by omega) (by omega)).mp c4
          refine j_iconst C dX5_link_24 (v := (nI 4)) kc_i_4 ?_
          refine j_iload_n C dX5_link_25 1 rfl rfl ?_
          refine j_imul C dX5_link_26 (v := (nI (4 * c))) (pk_mul _ _) ?_
          refine j_aload_n C dX5_link_27 3 rfl rfl ?_
          refine j_iload_n C dX5_link_28 1 rfl rfl ?_
          refine j_ialoadN C c rfl 4 rfl (by omega) (by decide) dX5_link_29 ?_
          refine j_iadd C dX5_link_30 (v := (nI (4 * c + L c))) (nI_add _ _) ?_
          refine j_istore C dX5_link_31 (by decide) (lv' := [(4, .int (nI (4 * c + L c))), (0, .ref h0), (1, .int (nI c)), (2, .int (nI d)), (3, .ref lk)]) rfl ?_
          refine j_iload C dX5_link_33 0 rfl ?_
          refine j_if_lt C dX5_link_35 (tgt := 72) (by decide) (fun c5 => ?_) (fun c5 => ?_)
          · skip
            have c5 := (kz_lt (a := 4 * c + L c) (by omega)).mp c5
            exfalso
            first | exact c5.elim | omega
          · skip
            have c5 := (kz_nlt (a := 4 * c + L c) (by omega)).mp c5
            refine j_iload C dX5_link_38 0 rfl ?_
            refine j_aload_n C dX5_link_40 1 rfl rfl ?_
            refine j_get C (hin5) (ci := 5) rfl 3 (by decide) (hl27) 0 rfl (v := .ref ha) rfl dX5_link_41 ?_
            refine j_alenI C 3 rfl dX5_link_44 ?_
            refine j_icmp_ge C dX5_link_45 (tgt := 72) (by decide) (fun c6 => ?_) (fun c6 => ?_)
            · skip
              have c6 := (kn_ge (a := 4 * c + L c) (b := 600) (by omega) (by omega)).mp c6
              exfalso
              first | exact c6.elim | omega
            · skip
              have c6 := (kn_nge (a := 4 * c + L c) (b := 600) (by omega) (by omega)).mp c6
              refine j_aload_n C dX5_link_48 1 rfl rfl ?_
              refine j_get C (hin5) (ci := 5) rfl 3 (by decide) (hl27) 0 rfl (v := .ref ha) rfl dX5_link_49 ?_
              refine j_iload C dX5_link_52 0 rfl ?_
              refine j_iload_n C dX5_link_54 3 rfl rfl ?_
              refine j_iastoreN C rw_ (4 * c + L c) rfl 3 rfl (by omega) (by decide) (w' := [(h0, cO 5 [.ref hh, .ref hv, .ref hs, .ref ha]), (hh, cO 0 [.ref hw]), (hw, cJ (xT X) 450 f), (ha, cI (xT X) 600 (upd (fun j => nI (A j)) (4 * c + L c) (nI d))), (lk, cI (xT X) 150 (fun j => nI (L j)))]) rfl dX5_link_55 ?_
              refine j_extI C (fun j => nI (va_up A (4 * c + L c) d j)) 3 rfl (fun j hj => ?_) (w' := [(h0, cO 5 [.ref hh, .ref hv, .ref hs, .ref ha]), (hh, cO 0 [.ref hw]), (hw, cJ (xT X) 450 f), (ha, cI (xT X) 600 (fun j => nI (va_up A (4 * c + L c) d j))), (lk, cI (xT X) 150 (fun j => nI (L j)))]) rfl ?_
              · by_cases h9 : j = 4 * c + L c
                · simp [upd, va_up, h9]
                · simp [upd, va_up, h9]
              refine j_aload_n C dX5_link_56 4 rfl rfl ?_
              refine j_iload_n C dX5_link_57 2 rfl rfl ?_
              refine j_dup2 C dX5_link_58 rfl rfl ?_
              refine j_ialoadN C c rfl 4 rfl (by omega) (by decide) dX5_link_59 ?_
              refine j_iconst C dX5_link_60 (v := (nI 1)) kc_i_1 ?_
              refine j_iadd C dX5_link_61 (v := (nI (L c + 1))) (nI_add _ _) ?_
              refine j_iastoreN C rw_ c rfl 4 rfl (by omega) (by decide) (w' := [(h0, cO 5 [.ref hh, .ref hv, .ref hs, .ref ha]), (hh, cO 0 [.ref hw]), (hw, cJ (xT X) 450 f), (ha, cI (xT X) 600 (fun j => nI (va_up A (4 * c + L c) d j))), (lk, cI (xT X) 150 (upd (fun j => nI (L j)) c (nI (L c + 1))))]) rfl dX5_link_62 ?_
              refine j_extI C (fun j => nI (va_up L c (L c + 1) j)) 4 rfl (fun j hj => ?_) (w' := [(h0, cO 5 [.ref hh, .ref hv, .ref hs, .ref ha]), (hh, cO 0 [.ref hw]), (hw, cJ (xT X) 450 f), (ha, cI (xT X) 600 (fun j => nI (va_up A (4 * c + L c) d j))), (lk, cI (xT X) 150 (fun j => nI (va_up L c (L c + 1) j)))]) rfl ?_
              · by_cases h9 : j = c
                · simp [upd, va_up, h9]
                · simp [upd, va_up, h9]
              refine j_aload_n C dX5_link_63 1 rfl rfl ?_
              refine j_get C (hin5) (ci := 5) rfl 0 (by decide) (hl14) 0 rfl (v := .ref hh) rfl dX5_link_64 ?_
              refine j_iload_n C dX5_link_67 2 rfl rfl ?_
              refine j_iload_n C dX5_link_68 3 rfl rfl ?_
              refine j_callVM C rw_ (nA := 2) (As := [.int (nI c), .int (nI d)]) (wr := [(h0, cO 5 [.ref hh, .ref hv, .ref hs, .ref ha]), (ha, cI (xT X) 600 (fun j => nI (va_up A (4 * c + L c) d j))), (lk, cI (xT X) 150 (fun j => nI (va_up L c (L c + 1) j)))]) (c_X0_add (xl X) (xT X) hh hw 450 c d f (by omega) (by omega) (by omega)) gX5_link_X0_add rfl (by decide +kernel) rfl (by decide) (by decide) [1, 2] [0, 3, 4] rfl rfl rfl rfl (by decide) 1 rfl rfl (rest := []) rfl (Nat.le_of_ble_eq_true rfl) dX5_link_69 ?_
              rintro _ _ ⟨g_7, rfl, rfl, hg⟩
              show jj X 0 0 72 [(4, .int (nI (4 * c + L c))), (0, .ref h0), (1, .int (nI c)), (2, .int (nI d)), (3, .ref lk)] [] [(h0, cO 5 [.ref hh, .ref hv, .ref hs, .ref ha]), (ha, cI (xT X) 600 (fun j => nI (va_up A (4 * c + L c) d j))), (lk, cI (xT X) 150 (fun j => nI (va_up L c (L c + 1) j))), (hh, cO 0 [.ref hw]), (hw, cJ (xT X) 450 g_7)]
              refine j_perm C (w' := [(h0, cO 5 [.ref hh, .ref hv, .ref hs, .ref ha]), (hh, cO 0 [.ref hw]), (hw, cJ (xT X) 450 g_7), (ha, cI (xT X) 600 (fun j => nI (va_up A (4 * c + L c) d j))), (lk, cI (xT X) 150 (fun j => nI (va_up L c (L c + 1) j)))]) [0, 3, 4, 1, 2] rfl rfl ?_
              refine j_vretM C rw_ hQ (by decide) (by decide) ?_ dX5_link_72
              exact ⟨_, rfl, rfl, hg⟩

set_option maxHeartbeats 4000000 in
set_option maxRecDepth 100000 in
/-- linkCells() -/
theorem c_X5_linkCells (l : Launch) (T : jj_T) (h0 hh hw hv hs ha : Nat) (f : Nat → Int64) (hf : ∀ r c, c < 192 → cs_b f r c = false) : jM l T yX5_linkCells wsX5_linkCells { frames := 2, cells := 1, slots := 150, locals := 48 } [.ref h0] [(h0, cO 5 [.ref hh, .ref hv, .ref hs, .ref ha]), (hh, cO 0 [.ref hw]), (hw, cJ T 450 f), (hv, cI T 450 cvec), (ha, cI T 600 (fun _ => 0))] (fun v w1 => ∃ g : Nat → Int64, v = none ∧ w1 = [(h0, cO 5 [.ref hh, .ref hv, .ref hs, .ref ha]), (hh, cO 0 [.ref hw]), (hw, cJ T 450 g), (hv, cI T 450 cvec), (ha, cI T 600 (fun j => nI (near4 j)))] ∧ (∀ r, r < 150 → ∀ c, c < 192 → cs_b g r c = (decide (r = c) || tb_nb r c))) := by
  refine jM.of (cc := cX5_linkCells) (maxL := 4) (ret := none) (by decide) rfl (Nat.le_of_ble_eq_true rfl) ?_
  intro X C rw_ hl hT hQ hnm
  subst hl; subst hT
  have hin5 : ∀ w ∈ u_ws RX5 TX5 4, w ∈ wsX5_linkCells := by decide +kernel
  have hl14 : Cond.fieldLink RX5 14 (TX5 0).1 (TX5 0).2.1 (TX5 0).2.2.1 ∈ wsX5_linkCells := by decide +kernel
  have hl20 : Cond.fieldLink RX5 20 (TX5 1).1 (TX5 1).2.1 (TX5 1).2.2.1 ∈ wsX5_linkCells := by decide +kernel
  show jj X 0 0 0 [(0, .ref h0)] [] [(h0, cO 5 [.ref hh, .ref hv, .ref hs, .ref ha]), (hh, cO 0 [.ref hw]), (hw, cJ (xT X) 450 f), (hv, cI (xT X) 450 cvec), (ha, cI (xT X) 600 (fun _ => 0))]
  refine j_sipush C dX5_linkCells_0 (v := (nI 150)) kc_s_150 ?_
  refine j_newarrI C rw_ (N := 150) rfl (by decide) (by decide +kernel) (by decide) (by decide) dX5_linkCells_3 (fun lk => ?_)
  show jj X 1 150 5 [(0, .ref h0)] [.ref lk] [(h0, cO 5 [.ref hh, .ref hv, .ref hs, .ref ha]), (hh, cO 0 [.ref hw]), (hw, cJ (xT X) 450 f), (hv, cI (xT X) 450 cvec), (ha, cI (xT X) 600 (fun _ => 0)), (lk, cI (xT X) 150 (fun _ => 0))]
  refine j_astore_n C dX5_linkCells_5 rfl (by decide) (lv' := [(1, .ref lk), (0, .ref h0)]) rfl ?_
  refine j_iconst C dX5_linkCells_6 (v := (nI 0)) kc_i_0 ?_
  refine j_istore_n C dX5_linkCells_7 rfl (by decide) (lv' := [(2, .int (nI 0)), (1, .ref lk), (0, .ref h0)]) rfl ?_
  refine j_lv [2, 1, 0] rfl ?_
  suffices hc8 : ∀ (mm : Nat) (a : Nat) (L A : Nat → Nat) (g : Nat → Int64), 150 - a < mm → (a ≤ 150) → (lkI a (a + 1) a L A g) → jj X 1 150 8 [(0, .ref h0), (1, .ref lk), (2, .int (nI a))] [] [(h0, cO 5 [.ref hh, .ref hv, .ref hs, .ref ha]), (hh, cO 0 [.ref hw]), (hw, cJ (xT X) 450 g), (hv, cI (xT X) 450 cvec), (ha, cI (xT X) 600 (fun j => nI (A j))), (lk, cI (xT X) 150 (fun j => nI (L j)))] by
    refine hc8 _ _ (fun _ => 0) (fun _ => 0) f (Nat.lt_succ_self _) ?_ ?_
    · omega
    · exact ⟨fun c hc => (tb_k0 c hc).symm, fun c hc k hk => by rw [tb_k0 c hc] at hk; omega, fun r hr c hc => by rw [hf r c hc, tb_k0 r hr, decide_eq_false (by omega)]; rfl⟩
  intro mm
  induction mm with
  | zero => intro a L A g hm; exact absurd hm (Nat.not_lt_zero _)
  | succ mm ih8 =>
    intro a L A g hm8 ha1 hI
    refine j_iload_n C dX5_linkCells_8 2 rfl rfl ?_
    refine j_sipush C dX5_linkCells_9 (v := (nI 150)) kc_s_150 ?_
    refine j_icmp_ge C dX5_linkCells_12 (tgt := 92) (by decide) (fun c1 => ?_) (fun c1 => ?_)
    · skip
      have c1 := (kn_ge (a := a) (b := 150) (by omega) (by omega)).mp c1
      refine j_extI C (fun j => nI (near4 j)) 4 rfl (fun j hj => ?_) (w' := [(h0, cO 5 [.ref hh, .ref hv, .ref hs, .ref ha]), (hh, cO 0 [.ref hw]), (hw, cJ (xT X) 450 g), (hv, cI (xT X) 450 cvec), (ha, cI (xT X) 600 (fun j => nI (near4 j))), (lk, cI (xT X) 150 (fun j => nI (L j)))]) rfl ?_
      · show nI (A j) = nI (near4 j)
        have h9 := hI.2.1 (j / 4) (by omega) (j % 4) (by rw [show a = 150 by omega, tb_kE _ (by omega)]; omega)
        rw [show 4 * (j / 4) + j % 4 = j by omega] at h9
        rw [h9]
      refine j_perm C (w' := [(h0, cO 5 [.ref hh, .ref hv, .ref hs, .ref ha]), (hh, cO 0 [.ref hw]), (hw, cJ (xT X) 450 g), (hv, cI (xT X) 450 cvec), (ha, cI (xT X) 600 (fun j => nI (near4 j)))]) [0, 1, 2, 3, 4] rfl rfl ?_
      refine j_vretM C rw_ hQ (by decide) (by decide) ?_ dX5_linkCells_92
      refine ⟨_, rfl, rfl, fun r hr c hc => ?_⟩
      rw [hI.2.2 r hr c hc, show a = 150 by omega, tb_kE r hr]
      congr 1
      exact decide_eq_decide.mpr ⟨fun h => h.1, fun h => ⟨h, hr⟩⟩
    · skip
      have c1 := (kn_nge (a := a) (b := 150) (by omega) (by omega)).mp c1
      refine j_aload_n C dX5_linkCells_15 0 rfl rfl ?_
      refine j_get C (hin5) (ci := 5) rfl 0 (by decide) (hl14) 0 rfl (v := .ref hh) rfl dX5_linkCells_16 ?_
      refine j_iload_n C dX5_linkCells_19 2 rfl rfl ?_
      refine j_iload_n C dX5_linkCells_20 2 rfl rfl ?_
      refine j_callVM C rw_ (nA := 2) (As := [.int (nI a), .int (nI a)]) (wr := [(h0, cO 5 [.ref hh, .ref hv, .ref hs, .ref ha]), (hv, cI (xT X) 450 cvec), (ha, cI (xT X) 600 (fun j => nI (A j))), (lk, cI (xT X) 150 (fun j => nI (L j)))]) (c_X0_add (xl X) (xT X) hh hw 450 a a g (by omega) (by omega) (by omega)) gX5_linkCells_X0_add rfl (by decide +kernel) rfl (by decide) (by decide) [1, 2] [0, 3, 4, 5] rfl rfl rfl rfl (by decide) 1 rfl rfl (rest := []) rfl (Nat.le_of_ble_eq_true rfl) dX5_linkCells_21 ?_
      rintro _ _ ⟨g_2, rfl, rfl, hga⟩
      show jj X 1 150 24 [(0, .ref h0), (1, .ref lk), (2, .int (nI a))] [] [(h0, cO 5 [.ref hh, .ref hv, .ref hs, .ref ha]), (hv, cI (xT X) 450 cvec), (ha, cI (xT X) 600 (fun j => nI (A j))), (lk, cI (xT X) 150 (fun j => nI (L j))), (hh, cO 0 [.ref hw]), (hw, cJ (xT X) 450 g_2)]
      refine j_iload_n C dX5_linkCells_24 2 rfl rfl ?_
      refine j_iconst C dX5_linkCells_25 (v := (nI 1)) kc_i_1 ?_
      refine j_iadd C dX5_linkCells_26 (v := (nI (a + 1))) (nI_add _ _) ?_
      refine j_istore_n C dX5_linkCells_27 rfl (by decide) (lv' := [(3, .int (nI (a + 1))), (0, .ref h0), (1, .ref lk), (2, .int (nI a))]) rfl ?_
      refine j_lv [1, 2, 3, 0] rfl ?_
      refine j_perm C (w' := [(h0, cO 5 [.ref hh, .ref hv, .ref hs, .ref ha]), (hh, cO 0 [.ref hw]), (hw, cJ (xT X) 450 g_2), (hv, cI (xT X) 450 cvec), (ha, cI (xT X) 600 (fun j => nI (A j))), (lk, cI (xT X) 150 (fun j => nI (L j)))]) [0, 4, 5, 1, 2, 3] rfl rfl ?_
      suffices hc28 : ∀ (mm : Nat) (b : Nat) (L A : Nat → Nat) (g : Nat → Int64), 150 - b < mm → (a < b) → (b ≤ 150) → (lkI a b (a + 1) L A g) → jj X 1 150 28 [(0, .ref h0), (1, .ref lk), (2, .int (nI a)), (3, .int (nI b))] [] [(h0, cO 5 [.ref hh, .ref hv, .ref hs, .ref ha]), (hh, cO 0 [.ref hw]), (hw, cJ (xT X) 450 g), (hv, cI (xT X) 450 cvec), (ha, cI (xT X) 600 (fun j => nI (A j))), (lk, cI (xT X) 150 (fun j => nI (L j)))] by
        refine hc28 _ _ _ _ _ (Nat.lt_succ_self _) ?_ ?_ ?_
        · omega
        · omega
        · exact ⟨hI.1, hI.2.1, fun r hr c hc => by
            rw [hga r c hc, hI.2.2 r hr c hc, ← Bool.or_assoc, ← Bool.decide_or]
            congr 1
            exact decide_eq_decide.mpr ⟨fun h => by omega, fun h => by omega⟩⟩
      intro mm
      induction mm with
      | zero => intro b L A g hm; exact absurd hm (Nat.not_lt_zero _)
      | succ mm ih28 =>
        intro b L A g hm28 hb0 hb1 hI2
        refine j_iload_n C dX5_linkCells_28 3 rfl rfl ?_
        refine j_sipush C dX5_linkCells_29 (v := (nI 150)) kc_s_150 ?_
        refine j_icmp_ge C dX5_linkCells_32 (tgt := 86) (by decide) (fun c3 => ?_) (fun c3 => ?_)
        · skip
          have c3 := (kn_ge (a := b) (b := 150) (by omega) (by omega)).mp c3
          refine j_iinc C dX5_linkCells_86 (q := 2) (v := (nI (a + 1))) rfl (kc_inc a) (by decide) (lv' := [(2, .int (nI (a + 1))), (0, .ref h0), (1, .ref lk), (3, .int (nI b))]) rfl ?_
          refine j_goto C dX5_linkCells_89 (tgt := 8) (by decide) ?_
          refine j_lv [1, 2, 0] rfl ?_
          refine ih8 _ _ _ _ (by omega) ?_ ?_
          · omega
          · exact lk_next (by rw [show b = 150 by omega] at hI2; exact hI2)
        · skip
          have c3 := (kn_nge (a := b) (b := 150) (by omega) (by omega)).mp c3
          refine j_aload_n C dX5_linkCells_35 0 rfl rfl ?_
          refine j_get C (hin5) (ci := 5) rfl 1 (by decide) (hl20) 0 rfl (v := .ref hv) rfl dX5_linkCells_36 ?_
          refine j_iconst C dX5_linkCells_39 (v := (nI 3)) kc_i_3 ?_
          refine j_iload_n C dX5_linkCells_40 3 rfl rfl ?_
          refine j_imul C dX5_linkCells_41 (v := (nI (3 * b))) (pk_mul _ _) ?_
          refine j_ialoadN C (3 * b) rfl 3 rfl (by omega) (by decide) dX5_linkCells_42 ?_
          refine j_aload_n C dX5_linkCells_43 0 rfl rfl ?_
          refine j_get C (hin5) (ci := 5) rfl 1 (by decide) (hl20) 0 rfl (v := .ref hv) rfl dX5_linkCells_44 ?_
          refine j_iconst C dX5_linkCells_47 (v := (nI 3)) kc_i_3 ?_
          refine j_iload_n C dX5_linkCells_48 2 rfl rfl ?_
          refine j_imul C dX5_linkCells_49 (v := (nI (3 * a))) (pk_mul _ _) ?_
          refine j_ialoadN C (3 * a) rfl 3 rfl (by omega) (by decide) dX5_linkCells_50 ?_
          refine j_isub C dX5_linkCells_51 (v := ((cvec (3 * b)) - (cvec (3 * a)))) rfl ?_
          refine j_iconst C dX5_linkCells_52 (v := (nI 2)) kc_i_2 ?_
          refine j_icmp_gt C dX5_linkCells_53 (tgt := 86) (by decide) (fun c4 => ?_) (fun c4 => ?_)
          · skip
            refine j_iinc C dX5_linkCells_86 (q := 2) (v := (nI (a + 1))) rfl (kc_inc a) (by decide) (lv' := [(2, .int (nI (a + 1))), (0, .ref h0), (1, .ref lk), (3, .int (nI b))]) rfl ?_
            refine j_goto C dX5_linkCells_89 (tgt := 8) (by decide) ?_
            refine j_lv [1, 2, 0] rfl ?_
            refine ih8 _ _ _ _ (by omega) ?_ ?_
            · omega
            · exact lk_next (lk_rest hI2 (by omega) (by omega) (by omega) (lk_far (by omega) (by omega) (by omega) c4))
          · skip
            refine j_aload_n C dX5_linkCells_56 0 rfl rfl ?_
            refine j_iload_n C dX5_linkCells_57 2 rfl rfl ?_
            refine j_iload_n C dX5_linkCells_58 3 rfl rfl ?_
            refine j_callVR C (nA := 2) (As := [.int (nI a), .int (nI b)]) (c_X5_distance (xl X) (xT X) h0 hh hv hs ha a b cvec (by omega) (by omega)) gX5_linkCells_X5_distance rfl (by decide +kernel) rfl ⟨rfl, rfl⟩ (by decide) (by decide) [0, 3] rfl rfl 0 rfl rfl (rest := []) rfl (Nat.le_of_ble_eq_true rfl) dX5_linkCells_59 ?_
            rintro _ rfl
            show jj X 1 150 62 [(0, .ref h0), (1, .ref lk), (2, .int (nI a)), (3, .int (nI b))] [.int (c_dist cvec a b)] [(h0, cO 5 [.ref hh, .ref hv, .ref hs, .ref ha]), (hh, cO 0 [.ref hw]), (hw, cJ (xT X) 450 g), (hv, cI (xT X) 450 cvec), (ha, cI (xT X) 600 (fun j => nI (A j))), (lk, cI (xT X) 150 (fun j => nI (L j)))]
            refine j_iconst C dX5_linkCells_62 (v := (nI 4)) kc_i_4 ?_
            refine j_icmp_gt C dX5_linkCells_63 (tgt := 80) (by decide) (fun c5 => ?_) (fun c5 => ?_)
            · skip
              refine j_iinc C dX5_linkCells_80 (q := 3) (v := (nI (b + 1))) rfl (kc_inc b) (by decide) (lv' := [(3, .int (nI (b + 1))), (0, .ref h0), (1, .ref lk), (2, .int (nI a))]) rfl ?_
              refine j_goto C dX5_linkCells_83 (tgt := 28) (by decide) ?_
              refine j_lv [1, 2, 3, 0] rfl ?_
              refine ih28 _ _ _ _ (by omega) ?_ ?_ ?_
              · omega
              · omega
              · exact lk_skip hI2 (by omega) (by omega) (by omega) (by
                  cases h : tb_nb a b
                  · rfl
                  · exact absurd ((nb_dist (by omega) (by omega) (by omega)).mpr h) (Int32.not_le.mpr c5))
            · skip
              have hnb : tb_nb a b = true := (nb_dist (by omega) (by omega) (by omega)).mp (Int32.not_lt.mp c5)
              have hT := lk_tb (by omega) (by omega) hnb
              have hL1 : L a < 4 := by rw [hI2.1 a (by omega)]; exact hT.2.1
              have hL2 : va_up L a (L a + 1) b < 4 := by
                unfold va_up; rw [if_neg (by omega), hI2.1 b (by omega)]; exact hT.2.2.1
              refine j_aload_n C dX5_linkCells_66 0 rfl rfl ?_
              refine j_iload_n C dX5_linkCells_67 2 rfl rfl ?_
              refine j_iload_n C dX5_linkCells_68 3 rfl rfl ?_
              refine j_aload_n C dX5_linkCells_69 1 rfl rfl ?_
              refine j_callVM C rw_ (nA := 3) (As := [.int (nI a), .int (nI b), .ref lk]) (wr := [(hv, cI (xT X) 450 cvec)]) (c_X5_link (xl X) (xT X) h0 hh hw hv hs ha lk a b L A g (by omega) (by omega) (by omega)) gX5_linkCells_X5_link rfl (by decide +kernel) rfl (by decide) (by decide) [0, 1, 2, 4, 5] [3] rfl rfl rfl rfl (by decide) 0 rfl rfl (rest := []) rfl (Nat.le_of_ble_eq_true rfl) dX5_linkCells_70 ?_
              rintro _ _ ⟨g_6, rfl, rfl, hl1⟩
              show jj X 1 150 73 [(0, .ref h0), (1, .ref lk), (2, .int (nI a)), (3, .int (nI b))] [] [(hv, cI (xT X) 450 cvec), (h0, cO 5 [.ref hh, .ref hv, .ref hs, .ref ha]), (hh, cO 0 [.ref hw]), (hw, cJ (xT X) 450 g_6), (ha, cI (xT X) 600 (fun j => nI (va_up A (4 * a + L a) b j))), (lk, cI (xT X) 150 (fun j => nI (va_up L a (L a + 1) j)))]
              refine j_aload_n C dX5_linkCells_73 0 rfl rfl ?_
              refine j_iload_n C dX5_linkCells_74 3 rfl rfl ?_
              refine j_iload_n C dX5_linkCells_75 2 rfl rfl ?_
              refine j_aload_n C dX5_linkCells_76 1 rfl rfl ?_
              refine j_callVM C rw_ (nA := 3) (As := [.int (nI b), .int (nI a), .ref lk]) (wr := [(hv, cI (xT X) 450 cvec)]) (c_X5_link (xl X) (xT X) h0 hh hw hv hs ha lk b a (va_up L a (L a + 1)) (va_up A (4 * a + L a) b) g_6 (by omega) (by omega) (by exact hL2)) gX5_linkCells_X5_link rfl (by decide +kernel) rfl (by decide) (by decide) [1, 2, 3, 4, 5] [0] rfl rfl rfl rfl (by decide) 1 rfl rfl (rest := []) rfl (Nat.le_of_ble_eq_true rfl) dX5_linkCells_77 ?_
              rintro _ _ ⟨g_7, rfl, rfl, hl2⟩
              show jj X 1 150 80 [(0, .ref h0), (1, .ref lk), (2, .int (nI a)), (3, .int (nI b))] [] [(hv, cI (xT X) 450 cvec), (h0, cO 5 [.ref hh, .ref hv, .ref hs, .ref ha]), (hh, cO 0 [.ref hw]), (hw, cJ (xT X) 450 g_7), (ha, cI (xT X) 600 (fun j => nI (va_up (va_up A (4 * a + L a) b) (4 * b + (va_up L a (L a + 1)) b) a j))), (lk, cI (xT X) 150 (fun j => nI (va_up (va_up L a (L a + 1)) b ((va_up L a (L a + 1)) b + 1) j)))]
              refine j_iinc C dX5_linkCells_80 (q := 3) (v := (nI (b + 1))) rfl (kc_inc b) (by decide) (lv' := [(3, .int (nI (b + 1))), (0, .ref h0), (1, .ref lk), (2, .int (nI a))]) rfl ?_
              refine j_goto C dX5_linkCells_83 (tgt := 28) (by decide) ?_
              refine j_lv [1, 2, 3, 0] rfl ?_
              refine j_perm C (w' := [(h0, cO 5 [.ref hh, .ref hv, .ref hs, .ref ha]), (hh, cO 0 [.ref hw]), (hw, cJ (xT X) 450 g_7), (hv, cI (xT X) 450 cvec), (ha, cI (xT X) 600 (fun j => nI (va_up (va_up A (4 * a + L a) b) (4 * b + (va_up L a (L a + 1)) b) a j))), (lk, cI (xT X) 150 (fun j => nI (va_up (va_up L a (L a + 1)) b ((va_up L a (L a + 1)) b + 1) j)))]) [1, 2, 3, 0, 4, 5] rfl rfl ?_
              refine ih28 _ _ _ _ (by omega) ?_ ?_ ?_
              · omega
              · omega
              · exact lk_link hI2 (by omega) (by omega) (by omega) hnb hl1 hl2

set_option maxHeartbeats 4000000 in
set_option maxRecDepth 100000 in
/-- Sphere() -/
theorem c_X5_init (l : Launch) (T : jj_T) (h0 : Nat) : jM l T yX5_init wsX5_init { frames := 3, cells := 6, slots := 2500, locals := 71 } [.ref h0] [(h0, cO 5 [.null, .null, .null, .null])] (fun v w1 => ∃ hh : Nat, ∃ hw : Nat, ∃ hv : Nat, ∃ hs : Nat, ∃ ha : Nat, ∃ hd : Nat → Int64, v = none ∧ w1 = [(h0, cO 5 [.ref hh, .ref hv, .ref hs, .ref ha]), (hh, cO 0 [.ref hw]), (hw, cJ T 450 hd), (hv, cI T 450 cvec), (hs, cI T 150 csq), (ha, cI T 600 (fun j => nI (near4 j)))] ∧ (∀ r, r < 150 → ∀ c, c < 192 → cs_b hd r c = (decide (r = c) || tb_nb r c))) := by
  refine jM.of (cc := cX5_init) (maxL := 1) (ret := none) (by decide) rfl (Nat.le_of_ble_eq_true rfl) ?_
  intro X C rw_ hl hT hQ hnm
  subst hl; subst hT
  have hin0 : ∀ w ∈ u_ws RX0 TX0 1, w ∈ wsX5_init := by decide +kernel
  have hin5 : ∀ w ∈ u_ws RX5 TX5 4, w ∈ wsX5_init := by decide +kernel
  have hl14 : Cond.fieldLink RX5 14 (TX5 0).1 (TX5 0).2.1 (TX5 0).2.2.1 ∈ wsX5_init := by decide +kernel
  have hl20 : Cond.fieldLink RX5 20 (TX5 1).1 (TX5 1).2.1 (TX5 1).2.2.1 ∈ wsX5_init := by decide +kernel
  have hl24 : Cond.fieldLink RX5 24 (TX5 2).1 (TX5 2).2.1 (TX5 2).2.2.1 ∈ wsX5_init := by decide +kernel
  have hl27 : Cond.fieldLink RX5 27 (TX5 3).1 (TX5 3).2.1 (TX5 3).2.2.1 ∈ wsX5_init := by decide +kernel
  show jj X 0 0 0 [(0, .ref h0)] [] [(h0, cO 5 [.null, .null, .null, .null])]
  refine j_aload_n C dX5_init_0 0 rfl rfl ?_
  refine j_obj C (by decide +kernel) (by decide +kernel) (by decide +kernel) (by decide) (by decide) dX5_init_1 ?_
  refine j_aload_n C dX5_init_4 0 rfl rfl ?_
  refine j_new C rw_ (hin0) tyX0 tyX0_ok (ci := 0) rfl (by decide +kernel) (by decide +kernel) (by decide +kernel) (fs := [.null]) (by decide +kernel) (by decide) (by decide) dX5_init_5 (fun hh => ?_)
  show jj X 1 1 8 [(0, .ref h0)] [.ref hh, .ref h0] [(h0, cO 5 [.null, .null, .null, .null]), (hh, cO 0 [.null])]
  refine j_dup C dX5_init_8 rfl ?_
  refine j_sipush C dX5_init_9 (v := (nI 150)) kc_s_150 ?_
  refine j_callIM C rw_ (nA := 1) (As := [.int (nI 150)]) (wr := [(h0, cO 5 [.null, .null, .null, .null])]) (c_X0_init (xl X) (xT X) hh 150 (by omega) (by omega)) gX5_init_X0_init rfl (by decide +kernel) (by decide +kernel) (by decide +kernel) rfl (by decide +kernel) rfl (by decide) (by decide) [1] [0] rfl rfl rfl rfl (by decide) (rest := [.ref hh, .ref h0]) rfl (Nat.le_of_ble_eq_true rfl) dX5_init_12 ?_
  rintro _ _ ⟨q_1, rfl, rfl⟩
  show jj X 2 904 15 [(0, .ref h0)] [.ref hh, .ref h0] [(h0, cO 5 [.null, .null, .null, .null]), (hh, cO 0 [.ref q_1]), (q_1, cJ (xT X) (3 * 150) (fun _ => 0))]
  refine j_putF C rw_ hnm (hin5) tyX5 tyX5_ok nmX5 (ci := 5) rfl 0 (by decide) (hl14) (by decide +kernel) rfl (ty := .object "SlewPlanner$CellSets") (by decide +kernel) rfl rfl 0 rfl (Nat.le_of_ble_eq_true rfl) (w' := [(h0, cO 5 [.ref hh, .null, .null, .null]), (hh, cO 0 [.ref q_1]), (q_1, cJ (xT X) (3 * 150) (fun _ => 0))]) rfl dX5_init_15 ?_
  refine j_aload_n C dX5_init_18 0 rfl rfl ?_
  refine j_sipush C dX5_init_19 (v := (nI 450)) kc_s_450 ?_
  refine j_newarrI C rw_ (N := 450) rfl (by decide) (by decide +kernel) (by decide) (by decide) dX5_init_22 (fun hv => ?_)
  show jj X 3 1354 24 [(0, .ref h0)] [.ref hv, .ref h0] [(h0, cO 5 [.ref hh, .null, .null, .null]), (hh, cO 0 [.ref q_1]), (q_1, cJ (xT X) (3 * 150) (fun _ => 0)), (hv, cI (xT X) 450 (fun _ => 0))]
  refine j_putF C rw_ hnm (hin5) tyX5 tyX5_ok nmX5 (ci := 5) rfl 1 (by decide) (hl20) (by decide +kernel) rfl (ty := .array .int) (by decide +kernel) rfl rfl 0 rfl (Nat.le_of_ble_eq_true rfl) (w' := [(h0, cO 5 [.ref hh, .ref hv, .null, .null]), (hh, cO 0 [.ref q_1]), (q_1, cJ (xT X) (3 * 150) (fun _ => 0)), (hv, cI (xT X) 450 (fun _ => 0))]) rfl dX5_init_24 ?_
  refine j_aload_n C dX5_init_27 0 rfl rfl ?_
  refine j_sipush C dX5_init_28 (v := (nI 150)) kc_s_150 ?_
  refine j_newarrI C rw_ (N := 150) rfl (by decide) (by decide +kernel) (by decide) (by decide) dX5_init_31 (fun hs => ?_)
  show jj X 4 1504 33 [(0, .ref h0)] [.ref hs, .ref h0] [(h0, cO 5 [.ref hh, .ref hv, .null, .null]), (hh, cO 0 [.ref q_1]), (q_1, cJ (xT X) (3 * 150) (fun _ => 0)), (hv, cI (xT X) 450 (fun _ => 0)), (hs, cI (xT X) 150 (fun _ => 0))]
  refine j_putF C rw_ hnm (hin5) tyX5 tyX5_ok nmX5 (ci := 5) rfl 2 (by decide) (hl24) (by decide +kernel) rfl (ty := .array .int) (by decide +kernel) rfl rfl 0 rfl (Nat.le_of_ble_eq_true rfl) (w' := [(h0, cO 5 [.ref hh, .ref hv, .ref hs, .null]), (hh, cO 0 [.ref q_1]), (q_1, cJ (xT X) (3 * 150) (fun _ => 0)), (hv, cI (xT X) 450 (fun _ => 0)), (hs, cI (xT X) 150 (fun _ => 0))]) rfl dX5_init_33 ?_
  refine j_aload_n C dX5_init_36 0 rfl rfl ?_
  refine j_sipush C dX5_init_37 (v := (nI 600)) kc_s_600 ?_
  refine j_newarrI C rw_ (N := 600) rfl (by decide) (by decide +kernel) (by decide) (by decide) dX5_init_40 (fun ha => ?_)
  show jj X 5 2104 42 [(0, .ref h0)] [.ref ha, .ref h0] [(h0, cO 5 [.ref hh, .ref hv, .ref hs, .null]), (hh, cO 0 [.ref q_1]), (q_1, cJ (xT X) (3 * 150) (fun _ => 0)), (hv, cI (xT X) 450 (fun _ => 0)), (hs, cI (xT X) 150 (fun _ => 0)), (ha, cI (xT X) 600 (fun _ => 0))]
  refine j_putF C rw_ hnm (hin5) tyX5 tyX5_ok nmX5 (ci := 5) rfl 3 (by decide) (hl27) (by decide +kernel) rfl (ty := .array .int) (by decide +kernel) rfl rfl 0 rfl (Nat.le_of_ble_eq_true rfl) (w' := [(h0, cO 5 [.ref hh, .ref hv, .ref hs, .ref ha]), (hh, cO 0 [.ref q_1]), (q_1, cJ (xT X) (3 * 150) (fun _ => 0)), (hv, cI (xT X) 450 (fun _ => 0)), (hs, cI (xT X) 150 (fun _ => 0)), (ha, cI (xT X) 600 (fun _ => 0))]) rfl dX5_init_42 ?_
  refine j_aload_n C dX5_init_45 0 rfl rfl ?_
  refine j_callVM C rw_ (nA := 0) (As := []) (wr := [(hh, cO 0 [.ref q_1]), (q_1, cJ (xT X) (3 * 150) (fun _ => 0)), (ha, cI (xT X) 600 (fun _ => 0))]) (c_X5_listCells (xl X) (xT X) h0 hh hv hs ha ) gX5_init_X5_listCells rfl (by decide +kernel) rfl (by decide) (by decide) [0, 3, 4] [1, 2, 5] rfl rfl rfl rfl (by decide) 0 rfl rfl (rest := []) rfl (Nat.le_of_ble_eq_true rfl) dX5_init_46 ?_
  rintro _ _ ⟨rfl, rfl⟩
  show jj X 5 2104 49 [(0, .ref h0)] [] [(hh, cO 0 [.ref q_1]), (q_1, cJ (xT X) (3 * 150) (fun _ => 0)), (ha, cI (xT X) 600 (fun _ => 0)), (h0, cO 5 [.ref hh, .ref hv, .ref hs, .ref ha]), (hv, cI (xT X) 450 cvec), (hs, cI (xT X) 150 csq)]
  refine j_aload_n C dX5_init_49 0 rfl rfl ?_
  refine j_callVM C rw_ (nA := 0) (As := []) (wr := [(hs, cI (xT X) 150 csq)]) (c_X5_linkCells (xl X) (xT X) h0 hh q_1 hv hs ha (fun _ => 0) (by intro r c _; exact cs_0 _)) gX5_init_X5_linkCells rfl (by decide +kernel) rfl (by decide) (by decide) [3, 0, 1, 4, 2] [5] rfl rfl rfl rfl (by decide) 3 rfl rfl (rest := []) rfl (Nat.le_of_ble_eq_true rfl) dX5_init_50 ?_
  rintro _ _ ⟨g_2, rfl, rfl, hg⟩
  show jj X 6 2254 53 [(0, .ref h0)] [] [(hs, cI (xT X) 150 csq), (h0, cO 5 [.ref hh, .ref hv, .ref hs, .ref ha]), (hh, cO 0 [.ref q_1]), (q_1, cJ (xT X) 450 g_2), (hv, cI (xT X) 450 cvec), (ha, cI (xT X) 600 (fun j => nI (near4 j)))]
  refine j_perm C (w' := [(h0, cO 5 [.ref hh, .ref hv, .ref hs, .ref ha]), (hh, cO 0 [.ref q_1]), (q_1, cJ (xT X) 450 g_2), (hv, cI (xT X) 450 cvec), (hs, cI (xT X) 150 csq), (ha, cI (xT X) 600 (fun j => nI (near4 j)))]) [1, 2, 3, 4, 0, 5] rfl rfl ?_
  refine j_vretM C rw_ hQ (by decide) (by decide) ?_ dX5_init_53
  exact ⟨_, _, _, _, _, _, rfl, rfl, hg⟩
