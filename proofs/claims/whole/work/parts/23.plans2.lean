/-! PLANS: the best plan, parking, the end of a request -/
theorem ch_is {P q : Nat → Bool} {a : Nat} (ha : a < 150) (hn : nbor P a = true) (hq : ∀ d, d < 150 → q d = ((decide (a = d) || tb_nb a d) && P d)) {x : Int32} (hx : fs_is q 150 x) : x = nI (lst P a) := by
  have h := lst_is ha hn
  refine fs_uniq hx (Or.inl ⟨lst P a, h.1, ?_, fun d hd => ?_, rfl⟩)
  · rw [hq _ h.1, h.2.1, Bool.and_true, Bool.or_eq_true, decide_eq_true_iff]
    rcases h.2.2.1 with e | e
    · exact Or.inl e.symm
    · exact Or.inr e
  · cases hqd : q d
    · rfl
    · rw [hq d (by omega), Bool.and_eq_true, Bool.or_eq_true, decide_eq_true_iff] at hqd
      have := h.2.2.2 d hqd.2 (hqd.1.elim (fun e => Or.inl e.symm) Or.inr)
      omega
set_option maxHeartbeats 4000000 in
set_option maxRecDepth 100000 in
/-- bestPlanCell(cell, i) -/
theorem c_X3_bestPlanCell (l : Launch) (T : jj_T) (h3 h4 he hew hy hyw hc hcw hS hs so sr hl hlw hdr hh hv hq ha hhw sc sp st mk p t0 : Nat) (ss : Bool) (ob rq : Nat → Int32) (ax ay az : Int32) (lim : Int64) (LW E Y Ch hd : Nat → Int64) (dr : Nat → Bool) (c i : Nat) (hp : p < 150) (ht0 : t0 ≤ 240) (hmk : mk ≤ 60) (hI : skI ob dr LW) (hE : plI ob t0 p mk E) (hH : hdI hd) (hc1 : c < 150) (hi : i ≤ 60) : jM l T yX3_bestPlanCell wsX3_bestPlanCell { frames := 5, cells := 0, slots := 0, locals := 117 } [.ref h3, .int (nI c), .int (nI i)] [(h3, cO 3 [.ref hS, .ref h4, .ref he, .ref hy, .ref hc, .int (nI mk), .int (nI p), .int (nI t0)]), (he, cO 0 [.ref hew]), (hew, cJ T 183 E), (hy, cO 0 [.ref hyw]), (hyw, cJ T 183 Y), (hc, cO 0 [.ref hcw]), (hcw, cJ T 3 Ch), (h4, cO 4 [.ref hS, .ref hs, .ref hl, .ref hdr, .int ax, .int ay, .int az, .long lim]), (hs, cO 6 [.int (nI sc), .int (nI sp), .int (bI ss), .int (nI st), .ref so, .ref sr]), (so, cI T 21 ob), (sr, cI T 12 rq), (hl, cO 0 [.ref hlw]), (hlw, cJ T 903 LW), (hdr, cZ T 301 (fun j => bI (dr j))), (hS, cO 5 [.ref hh, .ref hv, .ref hq, .ref ha]), (hv, cI T 450 cvec), (hq, cI T 150 csq), (hh, cO 0 [.ref hhw]), (hhw, cJ T 450 hd)] (fun v w1 => ∃ ax' : Int32, ∃ ay' : Int32, ∃ az' : Int32, ∃ lim' : Int64, ∃ LW' : Nat → Int64, ∃ dr' : Nat → Bool, ∃ E' : Nat → Int64, ∃ Y' : Nat → Int64, ∃ Ch' : Nat → Int64, ∃ mk' : Nat, ∃ r : Int32, v = some (.int r) ∧ w1 = [(h3, cO 3 [.ref hS, .ref h4, .ref he, .ref hy, .ref hc, .int (nI mk'), .int (nI p), .int (nI t0)]), (he, cO 0 [.ref hew]), (hew, cJ T 183 E'), (hy, cO 0 [.ref hyw]), (hyw, cJ T 183 Y'), (hc, cO 0 [.ref hcw]), (hcw, cJ T 3 Ch'), (h4, cO 4 [.ref hS, .ref hs, .ref hl, .ref hdr, .int ax', .int ay', .int az', .long lim']), (hs, cO 6 [.int (nI sc), .int (nI sp), .int (bI ss), .int (nI st), .ref so, .ref sr]), (so, cI T 21 ob), (sr, cI T 12 rq), (hl, cO 0 [.ref hlw]), (hlw, cJ T 903 LW'), (hdr, cZ T 301 (fun j => bI (dr' j))), (hS, cO 5 [.ref hh, .ref hv, .ref hq, .ref ha]), (hv, cI T 450 cvec), (hq, cI T 150 csq), (hh, cO 0 [.ref hhw]), (hhw, cJ T 450 hd)] ∧ (skI ob dr' LW') ∧ (bp_is ob t0 p c i r)) := by
  refine jM.of (cc := cX3_bestPlanCell) (maxL := 6) (ret := (some .int)) (by decide) rfl (Nat.le_of_ble_eq_true rfl) ?_
  intro X C rw_ hl hT hQ hnm
  subst hl; subst hT
  have hin3 : ∀ w ∈ u_ws RX3 TX3 8, w ∈ wsX3_bestPlanCell := by decide +kernel
  have hin5 : ∀ w ∈ u_ws RX5 TX5 4, w ∈ wsX3_bestPlanCell := by decide +kernel
  have hl20 : Cond.fieldLink RX3 20 (TX3 3).1 (TX3 3).2.1 (TX3 3).2.2.1 ∈ wsX3_bestPlanCell := by decide +kernel
  have hl23 : Cond.fieldLink RX3 23 (TX3 4).1 (TX3 4).2.1 (TX3 4).2.2.1 ∈ wsX3_bestPlanCell := by decide +kernel
  have hl26 : Cond.fieldLink RX3 26 (TX3 0).1 (TX3 0).2.1 (TX3 0).2.2.1 ∈ wsX3_bestPlanCell := by decide +kernel
  have hl34 : Cond.fieldLink RX3 34 (TX3 6).1 (TX3 6).2.1 (TX3 6).2.2.1 ∈ wsX3_bestPlanCell := by decide +kernel
  have hl51 : Cond.fieldLink RX3 51 (TX5 0).1 (TX5 0).2.1 (TX5 0).2.2.1 ∈ wsX3_bestPlanCell := by decide +kernel
  show jj X 0 0 0 [(0, .ref h3), (1, .int (nI c)), (2, .int (nI i))] [] [(h3, cO 3 [.ref hS, .ref h4, .ref he, .ref hy, .ref hc, .int (nI mk), .int (nI p), .int (nI t0)]), (he, cO 0 [.ref hew]), (hew, cJ (xT X) 183 E), (hy, cO 0 [.ref hyw]), (hyw, cJ (xT X) 183 Y), (hc, cO 0 [.ref hcw]), (hcw, cJ (xT X) 3 Ch), (h4, cO 4 [.ref hS, .ref hs, .ref hl, .ref hdr, .int ax, .int ay, .int az, .long lim]), (hs, cO 6 [.int (nI sc), .int (nI sp), .int (bI ss), .int (nI st), .ref so, .ref sr]), (so, cI (xT X) 21 ob), (sr, cI (xT X) 12 rq), (hl, cO 0 [.ref hlw]), (hlw, cJ (xT X) 903 LW), (hdr, cZ (xT X) 301 (fun j => bI (dr j))), (hS, cO 5 [.ref hh, .ref hv, .ref hq, .ref ha]), (hv, cI (xT X) 450 cvec), (hq, cI (xT X) 150 csq), (hh, cO 0 [.ref hhw]), (hhw, cJ (xT X) 450 hd)]
  refine j_aload_n C dX3_bestPlanCell_0 0 rfl rfl ?_
  refine j_iload_n C dX3_bestPlanCell_1 1 rfl rfl ?_
  refine j_callVM C rw_ (nA := 1) (As := [.int (nI c)]) (wr := []) (c_X3_stepsTo (xl X) (xT X) h3 h4 he hew hy hyw hc hcw hS hs so sr hl hlw hdr hh hv hq ha hhw sc sp st mk p t0 ss ob rq ax ay az lim LW E Y Ch hd dr c (by omega) (by omega) (by omega) (by exact hI) (by exact hE) (by exact hH) (by omega)) gX3_bestPlanCell_X3_stepsTo rfl (by decide +kernel) rfl (by decide) (by decide) [0, 1, 2, 3, 4, 5, 6, 7, 8, 9, 10, 11, 12, 13, 14, 15, 16, 17, 18] [] rfl rfl rfl rfl (by decide) 0 rfl rfl (rest := []) rfl (Nat.le_of_ble_eq_true rfl) dX3_bestPlanCell_2 ?_
  rintro _ _ ⟨ax'_1, ay'_2, az'_3, lim'_4, LW'_5, dr'_6, E'_7, mk'_8, r_9, rfl, rfl, hm3, hI3, hE3, hr3, hrm3⟩
  show jj X 0 0 5 [(0, .ref h3), (1, .int (nI c)), (2, .int (nI i))] [.int r_9] [(h3, cO 3 [.ref hS, .ref h4, .ref he, .ref hy, .ref hc, .int (nI mk'_8), .int (nI p), .int (nI t0)]), (he, cO 0 [.ref hew]), (hew, cJ (xT X) 183 E'_7), (hy, cO 0 [.ref hyw]), (hyw, cJ (xT X) 183 Y), (hc, cO 0 [.ref hcw]), (hcw, cJ (xT X) 3 Ch), (h4, cO 4 [.ref hS, .ref hs, .ref hl, .ref hdr, .int ax'_1, .int ay'_2, .int az'_3, .long lim'_4]), (hs, cO 6 [.int (nI sc), .int (nI sp), .int (bI ss), .int (nI st), .ref so, .ref sr]), (so, cI (xT X) 21 ob), (sr, cI (xT X) 12 rq), (hl, cO 0 [.ref hlw]), (hlw, cJ (xT X) 903 LW'_5), (hdr, cZ (xT X) 301 (fun j => bI (dr'_6 j))), (hS, cO 5 [.ref hh, .ref hv, .ref hq, .ref ha]), (hv, cI (xT X) 450 cvec), (hq, cI (xT X) 150 csq), (hh, cO 0 [.ref hhw]), (hhw, cJ (xT X) 450 hd)]
  refine j_istore_n C dX3_bestPlanCell_5 rfl (by decide) (lv' := [(3, .int r_9), (0, .ref h3), (1, .int (nI c)), (2, .int (nI i))]) rfl ?_
  refine j_iload_n C dX3_bestPlanCell_6 0 rfl rfl ?_
  refine j_bipush C dX3_bestPlanCell_7 (v := (-9)) kc_b_m9 ?_
  refine j_icmp_eq C dX3_bestPlanCell_9 (tgt := 17) (by decide) (fun q9 => ?_) (fun q9 => ?_)
  · skip
    refine j_bipush C dX3_bestPlanCell_17 (v := (-9)) kc_b_m9 ?_
    refine j_iretM C rw_ hQ (by decide) (by decide) rfl ?_ dX3_bestPlanCell_19
    exact ⟨_, _, _, _, _, _, _, _, _, _, _, rfl, rfl, hI3, _, hr3, Or.inl ⟨q9, rfl⟩⟩
  · skip
    rcases hr3 with ⟨k, hk0, hk1, hk2, hk4, rfl⟩ | ⟨-, e9⟩
    rotate_left
    · exact absurd e9 q9
    have hk2 : rc ob t0 p k c = true := hk2
    have hft : ft_is (fun s => rc ob t0 p s c) 0 60 (nI k) := Or.inl ⟨k, hk0, hk1, hk2, hk4, rfl⟩
    refine j_iload_n C dX3_bestPlanCell_12 3 rfl rfl ?_
    refine j_iload_n C dX3_bestPlanCell_13 0 rfl rfl ?_
    refine j_icmp_le C dX3_bestPlanCell_14 (tgt := 20) (by decide) (fun q14 => ?_) (fun q14 => ?_)
    · skip
      have q14 := (kn_le (a := i) (b := k) (by omega) (by omega)).mp q14
      refine j_aload_n C dX3_bestPlanCell_20 1 rfl rfl ?_
      refine j_iload_n C dX3_bestPlanCell_21 2 rfl rfl ?_
      refine j_iload_n C dX3_bestPlanCell_22 0 rfl rfl ?_
      refine j_callVM C rw_ (nA := 2) (As := [.int (nI c), .int (nI k)]) (wr := []) (c_X3_findWays (xl X) (xT X) h3 h4 he hew hy hyw hc hcw hS hs so sr hl hlw hdr hh hv hq ha hhw sc sp st mk'_8 p t0 ss ob rq ax'_1 ay'_2 az'_3 lim'_4 LW'_5 E'_7 Y Ch hd dr'_6 c k (by omega) (by omega) (by omega) (by exact hI3) (by exact hE3) (by exact hH) (by omega) (by exact hrm3 k hk1 rfl)) gX3_bestPlanCell_X3_findWays rfl (by decide +kernel) rfl (by decide) (by decide) [0, 1, 2, 3, 4, 5, 6, 7, 8, 9, 10, 11, 12, 13, 14, 15, 16, 17, 18] [] rfl rfl rfl rfl (by decide) 0 rfl rfl (rest := []) rfl (Nat.le_of_ble_eq_true rfl) dX3_bestPlanCell_23 ?_
      rintro _ _ ⟨Y'_10, rfl, rfl, hY⟩
      show jj X 0 0 26 [(3, .int (nI k)), (0, .ref h3), (1, .int (nI c)), (2, .int (nI i))] [] [(h3, cO 3 [.ref hS, .ref h4, .ref he, .ref hy, .ref hc, .int (nI mk'_8), .int (nI p), .int (nI t0)]), (he, cO 0 [.ref hew]), (hew, cJ (xT X) 183 E'_7), (hy, cO 0 [.ref hyw]), (hyw, cJ (xT X) 183 Y'_10), (hc, cO 0 [.ref hcw]), (hcw, cJ (xT X) 3 Ch), (h4, cO 4 [.ref hS, .ref hs, .ref hl, .ref hdr, .int ax'_1, .int ay'_2, .int az'_3, .long lim'_4]), (hs, cO 6 [.int (nI sc), .int (nI sp), .int (bI ss), .int (nI st), .ref so, .ref sr]), (so, cI (xT X) 21 ob), (sr, cI (xT X) 12 rq), (hl, cO 0 [.ref hlw]), (hlw, cJ (xT X) 903 LW'_5), (hdr, cZ (xT X) 301 (fun j => bI (dr'_6 j))), (hS, cO 5 [.ref hh, .ref hv, .ref hq, .ref ha]), (hv, cI (xT X) 450 cvec), (hq, cI (xT X) 150 csq), (hh, cO 0 [.ref hhw]), (hhw, cJ (xT X) 450 hd)]
      refine j_aload_n C dX3_bestPlanCell_26 1 rfl rfl ?_
      refine j_get C (hin3) (ci := 3) rfl 6 (by decide) (hl34) 0 rfl (v := .int (nI p)) rfl dX3_bestPlanCell_27 ?_
      refine j_istore C dX3_bestPlanCell_30 (by decide) (lv' := [(4, .int (nI p)), (3, .int (nI k)), (0, .ref h3), (1, .int (nI c)), (2, .int (nI i))]) rfl ?_
      refine j_iconst C dX3_bestPlanCell_32 (v := (nI 1)) kc_i_1 ?_
      refine j_istore C dX3_bestPlanCell_33 (by decide) (lv' := [(5, .int (nI 1)), (4, .int (nI p)), (3, .int (nI k)), (0, .ref h3), (1, .int (nI c)), (2, .int (nI i))]) rfl ?_
      refine j_lv [3, 4, 5, 2, 1, 0] rfl ?_
      suffices hc35 : ∀ (mm : Nat) (z : Nat) (Ch : Nat → Int64), i - z < mm → (z ≤ i) → jj X 0 0 35 [(0, .ref h3), (1, .int (nI c)), (2, .int (nI i)), (3, .int (nI k)), (4, .int (nI (pth ob t0 p k c z))), (5, .int (nI (z + 1)))] [] [(h3, cO 3 [.ref hS, .ref h4, .ref he, .ref hy, .ref hc, .int (nI mk'_8), .int (nI p), .int (nI t0)]), (he, cO 0 [.ref hew]), (hew, cJ (xT X) 183 E'_7), (hy, cO 0 [.ref hyw]), (hyw, cJ (xT X) 183 Y'_10), (hc, cO 0 [.ref hcw]), (hcw, cJ (xT X) 3 Ch), (h4, cO 4 [.ref hS, .ref hs, .ref hl, .ref hdr, .int ax'_1, .int ay'_2, .int az'_3, .long lim'_4]), (hs, cO 6 [.int (nI sc), .int (nI sp), .int (bI ss), .int (nI st), .ref so, .ref sr]), (so, cI (xT X) 21 ob), (sr, cI (xT X) 12 rq), (hl, cO 0 [.ref hlw]), (hlw, cJ (xT X) 903 LW'_5), (hdr, cZ (xT X) 301 (fun j => bI (dr'_6 j))), (hS, cO 5 [.ref hh, .ref hv, .ref hq, .ref ha]), (hv, cI (xT X) 450 cvec), (hq, cI (xT X) 150 csq), (hh, cO 0 [.ref hhw]), (hhw, cJ (xT X) 450 hd)] by
        refine hc35 _ 0 _ (Nat.lt_succ_self _) ?_
        · omega
      intro mm
      induction mm with
      | zero => intro z Ch hm; exact absurd hm (Nat.not_lt_zero _)
      | succ mm ih35 =>
        intro z Ch hm35 hz
        refine j_iload C dX3_bestPlanCell_35 5 rfl ?_
        refine j_iload_n C dX3_bestPlanCell_37 2 rfl rfl ?_
        refine j_icmp_gt C dX3_bestPlanCell_38 (tgt := 96) (by decide) (fun q38 => ?_) (fun q38 => ?_)
        · skip
          have q38 := (kn_gt (a := z + 1) (b := i) (by omega) (by omega)).mp q38
          refine j_iload C dX3_bestPlanCell_96 4 rfl ?_
          refine j_iretM C rw_ hQ (by decide) (by decide) rfl ?_ dX3_bestPlanCell_98
          exact ⟨_, _, _, _, _, _, _, _, _, _, _, rfl, rfl, hI3, _, hft, Or.inr ⟨k, rfl, hk1, Or.inr ⟨by omega, by rw [show z = i by omega]⟩⟩⟩
        · skip
          have q38 := (kn_ngt (a := z + 1) (b := i) (by omega) (by omega)).mp q38
          refine j_aload_n C dX3_bestPlanCell_41 0 rfl rfl ?_
          refine j_get C (hin3) (ci := 3) rfl 4 (by decide) (hl23) 0 rfl (v := .ref hc) rfl dX3_bestPlanCell_42 ?_
          refine j_iconst C dX3_bestPlanCell_45 (v := (nI 0)) kc_i_0 ?_
          refine j_callVM C rw_ (nA := 1) (As := [.int (nI 0)]) (wr := [(h3, cO 3 [.ref hS, .ref h4, .ref he, .ref hy, .ref hc, .int (nI mk'_8), .int (nI p), .int (nI t0)]), (he, cO 0 [.ref hew]), (hew, cJ (xT X) 183 E'_7), (hy, cO 0 [.ref hyw]), (hyw, cJ (xT X) 183 Y'_10), (h4, cO 4 [.ref hS, .ref hs, .ref hl, .ref hdr, .int ax'_1, .int ay'_2, .int az'_3, .long lim'_4]), (hs, cO 6 [.int (nI sc), .int (nI sp), .int (bI ss), .int (nI st), .ref so, .ref sr]), (so, cI (xT X) 21 ob), (sr, cI (xT X) 12 rq), (hl, cO 0 [.ref hlw]), (hlw, cJ (xT X) 903 LW'_5), (hdr, cZ (xT X) 301 (fun j => bI (dr'_6 j))), (hS, cO 5 [.ref hh, .ref hv, .ref hq, .ref ha]), (hv, cI (xT X) 450 cvec), (hq, cI (xT X) 150 csq), (hh, cO 0 [.ref hhw]), (hhw, cJ (xT X) 450 hd)]) (c_X0_clear (xl X) (xT X) hc hcw 3 0 Ch (by omega) (by omega)) gX3_bestPlanCell_X0_clear rfl (by decide +kernel) rfl (by decide) (by decide) [5, 6] [0, 1, 2, 3, 4, 7, 8, 9, 10, 11, 12, 13, 14, 15, 16, 17, 18] rfl rfl rfl rfl (by decide) 5 rfl rfl (rest := []) rfl (Nat.le_of_ble_eq_true rfl) dX3_bestPlanCell_46 ?_
          rintro _ _ ⟨g_11, rfl, rfl, hcl⟩
          show jj X 0 0 49 [(0, .ref h3), (1, .int (nI c)), (2, .int (nI i)), (3, .int (nI k)), (4, .int (nI (pth ob t0 p k c z))), (5, .int (nI (z + 1)))] [] [(h3, cO 3 [.ref hS, .ref h4, .ref he, .ref hy, .ref hc, .int (nI mk'_8), .int (nI p), .int (nI t0)]), (he, cO 0 [.ref hew]), (hew, cJ (xT X) 183 E'_7), (hy, cO 0 [.ref hyw]), (hyw, cJ (xT X) 183 Y'_10), (h4, cO 4 [.ref hS, .ref hs, .ref hl, .ref hdr, .int ax'_1, .int ay'_2, .int az'_3, .long lim'_4]), (hs, cO 6 [.int (nI sc), .int (nI sp), .int (bI ss), .int (nI st), .ref so, .ref sr]), (so, cI (xT X) 21 ob), (sr, cI (xT X) 12 rq), (hl, cO 0 [.ref hlw]), (hlw, cJ (xT X) 903 LW'_5), (hdr, cZ (xT X) 301 (fun j => bI (dr'_6 j))), (hS, cO 5 [.ref hh, .ref hv, .ref hq, .ref ha]), (hv, cI (xT X) 450 cvec), (hq, cI (xT X) 150 csq), (hh, cO 0 [.ref hhw]), (hhw, cJ (xT X) 450 hd), (hc, cO 0 [.ref hcw]), (hcw, cJ (xT X) 3 g_11)]
          refine j_aload_n C dX3_bestPlanCell_49 0 rfl rfl ?_
          refine j_get C (hin3) (ci := 3) rfl 4 (by decide) (hl23) 0 rfl (v := .ref hc) rfl dX3_bestPlanCell_50 ?_
          refine j_iconst C dX3_bestPlanCell_53 (v := (nI 0)) kc_i_0 ?_
          refine j_aload_n C dX3_bestPlanCell_54 0 rfl rfl ?_
          refine j_get C (hin3) (ci := 3) rfl 0 (by decide) (hl26) 0 rfl (v := .ref hS) rfl dX3_bestPlanCell_55 ?_
          refine j_get C (hin5) (ci := 5) rfl 0 (by decide) (hl51) 12 rfl (v := .ref hh) rfl dX3_bestPlanCell_58 ?_
          refine j_iload C dX3_bestPlanCell_61 4 rfl ?_
          refine j_callVM C rw_ (nA := 3) (As := [.int (nI 0), .ref hh, .int (nI (pth ob t0 p k c z))]) (wr := [(h3, cO 3 [.ref hS, .ref h4, .ref he, .ref hy, .ref hc, .int (nI mk'_8), .int (nI p), .int (nI t0)]), (he, cO 0 [.ref hew]), (hew, cJ (xT X) 183 E'_7), (hy, cO 0 [.ref hyw]), (hyw, cJ (xT X) 183 Y'_10), (h4, cO 4 [.ref hS, .ref hs, .ref hl, .ref hdr, .int ax'_1, .int ay'_2, .int az'_3, .long lim'_4]), (hs, cO 6 [.int (nI sc), .int (nI sp), .int (bI ss), .int (nI st), .ref so, .ref sr]), (so, cI (xT X) 21 ob), (sr, cI (xT X) 12 rq), (hl, cO 0 [.ref hlw]), (hlw, cJ (xT X) 903 LW'_5), (hdr, cZ (xT X) 301 (fun j => bI (dr'_6 j))), (hS, cO 5 [.ref hh, .ref hv, .ref hq, .ref ha]), (hv, cI (xT X) 450 cvec), (hq, cI (xT X) 150 csq)]) (c_X0_unite (xl X) (xT X) hc hcw 3 0 hh hhw 450 (pth ob t0 p k c z) g_11 hd (by omega) (by omega) (by have := (pth_ok hp hc1 hk2 z (by omega)).1; omega) (by omega)) gX3_bestPlanCell_X0_unite rfl (by decide +kernel) rfl (by decide) (by decide) [17, 18, 15, 16] [0, 1, 2, 3, 4, 5, 6, 7, 8, 9, 10, 11, 12, 13, 14] rfl rfl rfl rfl (by decide) 17 rfl rfl (rest := []) rfl (Nat.le_of_ble_eq_true rfl) dX3_bestPlanCell_63 ?_
          rintro _ _ ⟨g_12, rfl, rfl, hun⟩
          show jj X 0 0 66 [(0, .ref h3), (1, .int (nI c)), (2, .int (nI i)), (3, .int (nI k)), (4, .int (nI (pth ob t0 p k c z))), (5, .int (nI (z + 1)))] [] [(h3, cO 3 [.ref hS, .ref h4, .ref he, .ref hy, .ref hc, .int (nI mk'_8), .int (nI p), .int (nI t0)]), (he, cO 0 [.ref hew]), (hew, cJ (xT X) 183 E'_7), (hy, cO 0 [.ref hyw]), (hyw, cJ (xT X) 183 Y'_10), (h4, cO 4 [.ref hS, .ref hs, .ref hl, .ref hdr, .int ax'_1, .int ay'_2, .int az'_3, .long lim'_4]), (hs, cO 6 [.int (nI sc), .int (nI sp), .int (bI ss), .int (nI st), .ref so, .ref sr]), (so, cI (xT X) 21 ob), (sr, cI (xT X) 12 rq), (hl, cO 0 [.ref hlw]), (hlw, cJ (xT X) 903 LW'_5), (hdr, cZ (xT X) 301 (fun j => bI (dr'_6 j))), (hS, cO 5 [.ref hh, .ref hv, .ref hq, .ref ha]), (hv, cI (xT X) 450 cvec), (hq, cI (xT X) 150 csq), (hc, cO 0 [.ref hcw]), (hcw, cJ (xT X) 3 g_12), (hh, cO 0 [.ref hhw]), (hhw, cJ (xT X) 450 hd)]
          refine j_aload_n C dX3_bestPlanCell_66 0 rfl rfl ?_
          refine j_get C (hin3) (ci := 3) rfl 4 (by decide) (hl23) 0 rfl (v := .ref hc) rfl dX3_bestPlanCell_67 ?_
          refine j_iconst C dX3_bestPlanCell_70 (v := (nI 0)) kc_i_0 ?_
          refine j_aload_n C dX3_bestPlanCell_71 0 rfl rfl ?_
          refine j_get C (hin3) (ci := 3) rfl 3 (by decide) (hl20) 0 rfl (v := .ref hy) rfl dX3_bestPlanCell_72 ?_
          refine j_iload C dX3_bestPlanCell_75 5 rfl ?_
          refine j_callVM C rw_ (nA := 3) (As := [.int (nI 0), .ref hy, .int (nI (z + 1))]) (wr := [(h3, cO 3 [.ref hS, .ref h4, .ref he, .ref hy, .ref hc, .int (nI mk'_8), .int (nI p), .int (nI t0)]), (he, cO 0 [.ref hew]), (hew, cJ (xT X) 183 E'_7), (h4, cO 4 [.ref hS, .ref hs, .ref hl, .ref hdr, .int ax'_1, .int ay'_2, .int az'_3, .long lim'_4]), (hs, cO 6 [.int (nI sc), .int (nI sp), .int (bI ss), .int (nI st), .ref so, .ref sr]), (so, cI (xT X) 21 ob), (sr, cI (xT X) 12 rq), (hl, cO 0 [.ref hlw]), (hlw, cJ (xT X) 903 LW'_5), (hdr, cZ (xT X) 301 (fun j => bI (dr'_6 j))), (hS, cO 5 [.ref hh, .ref hv, .ref hq, .ref ha]), (hv, cI (xT X) 450 cvec), (hq, cI (xT X) 150 csq), (hh, cO 0 [.ref hhw]), (hhw, cJ (xT X) 450 hd)]) (c_X0_retain (xl X) (xT X) hc hcw 3 0 hy hyw 183 (z + 1) g_12 Y'_10 (by omega) (by omega) (by omega) (by omega)) gX3_bestPlanCell_X0_retain rfl (by decide +kernel) rfl (by decide) (by decide) [15, 16, 3, 4] [0, 1, 2, 5, 6, 7, 8, 9, 10, 11, 12, 13, 14, 17, 18] rfl rfl rfl rfl (by decide) 15 rfl rfl (rest := []) rfl (Nat.le_of_ble_eq_true rfl) dX3_bestPlanCell_77 ?_
          rintro _ _ ⟨g_13, rfl, rfl, hre⟩
          show jj X 0 0 80 [(0, .ref h3), (1, .int (nI c)), (2, .int (nI i)), (3, .int (nI k)), (4, .int (nI (pth ob t0 p k c z))), (5, .int (nI (z + 1)))] [] [(h3, cO 3 [.ref hS, .ref h4, .ref he, .ref hy, .ref hc, .int (nI mk'_8), .int (nI p), .int (nI t0)]), (he, cO 0 [.ref hew]), (hew, cJ (xT X) 183 E'_7), (h4, cO 4 [.ref hS, .ref hs, .ref hl, .ref hdr, .int ax'_1, .int ay'_2, .int az'_3, .long lim'_4]), (hs, cO 6 [.int (nI sc), .int (nI sp), .int (bI ss), .int (nI st), .ref so, .ref sr]), (so, cI (xT X) 21 ob), (sr, cI (xT X) 12 rq), (hl, cO 0 [.ref hlw]), (hlw, cJ (xT X) 903 LW'_5), (hdr, cZ (xT X) 301 (fun j => bI (dr'_6 j))), (hS, cO 5 [.ref hh, .ref hv, .ref hq, .ref ha]), (hv, cI (xT X) 450 cvec), (hq, cI (xT X) 150 csq), (hh, cO 0 [.ref hhw]), (hhw, cJ (xT X) 450 hd), (hc, cO 0 [.ref hcw]), (hcw, cJ (xT X) 3 g_13), (hy, cO 0 [.ref hyw]), (hyw, cJ (xT X) 183 Y'_10)]
          refine j_aload_n C dX3_bestPlanCell_80 0 rfl rfl ?_
          refine j_get C (hin3) (ci := 3) rfl 4 (by decide) (hl23) 0 rfl (v := .ref hc) rfl dX3_bestPlanCell_81 ?_
          refine j_iconst C dX3_bestPlanCell_84 (v := (nI 0)) kc_i_0 ?_
          refine j_callVR C (nA := 1) (As := [.int (nI 0)]) (c_X0_smallest (xl X) (xT X) hc hcw 3 0 g_13 (by omega) (by omega)) gX3_bestPlanCell_X0_smallest rfl (by decide +kernel) rfl ⟨rfl, rfl⟩ (by decide) (by decide) [15, 16] rfl rfl 15 rfl rfl (rest := []) rfl (Nat.le_of_ble_eq_true rfl) dX3_bestPlanCell_85 ?_
          rintro _ ⟨x_14, rfl, hsm⟩
          show jj X 0 0 88 [(0, .ref h3), (1, .int (nI c)), (2, .int (nI i)), (3, .int (nI k)), (4, .int (nI (pth ob t0 p k c z))), (5, .int (nI (z + 1)))] [.int x_14] [(h3, cO 3 [.ref hS, .ref h4, .ref he, .ref hy, .ref hc, .int (nI mk'_8), .int (nI p), .int (nI t0)]), (he, cO 0 [.ref hew]), (hew, cJ (xT X) 183 E'_7), (h4, cO 4 [.ref hS, .ref hs, .ref hl, .ref hdr, .int ax'_1, .int ay'_2, .int az'_3, .long lim'_4]), (hs, cO 6 [.int (nI sc), .int (nI sp), .int (bI ss), .int (nI st), .ref so, .ref sr]), (so, cI (xT X) 21 ob), (sr, cI (xT X) 12 rq), (hl, cO 0 [.ref hlw]), (hlw, cJ (xT X) 903 LW'_5), (hdr, cZ (xT X) 301 (fun j => bI (dr'_6 j))), (hS, cO 5 [.ref hh, .ref hv, .ref hq, .ref ha]), (hv, cI (xT X) 450 cvec), (hq, cI (xT X) 150 csq), (hh, cO 0 [.ref hhw]), (hhw, cJ (xT X) 450 hd), (hc, cO 0 [.ref hcw]), (hcw, cJ (xT X) 3 g_13), (hy, cO 0 [.ref hyw]), (hyw, cJ (xT X) 183 Y'_10)]
          have hb := pth_ok hp hc1 hk2 z (by omega)
          have hn := pth_nb hp hc1 hk2 (show z < k by omega)
          refine j_ieq (nI (pth ob t0 p k c (z + 1))) (by exact ch_is hb.1 hn (fun d hd => by rw [hre 0 d (by omega), if_pos rfl, hun 0 d (by omega), if_pos rfl, hcl 0 d (by omega), hH _ hb.1 d (by omega), hY (z + 1) (by omega) d (by omega), decide_eq_true hd]; simp) hsm) ?_
          refine j_istore C dX3_bestPlanCell_88 (by decide) (lv' := [(4, .int (nI (pth ob t0 p k c (z + 1)))), (0, .ref h3), (1, .int (nI c)), (2, .int (nI i)), (3, .int (nI k)), (5, .int (nI (z + 1)))]) rfl ?_
          refine j_iinc C dX3_bestPlanCell_90 (q := 5) (v := (nI (z + 1 + 1))) rfl (kc_inc (z + 1)) (by decide) (lv' := [(5, .int (nI (z + 1 + 1))), (4, .int (nI (pth ob t0 p k c (z + 1)))), (0, .ref h3), (1, .int (nI c)), (2, .int (nI i)), (3, .int (nI k))]) rfl ?_
          refine j_goto C dX3_bestPlanCell_93 (tgt := 35) (by decide) ?_
          refine j_lv [2, 3, 4, 5, 1, 0] rfl ?_
          refine j_perm C (w' := [(h3, cO 3 [.ref hS, .ref h4, .ref he, .ref hy, .ref hc, .int (nI mk'_8), .int (nI p), .int (nI t0)]), (he, cO 0 [.ref hew]), (hew, cJ (xT X) 183 E'_7), (hy, cO 0 [.ref hyw]), (hyw, cJ (xT X) 183 Y'_10), (hc, cO 0 [.ref hcw]), (hcw, cJ (xT X) 3 g_13), (h4, cO 4 [.ref hS, .ref hs, .ref hl, .ref hdr, .int ax'_1, .int ay'_2, .int az'_3, .long lim'_4]), (hs, cO 6 [.int (nI sc), .int (nI sp), .int (bI ss), .int (nI st), .ref so, .ref sr]), (so, cI (xT X) 21 ob), (sr, cI (xT X) 12 rq), (hl, cO 0 [.ref hlw]), (hlw, cJ (xT X) 903 LW'_5), (hdr, cZ (xT X) 301 (fun j => bI (dr'_6 j))), (hS, cO 5 [.ref hh, .ref hv, .ref hq, .ref ha]), (hv, cI (xT X) 450 cvec), (hq, cI (xT X) 150 csq), (hh, cO 0 [.ref hhw]), (hhw, cJ (xT X) 450 hd)]) [0, 1, 2, 17, 18, 15, 16, 3, 4, 5, 6, 7, 8, 9, 10, 11, 12, 13, 14] rfl rfl ?_
          refine ih35 _ _ (by omega) ?_
          · omega
    · skip
      have q14 := (kn_nle (a := i) (b := k) (by omega) (by omega)).mp q14
      refine j_bipush C dX3_bestPlanCell_17 (v := (-9)) kc_b_m9 ?_
      refine j_iretM C rw_ hQ (by decide) (by decide) rfl ?_ dX3_bestPlanCell_19
      exact ⟨_, _, _, _, _, _, _, _, _, _, _, rfl, rfl, hI3, _, hft, Or.inr ⟨k, rfl, hk1, Or.inl ⟨by omega, rfl⟩⟩⟩

set_option maxHeartbeats 4000000 in
set_option maxRecDepth 100000 in
/-- safeCell(k, darkTime) -/
theorem c_X3_safeCell (l : Launch) (T : jj_T) (h3 h4 he hew hy hyw hc hcw hS hs so sr hl hlw hdr hh hv hq ha hhw sc sp st mk p t0 : Nat) (ss : Bool) (ob rq : Nat → Int32) (ax ay az : Int32) (lim : Int64) (LW E Y Ch hd : Nat → Int64) (dr : Nat → Bool) (k dk : Nat) (hp : p < 150) (ht0 : t0 ≤ 240) (hmk : mk ≤ 60) (hI : skI ob dr LW) (hE : plI ob t0 p mk E) (hH : hdI hd) (hk : k ≤ 60) (hdk : dk ≤ 40) : jM l T yX3_safeCell wsX3_safeCell { frames := 4, cells := 0, slots := 0, locals := 95 } [.ref h3, .int (nI k), .int (nI dk)] [(h3, cO 3 [.ref hS, .ref h4, .ref he, .ref hy, .ref hc, .int (nI mk), .int (nI p), .int (nI t0)]), (he, cO 0 [.ref hew]), (hew, cJ T 183 E), (hy, cO 0 [.ref hyw]), (hyw, cJ T 183 Y), (hc, cO 0 [.ref hcw]), (hcw, cJ T 3 Ch), (h4, cO 4 [.ref hS, .ref hs, .ref hl, .ref hdr, .int ax, .int ay, .int az, .long lim]), (hs, cO 6 [.int (nI sc), .int (nI sp), .int (bI ss), .int (nI st), .ref so, .ref sr]), (so, cI T 21 ob), (sr, cI T 12 rq), (hl, cO 0 [.ref hlw]), (hlw, cJ T 903 LW), (hdr, cZ T 301 (fun j => bI (dr j))), (hS, cO 5 [.ref hh, .ref hv, .ref hq, .ref ha]), (hv, cI T 450 cvec), (hq, cI T 150 csq), (hh, cO 0 [.ref hhw]), (hhw, cJ T 450 hd)] (fun v w1 => ∃ ax' : Int32, ∃ ay' : Int32, ∃ az' : Int32, ∃ lim' : Int64, ∃ LW' : Nat → Int64, ∃ dr' : Nat → Bool, ∃ E' : Nat → Int64, ∃ mk' : Nat, ∃ r : Int32, v = some (.int r) ∧ w1 = [(h3, cO 3 [.ref hS, .ref h4, .ref he, .ref hy, .ref hc, .int (nI mk'), .int (nI p), .int (nI t0)]), (he, cO 0 [.ref hew]), (hew, cJ T 183 E'), (hy, cO 0 [.ref hyw]), (hyw, cJ T 183 Y), (hc, cO 0 [.ref hcw]), (hcw, cJ T 3 Ch), (h4, cO 4 [.ref hS, .ref hs, .ref hl, .ref hdr, .int ax', .int ay', .int az', .long lim']), (hs, cO 6 [.int (nI sc), .int (nI sp), .int (bI ss), .int (nI st), .ref so, .ref sr]), (so, cI T 21 ob), (sr, cI T 12 rq), (hl, cO 0 [.ref hlw]), (hlw, cJ T 903 LW'), (hdr, cZ T 301 (fun j => bI (dr' j))), (hS, cO 5 [.ref hh, .ref hv, .ref hq, .ref ha]), (hv, cI T 450 cvec), (hq, cI T 150 csq), (hh, cO 0 [.ref hhw]), (hhw, cJ T 450 hd)] ∧ (mk' ≤ 60) ∧ (skI ob dr' LW') ∧ (plI ob t0 p mk' E') ∧ (fs_is (pk1 ob t0 p dk k) 150 r)) := by
  refine jM.of (cc := cX3_safeCell) (maxL := 5) (ret := (some .int)) (by decide) rfl (Nat.le_of_ble_eq_true rfl) ?_
  intro X C rw_ hl hT hQ hnm
  subst hl; subst hT
  have hin3 : ∀ w ∈ u_ws RX3 TX3 8, w ∈ wsX3_safeCell := by decide +kernel
  have hl14 : Cond.fieldLink RX3 14 (TX3 2).1 (TX3 2).2.1 (TX3 2).2.2.1 ∈ wsX3_safeCell := by decide +kernel
  have hl30 : Cond.fieldLink RX3 30 (TX3 1).1 (TX3 1).2.1 (TX3 1).2.2.1 ∈ wsX3_safeCell := by decide +kernel
  have hl38 : Cond.fieldLink RX3 38 (TX3 7).1 (TX3 7).2.1 (TX3 7).2.2.1 ∈ wsX3_safeCell := by decide +kernel
  show jj X 0 0 0 [(0, .ref h3), (1, .int (nI k)), (2, .int (nI dk))] [] [(h3, cO 3 [.ref hS, .ref h4, .ref he, .ref hy, .ref hc, .int (nI mk), .int (nI p), .int (nI t0)]), (he, cO 0 [.ref hew]), (hew, cJ (xT X) 183 E), (hy, cO 0 [.ref hyw]), (hyw, cJ (xT X) 183 Y), (hc, cO 0 [.ref hcw]), (hcw, cJ (xT X) 3 Ch), (h4, cO 4 [.ref hS, .ref hs, .ref hl, .ref hdr, .int ax, .int ay, .int az, .long lim]), (hs, cO 6 [.int (nI sc), .int (nI sp), .int (bI ss), .int (nI st), .ref so, .ref sr]), (so, cI (xT X) 21 ob), (sr, cI (xT X) 12 rq), (hl, cO 0 [.ref hlw]), (hlw, cJ (xT X) 903 LW), (hdr, cZ (xT X) 301 (fun j => bI (dr j))), (hS, cO 5 [.ref hh, .ref hv, .ref hq, .ref ha]), (hv, cI (xT X) 450 cvec), (hq, cI (xT X) 150 csq), (hh, cO 0 [.ref hhw]), (hhw, cJ (xT X) 450 hd)]
  refine j_aload_n C dX3_safeCell_0 0 rfl rfl ?_
  refine j_iload_n C dX3_safeCell_1 1 rfl rfl ?_
  refine j_callVM C rw_ (nA := 1) (As := [.int (nI k)]) (wr := []) (c_X3_makeEnds (xl X) (xT X) h3 h4 he hew hy hyw hc hcw hS hs so sr hl hlw hdr hh hv hq ha hhw sc sp st mk p t0 ss ob rq ax ay az lim LW E Y Ch hd dr k (by omega) (by omega) (by omega) (by exact hI) (by exact hE) (by exact hH) (by omega)) gX3_safeCell_X3_makeEnds rfl (by decide +kernel) rfl (by decide) (by decide) [0, 1, 2, 3, 4, 5, 6, 7, 8, 9, 10, 11, 12, 13, 14, 15, 16, 17, 18] [] rfl rfl rfl rfl (by decide) 0 rfl rfl (rest := []) rfl (Nat.le_of_ble_eq_true rfl) dX3_safeCell_2 ?_
  rintro _ _ ⟨ax'_1, ay'_2, az'_3, lim'_4, LW'_5, dr'_6, E'_7, mk'_8, rfl, rfl, hm3, hk3, hI3, hE3⟩
  show jj X 0 0 5 [(0, .ref h3), (1, .int (nI k)), (2, .int (nI dk))] [] [(h3, cO 3 [.ref hS, .ref h4, .ref he, .ref hy, .ref hc, .int (nI mk'_8), .int (nI p), .int (nI t0)]), (he, cO 0 [.ref hew]), (hew, cJ (xT X) 183 E'_7), (hy, cO 0 [.ref hyw]), (hyw, cJ (xT X) 183 Y), (hc, cO 0 [.ref hcw]), (hcw, cJ (xT X) 3 Ch), (h4, cO 4 [.ref hS, .ref hs, .ref hl, .ref hdr, .int ax'_1, .int ay'_2, .int az'_3, .long lim'_4]), (hs, cO 6 [.int (nI sc), .int (nI sp), .int (bI ss), .int (nI st), .ref so, .ref sr]), (so, cI (xT X) 21 ob), (sr, cI (xT X) 12 rq), (hl, cO 0 [.ref hlw]), (hlw, cJ (xT X) 903 LW'_5), (hdr, cZ (xT X) 301 (fun j => bI (dr'_6 j))), (hS, cO 5 [.ref hh, .ref hv, .ref hq, .ref ha]), (hv, cI (xT X) 450 cvec), (hq, cI (xT X) 150 csq), (hh, cO 0 [.ref hhw]), (hhw, cJ (xT X) 450 hd)]
  refine j_aload_n C dX3_safeCell_5 0 rfl rfl ?_
  refine j_get C (hin3) (ci := 3) rfl 7 (by decide) (hl38) 0 rfl (v := .int (nI t0)) rfl dX3_safeCell_6 ?_
  refine j_iload_n C dX3_safeCell_9 1 rfl rfl ?_
  refine j_iadd C dX3_safeCell_10 (v := (nI (t0 + k))) (nI_add _ _) ?_
  refine j_istore_n C dX3_safeCell_11 rfl (by decide) (lv' := [(3, .int (nI (t0 + k))), (0, .ref h3), (1, .int (nI k)), (2, .int (nI dk))]) rfl ?_
  refine j_iconst C dX3_safeCell_12 (v := (nI 0)) kc_i_0 ?_
  refine j_istore C dX3_safeCell_13 (by decide) (lv' := [(4, .int (nI 0)), (3, .int (nI (t0 + k))), (0, .ref h3), (1, .int (nI k)), (2, .int (nI dk))]) rfl ?_
  refine j_lv [2, 3, 4, 1, 0] rfl ?_
  suffices hc15 : ∀ (mm : Nat) (c : Nat) (ax ay az : Int32) (lim : Int64), 150 - c < mm → (c ≤ 150) → (∀ d, d < c → pk1 ob t0 p dk k d = false) → jj X 0 0 15 [(0, .ref h3), (1, .int (nI k)), (2, .int (nI dk)), (3, .int (nI (t0 + k))), (4, .int (nI c))] [] [(h3, cO 3 [.ref hS, .ref h4, .ref he, .ref hy, .ref hc, .int (nI mk'_8), .int (nI p), .int (nI t0)]), (he, cO 0 [.ref hew]), (hew, cJ (xT X) 183 E'_7), (hy, cO 0 [.ref hyw]), (hyw, cJ (xT X) 183 Y), (hc, cO 0 [.ref hcw]), (hcw, cJ (xT X) 3 Ch), (h4, cO 4 [.ref hS, .ref hs, .ref hl, .ref hdr, .int ax, .int ay, .int az, .long lim]), (hs, cO 6 [.int (nI sc), .int (nI sp), .int (bI ss), .int (nI st), .ref so, .ref sr]), (so, cI (xT X) 21 ob), (sr, cI (xT X) 12 rq), (hl, cO 0 [.ref hlw]), (hlw, cJ (xT X) 903 LW'_5), (hdr, cZ (xT X) 301 (fun j => bI (dr'_6 j))), (hS, cO 5 [.ref hh, .ref hv, .ref hq, .ref ha]), (hv, cI (xT X) 450 cvec), (hq, cI (xT X) 150 csq), (hh, cO 0 [.ref hhw]), (hhw, cJ (xT X) 450 hd)] by
    refine hc15 _ _ _ _ _ _ (Nat.lt_succ_self _) ?_ ?_
    · omega
    · intro d hd; omega
  intro mm
  induction mm with
  | zero => intro c ax ay az lim hm; exact absurd hm (Nat.not_lt_zero _)
  | succ mm ih15 =>
    intro c ax ay az lim hm15 hc150 hf
    refine j_iload C dX3_safeCell_15 4 rfl ?_
    refine j_sipush C dX3_safeCell_17 (v := (nI 150)) kc_s_150 ?_
    refine j_icmp_ge C dX3_safeCell_20 (tgt := 63) (by decide) (fun q20 => ?_) (fun q20 => ?_)
    · skip
      have q20 := (kn_ge (a := c) (b := 150) (by omega) (by omega)).mp q20
      refine j_bipush C dX3_safeCell_63 (v := (-9)) kc_b_m9 ?_
      refine j_iretM C rw_ hQ (by decide) (by decide) rfl ?_ dX3_safeCell_65
      exact ⟨_, _, _, _, _, _, _, _, _, rfl, rfl, hm3, hI3, hE3, Or.inr ⟨fun d hd => hf d (by omega), rfl⟩⟩
    · skip
      have q20 := (kn_nge (a := c) (b := 150) (by omega) (by omega)).mp q20
      refine j_aload_n C dX3_safeCell_23 0 rfl rfl ?_
      refine j_get C (hin3) (ci := 3) rfl 2 (by decide) (hl14) 0 rfl (v := .ref he) rfl dX3_safeCell_24 ?_
      refine j_iload_n C dX3_safeCell_27 1 rfl rfl ?_
      refine j_iload C dX3_safeCell_28 4 rfl ?_
      refine j_callVR C (nA := 2) (As := [.int (nI k), .int (nI c)]) (c_X0_has (xl X) (xT X) he hew 183 k c E'_7 (by omega) (by omega) (by omega)) gX3_safeCell_X0_has rfl (by decide +kernel) rfl ⟨rfl, rfl⟩ (by decide) (by decide) [1, 2] rfl rfl 1 rfl rfl (rest := []) rfl (Nat.le_of_ble_eq_true rfl) dX3_safeCell_30 ?_
      rintro _ rfl
      show jj X 0 0 33 [(0, .ref h3), (1, .int (nI k)), (2, .int (nI dk)), (3, .int (nI (t0 + k))), (4, .int (nI c))] [.int (bI (cs_b E'_7 k c))] [(h3, cO 3 [.ref hS, .ref h4, .ref he, .ref hy, .ref hc, .int (nI mk'_8), .int (nI p), .int (nI t0)]), (he, cO 0 [.ref hew]), (hew, cJ (xT X) 183 E'_7), (hy, cO 0 [.ref hyw]), (hyw, cJ (xT X) 183 Y), (hc, cO 0 [.ref hcw]), (hcw, cJ (xT X) 3 Ch), (h4, cO 4 [.ref hS, .ref hs, .ref hl, .ref hdr, .int ax, .int ay, .int az, .long lim]), (hs, cO 6 [.int (nI sc), .int (nI sp), .int (bI ss), .int (nI st), .ref so, .ref sr]), (so, cI (xT X) 21 ob), (sr, cI (xT X) 12 rq), (hl, cO 0 [.ref hlw]), (hlw, cJ (xT X) 903 LW'_5), (hdr, cZ (xT X) 301 (fun j => bI (dr'_6 j))), (hS, cO 5 [.ref hh, .ref hv, .ref hq, .ref ha]), (hv, cI (xT X) 450 cvec), (hq, cI (xT X) 150 csq), (hh, cO 0 [.ref hhw]), (hhw, cJ (xT X) 450 hd)]
      refine j_if_eq C dX3_safeCell_33 (tgt := 57) (by decide) (fun q33 => ?_) (fun q33 => ?_)
      · skip
        have q33 := (kb_eq).mp q33
        refine j_iinc C dX3_safeCell_57 (q := 4) (v := (nI (c + 1))) rfl (kc_inc c) (by decide) (lv' := [(4, .int (nI (c + 1))), (0, .ref h3), (1, .int (nI k)), (2, .int (nI dk)), (3, .int (nI (t0 + k)))]) rfl ?_
        refine j_goto C dX3_safeCell_60 (tgt := 15) (by decide) ?_
        refine j_lv [1, 2, 3, 4, 0] rfl ?_
        refine ih15 _ _ _ _ _ (by omega) ?_ ?_
        · omega
        · intro d hd
          by_cases h : d = c
          · rw [hE3 k hk3 c (by omega), decide_eq_true (by omega), Bool.true_and] at q33
            rw [h]; unfold pk1; rw [q33]; rfl
          · exact hf d (by omega)
      · skip
        have q33 := (kb_neq).mp q33
        refine j_aload_n C dX3_safeCell_36 0 rfl rfl ?_
        refine j_get C (hin3) (ci := 3) rfl 1 (by decide) (hl30) 0 rfl (v := .ref h4) rfl dX3_safeCell_37 ?_
        refine j_iload C dX3_safeCell_40 4 rfl ?_
        refine j_iload_n C dX3_safeCell_42 3 rfl rfl ?_
        refine j_iload_n C dX3_safeCell_43 3 rfl rfl ?_
        refine j_iload_n C dX3_safeCell_44 2 rfl rfl ?_
        refine j_iadd C dX3_safeCell_45 (v := (nI (t0 + k + dk))) (nI_add _ _) ?_
        refine j_callVM C rw_ (nA := 3) (As := [.int (nI c), .int (nI (t0 + k)), .int (nI (t0 + k + dk))]) (wr := [(h3, cO 3 [.ref hS, .ref h4, .ref he, .ref hy, .ref hc, .int (nI mk'_8), .int (nI p), .int (nI t0)]), (he, cO 0 [.ref hew]), (hew, cJ (xT X) 183 E'_7), (hy, cO 0 [.ref hyw]), (hyw, cJ (xT X) 183 Y), (hc, cO 0 [.ref hcw]), (hcw, cJ (xT X) 3 Ch), (hh, cO 0 [.ref hhw]), (hhw, cJ (xT X) 450 hd)]) (c_X4_firstLit (xl X) (xT X) h4 hS hs so sr hl hlw hdr hh hv hq ha sc sp st ss ob rq ax ay az lim LW'_5 dr'_6 c (t0 + k) (t0 + k + dk) (by omega) (by omega) (by omega) (by exact hI3)) gX3_safeCell_X4_firstLit rfl (by decide +kernel) rfl (by decide) (by decide) [7, 8, 9, 10, 11, 12, 13, 14, 15, 16] [0, 1, 2, 3, 4, 5, 6, 17, 18] rfl rfl rfl rfl (by decide) 7 rfl rfl (rest := []) rfl (Nat.le_of_ble_eq_true rfl) dX3_safeCell_46 ?_
        rintro _ _ ⟨ax'_9, ay'_10, az'_11, lim'_12, rf, rfl, rfl, hfl⟩
        show jj X 0 0 49 [(0, .ref h3), (1, .int (nI k)), (2, .int (nI dk)), (3, .int (nI (t0 + k))), (4, .int (nI c))] [.int rf] [(h3, cO 3 [.ref hS, .ref h4, .ref he, .ref hy, .ref hc, .int (nI mk'_8), .int (nI p), .int (nI t0)]), (he, cO 0 [.ref hew]), (hew, cJ (xT X) 183 E'_7), (hy, cO 0 [.ref hyw]), (hyw, cJ (xT X) 183 Y), (hc, cO 0 [.ref hcw]), (hcw, cJ (xT X) 3 Ch), (hh, cO 0 [.ref hhw]), (hhw, cJ (xT X) 450 hd), (h4, cO 4 [.ref hS, .ref hs, .ref hl, .ref hdr, .int ax'_9, .int ay'_10, .int az'_11, .long lim'_12]), (hs, cO 6 [.int (nI sc), .int (nI sp), .int (bI ss), .int (nI st), .ref so, .ref sr]), (so, cI (xT X) 21 ob), (sr, cI (xT X) 12 rq), (hl, cO 0 [.ref hlw]), (hlw, cJ (xT X) 903 LW'_5), (hdr, cZ (xT X) 301 (fun j => bI (dr'_6 j))), (hS, cO 5 [.ref hh, .ref hv, .ref hq, .ref ha]), (hv, cI (xT X) 450 cvec), (hq, cI (xT X) 150 csq)]
        refine j_bipush C dX3_safeCell_49 (v := (-9)) kc_b_m9 ?_
        refine j_icmp_ne C dX3_safeCell_51 (tgt := 57) (by decide) (fun q51 => ?_) (fun q51 => ?_)
        · skip
          refine j_iinc C dX3_safeCell_57 (q := 4) (v := (nI (c + 1))) rfl (kc_inc c) (by decide) (lv' := [(4, .int (nI (c + 1))), (0, .ref h3), (1, .int (nI k)), (2, .int (nI dk)), (3, .int (nI (t0 + k)))]) rfl ?_
          refine j_goto C dX3_safeCell_60 (tgt := 15) (by decide) ?_
          refine j_lv [1, 2, 3, 4, 0] rfl ?_
          refine j_perm C (w' := [(h3, cO 3 [.ref hS, .ref h4, .ref he, .ref hy, .ref hc, .int (nI mk'_8), .int (nI p), .int (nI t0)]), (he, cO 0 [.ref hew]), (hew, cJ (xT X) 183 E'_7), (hy, cO 0 [.ref hyw]), (hyw, cJ (xT X) 183 Y), (hc, cO 0 [.ref hcw]), (hcw, cJ (xT X) 3 Ch), (h4, cO 4 [.ref hS, .ref hs, .ref hl, .ref hdr, .int ax'_9, .int ay'_10, .int az'_11, .long lim'_12]), (hs, cO 6 [.int (nI sc), .int (nI sp), .int (bI ss), .int (nI st), .ref so, .ref sr]), (so, cI (xT X) 21 ob), (sr, cI (xT X) 12 rq), (hl, cO 0 [.ref hlw]), (hlw, cJ (xT X) 903 LW'_5), (hdr, cZ (xT X) 301 (fun j => bI (dr'_6 j))), (hS, cO 5 [.ref hh, .ref hv, .ref hq, .ref ha]), (hv, cI (xT X) 450 cvec), (hq, cI (xT X) 150 csq), (hh, cO 0 [.ref hhw]), (hhw, cJ (xT X) 450 hd)]) [0, 1, 2, 3, 4, 5, 6, 9, 10, 11, 12, 13, 14, 15, 16, 17, 18, 7, 8] rfl rfl ?_
          refine ih15 _ _ _ _ _ (by omega) ?_ ?_
          · omega
          · intro d hd
            by_cases h : d = c
            · rw [h]; unfold pk1
              cases hs : sd ob c (t0 + k) (t0 + k + dk)
              · rw [Bool.and_false]
              · exact absurd ((sd_n9 (by omega) hfl).mpr hs) q51
            · exact hf d (by omega)
        · skip
          refine j_iload C dX3_safeCell_54 4 rfl ?_
          refine j_perm C (w' := [(h3, cO 3 [.ref hS, .ref h4, .ref he, .ref hy, .ref hc, .int (nI mk'_8), .int (nI p), .int (nI t0)]), (he, cO 0 [.ref hew]), (hew, cJ (xT X) 183 E'_7), (hy, cO 0 [.ref hyw]), (hyw, cJ (xT X) 183 Y), (hc, cO 0 [.ref hcw]), (hcw, cJ (xT X) 3 Ch), (h4, cO 4 [.ref hS, .ref hs, .ref hl, .ref hdr, .int ax'_9, .int ay'_10, .int az'_11, .long lim'_12]), (hs, cO 6 [.int (nI sc), .int (nI sp), .int (bI ss), .int (nI st), .ref so, .ref sr]), (so, cI (xT X) 21 ob), (sr, cI (xT X) 12 rq), (hl, cO 0 [.ref hlw]), (hlw, cJ (xT X) 903 LW'_5), (hdr, cZ (xT X) 301 (fun j => bI (dr'_6 j))), (hS, cO 5 [.ref hh, .ref hv, .ref hq, .ref ha]), (hv, cI (xT X) 450 cvec), (hq, cI (xT X) 150 csq), (hh, cO 0 [.ref hhw]), (hhw, cJ (xT X) 450 hd)]) [0, 1, 2, 3, 4, 5, 6, 9, 10, 11, 12, 13, 14, 15, 16, 17, 18, 7, 8] rfl rfl ?_
          refine j_iretM C rw_ hQ (by decide) (by decide) rfl ?_ dX3_safeCell_56
          refine ⟨_, _, _, _, _, _, _, _, _, rfl, rfl, hm3, hI3, hE3, Or.inl ⟨c, by omega, ?_, hf, rfl⟩⟩
          unfold pk1
          rw [hE3 k hk3 c (by omega), decide_eq_true (by omega), Bool.true_and] at q33
          rw [q33, (sd_n9 (by omega) hfl).mp q51]; rfl

set_option maxHeartbeats 4000000 in
set_option maxRecDepth 100000 in
/-- stepsToPark(darkTime) -/
theorem c_X3_stepsToPark (l : Launch) (T : jj_T) (h3 h4 he hew hy hyw hc hcw hS hs so sr hl hlw hdr hh hv hq ha hhw sc sp st mk p t0 : Nat) (ss : Bool) (ob rq : Nat → Int32) (ax ay az : Int32) (lim : Int64) (LW E Y Ch hd : Nat → Int64) (dr : Nat → Bool) (dk : Nat) (hp : p < 150) (ht0 : t0 ≤ 240) (hmk : mk ≤ 60) (hI : skI ob dr LW) (hE : plI ob t0 p mk E) (hH : hdI hd) (hdk : dk ≤ 40) : jM l T yX3_stepsToPark wsX3_stepsToPark { frames := 5, cells := 0, slots := 0, locals := 119 } [.ref h3, .int (nI dk)] [(h3, cO 3 [.ref hS, .ref h4, .ref he, .ref hy, .ref hc, .int (nI mk), .int (nI p), .int (nI t0)]), (he, cO 0 [.ref hew]), (hew, cJ T 183 E), (hy, cO 0 [.ref hyw]), (hyw, cJ T 183 Y), (hc, cO 0 [.ref hcw]), (hcw, cJ T 3 Ch), (h4, cO 4 [.ref hS, .ref hs, .ref hl, .ref hdr, .int ax, .int ay, .int az, .long lim]), (hs, cO 6 [.int (nI sc), .int (nI sp), .int (bI ss), .int (nI st), .ref so, .ref sr]), (so, cI T 21 ob), (sr, cI T 12 rq), (hl, cO 0 [.ref hlw]), (hlw, cJ T 903 LW), (hdr, cZ T 301 (fun j => bI (dr j))), (hS, cO 5 [.ref hh, .ref hv, .ref hq, .ref ha]), (hv, cI T 450 cvec), (hq, cI T 150 csq), (hh, cO 0 [.ref hhw]), (hhw, cJ T 450 hd)] (fun v w1 => ∃ ax' : Int32, ∃ ay' : Int32, ∃ az' : Int32, ∃ lim' : Int64, ∃ LW' : Nat → Int64, ∃ dr' : Nat → Bool, ∃ E' : Nat → Int64, ∃ mk' : Nat, ∃ r : Int32, v = some (.int r) ∧ w1 = [(h3, cO 3 [.ref hS, .ref h4, .ref he, .ref hy, .ref hc, .int (nI mk'), .int (nI p), .int (nI t0)]), (he, cO 0 [.ref hew]), (hew, cJ T 183 E'), (hy, cO 0 [.ref hyw]), (hyw, cJ T 183 Y), (hc, cO 0 [.ref hcw]), (hcw, cJ T 3 Ch), (h4, cO 4 [.ref hS, .ref hs, .ref hl, .ref hdr, .int ax', .int ay', .int az', .long lim']), (hs, cO 6 [.int (nI sc), .int (nI sp), .int (bI ss), .int (nI st), .ref so, .ref sr]), (so, cI T 21 ob), (sr, cI T 12 rq), (hl, cO 0 [.ref hlw]), (hlw, cJ T 903 LW'), (hdr, cZ T 301 (fun j => bI (dr' j))), (hS, cO 5 [.ref hh, .ref hv, .ref hq, .ref ha]), (hv, cI T 450 cvec), (hq, cI T 150 csq), (hh, cO 0 [.ref hhw]), (hhw, cJ T 450 hd)] ∧ (mk' ≤ 60) ∧ (skI ob dr' LW') ∧ (plI ob t0 p mk' E') ∧ (ft_is (pk ob t0 p dk) 0 60 r)) := by
  refine jM.of (cc := cX3_stepsToPark) (maxL := 3) (ret := (some .int)) (by decide) rfl (Nat.le_of_ble_eq_true rfl) ?_
  intro X C rw_ hl hT hQ hnm
  subst hl; subst hT
  show jj X 0 0 0 [(0, .ref h3), (1, .int (nI dk))] [] [(h3, cO 3 [.ref hS, .ref h4, .ref he, .ref hy, .ref hc, .int (nI mk), .int (nI p), .int (nI t0)]), (he, cO 0 [.ref hew]), (hew, cJ (xT X) 183 E), (hy, cO 0 [.ref hyw]), (hyw, cJ (xT X) 183 Y), (hc, cO 0 [.ref hcw]), (hcw, cJ (xT X) 3 Ch), (h4, cO 4 [.ref hS, .ref hs, .ref hl, .ref hdr, .int ax, .int ay, .int az, .long lim]), (hs, cO 6 [.int (nI sc), .int (nI sp), .int (bI ss), .int (nI st), .ref so, .ref sr]), (so, cI (xT X) 21 ob), (sr, cI (xT X) 12 rq), (hl, cO 0 [.ref hlw]), (hlw, cJ (xT X) 903 LW), (hdr, cZ (xT X) 301 (fun j => bI (dr j))), (hS, cO 5 [.ref hh, .ref hv, .ref hq, .ref ha]), (hv, cI (xT X) 450 cvec), (hq, cI (xT X) 150 csq), (hh, cO 0 [.ref hhw]), (hhw, cJ (xT X) 450 hd)]
  refine j_iconst C dX3_stepsToPark_0 (v := (nI 0)) kc_i_0 ?_
  refine j_istore_n C dX3_stepsToPark_1 rfl (by decide) (lv' := [(2, .int (nI 0)), (0, .ref h3), (1, .int (nI dk))]) rfl ?_
  refine j_lv [1, 2, 0] rfl ?_
  suffices hc2 : ∀ (mm : Nat) (k mk : Nat) (ax ay az : Int32) (lim : Int64) (LW E : Nat → Int64) (dr : Nat → Bool), 61 - k < mm → (k ≤ 61) → (mk ≤ 60) → (skI ob dr LW) → (plI ob t0 p mk E) → (∀ s, s < k → pk ob t0 p dk s = false) → jj X 0 0 2 [(0, .ref h3), (1, .int (nI dk)), (2, .int (nI k))] [] [(h3, cO 3 [.ref hS, .ref h4, .ref he, .ref hy, .ref hc, .int (nI mk), .int (nI p), .int (nI t0)]), (he, cO 0 [.ref hew]), (hew, cJ (xT X) 183 E), (hy, cO 0 [.ref hyw]), (hyw, cJ (xT X) 183 Y), (hc, cO 0 [.ref hcw]), (hcw, cJ (xT X) 3 Ch), (h4, cO 4 [.ref hS, .ref hs, .ref hl, .ref hdr, .int ax, .int ay, .int az, .long lim]), (hs, cO 6 [.int (nI sc), .int (nI sp), .int (bI ss), .int (nI st), .ref so, .ref sr]), (so, cI (xT X) 21 ob), (sr, cI (xT X) 12 rq), (hl, cO 0 [.ref hlw]), (hlw, cJ (xT X) 903 LW), (hdr, cZ (xT X) 301 (fun j => bI (dr j))), (hS, cO 5 [.ref hh, .ref hv, .ref hq, .ref ha]), (hv, cI (xT X) 450 cvec), (hq, cI (xT X) 150 csq), (hh, cO 0 [.ref hhw]), (hhw, cJ (xT X) 450 hd)] by
    refine hc2 _ _ _ _ _ _ _ _ _ _ (Nat.lt_succ_self _) ?_ ?_ ?_ ?_ ?_
    · omega
    · omega
    · exact hI
    · exact hE
    · intro s hs; omega
  intro mm
  induction mm with
  | zero => intro k mk ax ay az lim LW E dr hm; exact absurd hm (Nat.not_lt_zero _)
  | succ mm ih2 =>
    intro k mk ax ay az lim LW E dr hm2 hk hmk hI hE hf
    refine j_iload_n C dX3_stepsToPark_2 2 rfl rfl ?_
    refine j_bipush C dX3_stepsToPark_3 (v := (nI 60)) kc_b_60 ?_
    refine j_icmp_gt C dX3_stepsToPark_5 (tgt := 27) (by decide) (fun q5 => ?_) (fun q5 => ?_)
    · skip
      have q5 := (kn_gt (a := k) (b := 60) (by omega) (by omega)).mp q5
      refine j_bipush C dX3_stepsToPark_27 (v := (-9)) kc_b_m9 ?_
      refine j_iretM C rw_ hQ (by decide) (by decide) rfl ?_ dX3_stepsToPark_29
      exact ⟨_, _, _, _, _, _, _, _, _, rfl, rfl, hmk, hI, hE, Or.inr ⟨fun s _ hs => hf s (by omega), rfl⟩⟩
    · skip
      have q5 := (kn_ngt (a := k) (b := 60) (by omega) (by omega)).mp q5
      refine j_aload_n C dX3_stepsToPark_8 0 rfl rfl ?_
      refine j_iload_n C dX3_stepsToPark_9 2 rfl rfl ?_
      refine j_iload_n C dX3_stepsToPark_10 1 rfl rfl ?_
      refine j_callVM C rw_ (nA := 2) (As := [.int (nI k), .int (nI dk)]) (wr := []) (c_X3_safeCell (xl X) (xT X) h3 h4 he hew hy hyw hc hcw hS hs so sr hl hlw hdr hh hv hq ha hhw sc sp st mk p t0 ss ob rq ax ay az lim LW E Y Ch hd dr k dk (by omega) (by omega) (by omega) (by exact hI) (by exact hE) (by exact hH) (by omega) (by omega)) gX3_stepsToPark_X3_safeCell rfl (by decide +kernel) rfl (by decide) (by decide) [0, 1, 2, 3, 4, 5, 6, 7, 8, 9, 10, 11, 12, 13, 14, 15, 16, 17, 18] [] rfl rfl rfl rfl (by decide) 0 rfl rfl (rest := []) rfl (Nat.le_of_ble_eq_true rfl) dX3_stepsToPark_11 ?_
      rintro _ _ ⟨ax'_1, ay'_2, az'_3, lim'_4, LW'_5, dr'_6, E'_7, mk'_8, r_9, rfl, rfl, hm3, hI3, hE3, hr3⟩
      show jj X 0 0 14 [(0, .ref h3), (1, .int (nI dk)), (2, .int (nI k))] [.int r_9] [(h3, cO 3 [.ref hS, .ref h4, .ref he, .ref hy, .ref hc, .int (nI mk'_8), .int (nI p), .int (nI t0)]), (he, cO 0 [.ref hew]), (hew, cJ (xT X) 183 E'_7), (hy, cO 0 [.ref hyw]), (hyw, cJ (xT X) 183 Y), (hc, cO 0 [.ref hcw]), (hcw, cJ (xT X) 3 Ch), (h4, cO 4 [.ref hS, .ref hs, .ref hl, .ref hdr, .int ax'_1, .int ay'_2, .int az'_3, .long lim'_4]), (hs, cO 6 [.int (nI sc), .int (nI sp), .int (bI ss), .int (nI st), .ref so, .ref sr]), (so, cI (xT X) 21 ob), (sr, cI (xT X) 12 rq), (hl, cO 0 [.ref hlw]), (hlw, cJ (xT X) 903 LW'_5), (hdr, cZ (xT X) 301 (fun j => bI (dr'_6 j))), (hS, cO 5 [.ref hh, .ref hv, .ref hq, .ref ha]), (hv, cI (xT X) 450 cvec), (hq, cI (xT X) 150 csq), (hh, cO 0 [.ref hhw]), (hhw, cJ (xT X) 450 hd)]
      refine j_bipush C dX3_stepsToPark_14 (v := (-9)) kc_b_m9 ?_
      refine j_icmp_eq C dX3_stepsToPark_16 (tgt := 21) (by decide) (fun q16 => ?_) (fun q16 => ?_)
      · skip
        refine j_iinc C dX3_stepsToPark_21 (q := 2) (v := (nI (k + 1))) rfl (kc_inc k) (by decide) (lv' := [(2, .int (nI (k + 1))), (0, .ref h3), (1, .int (nI dk))]) rfl ?_
        refine j_goto C dX3_stepsToPark_24 (tgt := 2) (by decide) ?_
        refine j_lv [1, 2, 0] rfl ?_
        refine ih2 _ _ _ _ _ _ _ _ _ (by omega) ?_ ?_ ?_ ?_ ?_
        · omega
        · exact hm3
        · exact hI3
        · exact hE3
        · intro s hs
          by_cases h : s = k
          · rw [h]; exact pk_f.mpr ((fs_n9 (by decide) hr3).mp q16)
          · exact hf s (by omega)
      · skip
        refine j_iload_n C dX3_stepsToPark_19 2 rfl rfl ?_
        refine j_iretM C rw_ hQ (by decide) (by decide) rfl ?_ dX3_stepsToPark_20
        refine ⟨_, _, _, _, _, _, _, _, _, rfl, rfl, hm3, hI3, hE3, Or.inl ⟨k, Nat.zero_le _, by omega, ?_, fun d _ hd' => hf d hd', rfl⟩⟩
        cases hp9 : pk ob t0 p dk k
        · exact absurd ((fs_n9 (by decide) hr3).mpr (pk_f.mp hp9)) q16
        · rfl

set_option maxHeartbeats 4000000 in
set_option maxRecDepth 100000 in
/-- finishOf(target, exposure, deadline) -/
theorem c_X3_finishOf (l : Launch) (T : jj_T) (h3 h4 he hew hy hyw hc hcw hS hs so sr hl hlw hdr hh hv hq ha hhw sc sp st mk p t0 : Nat) (ss : Bool) (ob rq : Nat → Int32) (ax ay az : Int32) (lim : Int64) (LW E Y Ch hd : Nat → Int64) (dr : Nat → Bool) (tg e dl : Nat) (hp : p < 150) (ht0 : t0 ≤ 300) (hmk : mk ≤ 60) (hI : skI ob dr LW) (hE : plI ob t0 p mk E) (hH : hdI hd) (htg : tg < 150) (he1 : e ≤ 20) (hdl : dl ≤ 300) : jM l T yX3_finishOf wsX3_finishOf { frames := 4, cells := 0, slots := 0, locals := 95 } [.ref h3, .int (nI tg), .int (nI e), .int (nI dl)] [(h3, cO 3 [.ref hS, .ref h4, .ref he, .ref hy, .ref hc, .int (nI mk), .int (nI p), .int (nI t0)]), (he, cO 0 [.ref hew]), (hew, cJ T 183 E), (hy, cO 0 [.ref hyw]), (hyw, cJ T 183 Y), (hc, cO 0 [.ref hcw]), (hcw, cJ T 3 Ch), (h4, cO 4 [.ref hS, .ref hs, .ref hl, .ref hdr, .int ax, .int ay, .int az, .long lim]), (hs, cO 6 [.int (nI sc), .int (nI sp), .int (bI ss), .int (nI st), .ref so, .ref sr]), (so, cI T 21 ob), (sr, cI T 12 rq), (hl, cO 0 [.ref hlw]), (hlw, cJ T 903 LW), (hdr, cZ T 301 (fun j => bI (dr j))), (hS, cO 5 [.ref hh, .ref hv, .ref hq, .ref ha]), (hv, cI T 450 cvec), (hq, cI T 150 csq), (hh, cO 0 [.ref hhw]), (hhw, cJ T 450 hd)] (fun v w1 => ∃ ax' : Int32, ∃ ay' : Int32, ∃ az' : Int32, ∃ lim' : Int64, ∃ LW' : Nat → Int64, ∃ dr' : Nat → Bool, ∃ E' : Nat → Int64, ∃ mk' : Nat, ∃ r : Int32, v = some (.int r) ∧ w1 = [(h3, cO 3 [.ref hS, .ref h4, .ref he, .ref hy, .ref hc, .int (nI mk'), .int (nI p), .int (nI t0)]), (he, cO 0 [.ref hew]), (hew, cJ T 183 E'), (hy, cO 0 [.ref hyw]), (hyw, cJ T 183 Y), (hc, cO 0 [.ref hcw]), (hcw, cJ T 3 Ch), (h4, cO 4 [.ref hS, .ref hs, .ref hl, .ref hdr, .int ax', .int ay', .int az', .long lim']), (hs, cO 6 [.int (nI sc), .int (nI sp), .int (bI ss), .int (nI st), .ref so, .ref sr]), (so, cI T 21 ob), (sr, cI T 12 rq), (hl, cO 0 [.ref hlw]), (hlw, cJ T 903 LW'), (hdr, cZ T 301 (fun j => bI (dr' j))), (hS, cO 5 [.ref hh, .ref hv, .ref hq, .ref ha]), (hv, cI T 450 cvec), (hq, cI T 150 csq), (hh, cO 0 [.ref hhw]), (hhw, cJ T 450 hd)] ∧ (mk' ≤ 60) ∧ (skI ob dr' LW') ∧ (fin_is ob t0 p tg e dl r)) := by
  refine jM.of (cc := cX3_finishOf) (maxL := 7) (ret := (some .int)) (by decide) rfl (Nat.le_of_ble_eq_true rfl) ?_
  intro X C rw_ hl hT hQ hnm
  subst hl; subst hT
  have hin3 : ∀ w ∈ u_ws RX3 TX3 8, w ∈ wsX3_finishOf := by decide +kernel
  have hl14 : Cond.fieldLink RX3 14 (TX3 2).1 (TX3 2).2.1 (TX3 2).2.2.1 ∈ wsX3_finishOf := by decide +kernel
  have hl30 : Cond.fieldLink RX3 30 (TX3 1).1 (TX3 1).2.1 (TX3 1).2.2.1 ∈ wsX3_finishOf := by decide +kernel
  have hl38 : Cond.fieldLink RX3 38 (TX3 7).1 (TX3 7).2.1 (TX3 7).2.2.1 ∈ wsX3_finishOf := by decide +kernel
  show jj X 0 0 0 [(0, .ref h3), (1, .int (nI tg)), (2, .int (nI e)), (3, .int (nI dl))] [] [(h3, cO 3 [.ref hS, .ref h4, .ref he, .ref hy, .ref hc, .int (nI mk), .int (nI p), .int (nI t0)]), (he, cO 0 [.ref hew]), (hew, cJ (xT X) 183 E), (hy, cO 0 [.ref hyw]), (hyw, cJ (xT X) 183 Y), (hc, cO 0 [.ref hcw]), (hcw, cJ (xT X) 3 Ch), (h4, cO 4 [.ref hS, .ref hs, .ref hl, .ref hdr, .int ax, .int ay, .int az, .long lim]), (hs, cO 6 [.int (nI sc), .int (nI sp), .int (bI ss), .int (nI st), .ref so, .ref sr]), (so, cI (xT X) 21 ob), (sr, cI (xT X) 12 rq), (hl, cO 0 [.ref hlw]), (hlw, cJ (xT X) 903 LW), (hdr, cZ (xT X) 301 (fun j => bI (dr j))), (hS, cO 5 [.ref hh, .ref hv, .ref hq, .ref ha]), (hv, cI (xT X) 450 cvec), (hq, cI (xT X) 150 csq), (hh, cO 0 [.ref hhw]), (hhw, cJ (xT X) 450 hd)]
  refine j_iload_n C dX3_finishOf_0 3 rfl rfl ?_
  refine j_iload_n C dX3_finishOf_1 2 rfl rfl ?_
  refine j_isub C dX3_finishOf_2 (v := (nI dl - nI e)) rfl ?_
  refine j_aload_n C dX3_finishOf_3 0 rfl rfl ?_
  refine j_get C (hin3) (ci := 3) rfl 7 (by decide) (hl38) 0 rfl (v := .int (nI t0)) rfl dX3_finishOf_4 ?_
  refine j_isub C dX3_finishOf_7 (v := (nI dl - nI e - nI t0)) rfl ?_
  refine j_istore C dX3_finishOf_8 (by decide) (lv' := [(4, .int (nI dl - nI e - nI t0)), (0, .ref h3), (1, .int (nI tg)), (2, .int (nI e)), (3, .int (nI dl))]) rfl ?_
  refine j_iconst C dX3_finishOf_10 (v := (nI 0)) kc_i_0 ?_
  refine j_istore C dX3_finishOf_11 (by decide) (lv' := [(5, .int (nI 0)), (4, .int (nI dl - nI e - nI t0)), (0, .ref h3), (1, .int (nI tg)), (2, .int (nI e)), (3, .int (nI dl))]) rfl ?_
  refine j_lv [2, 3, 4, 5, 1, 0] rfl ?_
  suffices hc13 : ∀ (mm : Nat) (k mk : Nat) (ax ay az : Int32) (lim : Int64) (LW E : Nat → Int64) (dr : Nat → Bool), 61 - k < mm → (k ≤ 61) → (mk ≤ 60) → (skI ob dr LW) → (plI ob t0 p mk E) → (∀ j, j < k → fok ob t0 p tg e j = false) → jj X 0 0 13 [(0, .ref h3), (1, .int (nI tg)), (2, .int (nI e)), (3, .int (nI dl)), (4, .int (nI dl - nI e - nI t0)), (5, .int (nI k))] [] [(h3, cO 3 [.ref hS, .ref h4, .ref he, .ref hy, .ref hc, .int (nI mk), .int (nI p), .int (nI t0)]), (he, cO 0 [.ref hew]), (hew, cJ (xT X) 183 E), (hy, cO 0 [.ref hyw]), (hyw, cJ (xT X) 183 Y), (hc, cO 0 [.ref hcw]), (hcw, cJ (xT X) 3 Ch), (h4, cO 4 [.ref hS, .ref hs, .ref hl, .ref hdr, .int ax, .int ay, .int az, .long lim]), (hs, cO 6 [.int (nI sc), .int (nI sp), .int (bI ss), .int (nI st), .ref so, .ref sr]), (so, cI (xT X) 21 ob), (sr, cI (xT X) 12 rq), (hl, cO 0 [.ref hlw]), (hlw, cJ (xT X) 903 LW), (hdr, cZ (xT X) 301 (fun j => bI (dr j))), (hS, cO 5 [.ref hh, .ref hv, .ref hq, .ref ha]), (hv, cI (xT X) 450 cvec), (hq, cI (xT X) 150 csq), (hh, cO 0 [.ref hhw]), (hhw, cJ (xT X) 450 hd)] by
    refine hc13 _ _ _ _ _ _ _ _ _ _ (Nat.lt_succ_self _) ?_ ?_ ?_ ?_ ?_
    · omega
    · omega
    · exact hI
    · exact hE
    · intro s hs; omega
  intro mm
  induction mm with
  | zero => intro k mk ax ay az lim LW E dr hm; exact absurd hm (Nat.not_lt_zero _)
  | succ mm ih13 =>
    intro k mk ax ay az lim LW E dr hm13 hk hmk hI hE hf
    refine j_iload C dX3_finishOf_13 5 rfl ?_
    refine j_iload C dX3_finishOf_15 4 rfl ?_
    refine j_icmp_gt C dX3_finishOf_17 (tgt := 85) (by decide) (fun q17 => ?_) (fun q17 => ?_)
    · skip
      have hlt := (most_lt (by omega) (by omega) (by omega) (by omega)).mp q17
      refine j_bipush C dX3_finishOf_85 (v := (-9)) kc_b_m9 ?_
      refine j_iretM C rw_ hQ (by decide) (by decide) rfl ?_ dX3_finishOf_87
      exact ⟨_, _, _, _, _, _, _, _, _, rfl, rfl, hmk, hI, Or.inr ⟨fun j h1 h2 => hf j (by omega), rfl⟩⟩
    · skip
      have hle := mt (most_lt (by omega) (by omega) (by omega) (by omega)).mpr q17
      refine j_iload C dX3_finishOf_20 5 rfl ?_
      refine j_bipush C dX3_finishOf_22 (v := (nI 60)) kc_b_60 ?_
      refine j_icmp_gt C dX3_finishOf_24 (tgt := 85) (by decide) (fun q24 => ?_) (fun q24 => ?_)
      · skip
        have q24 := (kn_gt (a := k) (b := 60) (by omega) (by omega)).mp q24
        refine j_bipush C dX3_finishOf_85 (v := (-9)) kc_b_m9 ?_
        refine j_iretM C rw_ hQ (by decide) (by decide) rfl ?_ dX3_finishOf_87
        exact ⟨_, _, _, _, _, _, _, _, _, rfl, rfl, hmk, hI, Or.inr ⟨fun j h1 h2 => hf j (by omega), rfl⟩⟩
      · skip
        have q24 := (kn_ngt (a := k) (b := 60) (by omega) (by omega)).mp q24
        refine j_aload_n C dX3_finishOf_27 0 rfl rfl ?_
        refine j_get C (hin3) (ci := 3) rfl 7 (by decide) (hl38) 0 rfl (v := .int (nI t0)) rfl dX3_finishOf_28 ?_
        refine j_iload C dX3_finishOf_31 5 rfl ?_
        refine j_iadd C dX3_finishOf_33 (v := (nI (t0 + k))) (nI_add _ _) ?_
        refine j_istore C dX3_finishOf_34 (by decide) (lv' := [(6, .int (nI (t0 + k))), (0, .ref h3), (1, .int (nI tg)), (2, .int (nI e)), (3, .int (nI dl)), (4, .int (nI dl - nI e - nI t0)), (5, .int (nI k))]) rfl ?_
        refine j_aload_n C dX3_finishOf_36 1 rfl rfl ?_
        refine j_get C (hin3) (ci := 3) rfl 1 (by decide) (hl30) 0 rfl (v := .ref h4) rfl dX3_finishOf_37 ?_
        refine j_iload_n C dX3_finishOf_40 2 rfl rfl ?_
        refine j_iload C dX3_finishOf_41 0 rfl ?_
        refine j_iload C dX3_finishOf_43 0 rfl ?_
        refine j_iload_n C dX3_finishOf_45 3 rfl rfl ?_
        refine j_iadd C dX3_finishOf_46 (v := (nI (t0 + k + e))) (nI_add _ _) ?_
        refine j_callVM C rw_ (nA := 3) (As := [.int (nI tg), .int (nI (t0 + k)), .int (nI (t0 + k + e))]) (wr := [(h3, cO 3 [.ref hS, .ref h4, .ref he, .ref hy, .ref hc, .int (nI mk), .int (nI p), .int (nI t0)]), (he, cO 0 [.ref hew]), (hew, cJ (xT X) 183 E), (hy, cO 0 [.ref hyw]), (hyw, cJ (xT X) 183 Y), (hc, cO 0 [.ref hcw]), (hcw, cJ (xT X) 3 Ch), (hh, cO 0 [.ref hhw]), (hhw, cJ (xT X) 450 hd)]) (c_X4_firstLit (xl X) (xT X) h4 hS hs so sr hl hlw hdr hh hv hq ha sc sp st ss ob rq ax ay az lim LW dr tg (t0 + k) (t0 + k + e) (by omega) (by omega) (by omega) (by exact hI)) gX3_finishOf_X4_firstLit rfl (by decide +kernel) rfl (by decide) (by decide) [7, 8, 9, 10, 11, 12, 13, 14, 15, 16] [0, 1, 2, 3, 4, 5, 6, 17, 18] rfl rfl rfl rfl (by decide) 7 rfl rfl (rest := []) rfl (Nat.le_of_ble_eq_true rfl) dX3_finishOf_47 ?_
        rintro _ _ ⟨ax'_1, ay'_2, az'_3, lim'_4, rf, rfl, rfl, hfl⟩
        show jj X 0 0 50 [(6, .int (nI (t0 + k))), (0, .ref h3), (1, .int (nI tg)), (2, .int (nI e)), (3, .int (nI dl)), (4, .int (nI dl - nI e - nI t0)), (5, .int (nI k))] [.int rf] [(h3, cO 3 [.ref hS, .ref h4, .ref he, .ref hy, .ref hc, .int (nI mk), .int (nI p), .int (nI t0)]), (he, cO 0 [.ref hew]), (hew, cJ (xT X) 183 E), (hy, cO 0 [.ref hyw]), (hyw, cJ (xT X) 183 Y), (hc, cO 0 [.ref hcw]), (hcw, cJ (xT X) 3 Ch), (hh, cO 0 [.ref hhw]), (hhw, cJ (xT X) 450 hd), (h4, cO 4 [.ref hS, .ref hs, .ref hl, .ref hdr, .int ax'_1, .int ay'_2, .int az'_3, .long lim'_4]), (hs, cO 6 [.int (nI sc), .int (nI sp), .int (bI ss), .int (nI st), .ref so, .ref sr]), (so, cI (xT X) 21 ob), (sr, cI (xT X) 12 rq), (hl, cO 0 [.ref hlw]), (hlw, cJ (xT X) 903 LW), (hdr, cZ (xT X) 301 (fun j => bI (dr j))), (hS, cO 5 [.ref hh, .ref hv, .ref hq, .ref ha]), (hv, cI (xT X) 450 cvec), (hq, cI (xT X) 150 csq)]
        refine j_bipush C dX3_finishOf_50 (v := (-9)) kc_b_m9 ?_
        refine j_icmp_ne C dX3_finishOf_52 (tgt := 79) (by decide) (fun q52 => ?_) (fun q52 => ?_)
        · skip
          refine j_iinc C dX3_finishOf_79 (q := 6) (v := (nI (k + 1))) rfl (kc_inc k) (by decide) (lv' := [(5, .int (nI (k + 1))), (6, .int (nI (t0 + k))), (0, .ref h3), (1, .int (nI tg)), (2, .int (nI e)), (3, .int (nI dl)), (4, .int (nI dl - nI e - nI t0))]) rfl ?_
          refine j_goto C dX3_finishOf_82 (tgt := 13) (by decide) ?_
          refine j_lv [2, 3, 4, 5, 6, 0] rfl ?_
          refine j_perm C (w' := [(h3, cO 3 [.ref hS, .ref h4, .ref he, .ref hy, .ref hc, .int (nI mk), .int (nI p), .int (nI t0)]), (he, cO 0 [.ref hew]), (hew, cJ (xT X) 183 E), (hy, cO 0 [.ref hyw]), (hyw, cJ (xT X) 183 Y), (hc, cO 0 [.ref hcw]), (hcw, cJ (xT X) 3 Ch), (h4, cO 4 [.ref hS, .ref hs, .ref hl, .ref hdr, .int ax'_1, .int ay'_2, .int az'_3, .long lim'_4]), (hs, cO 6 [.int (nI sc), .int (nI sp), .int (bI ss), .int (nI st), .ref so, .ref sr]), (so, cI (xT X) 21 ob), (sr, cI (xT X) 12 rq), (hl, cO 0 [.ref hlw]), (hlw, cJ (xT X) 903 LW), (hdr, cZ (xT X) 301 (fun j => bI (dr j))), (hS, cO 5 [.ref hh, .ref hv, .ref hq, .ref ha]), (hv, cI (xT X) 450 cvec), (hq, cI (xT X) 150 csq), (hh, cO 0 [.ref hhw]), (hhw, cJ (xT X) 450 hd)]) [0, 1, 2, 3, 4, 5, 6, 9, 10, 11, 12, 13, 14, 15, 16, 17, 18, 7, 8] rfl rfl ?_
          refine ih13 _ _ _ _ _ _ _ _ _ (by omega) ?_ ?_ ?_ ?_ ?_
          · omega
          · exact hmk
          · exact hI
          · exact hE
          · intro s hs
            by_cases h : s = k
            · rw [h]; unfold fok
              cases hs : sd ob tg (t0 + k) (t0 + k + e)
              · rfl
              · exact absurd ((sd_n9 (by omega) hfl).mpr hs) q52
            · exact hf s (by omega)
        · skip
          refine j_aload_n C dX3_finishOf_55 1 rfl rfl ?_
          refine j_iload C dX3_finishOf_56 6 rfl ?_
          refine j_callVM C rw_ (nA := 1) (As := [.int (nI k)]) (wr := []) (c_X3_makeEnds (xl X) (xT X) h3 h4 he hew hy hyw hc hcw hS hs so sr hl hlw hdr hh hv hq ha hhw sc sp st mk p t0 ss ob rq ax'_1 ay'_2 az'_3 lim'_4 LW E Y Ch hd dr k (by omega) (by omega) (by omega) (by exact hI) (by exact hE) (by exact hH) (by omega)) gX3_finishOf_X3_makeEnds rfl (by decide +kernel) rfl (by decide) (by decide) [0, 1, 2, 3, 4, 5, 6, 9, 10, 11, 12, 13, 14, 15, 16, 17, 18, 7, 8] [] rfl rfl rfl rfl (by decide) 0 rfl rfl (rest := []) rfl (Nat.le_of_ble_eq_true rfl) dX3_finishOf_58 ?_
          rintro _ _ ⟨ax'_5, ay'_6, az'_7, lim'_8, LW'_9, dr'_10, E'_11, mk'_12, rfl, rfl, hm3, hk3, hI3, hE3⟩
          show jj X 0 0 61 [(6, .int (nI (t0 + k))), (0, .ref h3), (1, .int (nI tg)), (2, .int (nI e)), (3, .int (nI dl)), (4, .int (nI dl - nI e - nI t0)), (5, .int (nI k))] [] [(h3, cO 3 [.ref hS, .ref h4, .ref he, .ref hy, .ref hc, .int (nI mk'_12), .int (nI p), .int (nI t0)]), (he, cO 0 [.ref hew]), (hew, cJ (xT X) 183 E'_11), (hy, cO 0 [.ref hyw]), (hyw, cJ (xT X) 183 Y), (hc, cO 0 [.ref hcw]), (hcw, cJ (xT X) 3 Ch), (h4, cO 4 [.ref hS, .ref hs, .ref hl, .ref hdr, .int ax'_5, .int ay'_6, .int az'_7, .long lim'_8]), (hs, cO 6 [.int (nI sc), .int (nI sp), .int (bI ss), .int (nI st), .ref so, .ref sr]), (so, cI (xT X) 21 ob), (sr, cI (xT X) 12 rq), (hl, cO 0 [.ref hlw]), (hlw, cJ (xT X) 903 LW'_9), (hdr, cZ (xT X) 301 (fun j => bI (dr'_10 j))), (hS, cO 5 [.ref hh, .ref hv, .ref hq, .ref ha]), (hv, cI (xT X) 450 cvec), (hq, cI (xT X) 150 csq), (hh, cO 0 [.ref hhw]), (hhw, cJ (xT X) 450 hd)]
          refine j_aload_n C dX3_finishOf_61 1 rfl rfl ?_
          refine j_get C (hin3) (ci := 3) rfl 2 (by decide) (hl14) 0 rfl (v := .ref he) rfl dX3_finishOf_62 ?_
          refine j_iload C dX3_finishOf_65 6 rfl ?_
          refine j_iload_n C dX3_finishOf_67 2 rfl rfl ?_
          refine j_callVR C (nA := 2) (As := [.int (nI k), .int (nI tg)]) (c_X0_has (xl X) (xT X) he hew 183 k tg E'_11 (by omega) (by omega) (by omega)) gX3_finishOf_X0_has rfl (by decide +kernel) rfl ⟨rfl, rfl⟩ (by decide) (by decide) [1, 2] rfl rfl 1 rfl rfl (rest := []) rfl (Nat.le_of_ble_eq_true rfl) dX3_finishOf_68 ?_
          rintro _ rfl
          show jj X 0 0 71 [(6, .int (nI (t0 + k))), (0, .ref h3), (1, .int (nI tg)), (2, .int (nI e)), (3, .int (nI dl)), (4, .int (nI dl - nI e - nI t0)), (5, .int (nI k))] [.int (bI (cs_b E'_11 k tg))] [(h3, cO 3 [.ref hS, .ref h4, .ref he, .ref hy, .ref hc, .int (nI mk'_12), .int (nI p), .int (nI t0)]), (he, cO 0 [.ref hew]), (hew, cJ (xT X) 183 E'_11), (hy, cO 0 [.ref hyw]), (hyw, cJ (xT X) 183 Y), (hc, cO 0 [.ref hcw]), (hcw, cJ (xT X) 3 Ch), (h4, cO 4 [.ref hS, .ref hs, .ref hl, .ref hdr, .int ax'_5, .int ay'_6, .int az'_7, .long lim'_8]), (hs, cO 6 [.int (nI sc), .int (nI sp), .int (bI ss), .int (nI st), .ref so, .ref sr]), (so, cI (xT X) 21 ob), (sr, cI (xT X) 12 rq), (hl, cO 0 [.ref hlw]), (hlw, cJ (xT X) 903 LW'_9), (hdr, cZ (xT X) 301 (fun j => bI (dr'_10 j))), (hS, cO 5 [.ref hh, .ref hv, .ref hq, .ref ha]), (hv, cI (xT X) 450 cvec), (hq, cI (xT X) 150 csq), (hh, cO 0 [.ref hhw]), (hhw, cJ (xT X) 450 hd)]
          refine j_if_eq C dX3_finishOf_71 (tgt := 79) (by decide) (fun q71 => ?_) (fun q71 => ?_)
          · skip
            have q71 := (kb_eq).mp q71
            refine j_iinc C dX3_finishOf_79 (q := 6) (v := (nI (k + 1))) rfl (kc_inc k) (by decide) (lv' := [(5, .int (nI (k + 1))), (6, .int (nI (t0 + k))), (0, .ref h3), (1, .int (nI tg)), (2, .int (nI e)), (3, .int (nI dl)), (4, .int (nI dl - nI e - nI t0))]) rfl ?_
            refine j_goto C dX3_finishOf_82 (tgt := 13) (by decide) ?_
            refine j_lv [2, 3, 4, 5, 6, 0] rfl ?_
            refine ih13 _ _ _ _ _ _ _ _ _ (by omega) ?_ ?_ ?_ ?_ ?_
            · omega
            · exact hm3
            · exact hI3
            · exact hE3
            · intro s hs
              by_cases h : s = k
              · rw [hE3 k hk3 tg (by omega), decide_eq_true htg, Bool.true_and] at q71
                rw [h]; unfold fok; rw [q71, Bool.and_false]
              · exact hf s (by omega)
          · skip
            have q71 := (kb_neq).mp q71
            refine j_iload C dX3_finishOf_74 0 rfl ?_
            refine j_iload_n C dX3_finishOf_76 3 rfl rfl ?_
            refine j_iadd C dX3_finishOf_77 (v := (nI (t0 + k + e))) (nI_add _ _) ?_
            refine j_iretM C rw_ hQ (by decide) (by decide) rfl ?_ dX3_finishOf_78
            refine ⟨_, _, _, _, _, _, _, _, _, rfl, rfl, hm3, hI3, Or.inl ⟨k, by omega, by omega, ?_, hf, rfl⟩⟩
            rw [hE3 k hk3 tg (by omega), decide_eq_true htg, Bool.true_and] at q71
            unfold fok; rw [q71, (sd_n9 (by omega) hfl).mp q52]; rfl

set_option maxHeartbeats 4000000 in
set_option maxRecDepth 100000 in
/-- Plans(cells, above) -/
theorem c_X3_init (l : Launch) (T : jj_T) (h3 hS h4 : Nat) : jM l T yX3_init wsX3_init { frames := 2, cells := 6, slots := 2712, locals := 41 } [.ref h3, .ref hS, .ref h4] [(h3, cO 3 [.null, .null, .null, .null, .null, .int (nI 0), .int (nI 0), .int (nI 0)])] (fun v w1 => ∃ he : Nat, ∃ hew : Nat, ∃ hy : Nat, ∃ hyw : Nat, ∃ hc : Nat, ∃ hcw : Nat, v = none ∧ w1 = [(h3, cO 3 [.ref hS, .ref h4, .ref he, .ref hy, .ref hc, .int (nI 0), .int (nI 0), .int (nI 0)]), (he, cO 0 [.ref hew]), (hew, cJ T (3 * 61) (fun _ => 0)), (hy, cO 0 [.ref hyw]), (hyw, cJ T (3 * 61) (fun _ => 0)), (hc, cO 0 [.ref hcw]), (hcw, cJ T (3 * 1) (fun _ => 0))]) := by
  refine jM.of (cc := cX3_init) (maxL := 3) (ret := none) (by decide) rfl (Nat.le_of_ble_eq_true rfl) ?_
  intro X C rw_ hl hT hQ hnm
  subst hl; subst hT
  have hin0 : ∀ w ∈ u_ws RX0 TX0 1, w ∈ wsX3_init := by decide +kernel
  have hin3 : ∀ w ∈ u_ws RX3 TX3 8, w ∈ wsX3_init := by decide +kernel
  have hl14 : Cond.fieldLink RX3 14 (TX3 2).1 (TX3 2).2.1 (TX3 2).2.2.1 ∈ wsX3_init := by decide +kernel
  have hl20 : Cond.fieldLink RX3 20 (TX3 3).1 (TX3 3).2.1 (TX3 3).2.2.1 ∈ wsX3_init := by decide +kernel
  have hl23 : Cond.fieldLink RX3 23 (TX3 4).1 (TX3 4).2.1 (TX3 4).2.2.1 ∈ wsX3_init := by decide +kernel
  have hl26 : Cond.fieldLink RX3 26 (TX3 0).1 (TX3 0).2.1 (TX3 0).2.2.1 ∈ wsX3_init := by decide +kernel
  have hl30 : Cond.fieldLink RX3 30 (TX3 1).1 (TX3 1).2.1 (TX3 1).2.2.1 ∈ wsX3_init := by decide +kernel
  show jj X 0 0 0 [(0, .ref h3), (1, .ref hS), (2, .ref h4)] [] [(h3, cO 3 [.null, .null, .null, .null, .null, .int (nI 0), .int (nI 0), .int (nI 0)])]
  refine j_aload_n C dX3_init_0 0 rfl rfl ?_
  refine j_obj C (by decide +kernel) (by decide +kernel) (by decide +kernel) (by decide) (by decide) dX3_init_1 ?_
  refine j_aload_n C dX3_init_4 0 rfl rfl ?_
  refine j_new C rw_ (hin0) tyX0 tyX0_ok (ci := 0) rfl (by decide +kernel) (by decide +kernel) (by decide +kernel) (fs := [.null]) (by decide +kernel) (by decide) (by decide) dX3_init_5 (fun he => ?_)
  show jj X 1 1 8 [(0, .ref h3), (1, .ref hS), (2, .ref h4)] [.ref he, .ref h3] [(h3, cO 3 [.null, .null, .null, .null, .null, .int (nI 0), .int (nI 0), .int (nI 0)]), (he, cO 0 [.null])]
  refine j_dup C dX3_init_8 rfl ?_
  refine j_bipush C dX3_init_9 (v := (nI 61)) kc_b_61 ?_
  refine j_callIM C rw_ (nA := 1) (As := [.int (nI 61)]) (wr := [(h3, cO 3 [.null, .null, .null, .null, .null, .int (nI 0), .int (nI 0), .int (nI 0)])]) (c_X0_init (xl X) (xT X) he 61 (by omega) (by omega)) gX3_init_X0_init rfl (by decide +kernel) (by decide +kernel) (by decide +kernel) rfl (by decide +kernel) rfl (by decide) (by decide) [1] [0] rfl rfl rfl rfl (by decide) (rest := [.ref he, .ref h3]) rfl (Nat.le_of_ble_eq_true rfl) dX3_init_11 ?_
  rintro _ _ ⟨q_1, rfl, rfl⟩
  show jj X 2 904 14 [(0, .ref h3), (1, .ref hS), (2, .ref h4)] [.ref he, .ref h3] [(h3, cO 3 [.null, .null, .null, .null, .null, .int (nI 0), .int (nI 0), .int (nI 0)]), (he, cO 0 [.ref q_1]), (q_1, cJ (xT X) (3 * 61) (fun _ => 0))]
  refine j_putF C rw_ hnm (hin3) tyX3 tyX3_ok nmX3 (ci := 3) rfl 2 (by decide) (hl14) (by decide +kernel) rfl (ty := .object "SlewPlanner$CellSets") (by decide +kernel) rfl rfl 0 rfl (Nat.le_of_ble_eq_true rfl) (w' := [(h3, cO 3 [.null, .null, .ref he, .null, .null, .int (nI 0), .int (nI 0), .int (nI 0)]), (he, cO 0 [.ref q_1]), (q_1, cJ (xT X) (3 * 61) (fun _ => 0))]) rfl dX3_init_14 ?_
  refine j_aload_n C dX3_init_17 0 rfl rfl ?_
  refine j_new C rw_ (hin0) tyX0 tyX0_ok (ci := 0) rfl (by decide +kernel) (by decide +kernel) (by decide +kernel) (fs := [.null]) (by decide +kernel) (by decide) (by decide) dX3_init_18 (fun hy => ?_)
  show jj X 3 905 21 [(0, .ref h3), (1, .ref hS), (2, .ref h4)] [.ref hy, .ref h3] [(h3, cO 3 [.null, .null, .ref he, .null, .null, .int (nI 0), .int (nI 0), .int (nI 0)]), (he, cO 0 [.ref q_1]), (q_1, cJ (xT X) (3 * 61) (fun _ => 0)), (hy, cO 0 [.null])]
  refine j_dup C dX3_init_21 rfl ?_
  refine j_bipush C dX3_init_22 (v := (nI 61)) kc_b_61 ?_
  refine j_callIM C rw_ (nA := 1) (As := [.int (nI 61)]) (wr := [(h3, cO 3 [.null, .null, .ref he, .null, .null, .int (nI 0), .int (nI 0), .int (nI 0)]), (he, cO 0 [.ref q_1]), (q_1, cJ (xT X) (3 * 61) (fun _ => 0))]) (c_X0_init (xl X) (xT X) hy 61 (by omega) (by omega)) gX3_init_X0_init rfl (by decide +kernel) (by decide +kernel) (by decide +kernel) rfl (by decide +kernel) rfl (by decide) (by decide) [3] [0, 1, 2] rfl rfl rfl rfl (by decide) (rest := [.ref hy, .ref h3]) rfl (Nat.le_of_ble_eq_true rfl) dX3_init_24 ?_
  rintro _ _ ⟨q_2, rfl, rfl⟩
  show jj X 4 1808 27 [(0, .ref h3), (1, .ref hS), (2, .ref h4)] [.ref hy, .ref h3] [(h3, cO 3 [.null, .null, .ref he, .null, .null, .int (nI 0), .int (nI 0), .int (nI 0)]), (he, cO 0 [.ref q_1]), (q_1, cJ (xT X) (3 * 61) (fun _ => 0)), (hy, cO 0 [.ref q_2]), (q_2, cJ (xT X) (3 * 61) (fun _ => 0))]
  refine j_putF C rw_ hnm (hin3) tyX3 tyX3_ok nmX3 (ci := 3) rfl 3 (by decide) (hl20) (by decide +kernel) rfl (ty := .object "SlewPlanner$CellSets") (by decide +kernel) rfl rfl 0 rfl (Nat.le_of_ble_eq_true rfl) (w' := [(h3, cO 3 [.null, .null, .ref he, .ref hy, .null, .int (nI 0), .int (nI 0), .int (nI 0)]), (he, cO 0 [.ref q_1]), (q_1, cJ (xT X) (3 * 61) (fun _ => 0)), (hy, cO 0 [.ref q_2]), (q_2, cJ (xT X) (3 * 61) (fun _ => 0))]) rfl dX3_init_27 ?_
  refine j_aload_n C dX3_init_30 0 rfl rfl ?_
  refine j_new C rw_ (hin0) tyX0 tyX0_ok (ci := 0) rfl (by decide +kernel) (by decide +kernel) (by decide +kernel) (fs := [.null]) (by decide +kernel) (by decide) (by decide) dX3_init_31 (fun hc => ?_)
  show jj X 5 1809 34 [(0, .ref h3), (1, .ref hS), (2, .ref h4)] [.ref hc, .ref h3] [(h3, cO 3 [.null, .null, .ref he, .ref hy, .null, .int (nI 0), .int (nI 0), .int (nI 0)]), (he, cO 0 [.ref q_1]), (q_1, cJ (xT X) (3 * 61) (fun _ => 0)), (hy, cO 0 [.ref q_2]), (q_2, cJ (xT X) (3 * 61) (fun _ => 0)), (hc, cO 0 [.null])]
  refine j_dup C dX3_init_34 rfl ?_
  refine j_iconst C dX3_init_35 (v := (nI 1)) kc_i_1 ?_
  refine j_callIM C rw_ (nA := 1) (As := [.int (nI 1)]) (wr := [(h3, cO 3 [.null, .null, .ref he, .ref hy, .null, .int (nI 0), .int (nI 0), .int (nI 0)]), (he, cO 0 [.ref q_1]), (q_1, cJ (xT X) (3 * 61) (fun _ => 0)), (hy, cO 0 [.ref q_2]), (q_2, cJ (xT X) (3 * 61) (fun _ => 0))]) (c_X0_init (xl X) (xT X) hc 1 (by omega) (by omega)) gX3_init_X0_init rfl (by decide +kernel) (by decide +kernel) (by decide +kernel) rfl (by decide +kernel) rfl (by decide) (by decide) [5] [0, 1, 2, 3, 4] rfl rfl rfl rfl (by decide) (rest := [.ref hc, .ref h3]) rfl (Nat.le_of_ble_eq_true rfl) dX3_init_36 ?_
  rintro _ _ ⟨q_3, rfl, rfl⟩
  show jj X 6 2712 39 [(0, .ref h3), (1, .ref hS), (2, .ref h4)] [.ref hc, .ref h3] [(h3, cO 3 [.null, .null, .ref he, .ref hy, .null, .int (nI 0), .int (nI 0), .int (nI 0)]), (he, cO 0 [.ref q_1]), (q_1, cJ (xT X) (3 * 61) (fun _ => 0)), (hy, cO 0 [.ref q_2]), (q_2, cJ (xT X) (3 * 61) (fun _ => 0)), (hc, cO 0 [.ref q_3]), (q_3, cJ (xT X) (3 * 1) (fun _ => 0))]
  refine j_putF C rw_ hnm (hin3) tyX3 tyX3_ok nmX3 (ci := 3) rfl 4 (by decide) (hl23) (by decide +kernel) rfl (ty := .object "SlewPlanner$CellSets") (by decide +kernel) rfl rfl 0 rfl (Nat.le_of_ble_eq_true rfl) (w' := [(h3, cO 3 [.null, .null, .ref he, .ref hy, .ref hc, .int (nI 0), .int (nI 0), .int (nI 0)]), (he, cO 0 [.ref q_1]), (q_1, cJ (xT X) (3 * 61) (fun _ => 0)), (hy, cO 0 [.ref q_2]), (q_2, cJ (xT X) (3 * 61) (fun _ => 0)), (hc, cO 0 [.ref q_3]), (q_3, cJ (xT X) (3 * 1) (fun _ => 0))]) rfl dX3_init_39 ?_
  refine j_aload_n C dX3_init_42 0 rfl rfl ?_
  refine j_aload_n C dX3_init_43 1 rfl rfl ?_
  refine j_putF C rw_ hnm (hin3) tyX3 tyX3_ok nmX3 (ci := 3) rfl 0 (by decide) (hl26) (by decide +kernel) rfl (ty := .object "SlewPlanner$Sphere") (by decide +kernel) rfl rfl 0 rfl (Nat.le_of_ble_eq_true rfl) (w' := [(h3, cO 3 [.ref hS, .null, .ref he, .ref hy, .ref hc, .int (nI 0), .int (nI 0), .int (nI 0)]), (he, cO 0 [.ref q_1]), (q_1, cJ (xT X) (3 * 61) (fun _ => 0)), (hy, cO 0 [.ref q_2]), (q_2, cJ (xT X) (3 * 61) (fun _ => 0)), (hc, cO 0 [.ref q_3]), (q_3, cJ (xT X) (3 * 1) (fun _ => 0))]) rfl dX3_init_44 ?_
  refine j_aload_n C dX3_init_47 0 rfl rfl ?_
  refine j_aload_n C dX3_init_48 2 rfl rfl ?_
  refine j_putF C rw_ hnm (hin3) tyX3 tyX3_ok nmX3 (ci := 3) rfl 1 (by decide) (hl30) (by decide +kernel) rfl (ty := .object "SlewPlanner$Sky") (by decide +kernel) rfl rfl 0 rfl (Nat.le_of_ble_eq_true rfl) (w' := [(h3, cO 3 [.ref hS, .ref h4, .ref he, .ref hy, .ref hc, .int (nI 0), .int (nI 0), .int (nI 0)]), (he, cO 0 [.ref q_1]), (q_1, cJ (xT X) (3 * 61) (fun _ => 0)), (hy, cO 0 [.ref q_2]), (q_2, cJ (xT X) (3 * 61) (fun _ => 0)), (hc, cO 0 [.ref q_3]), (q_3, cJ (xT X) (3 * 1) (fun _ => 0))]) rfl dX3_init_49 ?_
  refine j_vretM C rw_ hQ (by decide) (by decide) ?_ dX3_init_52
  exact ⟨_, _, _, _, _, _, rfl, rfl⟩
