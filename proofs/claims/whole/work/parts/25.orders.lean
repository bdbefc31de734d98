/-! ORDERS: the methods -/
theorem tL_le {ob rq : Nat → Int32} {ck n d used ce time sum dig : Nat} {b : Nat × Nat} (hq : rqI rq n) (h1 : b.1 ≤ 500) (h2 : sum + 99 * (d + 1) ≤ 499) : ∀ i, i ≤ n → (tL ob rq ck n d used ce time sum dig i b).1 ≤ 500 := by
  intro i
  induction i with
  | zero => intro _; exact h1
  | succ i ih =>
    intro hi
    have hb := ih (by omega)
    rw [tL_s]
    generalize tL ob rq ck n d used ce time sum dig i b = c at hb ⊢
    have hv := (hq i (by omega)).2.2.2
    unfold tS
    split
    · exact hb
    · split
      · exact tF_le hq hb (by omega)
      · exact tF_le hq hb (by omega)
set_option maxHeartbeats 4000000 in
set_option maxRecDepth 100000 in
/-- tryAll, where requests are left -/
theorem c_X2_tryAll_s (l : Launch) (T : jj_T) (d : Nat) (IH : ∀ (h2 ga go gr ck gp n b1 b2 : Nat) (gs : Bool) (gob rq : Nat → Int32) (h3 h4 he hew hy hyw hc hcw hS hs so sr hl hlw hdr hh hv hq ha hhw sc sp st mk p t0 : Nat) (ss : Bool) (ob rq2 : Nat → Int32) (ax ay az : Int32) (lim : Int64) (LW E Y Ch hd : Nat → Int64) (dr : Nat → Bool) (dep used ce time sum dig : Nat), (n ≤ 4) → (ce < 150) → (time ≤ ck + 60) → (ck ≤ 200) → (sum + 99 * d ≤ 499) → (used < 16) → (b1 ≤ 500) → (rqI rq n) → (skI ob dr LW) → (hdI hd) → (dep + d = n) → jM l T yX2_tryAll wsX2_tryAll { frames := 12 + (d), cells := 0, slots := 0, locals := 400 + 40 * (d) } [.ref h2, .int (nI dep), .int (nI used), .int (nI ce), .int (nI time), .int (nI sum), .int (nI dig)] [(h2, cO 2 [.int (oV b1), .int (nI b2), .ref h3, .ref ga]), (ga, cO 6 [.int (nI ck), .int (nI gp), .int (bI gs), .int (nI n), .ref go, .ref gr]), (go, cI T 21 gob), (gr, cI T 12 rq), (h3, cO 3 [.ref hS, .ref h4, .ref he, .ref hy, .ref hc, .int (nI mk), .int (nI p), .int (nI t0)]), (he, cO 0 [.ref hew]), (hew, cJ T 183 E), (hy, cO 0 [.ref hyw]), (hyw, cJ T 183 Y), (hc, cO 0 [.ref hcw]), (hcw, cJ T 3 Ch), (h4, cO 4 [.ref hS, .ref hs, .ref hl, .ref hdr, .int ax, .int ay, .int az, .long lim]), (hs, cO 6 [.int (nI sc), .int (nI sp), .int (bI ss), .int (nI st), .ref so, .ref sr]), (so, cI T 21 ob), (sr, cI T 12 rq2), (hl, cO 0 [.ref hlw]), (hlw, cJ T 903 LW), (hdr, cZ T 301 (fun j => bI (dr j))), (hS, cO 5 [.ref hh, .ref hv, .ref hq, .ref ha]), (hv, cI T 450 cvec), (hq, cI T 150 csq), (hh, cO 0 [.ref hhw]), (hhw, cJ T 450 hd)] (fun v w1 => ∃ ax' : Int32, ∃ ay' : Int32, ∃ az' : Int32, ∃ lim' : Int64, ∃ LW' : Nat → Int64, ∃ dr' : Nat → Bool, ∃ E' : Nat → Int64, ∃ mk' : Nat, ∃ p' : Nat, ∃ t0' : Nat, v = none ∧ w1 = [(h2, cO 2 [.int (oV (tF ob rq ck n d used ce time sum dig (b1, b2)).1), .int (nI ((tF ob rq ck n d used ce time sum dig (b1, b2)).2)), .ref h3, .ref ga]), (ga, cO 6 [.int (nI ck), .int (nI gp), .int (bI gs), .int (nI n), .ref go, .ref gr]), (go, cI T 21 gob), (gr, cI T 12 rq), (h3, cO 3 [.ref hS, .ref h4, .ref he, .ref hy, .ref hc, .int (nI mk'), .int (nI p'), .int (nI t0')]), (he, cO 0 [.ref hew]), (hew, cJ T 183 E'), (hy, cO 0 [.ref hyw]), (hyw, cJ T 183 Y), (hc, cO 0 [.ref hcw]), (hcw, cJ T 3 Ch), (h4, cO 4 [.ref hS, .ref hs, .ref hl, .ref hdr, .int ax', .int ay', .int az', .long lim']), (hs, cO 6 [.int (nI sc), .int (nI sp), .int (bI ss), .int (nI st), .ref so, .ref sr]), (so, cI T 21 ob), (sr, cI T 12 rq2), (hl, cO 0 [.ref hlw]), (hlw, cJ T 903 LW'), (hdr, cZ T 301 (fun j => bI (dr' j))), (hS, cO 5 [.ref hh, .ref hv, .ref hq, .ref ha]), (hv, cI T 450 cvec), (hq, cI T 150 csq), (hh, cO 0 [.ref hhw]), (hhw, cJ T 450 hd)] ∧ skI ob dr' LW')) (h2 ga go gr ck gp n b1 b2 : Nat) (gs : Bool) (gob rq : Nat → Int32) (h3 h4 he hew hy hyw hc hcw hS hs so sr hl hlw hdr hh hv hq ha hhw sc sp st mk p t0 : Nat) (ss : Bool) (ob rq2 : Nat → Int32) (ax ay az : Int32) (lim : Int64) (LW E Y Ch hd : Nat → Int64) (dr : Nat → Bool) (dep used ce time sum dig : Nat) (hn : n ≤ 4) (hcell : ce < 150) (htime : time ≤ ck + 60) (hck : ck ≤ 200) (hsum : sum + 99 * (d + 1) ≤ 499) (hused : used < 16) (hb1 : b1 ≤ 500) (hrq : rqI rq n) (hI : skI ob dr LW) (hH : hdI hd) (hdep : dep + (d + 1) = n) : jM l T yX2_tryAll wsX2_tryAll { frames := 12 + (d + 1), cells := 0, slots := 0, locals := 400 + 40 * (d + 1) } [.ref h2, .int (nI dep), .int (nI used), .int (nI ce), .int (nI time), .int (nI sum), .int (nI dig)] [(h2, cO 2 [.int (oV b1), .int (nI b2), .ref h3, .ref ga]), (ga, cO 6 [.int (nI ck), .int (nI gp), .int (bI gs), .int (nI n), .ref go, .ref gr]), (go, cI T 21 gob), (gr, cI T 12 rq), (h3, cO 3 [.ref hS, .ref h4, .ref he, .ref hy, .ref hc, .int (nI mk), .int (nI p), .int (nI t0)]), (he, cO 0 [.ref hew]), (hew, cJ T 183 E), (hy, cO 0 [.ref hyw]), (hyw, cJ T 183 Y), (hc, cO 0 [.ref hcw]), (hcw, cJ T 3 Ch), (h4, cO 4 [.ref hS, .ref hs, .ref hl, .ref hdr, .int ax, .int ay, .int az, .long lim]), (hs, cO 6 [.int (nI sc), .int (nI sp), .int (bI ss), .int (nI st), .ref so, .ref sr]), (so, cI T 21 ob), (sr, cI T 12 rq2), (hl, cO 0 [.ref hlw]), (hlw, cJ T 903 LW), (hdr, cZ T 301 (fun j => bI (dr j))), (hS, cO 5 [.ref hh, .ref hv, .ref hq, .ref ha]), (hv, cI T 450 cvec), (hq, cI T 150 csq), (hh, cO 0 [.ref hhw]), (hhw, cJ T 450 hd)] (fun v w1 => ∃ ax' : Int32, ∃ ay' : Int32, ∃ az' : Int32, ∃ lim' : Int64, ∃ LW' : Nat → Int64, ∃ dr' : Nat → Bool, ∃ E' : Nat → Int64, ∃ mk' : Nat, ∃ p' : Nat, ∃ t0' : Nat, v = none ∧ w1 = [(h2, cO 2 [.int (oV (tF ob rq ck n (d + 1) used ce time sum dig (b1, b2)).1), .int (nI ((tF ob rq ck n (d + 1) used ce time sum dig (b1, b2)).2)), .ref h3, .ref ga]), (ga, cO 6 [.int (nI ck), .int (nI gp), .int (bI gs), .int (nI n), .ref go, .ref gr]), (go, cI T 21 gob), (gr, cI T 12 rq), (h3, cO 3 [.ref hS, .ref h4, .ref he, .ref hy, .ref hc, .int (nI mk'), .int (nI p'), .int (nI t0')]), (he, cO 0 [.ref hew]), (hew, cJ T 183 E'), (hy, cO 0 [.ref hyw]), (hyw, cJ T 183 Y), (hc, cO 0 [.ref hcw]), (hcw, cJ T 3 Ch), (h4, cO 4 [.ref hS, .ref hs, .ref hl, .ref hdr, .int ax', .int ay', .int az', .long lim']), (hs, cO 6 [.int (nI sc), .int (nI sp), .int (bI ss), .int (nI st), .ref so, .ref sr]), (so, cI T 21 ob), (sr, cI T 12 rq2), (hl, cO 0 [.ref hlw]), (hlw, cJ T 903 LW'), (hdr, cZ T 301 (fun j => bI (dr' j))), (hS, cO 5 [.ref hh, .ref hv, .ref hq, .ref ha]), (hv, cI T 450 cvec), (hq, cI T 150 csq), (hh, cO 0 [.ref hhw]), (hhw, cJ T 450 hd)] ∧ (skI ob dr' LW')) := by
  refine jM.of (cc := cX2_tryAll) (maxL := 15) (ret := none) (by decide) rfl (Nat.le_of_ble_eq_true rfl) ?_
  intro X C rw_ hl hT hQ hnm
  subst hl; subst hT
  have hin2 : ∀ w ∈ u_ws RX2 TX2 4, w ∈ wsX2_tryAll := by decide +kernel
  have hin6 : ∀ w ∈ u_ws RX6 TX6 6, w ∈ wsX2_tryAll := by decide +kernel
  have hl12 : Cond.fieldLink RX2 12 (TX2 3).1 (TX2 3).2.1 (TX2 3).2.2.1 ∈ wsX2_tryAll := by decide +kernel
  have hl18 : Cond.fieldLink RX2 18 (TX2 2).1 (TX2 2).2.1 (TX2 2).2.2.1 ∈ wsX2_tryAll := by decide +kernel
  have hl26 : Cond.fieldLink RX2 26 (TX2 0).1 (TX2 0).2.1 (TX2 0).2.2.1 ∈ wsX2_tryAll := by decide +kernel
  have hl30 : Cond.fieldLink RX2 30 (TX2 1).1 (TX2 1).2.1 (TX2 1).2.2.1 ∈ wsX2_tryAll := by decide +kernel
  have hl33 : Cond.fieldLink RX2 33 (TX6 3).1 (TX6 3).2.1 (TX6 3).2.2.1 ∈ wsX2_tryAll := by decide +kernel
  have hl40 : Cond.fieldLink RX2 40 (TX6 0).1 (TX6 0).2.1 (TX6 0).2.2.1 ∈ wsX2_tryAll := by decide +kernel
  show jj X 0 0 0 [(0, .ref h2), (1, .int (nI dep)), (2, .int (nI used)), (3, .int (nI ce)), (4, .int (nI time)), (5, .int (nI sum)), (6, .int (nI dig))] [] [(h2, cO 2 [.int (oV b1), .int (nI b2), .ref h3, .ref ga]), (ga, cO 6 [.int (nI ck), .int (nI gp), .int (bI gs), .int (nI n), .ref go, .ref gr]), (go, cI (xT X) 21 gob), (gr, cI (xT X) 12 rq), (h3, cO 3 [.ref hS, .ref h4, .ref he, .ref hy, .ref hc, .int (nI mk), .int (nI p), .int (nI t0)]), (he, cO 0 [.ref hew]), (hew, cJ (xT X) 183 E), (hy, cO 0 [.ref hyw]), (hyw, cJ (xT X) 183 Y), (hc, cO 0 [.ref hcw]), (hcw, cJ (xT X) 3 Ch), (h4, cO 4 [.ref hS, .ref hs, .ref hl, .ref hdr, .int ax, .int ay, .int az, .long lim]), (hs, cO 6 [.int (nI sc), .int (nI sp), .int (bI ss), .int (nI st), .ref so, .ref sr]), (so, cI (xT X) 21 ob), (sr, cI (xT X) 12 rq2), (hl, cO 0 [.ref hlw]), (hlw, cJ (xT X) 903 LW), (hdr, cZ (xT X) 301 (fun j => bI (dr j))), (hS, cO 5 [.ref hh, .ref hv, .ref hq, .ref ha]), (hv, cI (xT X) 450 cvec), (hq, cI (xT X) 150 csq), (hh, cO 0 [.ref hhw]), (hhw, cJ (xT X) 450 hd)]
  refine j_aload_n C dX2_tryAll_0 0 rfl rfl ?_
  refine j_get C (hin2) (ci := 2) rfl 3 (by decide) (hl12) 0 rfl (v := .ref ga) rfl dX2_tryAll_1 ?_
  refine j_astore C dX2_tryAll_4 (by decide) (lv' := [(7, .ref ga), (0, .ref h2), (1, .int (nI dep)), (2, .int (nI used)), (3, .int (nI ce)), (4, .int (nI time)), (5, .int (nI sum)), (6, .int (nI dig))]) rfl ?_
  refine j_iload_n C dX2_tryAll_6 2 rfl rfl ?_
  refine j_aload C dX2_tryAll_7 0 rfl ?_
  refine j_get C (hin6) (ci := 6) rfl 3 (by decide) (hl33) 1 rfl (v := .int (nI n)) rfl dX2_tryAll_9 ?_
  refine j_icmp_ge C dX2_tryAll_12 (tgt := 20) (by decide) (fun q12 => ?_) (fun q12 => ?_)
  · skip
    have q12 := (kn_ge (a := dep) (b := n) (by omega) (by omega)).mp q12
    exfalso
    first | exact q12.elim | omega
  · skip
    have q12 := (kn_nge (a := dep) (b := n) (by omega) (by omega)).mp q12
    refine j_iload_n C dX2_tryAll_15 2 rfl rfl ?_
    refine j_iconst C dX2_tryAll_16 (v := (nI 4)) kc_i_4 ?_
    refine j_icmp_lt C dX2_tryAll_17 (tgt := 42) (by decide) (fun q17 => ?_) (fun q17 => ?_)
    · skip
      have q17 := (kn_lt (a := dep) (b := 4) (by omega) (by omega)).mp q17
      refine j_iconst C dX2_tryAll_42 (v := (nI 0)) kc_i_0 ?_
      refine j_istore C dX2_tryAll_43 (by decide) (lv' := [(8, .int (nI 0)), (7, .ref ga), (0, .ref h2), (1, .int (nI dep)), (2, .int (nI used)), (3, .int (nI ce)), (4, .int (nI time)), (5, .int (nI sum)), (6, .int (nI dig))]) rfl ?_
      refine j_lv [2, 3, 4, 5, 6, 7, 8, 1, 0] rfl ?_
      suffices hc45 : ∀ (mm : Nat) (i mk p t0 : Nat) (ax ay az : Int32) (lim : Int64) (LW E : Nat → Int64) (dr : Nat → Bool), n - i < mm → (i ≤ n) → (skI ob dr LW) → jj X 0 0 45 [(0, .ref h2), (1, .int (nI dep)), (2, .int (nI used)), (3, .int (nI ce)), (4, .int (nI time)), (5, .int (nI sum)), (6, .int (nI dig)), (7, .ref ga), (8, .int (nI i))] [] [(h2, cO 2 [.int (oV (tL ob rq ck n d used ce time sum dig i (b1, b2)).1), .int (nI ((tL ob rq ck n d used ce time sum dig i (b1, b2)).2)), .ref h3, .ref ga]), (ga, cO 6 [.int (nI ck), .int (nI gp), .int (bI gs), .int (nI n), .ref go, .ref gr]), (go, cI (xT X) 21 gob), (gr, cI (xT X) 12 rq), (h3, cO 3 [.ref hS, .ref h4, .ref he, .ref hy, .ref hc, .int (nI mk), .int (nI p), .int (nI t0)]), (he, cO 0 [.ref hew]), (hew, cJ (xT X) 183 E), (hy, cO 0 [.ref hyw]), (hyw, cJ (xT X) 183 Y), (hc, cO 0 [.ref hcw]), (hcw, cJ (xT X) 3 Ch), (h4, cO 4 [.ref hS, .ref hs, .ref hl, .ref hdr, .int ax, .int ay, .int az, .long lim]), (hs, cO 6 [.int (nI sc), .int (nI sp), .int (bI ss), .int (nI st), .ref so, .ref sr]), (so, cI (xT X) 21 ob), (sr, cI (xT X) 12 rq2), (hl, cO 0 [.ref hlw]), (hlw, cJ (xT X) 903 LW), (hdr, cZ (xT X) 301 (fun j => bI (dr j))), (hS, cO 5 [.ref hh, .ref hv, .ref hq, .ref ha]), (hv, cI (xT X) 450 cvec), (hq, cI (xT X) 150 csq), (hh, cO 0 [.ref hhw]), (hhw, cJ (xT X) 450 hd)] by
        refine hc45 _ 0 _ _ _ _ _ _ _ _ _ _ (Nat.lt_succ_self _) ?_ ?_
        · omega
        · exact hI
      intro mm
      induction mm with
      | zero => intro i mk p t0 ax ay az lim LW E dr hm; exact absurd hm (Nat.not_lt_zero _)
      | succ mm ih45 =>
        intro i mk p t0 ax ay az lim LW E dr hm45 hi hI
        refine j_iload C dX2_tryAll_45 8 rfl ?_
        refine j_aload C dX2_tryAll_47 7 rfl ?_
        refine j_get C (hin6) (ci := 6) rfl 3 (by decide) (hl33) 1 rfl (v := .int (nI n)) rfl dX2_tryAll_49 ?_
        refine j_icmp_ge C dX2_tryAll_52 (tgt := 197) (by decide) (fun q52 => ?_) (fun q52 => ?_)
        · skip
          have q52 := (kn_ge (a := i) (b := n) (by omega) (by omega)).mp q52
          refine j_vretM C rw_ hQ (Nat.le_of_ble_eq_true rfl) (Nat.le_of_ble_eq_true rfl) ?_ dX2_tryAll_197
          exact ⟨_, _, _, _, _, _, _, _, _, _, rfl, by rw [tF_s, show n = i by omega], hI⟩
        · skip
          have q52 := (kn_nge (a := i) (b := n) (by omega) (by omega)).mp q52
          refine j_iload_n C dX2_tryAll_55 2 rfl rfl ?_
          refine j_iload C dX2_tryAll_56 8 rfl ?_
          refine j_ishr C dX2_tryAll_58 (v := (nI (used / 2 ^ i))) (pk_shrN (by omega) _ i (s_l i (by omega))) ?_
          refine j_iconst C dX2_tryAll_59 (v := (nI 1)) kc_i_1 ?_
          refine j_iand C dX2_tryAll_60 (v := (nI (used / 2 ^ i % 2))) (pk_andN (Nat.lt_of_le_of_lt (Nat.div_le_self _ _) (by omega)) 1 (by decide +kernel)) ?_
          refine j_if_ne C dX2_tryAll_61 (tgt := 191) (by decide) (fun q61 => ?_) (fun q61 => ?_)
          · skip
            have q61 := (kz_ne (a := used / 2 ^ i % 2) (by omega)).mp q61
            have e9 : (tL ob rq ck n d used ce time sum dig (i + 1) (b1, b2)) = (tL ob rq ck n d used ce time sum dig i (b1, b2)) := by
              rw [tL_s]; unfold tS; rw [if_pos q61]
            rw [← e9]
            refine j_iinc C dX2_tryAll_191 (q := 8) (v := (nI (i + 1))) rfl (kc_inc i) (by decide) (lv' := [(8, .int (nI (i + 1))), (0, .ref h2), (1, .int (nI dep)), (2, .int (nI used)), (3, .int (nI ce)), (4, .int (nI time)), (5, .int (nI sum)), (6, .int (nI dig)), (7, .ref ga)]) rfl ?_
            refine j_goto C dX2_tryAll_194 (tgt := 45) (by decide) ?_
            refine j_lv [1, 2, 3, 4, 5, 6, 7, 8, 0] rfl ?_
            refine ih45 _ _ _ _ _ _ _ _ _ _ _ (by omega) ?_ ?_
            · omega
            · exact hI
          · skip
            have q61 := (kz_nne (a := used / 2 ^ i % 2) (by omega)).mp q61
            have hbit := q61
            have hqi := hrq i (by omega)
            have hp2 : 1 * 2 ^ i < 2 ^ 32 := by
              rcases (show i = 0 ∨ i = 1 ∨ i = 2 ∨ i = 3 by omega) with rfl | rfl | rfl | rfl <;> decide
            have hul := used_lt hused (show i < 4 by omega)
            have htL := tL_le hrq (d := d) (used := used) (ce := ce) (time := time) (sum := sum) (dig := dig) (b := (b1, b2)) (ob := ob) (ck := ck) hb1 (by omega) i (by omega)
            refine j_iload_n C dX2_tryAll_64 2 rfl rfl ?_
            refine j_iconst C dX2_tryAll_65 (v := (nI 1)) kc_i_1 ?_
            refine j_iload C dX2_tryAll_66 8 rfl ?_
            refine j_ishl C dX2_tryAll_68 (v := (nI (1 * 2 ^ i))) (pk_shlN _ i (s_l i (by omega)) hp2) ?_
            refine j_ior C dX2_tryAll_69 (v := (nI (used ||| 2 ^ i))) (by rw [Nat.one_mul]; exact nI_or _ _) ?_
            refine j_istore C dX2_tryAll_70 (by decide) (lv' := [(9, .int (nI (used ||| 2 ^ i))), (0, .ref h2), (1, .int (nI dep)), (2, .int (nI used)), (3, .int (nI ce)), (4, .int (nI time)), (5, .int (nI sum)), (6, .int (nI dig)), (7, .ref ga), (8, .int (nI i))]) rfl ?_
            refine j_bipush C dX2_tryAll_72 (v := (nI 10)) kc_b_10 ?_
            refine j_iload C dX2_tryAll_74 7 rfl ?_
            refine j_imul C dX2_tryAll_76 (v := (nI (10 * dig))) (pk_mul _ _) ?_
            refine j_iload C dX2_tryAll_77 9 rfl ?_
            refine j_iadd C dX2_tryAll_79 (v := (nI (10 * dig + i))) (nI_add _ _) ?_
            refine j_iconst C dX2_tryAll_80 (v := (nI 1)) kc_i_1 ?_
            refine j_iadd C dX2_tryAll_81 (v := (nI (10 * dig + i + 1))) (nI_add _ _) ?_
            refine j_istore C dX2_tryAll_82 (by decide) (lv' := [(10, .int (nI (10 * dig + i + 1))), (9, .int (nI (used ||| 2 ^ i))), (0, .ref h2), (1, .int (nI dep)), (2, .int (nI used)), (3, .int (nI ce)), (4, .int (nI time)), (5, .int (nI sum)), (6, .int (nI dig)), (7, .ref ga), (8, .int (nI i))]) rfl ?_
            refine j_aload C dX2_tryAll_84 9 rfl ?_
            refine j_iload C dX2_tryAll_86 10 rfl ?_
            refine j_iconst C dX2_tryAll_88 (v := (nI 0)) kc_i_0 ?_
            refine j_callVR C (nA := 2) (As := [.int (nI i), .int (nI 0)]) (c_X6_ofRequest (xl X) (xT X) ga go gr ck gp n i 0 gs gob rq (by omega)) gX2_tryAll_X6_ofRequest rfl (by decide +kernel) rfl ⟨rfl, rfl⟩ ⟨by show 0 + 1 ≤ 12 + (d + 1); omega, by show 8 + (4 + 11) + (0) ≤ 400 + 40 * (d + 1); omega⟩ ⟨Nat.le_of_ble_eq_true rfl, Nat.le_of_ble_eq_true rfl⟩ [1, 2, 3] rfl rfl 1 rfl rfl (rest := []) rfl (Nat.le_of_ble_eq_true rfl) dX2_tryAll_89 ?_
            rintro _ rfl
            show jj X 0 0 92 [(10, .int (nI (10 * dig + i + 1))), (9, .int (nI (used ||| 2 ^ i))), (0, .ref h2), (1, .int (nI dep)), (2, .int (nI used)), (3, .int (nI ce)), (4, .int (nI time)), (5, .int (nI sum)), (6, .int (nI dig)), (7, .ref ga), (8, .int (nI i))] [.int (rq (3 * i + 0))] [(h2, cO 2 [.int (oV (tL ob rq ck n d used ce time sum dig i (b1, b2)).1), .int (nI ((tL ob rq ck n d used ce time sum dig i (b1, b2)).2)), .ref h3, .ref ga]), (ga, cO 6 [.int (nI ck), .int (nI gp), .int (bI gs), .int (nI n), .ref go, .ref gr]), (go, cI (xT X) 21 gob), (gr, cI (xT X) 12 rq), (h3, cO 3 [.ref hS, .ref h4, .ref he, .ref hy, .ref hc, .int (nI mk), .int (nI p), .int (nI t0)]), (he, cO 0 [.ref hew]), (hew, cJ (xT X) 183 E), (hy, cO 0 [.ref hyw]), (hyw, cJ (xT X) 183 Y), (hc, cO 0 [.ref hcw]), (hcw, cJ (xT X) 3 Ch), (h4, cO 4 [.ref hS, .ref hs, .ref hl, .ref hdr, .int ax, .int ay, .int az, .long lim]), (hs, cO 6 [.int (nI sc), .int (nI sp), .int (bI ss), .int (nI st), .ref so, .ref sr]), (so, cI (xT X) 21 ob), (sr, cI (xT X) 12 rq2), (hl, cO 0 [.ref hlw]), (hlw, cJ (xT X) 903 LW), (hdr, cZ (xT X) 301 (fun j => bI (dr j))), (hS, cO 5 [.ref hh, .ref hv, .ref hq, .ref ha]), (hv, cI (xT X) 450 cvec), (hq, cI (xT X) 150 csq), (hh, cO 0 [.ref hhw]), (hhw, cJ (xT X) 450 hd)]
            refine j_ieq (nI (rqN rq (3 * i))) (by exact hqi.1.1) ?_
            refine j_istore C dX2_tryAll_92 (by decide) (lv' := [(11, .int (nI (rqN rq (3 * i)))), (10, .int (nI (10 * dig + i + 1))), (9, .int (nI (used ||| 2 ^ i))), (0, .ref h2), (1, .int (nI dep)), (2, .int (nI used)), (3, .int (nI ce)), (4, .int (nI time)), (5, .int (nI sum)), (6, .int (nI dig)), (7, .ref ga), (8, .int (nI i))]) rfl ?_
            refine j_aload C dX2_tryAll_94 10 rfl ?_
            refine j_get C (hin6) (ci := 6) rfl 0 (by decide) (hl40) 1 rfl (v := .int (nI ck)) rfl dX2_tryAll_96 ?_
            refine j_bipush C dX2_tryAll_99 (v := (nI 60)) kc_b_60 ?_
            refine j_iadd C dX2_tryAll_101 (v := (nI (ck + 60))) (nI_add _ _) ?_
            refine j_istore C dX2_tryAll_102 (by decide) (lv' := [(12, .int (nI (ck + 60))), (11, .int (nI (rqN rq (3 * i)))), (10, .int (nI (10 * dig + i + 1))), (9, .int (nI (used ||| 2 ^ i))), (0, .ref h2), (1, .int (nI dep)), (2, .int (nI used)), (3, .int (nI ce)), (4, .int (nI time)), (5, .int (nI sum)), (6, .int (nI dig)), (7, .ref ga), (8, .int (nI i))]) rfl ?_
            refine j_aload_n C dX2_tryAll_104 4 rfl rfl ?_
            refine j_get C (hin2) (ci := 2) rfl 2 (by decide) (hl18) 0 rfl (v := .ref h3) rfl dX2_tryAll_105 ?_
            refine j_iload_n C dX2_tryAll_108 7 rfl rfl ?_
            refine j_iload C dX2_tryAll_109 8 rfl ?_
            refine j_callVM C rw_ (nA := 2) (As := [.int (nI ce), .int (nI time)]) (wr := [(h2, cO 2 [.int (oV (tL ob rq ck n d used ce time sum dig i (b1, b2)).1), .int (nI ((tL ob rq ck n d used ce time sum dig i (b1, b2)).2)), .ref h3, .ref ga]), (ga, cO 6 [.int (nI ck), .int (nI gp), .int (bI gs), .int (nI n), .ref go, .ref gr]), (go, cI (xT X) 21 gob), (gr, cI (xT X) 12 rq)]) (c_X3_begin (xl X) (xT X) h3 h4 he hew hy hyw hc hcw hS hs so sr hl hlw hdr hh hv hq ha hhw sc sp st mk p t0 ss ob rq2 ax ay az lim LW E Y Ch hd dr ce time (by omega)) gX2_tryAll_X3_begin rfl (by decide +kernel) rfl ⟨by show 2 + 1 ≤ 12 + (d + 1); omega, by show 8 + (3 + 11) + (44) ≤ 400 + 40 * (d + 1); omega⟩ ⟨Nat.le_of_ble_eq_true rfl, Nat.le_of_ble_eq_true rfl⟩ [4, 5, 6, 7, 8, 9, 10, 11, 12, 13, 14, 15, 16, 17, 18, 19, 20, 21, 22] [0, 1, 2, 3] rfl rfl rfl rfl (by decide) 4 rfl rfl (rest := []) rfl (Nat.le_of_ble_eq_true rfl) dX2_tryAll_111 ?_
            rintro _ _ ⟨Eb, rfl, rfl, hEb⟩
            show jj X 0 0 114 [(12, .int (nI (ck + 60))), (11, .int (nI (rqN rq (3 * i)))), (10, .int (nI (10 * dig + i + 1))), (9, .int (nI (used ||| 2 ^ i))), (0, .ref h2), (1, .int (nI dep)), (2, .int (nI used)), (3, .int (nI ce)), (4, .int (nI time)), (5, .int (nI sum)), (6, .int (nI dig)), (7, .ref ga), (8, .int (nI i))] [] [(h2, cO 2 [.int (oV (tL ob rq ck n d used ce time sum dig i (b1, b2)).1), .int (nI ((tL ob rq ck n d used ce time sum dig i (b1, b2)).2)), .ref h3, .ref ga]), (ga, cO 6 [.int (nI ck), .int (nI gp), .int (bI gs), .int (nI n), .ref go, .ref gr]), (go, cI (xT X) 21 gob), (gr, cI (xT X) 12 rq), (h3, cO 3 [.ref hS, .ref h4, .ref he, .ref hy, .ref hc, .int (nI 0), .int (nI ce), .int (nI time)]), (he, cO 0 [.ref hew]), (hew, cJ (xT X) 183 Eb), (hy, cO 0 [.ref hyw]), (hyw, cJ (xT X) 183 Y), (hc, cO 0 [.ref hcw]), (hcw, cJ (xT X) 3 Ch), (h4, cO 4 [.ref hS, .ref hs, .ref hl, .ref hdr, .int ax, .int ay, .int az, .long lim]), (hs, cO 6 [.int (nI sc), .int (nI sp), .int (bI ss), .int (nI st), .ref so, .ref sr]), (so, cI (xT X) 21 ob), (sr, cI (xT X) 12 rq2), (hl, cO 0 [.ref hlw]), (hlw, cJ (xT X) 903 LW), (hdr, cZ (xT X) 301 (fun j => bI (dr j))), (hS, cO 5 [.ref hh, .ref hv, .ref hq, .ref ha]), (hv, cI (xT X) 450 cvec), (hq, cI (xT X) 150 csq), (hh, cO 0 [.ref hhw]), (hhw, cJ (xT X) 450 hd)]
            refine j_aload_n C dX2_tryAll_114 4 rfl rfl ?_
            refine j_get C (hin2) (ci := 2) rfl 2 (by decide) (hl18) 0 rfl (v := .ref h3) rfl dX2_tryAll_115 ?_
            refine j_iload C dX2_tryAll_118 1 rfl ?_
            refine j_aload C dX2_tryAll_120 11 rfl ?_
            refine j_iload C dX2_tryAll_122 12 rfl ?_
            refine j_iconst C dX2_tryAll_124 (v := (nI 1)) kc_i_1 ?_
            refine j_callVR C (nA := 2) (As := [.int (nI i), .int (nI 1)]) (c_X6_ofRequest (xl X) (xT X) ga go gr ck gp n i 1 gs gob rq (by omega)) gX2_tryAll_X6_ofRequest rfl (by decide +kernel) rfl ⟨rfl, rfl⟩ ⟨by show 0 + 1 ≤ 12 + (d + 1); omega, by show 8 + (4 + 11) + (0) ≤ 400 + 40 * (d + 1); omega⟩ ⟨Nat.le_of_ble_eq_true rfl, Nat.le_of_ble_eq_true rfl⟩ [1, 2, 3] rfl rfl 1 rfl rfl (rest := [.int (nI (rqN rq (3 * i))), .ref h3]) rfl (Nat.le_of_ble_eq_true rfl) dX2_tryAll_125 ?_
            rintro _ rfl
            show jj X 0 0 128 [(12, .int (nI (ck + 60))), (11, .int (nI (rqN rq (3 * i)))), (10, .int (nI (10 * dig + i + 1))), (9, .int (nI (used ||| 2 ^ i))), (0, .ref h2), (1, .int (nI dep)), (2, .int (nI used)), (3, .int (nI ce)), (4, .int (nI time)), (5, .int (nI sum)), (6, .int (nI dig)), (7, .ref ga), (8, .int (nI i))] [.int (rq (3 * i + 1)), .int (nI (rqN rq (3 * i))), .ref h3] [(h2, cO 2 [.int (oV (tL ob rq ck n d used ce time sum dig i (b1, b2)).1), .int (nI ((tL ob rq ck n d used ce time sum dig i (b1, b2)).2)), .ref h3, .ref ga]), (ga, cO 6 [.int (nI ck), .int (nI gp), .int (bI gs), .int (nI n), .ref go, .ref gr]), (go, cI (xT X) 21 gob), (gr, cI (xT X) 12 rq), (h3, cO 3 [.ref hS, .ref h4, .ref he, .ref hy, .ref hc, .int (nI 0), .int (nI ce), .int (nI time)]), (he, cO 0 [.ref hew]), (hew, cJ (xT X) 183 Eb), (hy, cO 0 [.ref hyw]), (hyw, cJ (xT X) 183 Y), (hc, cO 0 [.ref hcw]), (hcw, cJ (xT X) 3 Ch), (h4, cO 4 [.ref hS, .ref hs, .ref hl, .ref hdr, .int ax, .int ay, .int az, .long lim]), (hs, cO 6 [.int (nI sc), .int (nI sp), .int (bI ss), .int (nI st), .ref so, .ref sr]), (so, cI (xT X) 21 ob), (sr, cI (xT X) 12 rq2), (hl, cO 0 [.ref hlw]), (hlw, cJ (xT X) 903 LW), (hdr, cZ (xT X) 301 (fun j => bI (dr j))), (hS, cO 5 [.ref hh, .ref hv, .ref hq, .ref ha]), (hv, cI (xT X) 450 cvec), (hq, cI (xT X) 150 csq), (hh, cO 0 [.ref hhw]), (hhw, cJ (xT X) 450 hd)]
            refine j_ieq (nI (rqN rq (3 * i + 1))) (by exact hqi.2.1.1) ?_
            refine j_iload C dX2_tryAll_128 0 rfl ?_
            refine j_callVM C rw_ (nA := 3) (As := [.int (nI (rqN rq (3 * i))), .int (nI (rqN rq (3 * i + 1))), .int (nI (ck + 60))]) (wr := [(h2, cO 2 [.int (oV (tL ob rq ck n d used ce time sum dig i (b1, b2)).1), .int (nI ((tL ob rq ck n d used ce time sum dig i (b1, b2)).2)), .ref h3, .ref ga]), (ga, cO 6 [.int (nI ck), .int (nI gp), .int (bI gs), .int (nI n), .ref go, .ref gr]), (go, cI (xT X) 21 gob), (gr, cI (xT X) 12 rq)]) (c_X3_finishOf (xl X) (xT X) h3 h4 he hew hy hyw hc hcw hS hs so sr hl hlw hdr hh hv hq ha hhw sc sp st 0 ce time ss ob rq2 ax ay az lim LW Eb Y Ch hd dr (rqN rq (3 * i)) (rqN rq (3 * i + 1)) (ck + 60) (by omega) (by omega) (by omega) (by exact hI) (by exact hEb) (by exact hH) (by omega) (by omega) (by omega)) gX2_tryAll_X3_finishOf rfl (by decide +kernel) rfl ⟨by show 4 + 1 ≤ 12 + (d + 1); omega, by show 8 + (7 + 11) + (95) ≤ 400 + 40 * (d + 1); omega⟩ ⟨Nat.le_of_ble_eq_true rfl, Nat.le_of_ble_eq_true rfl⟩ [4, 5, 6, 7, 8, 9, 10, 11, 12, 13, 14, 15, 16, 17, 18, 19, 20, 21, 22] [0, 1, 2, 3] rfl rfl rfl rfl (by decide) 4 rfl rfl (rest := []) rfl (Nat.le_of_ble_eq_true rfl) dX2_tryAll_130 ?_
            rintro _ _ ⟨ax'_1, ay'_2, az'_3, lim'_4, LW'_5, dr'_6, E'_7, mk'_8, r_9, rfl, rfl, hm3, hI3, hr3⟩
            show jj X 0 0 133 [(12, .int (nI (ck + 60))), (11, .int (nI (rqN rq (3 * i)))), (10, .int (nI (10 * dig + i + 1))), (9, .int (nI (used ||| 2 ^ i))), (0, .ref h2), (1, .int (nI dep)), (2, .int (nI used)), (3, .int (nI ce)), (4, .int (nI time)), (5, .int (nI sum)), (6, .int (nI dig)), (7, .ref ga), (8, .int (nI i))] [.int r_9] [(h2, cO 2 [.int (oV (tL ob rq ck n d used ce time sum dig i (b1, b2)).1), .int (nI ((tL ob rq ck n d used ce time sum dig i (b1, b2)).2)), .ref h3, .ref ga]), (ga, cO 6 [.int (nI ck), .int (nI gp), .int (bI gs), .int (nI n), .ref go, .ref gr]), (go, cI (xT X) 21 gob), (gr, cI (xT X) 12 rq), (h3, cO 3 [.ref hS, .ref h4, .ref he, .ref hy, .ref hc, .int (nI mk'_8), .int (nI ce), .int (nI time)]), (he, cO 0 [.ref hew]), (hew, cJ (xT X) 183 E'_7), (hy, cO 0 [.ref hyw]), (hyw, cJ (xT X) 183 Y), (hc, cO 0 [.ref hcw]), (hcw, cJ (xT X) 3 Ch), (h4, cO 4 [.ref hS, .ref hs, .ref hl, .ref hdr, .int ax'_1, .int ay'_2, .int az'_3, .long lim'_4]), (hs, cO 6 [.int (nI sc), .int (nI sp), .int (bI ss), .int (nI st), .ref so, .ref sr]), (so, cI (xT X) 21 ob), (sr, cI (xT X) 12 rq2), (hl, cO 0 [.ref hlw]), (hlw, cJ (xT X) 903 LW'_5), (hdr, cZ (xT X) 301 (fun j => bI (dr'_6 j))), (hS, cO 5 [.ref hh, .ref hv, .ref hq, .ref ha]), (hv, cI (xT X) 450 cvec), (hq, cI (xT X) 150 csq), (hh, cO 0 [.ref hhw]), (hhw, cJ (xT X) 450 hd)]
            refine j_istore C dX2_tryAll_133 (by decide) (lv' := [(13, .int r_9), (12, .int (nI (ck + 60))), (11, .int (nI (rqN rq (3 * i)))), (10, .int (nI (10 * dig + i + 1))), (9, .int (nI (used ||| 2 ^ i))), (0, .ref h2), (1, .int (nI dep)), (2, .int (nI used)), (3, .int (nI ce)), (4, .int (nI time)), (5, .int (nI sum)), (6, .int (nI dig)), (7, .ref ga), (8, .int (nI i))]) rfl ?_
            refine j_iload C dX2_tryAll_135 0 rfl ?_
            refine j_bipush C dX2_tryAll_137 (v := (-9)) kc_b_m9 ?_
            refine j_icmp_ne C dX2_tryAll_139 (tgt := 161) (by decide) (fun q139 => ?_) (fun q139 => ?_)
            · skip
              rcases fin_fnd hr3 with ⟨e9, -⟩ | ⟨f, rfl, hf1, hf2, hf3⟩
              · exact absurd e9 q139
              refine j_iload C dX2_tryAll_161 10 rfl ?_
              refine j_aload C dX2_tryAll_163 12 rfl ?_
              refine j_iload C dX2_tryAll_165 13 rfl ?_
              refine j_iconst C dX2_tryAll_167 (v := (nI 2)) kc_i_2 ?_
              refine j_callVR C (nA := 2) (As := [.int (nI i), .int (nI 2)]) (c_X6_ofRequest (xl X) (xT X) ga go gr ck gp n i 2 gs gob rq (by omega)) gX2_tryAll_X6_ofRequest rfl (by decide +kernel) rfl ⟨rfl, rfl⟩ ⟨by show 0 + 1 ≤ 12 + (d + 1); omega, by show 8 + (4 + 11) + (0) ≤ 400 + 40 * (d + 1); omega⟩ ⟨Nat.le_of_ble_eq_true rfl, Nat.le_of_ble_eq_true rfl⟩ [1, 2, 3] rfl rfl 1 rfl rfl (rest := [.int (nI sum)]) rfl (Nat.le_of_ble_eq_true rfl) dX2_tryAll_168 ?_
              rintro _ rfl
              show jj X 0 0 171 [(13, .int (nI f)), (12, .int (nI (ck + 60))), (11, .int (nI (rqN rq (3 * i)))), (10, .int (nI (10 * dig + i + 1))), (9, .int (nI (used ||| 2 ^ i))), (0, .ref h2), (1, .int (nI dep)), (2, .int (nI used)), (3, .int (nI ce)), (4, .int (nI time)), (5, .int (nI sum)), (6, .int (nI dig)), (7, .ref ga), (8, .int (nI i))] [.int (rq (3 * i + 2)), .int (nI sum)] [(h2, cO 2 [.int (oV (tL ob rq ck n d used ce time sum dig i (b1, b2)).1), .int (nI ((tL ob rq ck n d used ce time sum dig i (b1, b2)).2)), .ref h3, .ref ga]), (ga, cO 6 [.int (nI ck), .int (nI gp), .int (bI gs), .int (nI n), .ref go, .ref gr]), (go, cI (xT X) 21 gob), (gr, cI (xT X) 12 rq), (h3, cO 3 [.ref hS, .ref h4, .ref he, .ref hy, .ref hc, .int (nI mk'_8), .int (nI ce), .int (nI time)]), (he, cO 0 [.ref hew]), (hew, cJ (xT X) 183 E'_7), (hy, cO 0 [.ref hyw]), (hyw, cJ (xT X) 183 Y), (hc, cO 0 [.ref hcw]), (hcw, cJ (xT X) 3 Ch), (h4, cO 4 [.ref hS, .ref hs, .ref hl, .ref hdr, .int ax'_1, .int ay'_2, .int az'_3, .long lim'_4]), (hs, cO 6 [.int (nI sc), .int (nI sp), .int (bI ss), .int (nI st), .ref so, .ref sr]), (so, cI (xT X) 21 ob), (sr, cI (xT X) 12 rq2), (hl, cO 0 [.ref hlw]), (hlw, cJ (xT X) 903 LW'_5), (hdr, cZ (xT X) 301 (fun j => bI (dr'_6 j))), (hS, cO 5 [.ref hh, .ref hv, .ref hq, .ref ha]), (hv, cI (xT X) 450 cvec), (hq, cI (xT X) 150 csq), (hh, cO 0 [.ref hhw]), (hhw, cJ (xT X) 450 hd)]
              refine j_ieq (nI (rqN rq (3 * i + 2))) (by exact hqi.2.2.1) ?_
              refine j_iadd C dX2_tryAll_171 (v := (nI (sum + (rqN rq (3 * i + 2))))) (nI_add _ _) ?_
              refine j_istore C dX2_tryAll_172 (by decide) (lv' := [(14, .int (nI (sum + (rqN rq (3 * i + 2))))), (13, .int (nI f)), (12, .int (nI (ck + 60))), (11, .int (nI (rqN rq (3 * i)))), (10, .int (nI (10 * dig + i + 1))), (9, .int (nI (used ||| 2 ^ i))), (0, .ref h2), (1, .int (nI dep)), (2, .int (nI used)), (3, .int (nI ce)), (4, .int (nI time)), (5, .int (nI sum)), (6, .int (nI dig)), (7, .ref ga), (8, .int (nI i))]) rfl ?_
              refine j_aload_n C dX2_tryAll_174 6 rfl rfl ?_
              refine j_iload_n C dX2_tryAll_175 7 rfl rfl ?_
              refine j_iconst C dX2_tryAll_176 (v := (nI 1)) kc_i_1 ?_
              refine j_iadd C dX2_tryAll_177 (v := (nI (dep + 1))) (nI_add _ _) ?_
              refine j_iload C dX2_tryAll_178 5 rfl ?_
              refine j_iload C dX2_tryAll_180 3 rfl ?_
              refine j_iload C dX2_tryAll_182 1 rfl ?_
              refine j_iload C dX2_tryAll_184 0 rfl ?_
              refine j_iload C dX2_tryAll_186 4 rfl ?_
              refine j_callSM C rw_ (nA := 7) (As := [.ref h2, .int (nI (dep + 1)), .int (nI (used ||| 2 ^ i)), .int (nI (rqN rq (3 * i))), .int (nI f), .int (nI (sum + (rqN rq (3 * i + 2)))), .int (nI (10 * dig + i + 1))]) (wr := []) (IH h2 ga go gr ck gp n ((tL ob rq ck n d used ce time sum dig i (b1, b2)).1) ((tL ob rq ck n d used ce time sum dig i (b1, b2)).2) gs gob rq h3 h4 he hew hy hyw hc hcw hS hs so sr hl hlw hdr hh hv hq ha hhw sc sp st mk'_8 ce time ss ob rq2 ax'_1 ay'_2 az'_3 lim'_4 LW'_5 E'_7 Y Ch hd dr'_6 (dep + 1) (used ||| 2 ^ i) (rqN rq (3 * i)) f (sum + (rqN rq (3 * i + 2))) (10 * dig + i + 1) (by omega) (by omega) (by omega) (by omega) (by omega) (by omega) (by exact htL) (by exact hrq) (by exact hI3) (by exact hH) (by omega)) gX2_tryAll_X2_tryAll rfl (by decide +kernel) rfl ⟨by show 12 + (d) + 1 ≤ 12 + (d + 1); omega, by show 8 + (15 + 11) + (400 + 40 * (d)) ≤ 400 + 40 * (d + 1); omega⟩ ⟨Nat.le_of_ble_eq_true rfl, Nat.le_of_ble_eq_true rfl⟩ [0, 1, 2, 3, 4, 5, 6, 7, 8, 9, 10, 11, 12, 13, 14, 15, 16, 17, 18, 19, 20, 21, 22] [] rfl rfl rfl rfl (by decide) (rest := []) rfl (Nat.le_of_ble_eq_true rfl) dX2_tryAll_188 ?_
              rintro _ _ ⟨ax'_10, ay'_11, az'_12, lim'_13, LW'_14, dr'_15, E'_16, mk'_17, p'_18, t0'_19, rfl, rfl, hI4⟩
              show jj X 0 0 191 [(14, .int (nI (sum + (rqN rq (3 * i + 2))))), (13, .int (nI f)), (12, .int (nI (ck + 60))), (11, .int (nI (rqN rq (3 * i)))), (10, .int (nI (10 * dig + i + 1))), (9, .int (nI (used ||| 2 ^ i))), (0, .ref h2), (1, .int (nI dep)), (2, .int (nI used)), (3, .int (nI ce)), (4, .int (nI time)), (5, .int (nI sum)), (6, .int (nI dig)), (7, .ref ga), (8, .int (nI i))] [] [(h2, cO 2 [.int (oV (tF ob rq ck n d (used ||| 2 ^ i) (rqN rq (3 * i)) f (sum + (rqN rq (3 * i + 2))) (10 * dig + i + 1) (((tL ob rq ck n d used ce time sum dig i (b1, b2)).1), ((tL ob rq ck n d used ce time sum dig i (b1, b2)).2))).1), .int (nI ((tF ob rq ck n d (used ||| 2 ^ i) (rqN rq (3 * i)) f (sum + (rqN rq (3 * i + 2))) (10 * dig + i + 1) (((tL ob rq ck n d used ce time sum dig i (b1, b2)).1), ((tL ob rq ck n d used ce time sum dig i (b1, b2)).2))).2)), .ref h3, .ref ga]), (ga, cO 6 [.int (nI ck), .int (nI gp), .int (bI gs), .int (nI n), .ref go, .ref gr]), (go, cI (xT X) 21 gob), (gr, cI (xT X) 12 rq), (h3, cO 3 [.ref hS, .ref h4, .ref he, .ref hy, .ref hc, .int (nI mk'_17), .int (nI p'_18), .int (nI t0'_19)]), (he, cO 0 [.ref hew]), (hew, cJ (xT X) 183 E'_16), (hy, cO 0 [.ref hyw]), (hyw, cJ (xT X) 183 Y), (hc, cO 0 [.ref hcw]), (hcw, cJ (xT X) 3 Ch), (h4, cO 4 [.ref hS, .ref hs, .ref hl, .ref hdr, .int ax'_10, .int ay'_11, .int az'_12, .long lim'_13]), (hs, cO 6 [.int (nI sc), .int (nI sp), .int (bI ss), .int (nI st), .ref so, .ref sr]), (so, cI (xT X) 21 ob), (sr, cI (xT X) 12 rq2), (hl, cO 0 [.ref hlw]), (hlw, cJ (xT X) 903 LW'_14), (hdr, cZ (xT X) 301 (fun j => bI (dr'_15 j))), (hS, cO 5 [.ref hh, .ref hv, .ref hq, .ref ha]), (hv, cI (xT X) 450 cvec), (hq, cI (xT X) 150 csq), (hh, cO 0 [.ref hhw]), (hhw, cJ (xT X) 450 hd)]
              have e9 : (tL ob rq ck n d used ce time sum dig (i + 1) (b1, b2)) = (tF ob rq ck n d (used ||| 2 ^ i) (rqN rq (3 * i)) f (sum + (rqN rq (3 * i + 2))) (10 * dig + i + 1) (((tL ob rq ck n d used ce time sum dig i (b1, b2)).1), ((tL ob rq ck n d used ce time sum dig i (b1, b2)).2))) := by
                rw [tL_s]; unfold tS; rw [if_neg (fun h => h hbit), hf1]
              rw [← e9]
              refine j_iinc C dX2_tryAll_191 (q := 14) (v := (nI (i + 1))) rfl (kc_inc i) (by decide) (lv' := [(8, .int (nI (i + 1))), (14, .int (nI (sum + (rqN rq (3 * i + 2))))), (13, .int (nI f)), (12, .int (nI (ck + 60))), (11, .int (nI (rqN rq (3 * i)))), (10, .int (nI (10 * dig + i + 1))), (9, .int (nI (used ||| 2 ^ i))), (0, .ref h2), (1, .int (nI dep)), (2, .int (nI used)), (3, .int (nI ce)), (4, .int (nI time)), (5, .int (nI sum)), (6, .int (nI dig)), (7, .ref ga)]) rfl ?_
              refine j_goto C dX2_tryAll_194 (tgt := 45) (by decide) ?_
              refine j_lv [7, 8, 9, 10, 11, 12, 13, 14, 0] rfl ?_
              refine ih45 _ _ _ _ _ _ _ _ _ _ _ (by omega) ?_ ?_
              · omega
              · exact hI4
            · skip
              have hfn : fnd ob time ce (rqN rq (3 * i)) (rqN rq (3 * i + 1)) (ck + 60) = none := by
                rcases fin_fnd hr3 with ⟨-, h⟩ | ⟨f, e9, -, h2, -⟩
                · exact h
                · exact absurd (e9.symm.trans q139) (nI_n9 (by omega))
              refine j_aload_n C dX2_tryAll_142 5 rfl rfl ?_
              refine j_iload_n C dX2_tryAll_143 6 rfl rfl ?_
              refine j_iconst C dX2_tryAll_144 (v := (nI 1)) kc_i_1 ?_
              refine j_iadd C dX2_tryAll_145 (v := (nI (dep + 1))) (nI_add _ _) ?_
              refine j_iload C dX2_tryAll_146 4 rfl ?_
              refine j_iload_n C dX2_tryAll_148 8 rfl rfl ?_
              refine j_iload C dX2_tryAll_149 9 rfl ?_
              refine j_iload C dX2_tryAll_151 10 rfl ?_
              refine j_iload C dX2_tryAll_153 3 rfl ?_
              refine j_callSM C rw_ (nA := 7) (As := [.ref h2, .int (nI (dep + 1)), .int (nI (used ||| 2 ^ i)), .int (nI ce), .int (nI time), .int (nI sum), .int (nI (10 * dig + i + 1))]) (wr := []) (IH h2 ga go gr ck gp n ((tL ob rq ck n d used ce time sum dig i (b1, b2)).1) ((tL ob rq ck n d used ce time sum dig i (b1, b2)).2) gs gob rq h3 h4 he hew hy hyw hc hcw hS hs so sr hl hlw hdr hh hv hq ha hhw sc sp st mk'_8 ce time ss ob rq2 ax'_1 ay'_2 az'_3 lim'_4 LW'_5 E'_7 Y Ch hd dr'_6 (dep + 1) (used ||| 2 ^ i) ce time sum (10 * dig + i + 1) (by omega) (by omega) (by omega) (by omega) (by omega) (by omega) (by exact htL) (by exact hrq) (by exact hI3) (by exact hH) (by omega)) gX2_tryAll_X2_tryAll rfl (by decide +kernel) rfl ⟨by show 12 + (d) + 1 ≤ 12 + (d + 1); omega, by show 8 + (15 + 11) + (400 + 40 * (d)) ≤ 400 + 40 * (d + 1); omega⟩ ⟨Nat.le_of_ble_eq_true rfl, Nat.le_of_ble_eq_true rfl⟩ [0, 1, 2, 3, 4, 5, 6, 7, 8, 9, 10, 11, 12, 13, 14, 15, 16, 17, 18, 19, 20, 21, 22] [] rfl rfl rfl rfl (by decide) (rest := []) rfl (Nat.le_of_ble_eq_true rfl) dX2_tryAll_155 ?_
              rintro _ _ ⟨ax'_20, ay'_21, az'_22, lim'_23, LW'_24, dr'_25, E'_26, mk'_27, p'_28, t0'_29, rfl, rfl, hI4⟩
              show jj X 0 0 158 [(13, .int r_9), (12, .int (nI (ck + 60))), (11, .int (nI (rqN rq (3 * i)))), (10, .int (nI (10 * dig + i + 1))), (9, .int (nI (used ||| 2 ^ i))), (0, .ref h2), (1, .int (nI dep)), (2, .int (nI used)), (3, .int (nI ce)), (4, .int (nI time)), (5, .int (nI sum)), (6, .int (nI dig)), (7, .ref ga), (8, .int (nI i))] [] [(h2, cO 2 [.int (oV (tF ob rq ck n d (used ||| 2 ^ i) ce time sum (10 * dig + i + 1) (((tL ob rq ck n d used ce time sum dig i (b1, b2)).1), ((tL ob rq ck n d used ce time sum dig i (b1, b2)).2))).1), .int (nI ((tF ob rq ck n d (used ||| 2 ^ i) ce time sum (10 * dig + i + 1) (((tL ob rq ck n d used ce time sum dig i (b1, b2)).1), ((tL ob rq ck n d used ce time sum dig i (b1, b2)).2))).2)), .ref h3, .ref ga]), (ga, cO 6 [.int (nI ck), .int (nI gp), .int (bI gs), .int (nI n), .ref go, .ref gr]), (go, cI (xT X) 21 gob), (gr, cI (xT X) 12 rq), (h3, cO 3 [.ref hS, .ref h4, .ref he, .ref hy, .ref hc, .int (nI mk'_27), .int (nI p'_28), .int (nI t0'_29)]), (he, cO 0 [.ref hew]), (hew, cJ (xT X) 183 E'_26), (hy, cO 0 [.ref hyw]), (hyw, cJ (xT X) 183 Y), (hc, cO 0 [.ref hcw]), (hcw, cJ (xT X) 3 Ch), (h4, cO 4 [.ref hS, .ref hs, .ref hl, .ref hdr, .int ax'_20, .int ay'_21, .int az'_22, .long lim'_23]), (hs, cO 6 [.int (nI sc), .int (nI sp), .int (bI ss), .int (nI st), .ref so, .ref sr]), (so, cI (xT X) 21 ob), (sr, cI (xT X) 12 rq2), (hl, cO 0 [.ref hlw]), (hlw, cJ (xT X) 903 LW'_24), (hdr, cZ (xT X) 301 (fun j => bI (dr'_25 j))), (hS, cO 5 [.ref hh, .ref hv, .ref hq, .ref ha]), (hv, cI (xT X) 450 cvec), (hq, cI (xT X) 150 csq), (hh, cO 0 [.ref hhw]), (hhw, cJ (xT X) 450 hd)]
              refine j_goto C dX2_tryAll_158 (tgt := 191) (by decide) ?_
              have e9 : (tL ob rq ck n d used ce time sum dig (i + 1) (b1, b2)) = (tF ob rq ck n d (used ||| 2 ^ i) ce time sum (10 * dig + i + 1) (((tL ob rq ck n d used ce time sum dig i (b1, b2)).1), ((tL ob rq ck n d used ce time sum dig i (b1, b2)).2))) := by
                rw [tL_s]; unfold tS; rw [if_neg (fun h => h hbit), hfn]
              rw [← e9]
              refine j_iinc C dX2_tryAll_191 (q := 13) (v := (nI (i + 1))) rfl (kc_inc i) (by decide) (lv' := [(8, .int (nI (i + 1))), (13, .int r_9), (12, .int (nI (ck + 60))), (11, .int (nI (rqN rq (3 * i)))), (10, .int (nI (10 * dig + i + 1))), (9, .int (nI (used ||| 2 ^ i))), (0, .ref h2), (1, .int (nI dep)), (2, .int (nI used)), (3, .int (nI ce)), (4, .int (nI time)), (5, .int (nI sum)), (6, .int (nI dig)), (7, .ref ga)]) rfl ?_
              refine j_goto C dX2_tryAll_194 (tgt := 45) (by decide) ?_
              refine j_lv [6, 7, 8, 9, 10, 11, 12, 13, 0] rfl ?_
              refine ih45 _ _ _ _ _ _ _ _ _ _ _ (by omega) ?_ ?_
              · omega
              · exact hI4
    · skip
      have q17 := (kn_nlt (a := dep) (b := 4) (by omega) (by omega)).mp q17
      exfalso
      first | exact q17.elim | omega
theorem c_X2_tryAll (l : Launch) (T : jj_T) : ∀ (d : Nat), ∀ (h2 ga go gr ck gp n b1 b2 : Nat) (gs : Bool) (gob rq : Nat → Int32) (h3 h4 he hew hy hyw hc hcw hS hs so sr hl hlw hdr hh hv hq ha hhw sc sp st mk p t0 : Nat) (ss : Bool) (ob rq2 : Nat → Int32) (ax ay az : Int32) (lim : Int64) (LW E Y Ch hd : Nat → Int64) (dr : Nat → Bool) (dep used ce time sum dig : Nat), (n ≤ 4) → (ce < 150) → (time ≤ ck + 60) → (ck ≤ 200) → (sum + 99 * d ≤ 499) → (used < 16) → (b1 ≤ 500) → (rqI rq n) → (skI ob dr LW) → (hdI hd) → (dep + d = n) → jM l T yX2_tryAll wsX2_tryAll { frames := 12 + (d), cells := 0, slots := 0, locals := 400 + 40 * (d) } [.ref h2, .int (nI dep), .int (nI used), .int (nI ce), .int (nI time), .int (nI sum), .int (nI dig)] [(h2, cO 2 [.int (oV b1), .int (nI b2), .ref h3, .ref ga]), (ga, cO 6 [.int (nI ck), .int (nI gp), .int (bI gs), .int (nI n), .ref go, .ref gr]), (go, cI T 21 gob), (gr, cI T 12 rq), (h3, cO 3 [.ref hS, .ref h4, .ref he, .ref hy, .ref hc, .int (nI mk), .int (nI p), .int (nI t0)]), (he, cO 0 [.ref hew]), (hew, cJ T 183 E), (hy, cO 0 [.ref hyw]), (hyw, cJ T 183 Y), (hc, cO 0 [.ref hcw]), (hcw, cJ T 3 Ch), (h4, cO 4 [.ref hS, .ref hs, .ref hl, .ref hdr, .int ax, .int ay, .int az, .long lim]), (hs, cO 6 [.int (nI sc), .int (nI sp), .int (bI ss), .int (nI st), .ref so, .ref sr]), (so, cI T 21 ob), (sr, cI T 12 rq2), (hl, cO 0 [.ref hlw]), (hlw, cJ T 903 LW), (hdr, cZ T 301 (fun j => bI (dr j))), (hS, cO 5 [.ref hh, .ref hv, .ref hq, .ref ha]), (hv, cI T 450 cvec), (hq, cI T 150 csq), (hh, cO 0 [.ref hhw]), (hhw, cJ T 450 hd)] (fun v w1 => ∃ ax' : Int32, ∃ ay' : Int32, ∃ az' : Int32, ∃ lim' : Int64, ∃ LW' : Nat → Int64, ∃ dr' : Nat → Bool, ∃ E' : Nat → Int64, ∃ mk' : Nat, ∃ p' : Nat, ∃ t0' : Nat, v = none ∧ w1 = [(h2, cO 2 [.int (oV (tF ob rq ck n d used ce time sum dig (b1, b2)).1), .int (nI ((tF ob rq ck n d used ce time sum dig (b1, b2)).2)), .ref h3, .ref ga]), (ga, cO 6 [.int (nI ck), .int (nI gp), .int (bI gs), .int (nI n), .ref go, .ref gr]), (go, cI T 21 gob), (gr, cI T 12 rq), (h3, cO 3 [.ref hS, .ref h4, .ref he, .ref hy, .ref hc, .int (nI mk'), .int (nI p'), .int (nI t0')]), (he, cO 0 [.ref hew]), (hew, cJ T 183 E'), (hy, cO 0 [.ref hyw]), (hyw, cJ T 183 Y), (hc, cO 0 [.ref hcw]), (hcw, cJ T 3 Ch), (h4, cO 4 [.ref hS, .ref hs, .ref hl, .ref hdr, .int ax', .int ay', .int az', .long lim']), (hs, cO 6 [.int (nI sc), .int (nI sp), .int (bI ss), .int (nI st), .ref so, .ref sr]), (so, cI T 21 ob), (sr, cI T 12 rq2), (hl, cO 0 [.ref hlw]), (hlw, cJ T 903 LW'), (hdr, cZ T 301 (fun j => bI (dr' j))), (hS, cO 5 [.ref hh, .ref hv, .ref hq, .ref ha]), (hv, cI T 450 cvec), (hq, cI T 150 csq), (hh, cO 0 [.ref hhw]), (hhw, cJ T 450 hd)] ∧ skI ob dr' LW')
  | 0 => fun h2 ga go gr ck gp n b1 b2 gs gob rq h3 h4 he hew hy hyw hc hcw hS hs so sr hl hlw hdr hh hv hq ha hhw sc sp st mk p t0 ss ob rq2 ax ay az lim LW E Y Ch hd dr dep used ce time sum dig q1 q2 q3 q4 q5 q6 q7 q8 q9 q10 q11 => c_X2_tryAll_0 l T h2 ga go gr ck gp n b1 b2 gs gob rq h3 h4 he hew hy hyw hc hcw hS hs so sr hl hlw hdr hh hv hq ha hhw sc sp st mk p t0 ss ob rq2 ax ay az lim LW E Y Ch hd dr dep used ce time sum dig q1 q2 q3 q4 q5 q6 q7 q8 q9 q10 q11
  | d + 1 => fun h2 ga go gr ck gp n b1 b2 gs gob rq h3 h4 he hew hy hyw hc hcw hS hs so sr hl hlw hdr hh hv hq ha hhw sc sp st mk p t0 ss ob rq2 ax ay az lim LW E Y Ch hd dr dep used ce time sum dig q1 q2 q3 q4 q5 q6 q7 q8 q9 q10 q11 => c_X2_tryAll_s l T d (c_X2_tryAll l T d) h2 ga go gr ck gp n b1 b2 gs gob rq h3 h4 he hew hy hyw hc hcw hS hs so sr hl hlw hdr hh hv hq ha hhw sc sp st mk p t0 ss ob rq2 ax ay az lim LW E Y Ch hd dr dep used ce time sum dig q1 q2 q3 q4 q5 q6 q7 q8 q9 q10 q11
