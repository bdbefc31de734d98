/-! PLANS: the methods -/
set_option maxHeartbeats 4000000 in
set_option maxRecDepth 100000 in
/-- begin(cell, time) -/
theorem c_X3_begin (l : Launch) (T : jj_T) (h3 h4 he hew hy hyw hc hcw hS hs so sr hl hlw hdr hh hv hq ha hhw sc sp st mk p t0 : Nat) (ss : Bool) (ob rq : Nat → Int32) (ax ay az : Int32) (lim : Int64) (LW E Y Ch hd : Nat → Int64) (dr : Nat → Bool) (p1 t1 : Nat) (hp1 : p1 < 150) : jM l T yX3_begin wsX3_begin { frames := 2, cells := 0, slots := 0, locals := 44 } [.ref h3, .int (nI p1), .int (nI t1)] [(h3, cO 3 [.ref hS, .ref h4, .ref he, .ref hy, .ref hc, .int (nI mk), .int (nI p), .int (nI t0)]), (he, cO 0 [.ref hew]), (hew, cJ T 183 E), (hy, cO 0 [.ref hyw]), (hyw, cJ T 183 Y), (hc, cO 0 [.ref hcw]), (hcw, cJ T 3 Ch), (h4, cO 4 [.ref hS, .ref hs, .ref hl, .ref hdr, .int ax, .int ay, .int az, .long lim]), (hs, cO 6 [.int (nI sc), .int (nI sp), .int (bI ss), .int (nI st), .ref so, .ref sr]), (so, cI T 21 ob), (sr, cI T 12 rq), (hl, cO 0 [.ref hlw]), (hlw, cJ T 903 LW), (hdr, cZ T 301 (fun j => bI (dr j))), (hS, cO 5 [.ref hh, .ref hv, .ref hq, .ref ha]), (hv, cI T 450 cvec), (hq, cI T 150 csq), (hh, cO 0 [.ref hhw]), (hhw, cJ T 450 hd)] (fun v w1 => ∃ E' : Nat → Int64, v = none ∧ w1 = [(h3, cO 3 [.ref hS, .ref h4, .ref he, .ref hy, .ref hc, .int (nI 0), .int (nI p1), .int (nI t1)]), (he, cO 0 [.ref hew]), (hew, cJ T 183 E'), (hy, cO 0 [.ref hyw]), (hyw, cJ T 183 Y), (hc, cO 0 [.ref hcw]), (hcw, cJ T 3 Ch), (h4, cO 4 [.ref hS, .ref hs, .ref hl, .ref hdr, .int ax, .int ay, .int az, .long lim]), (hs, cO 6 [.int (nI sc), .int (nI sp), .int (bI ss), .int (nI st), .ref so, .ref sr]), (so, cI T 21 ob), (sr, cI T 12 rq), (hl, cO 0 [.ref hlw]), (hlw, cJ T 903 LW), (hdr, cZ T 301 (fun j => bI (dr j))), (hS, cO 5 [.ref hh, .ref hv, .ref hq, .ref ha]), (hv, cI T 450 cvec), (hq, cI T 150 csq), (hh, cO 0 [.ref hhw]), (hhw, cJ T 450 hd)] ∧ (plI ob t1 p1 0 E')) := by
  refine jM.of (cc := cX3_begin) (maxL := 3) (ret := none) (by decide) rfl (Nat.le_of_ble_eq_true rfl) ?_
  intro X C rw_ hl hT hQ hnm
  subst hl; subst hT
  have hin3 : ∀ w ∈ u_ws RX3 TX3 8, w ∈ wsX3_begin := by decide +kernel
  have hl14 : Cond.fieldLink RX3 14 (TX3 2).1 (TX3 2).2.1 (TX3 2).2.2.1 ∈ wsX3_begin := by decide +kernel
  have hl34 : Cond.fieldLink RX3 34 (TX3 6).1 (TX3 6).2.1 (TX3 6).2.2.1 ∈ wsX3_begin := by decide +kernel
  have hl38 : Cond.fieldLink RX3 38 (TX3 7).1 (TX3 7).2.1 (TX3 7).2.2.1 ∈ wsX3_begin := by decide +kernel
  have hl48 : Cond.fieldLink RX3 48 (TX3 5).1 (TX3 5).2.1 (TX3 5).2.2.1 ∈ wsX3_begin := by decide +kernel
  show jj X 0 0 0 [(0, .ref h3), (1, .int (nI p1)), (2, .int (nI t1))] [] [(h3, cO 3 [.ref hS, .ref h4, .ref he, .ref hy, .ref hc, .int (nI mk), .int (nI p), .int (nI t0)]), (he, cO 0 [.ref hew]), (hew, cJ (xT X) 183 E), (hy, cO 0 [.ref hyw]), (hyw, cJ (xT X) 183 Y), (hc, cO 0 [.ref hcw]), (hcw, cJ (xT X) 3 Ch), (h4, cO 4 [.ref hS, .ref hs, .ref hl, .ref hdr, .int ax, .int ay, .int az, .long lim]), (hs, cO 6 [.int (nI sc), .int (nI sp), .int (bI ss), .int (nI st), .ref so, .ref sr]), (so, cI (xT X) 21 ob), (sr, cI (xT X) 12 rq), (hl, cO 0 [.ref hlw]), (hlw, cJ (xT X) 903 LW), (hdr, cZ (xT X) 301 (fun j => bI (dr j))), (hS, cO 5 [.ref hh, .ref hv, .ref hq, .ref ha]), (hv, cI (xT X) 450 cvec), (hq, cI (xT X) 150 csq), (hh, cO 0 [.ref hhw]), (hhw, cJ (xT X) 450 hd)]
  refine j_aload_n C dX3_begin_0 0 rfl rfl ?_
  refine j_iload_n C dX3_begin_1 1 rfl rfl ?_
  refine j_put C rw_ (hin3) tyX3 tyX3_ok nmX3 (ci := 3) rfl 6 (by decide) (hl34) (by decide +kernel) (ty := .int) (by decide +kernel) rfl rfl 0 rfl (Nat.le_of_ble_eq_true rfl) (w' := [(h3, cO 3 [.ref hS, .ref h4, .ref he, .ref hy, .ref hc, .int (nI mk), .int (nI p1), .int (nI t0)]), (he, cO 0 [.ref hew]), (hew, cJ (xT X) 183 E), (hy, cO 0 [.ref hyw]), (hyw, cJ (xT X) 183 Y), (hc, cO 0 [.ref hcw]), (hcw, cJ (xT X) 3 Ch), (h4, cO 4 [.ref hS, .ref hs, .ref hl, .ref hdr, .int ax, .int ay, .int az, .long lim]), (hs, cO 6 [.int (nI sc), .int (nI sp), .int (bI ss), .int (nI st), .ref so, .ref sr]), (so, cI (xT X) 21 ob), (sr, cI (xT X) 12 rq), (hl, cO 0 [.ref hlw]), (hlw, cJ (xT X) 903 LW), (hdr, cZ (xT X) 301 (fun j => bI (dr j))), (hS, cO 5 [.ref hh, .ref hv, .ref hq, .ref ha]), (hv, cI (xT X) 450 cvec), (hq, cI (xT X) 150 csq), (hh, cO 0 [.ref hhw]), (hhw, cJ (xT X) 450 hd)]) rfl dX3_begin_2 ?_
  refine j_aload_n C dX3_begin_5 0 rfl rfl ?_
  refine j_iload_n C dX3_begin_6 2 rfl rfl ?_
  refine j_put C rw_ (hin3) tyX3 tyX3_ok nmX3 (ci := 3) rfl 7 (by decide) (hl38) (by decide +kernel) (ty := .int) (by decide +kernel) rfl rfl 0 rfl (Nat.le_of_ble_eq_true rfl) (w' := [(h3, cO 3 [.ref hS, .ref h4, .ref he, .ref hy, .ref hc, .int (nI mk), .int (nI p1), .int (nI t1)]), (he, cO 0 [.ref hew]), (hew, cJ (xT X) 183 E), (hy, cO 0 [.ref hyw]), (hyw, cJ (xT X) 183 Y), (hc, cO 0 [.ref hcw]), (hcw, cJ (xT X) 3 Ch), (h4, cO 4 [.ref hS, .ref hs, .ref hl, .ref hdr, .int ax, .int ay, .int az, .long lim]), (hs, cO 6 [.int (nI sc), .int (nI sp), .int (bI ss), .int (nI st), .ref so, .ref sr]), (so, cI (xT X) 21 ob), (sr, cI (xT X) 12 rq), (hl, cO 0 [.ref hlw]), (hlw, cJ (xT X) 903 LW), (hdr, cZ (xT X) 301 (fun j => bI (dr j))), (hS, cO 5 [.ref hh, .ref hv, .ref hq, .ref ha]), (hv, cI (xT X) 450 cvec), (hq, cI (xT X) 150 csq), (hh, cO 0 [.ref hhw]), (hhw, cJ (xT X) 450 hd)]) rfl dX3_begin_7 ?_
  refine j_aload_n C dX3_begin_10 0 rfl rfl ?_
  refine j_get C (hin3) (ci := 3) rfl 2 (by decide) (hl14) 0 rfl (v := .ref he) rfl dX3_begin_11 ?_
  refine j_iconst C dX3_begin_14 (v := (nI 0)) kc_i_0 ?_
  refine j_callVM C rw_ (nA := 1) (As := [.int (nI 0)]) (wr := [(h3, cO 3 [.ref hS, .ref h4, .ref he, .ref hy, .ref hc, .int (nI mk), .int (nI p1), .int (nI t1)]), (hy, cO 0 [.ref hyw]), (hyw, cJ (xT X) 183 Y), (hc, cO 0 [.ref hcw]), (hcw, cJ (xT X) 3 Ch), (h4, cO 4 [.ref hS, .ref hs, .ref hl, .ref hdr, .int ax, .int ay, .int az, .long lim]), (hs, cO 6 [.int (nI sc), .int (nI sp), .int (bI ss), .int (nI st), .ref so, .ref sr]), (so, cI (xT X) 21 ob), (sr, cI (xT X) 12 rq), (hl, cO 0 [.ref hlw]), (hlw, cJ (xT X) 903 LW), (hdr, cZ (xT X) 301 (fun j => bI (dr j))), (hS, cO 5 [.ref hh, .ref hv, .ref hq, .ref ha]), (hv, cI (xT X) 450 cvec), (hq, cI (xT X) 150 csq), (hh, cO 0 [.ref hhw]), (hhw, cJ (xT X) 450 hd)]) (c_X0_clear (xl X) (xT X) he hew 183 0 E (by omega) (by omega)) gX3_begin_X0_clear rfl (by decide +kernel) rfl (by decide) (by decide) [1, 2] [0, 3, 4, 5, 6, 7, 8, 9, 10, 11, 12, 13, 14, 15, 16, 17, 18] rfl rfl rfl rfl (by decide) 1 rfl rfl (rest := []) rfl (Nat.le_of_ble_eq_true rfl) dX3_begin_15 ?_
  rintro _ _ ⟨g_1, rfl, rfl, hg1⟩
  show jj X 0 0 18 [(0, .ref h3), (1, .int (nI p1)), (2, .int (nI t1))] [] [(h3, cO 3 [.ref hS, .ref h4, .ref he, .ref hy, .ref hc, .int (nI mk), .int (nI p1), .int (nI t1)]), (hy, cO 0 [.ref hyw]), (hyw, cJ (xT X) 183 Y), (hc, cO 0 [.ref hcw]), (hcw, cJ (xT X) 3 Ch), (h4, cO 4 [.ref hS, .ref hs, .ref hl, .ref hdr, .int ax, .int ay, .int az, .long lim]), (hs, cO 6 [.int (nI sc), .int (nI sp), .int (bI ss), .int (nI st), .ref so, .ref sr]), (so, cI (xT X) 21 ob), (sr, cI (xT X) 12 rq), (hl, cO 0 [.ref hlw]), (hlw, cJ (xT X) 903 LW), (hdr, cZ (xT X) 301 (fun j => bI (dr j))), (hS, cO 5 [.ref hh, .ref hv, .ref hq, .ref ha]), (hv, cI (xT X) 450 cvec), (hq, cI (xT X) 150 csq), (hh, cO 0 [.ref hhw]), (hhw, cJ (xT X) 450 hd), (he, cO 0 [.ref hew]), (hew, cJ (xT X) 183 g_1)]
  refine j_aload_n C dX3_begin_18 0 rfl rfl ?_
  refine j_get C (hin3) (ci := 3) rfl 2 (by decide) (hl14) 0 rfl (v := .ref he) rfl dX3_begin_19 ?_
  refine j_iconst C dX3_begin_22 (v := (nI 0)) kc_i_0 ?_
  refine j_iload_n C dX3_begin_23 1 rfl rfl ?_
  refine j_callVM C rw_ (nA := 2) (As := [.int (nI 0), .int (nI p1)]) (wr := [(h3, cO 3 [.ref hS, .ref h4, .ref he, .ref hy, .ref hc, .int (nI mk), .int (nI p1), .int (nI t1)]), (hy, cO 0 [.ref hyw]), (hyw, cJ (xT X) 183 Y), (hc, cO 0 [.ref hcw]), (hcw, cJ (xT X) 3 Ch), (h4, cO 4 [.ref hS, .ref hs, .ref hl, .ref hdr, .int ax, .int ay, .int az, .long lim]), (hs, cO 6 [.int (nI sc), .int (nI sp), .int (bI ss), .int (nI st), .ref so, .ref sr]), (so, cI (xT X) 21 ob), (sr, cI (xT X) 12 rq), (hl, cO 0 [.ref hlw]), (hlw, cJ (xT X) 903 LW), (hdr, cZ (xT X) 301 (fun j => bI (dr j))), (hS, cO 5 [.ref hh, .ref hv, .ref hq, .ref ha]), (hv, cI (xT X) 450 cvec), (hq, cI (xT X) 150 csq), (hh, cO 0 [.ref hhw]), (hhw, cJ (xT X) 450 hd)]) (c_X0_add (xl X) (xT X) he hew 183 0 p1 g_1 (by omega) (by omega) (by omega)) gX3_begin_X0_add rfl (by decide +kernel) rfl (by decide) (by decide) [17, 18] [0, 1, 2, 3, 4, 5, 6, 7, 8, 9, 10, 11, 12, 13, 14, 15, 16] rfl rfl rfl rfl (by decide) 17 rfl rfl (rest := []) rfl (Nat.le_of_ble_eq_true rfl) dX3_begin_24 ?_
  rintro _ _ ⟨g_2, rfl, rfl, hg2⟩
  show jj X 0 0 27 [(0, .ref h3), (1, .int (nI p1)), (2, .int (nI t1))] [] [(h3, cO 3 [.ref hS, .ref h4, .ref he, .ref hy, .ref hc, .int (nI mk), .int (nI p1), .int (nI t1)]), (hy, cO 0 [.ref hyw]), (hyw, cJ (xT X) 183 Y), (hc, cO 0 [.ref hcw]), (hcw, cJ (xT X) 3 Ch), (h4, cO 4 [.ref hS, .ref hs, .ref hl, .ref hdr, .int ax, .int ay, .int az, .long lim]), (hs, cO 6 [.int (nI sc), .int (nI sp), .int (bI ss), .int (nI st), .ref so, .ref sr]), (so, cI (xT X) 21 ob), (sr, cI (xT X) 12 rq), (hl, cO 0 [.ref hlw]), (hlw, cJ (xT X) 903 LW), (hdr, cZ (xT X) 301 (fun j => bI (dr j))), (hS, cO 5 [.ref hh, .ref hv, .ref hq, .ref ha]), (hv, cI (xT X) 450 cvec), (hq, cI (xT X) 150 csq), (hh, cO 0 [.ref hhw]), (hhw, cJ (xT X) 450 hd), (he, cO 0 [.ref hew]), (hew, cJ (xT X) 183 g_2)]
  refine j_aload_n C dX3_begin_27 0 rfl rfl ?_
  refine j_iconst C dX3_begin_28 (v := (nI 0)) kc_i_0 ?_
  refine j_put C rw_ (hin3) tyX3 tyX3_ok nmX3 (ci := 3) rfl 5 (by decide) (hl48) (by decide +kernel) (ty := .int) (by decide +kernel) rfl rfl 0 rfl (Nat.le_of_ble_eq_true rfl) (w' := [(h3, cO 3 [.ref hS, .ref h4, .ref he, .ref hy, .ref hc, .int (nI 0), .int (nI p1), .int (nI t1)]), (hy, cO 0 [.ref hyw]), (hyw, cJ (xT X) 183 Y), (hc, cO 0 [.ref hcw]), (hcw, cJ (xT X) 3 Ch), (h4, cO 4 [.ref hS, .ref hs, .ref hl, .ref hdr, .int ax, .int ay, .int az, .long lim]), (hs, cO 6 [.int (nI sc), .int (nI sp), .int (bI ss), .int (nI st), .ref so, .ref sr]), (so, cI (xT X) 21 ob), (sr, cI (xT X) 12 rq), (hl, cO 0 [.ref hlw]), (hlw, cJ (xT X) 903 LW), (hdr, cZ (xT X) 301 (fun j => bI (dr j))), (hS, cO 5 [.ref hh, .ref hv, .ref hq, .ref ha]), (hv, cI (xT X) 450 cvec), (hq, cI (xT X) 150 csq), (hh, cO 0 [.ref hhw]), (hhw, cJ (xT X) 450 hd), (he, cO 0 [.ref hew]), (hew, cJ (xT X) 183 g_2)]) rfl dX3_begin_29 ?_
  refine j_perm C (w' := [(h3, cO 3 [.ref hS, .ref h4, .ref he, .ref hy, .ref hc, .int (nI 0), .int (nI p1), .int (nI t1)]), (he, cO 0 [.ref hew]), (hew, cJ (xT X) 183 g_2), (hy, cO 0 [.ref hyw]), (hyw, cJ (xT X) 183 Y), (hc, cO 0 [.ref hcw]), (hcw, cJ (xT X) 3 Ch), (h4, cO 4 [.ref hS, .ref hs, .ref hl, .ref hdr, .int ax, .int ay, .int az, .long lim]), (hs, cO 6 [.int (nI sc), .int (nI sp), .int (bI ss), .int (nI st), .ref so, .ref sr]), (so, cI (xT X) 21 ob), (sr, cI (xT X) 12 rq), (hl, cO 0 [.ref hlw]), (hlw, cJ (xT X) 903 LW), (hdr, cZ (xT X) 301 (fun j => bI (dr j))), (hS, cO 5 [.ref hh, .ref hv, .ref hq, .ref ha]), (hv, cI (xT X) 450 cvec), (hq, cI (xT X) 150 csq), (hh, cO 0 [.ref hhw]), (hhw, cJ (xT X) 450 hd)]) [0, 17, 18, 1, 2, 3, 4, 5, 6, 7, 8, 9, 10, 11, 12, 13, 14, 15, 16] rfl rfl ?_
  refine j_vretM C rw_ hQ (by decide) (by decide) ?_ dX3_begin_32
  refine ⟨_, rfl, rfl, fun j hj c hc' => ?_⟩
  rw [show j = 0 by omega, hg2 0 c hc', hg1 0 c hc', decide_eq_false (show ¬ ((0 : Nat) ≠ 0) from fun h => h rfl), Bool.false_and, Bool.or_false, rc]
  by_cases h : c = p1
  · rw [decide_eq_true ⟨rfl, h⟩, decide_eq_true h, decide_eq_true (by omega)]; rfl
  · rw [decide_eq_false (fun q => h q.2), decide_eq_false h, Bool.and_false]

set_option maxHeartbeats 4000000 in
set_option maxRecDepth 100000 in
/-- makeEnds(k) -/
theorem c_X3_makeEnds (l : Launch) (T : jj_T) (h3 h4 he hew hy hyw hc hcw hS hs so sr hl hlw hdr hh hv hq ha hhw sc sp st mk p t0 : Nat) (ss : Bool) (ob rq : Nat → Int32) (ax ay az : Int32) (lim : Int64) (LW E Y Ch hd : Nat → Int64) (dr : Nat → Bool) (k : Nat) (hp : p < 150) (ht0 : t0 + k ≤ 300) (hmk : mk ≤ 60) (hI : skI ob dr LW) (hE : plI ob t0 p mk E) (hH : hdI hd) (hk : k ≤ 60) : jM l T yX3_makeEnds wsX3_makeEnds { frames := 3, cells := 0, slots := 0, locals := 73 } [.ref h3, .int (nI k)] [(h3, cO 3 [.ref hS, .ref h4, .ref he, .ref hy, .ref hc, .int (nI mk), .int (nI p), .int (nI t0)]), (he, cO 0 [.ref hew]), (hew, cJ T 183 E), (hy, cO 0 [.ref hyw]), (hyw, cJ T 183 Y), (hc, cO 0 [.ref hcw]), (hcw, cJ T 3 Ch), (h4, cO 4 [.ref hS, .ref hs, .ref hl, .ref hdr, .int ax, .int ay, .int az, .long lim]), (hs, cO 6 [.int (nI sc), .int (nI sp), .int (bI ss), .int (nI st), .ref so, .ref sr]), (so, cI T 21 ob), (sr, cI T 12 rq), (hl, cO 0 [.ref hlw]), (hlw, cJ T 903 LW), (hdr, cZ T 301 (fun j => bI (dr j))), (hS, cO 5 [.ref hh, .ref hv, .ref hq, .ref ha]), (hv, cI T 450 cvec), (hq, cI T 150 csq), (hh, cO 0 [.ref hhw]), (hhw, cJ T 450 hd)] (fun v w1 => ∃ ax' : Int32, ∃ ay' : Int32, ∃ az' : Int32, ∃ lim' : Int64, ∃ LW' : Nat → Int64, ∃ dr' : Nat → Bool, ∃ E' : Nat → Int64, ∃ mk' : Nat, v = none ∧ w1 = [(h3, cO 3 [.ref hS, .ref h4, .ref he, .ref hy, .ref hc, .int (nI mk'), .int (nI p), .int (nI t0)]), (he, cO 0 [.ref hew]), (hew, cJ T 183 E'), (hy, cO 0 [.ref hyw]), (hyw, cJ T 183 Y), (hc, cO 0 [.ref hcw]), (hcw, cJ T 3 Ch), (h4, cO 4 [.ref hS, .ref hs, .ref hl, .ref hdr, .int ax', .int ay', .int az', .long lim']), (hs, cO 6 [.int (nI sc), .int (nI sp), .int (bI ss), .int (nI st), .ref so, .ref sr]), (so, cI T 21 ob), (sr, cI T 12 rq), (hl, cO 0 [.ref hlw]), (hlw, cJ T 903 LW'), (hdr, cZ T 301 (fun j => bI (dr' j))), (hS, cO 5 [.ref hh, .ref hv, .ref hq, .ref ha]), (hv, cI T 450 cvec), (hq, cI T 150 csq), (hh, cO 0 [.ref hhw]), (hhw, cJ T 450 hd)] ∧ (mk' ≤ 60) ∧ (k ≤ mk') ∧ (skI ob dr' LW') ∧ (plI ob t0 p mk' E')) := by
  refine jM.of (cc := cX3_makeEnds) (maxL := 3) (ret := none) (by decide) rfl (Nat.le_of_ble_eq_true rfl) ?_
  intro X C rw_ hl hT hQ hnm
  subst hl; subst hT
  have hin3 : ∀ w ∈ u_ws RX3 TX3 8, w ∈ wsX3_makeEnds := by decide +kernel
  have hin4 : ∀ w ∈ u_ws RX4 TX4 8, w ∈ wsX3_makeEnds := by decide +kernel
  have hin5 : ∀ w ∈ u_ws RX5 TX5 4, w ∈ wsX3_makeEnds := by decide +kernel
  have hl14 : Cond.fieldLink RX3 14 (TX3 2).1 (TX3 2).2.1 (TX3 2).2.2.1 ∈ wsX3_makeEnds := by decide +kernel
  have hl26 : Cond.fieldLink RX3 26 (TX3 0).1 (TX3 0).2.1 (TX3 0).2.2.1 ∈ wsX3_makeEnds := by decide +kernel
  have hl30 : Cond.fieldLink RX3 30 (TX3 1).1 (TX3 1).2.1 (TX3 1).2.2.1 ∈ wsX3_makeEnds := by decide +kernel
  have hl38 : Cond.fieldLink RX3 38 (TX3 7).1 (TX3 7).2.1 (TX3 7).2.2.1 ∈ wsX3_makeEnds := by decide +kernel
  have hl48 : Cond.fieldLink RX3 48 (TX3 5).1 (TX3 5).2.1 (TX3 5).2.2.1 ∈ wsX3_makeEnds := by decide +kernel
  have hl51 : Cond.fieldLink RX3 51 (TX5 0).1 (TX5 0).2.1 (TX5 0).2.2.1 ∈ wsX3_makeEnds := by decide +kernel
  have hl65 : Cond.fieldLink RX3 65 (TX4 2).1 (TX4 2).2.1 (TX4 2).2.2.1 ∈ wsX3_makeEnds := by decide +kernel
  show jj X 0 0 0 [(0, .ref h3), (1, .int (nI k))] [] [(h3, cO 3 [.ref hS, .ref h4, .ref he, .ref hy, .ref hc, .int (nI mk), .int (nI p), .int (nI t0)]), (he, cO 0 [.ref hew]), (hew, cJ (xT X) 183 E), (hy, cO 0 [.ref hyw]), (hyw, cJ (xT X) 183 Y), (hc, cO 0 [.ref hcw]), (hcw, cJ (xT X) 3 Ch), (h4, cO 4 [.ref hS, .ref hs, .ref hl, .ref hdr, .int ax, .int ay, .int az, .long lim]), (hs, cO 6 [.int (nI sc), .int (nI sp), .int (bI ss), .int (nI st), .ref so, .ref sr]), (so, cI (xT X) 21 ob), (sr, cI (xT X) 12 rq), (hl, cO 0 [.ref hlw]), (hlw, cJ (xT X) 903 LW), (hdr, cZ (xT X) 301 (fun j => bI (dr j))), (hS, cO 5 [.ref hh, .ref hv, .ref hq, .ref ha]), (hv, cI (xT X) 450 cvec), (hq, cI (xT X) 150 csq), (hh, cO 0 [.ref hhw]), (hhw, cJ (xT X) 450 hd)]
  refine j_aload_n C dX3_makeEnds_0 0 rfl rfl ?_
  refine j_get C (hin3) (ci := 3) rfl 5 (by decide) (hl48) 0 rfl (v := .int (nI mk)) rfl dX3_makeEnds_1 ?_
  refine j_iconst C dX3_makeEnds_4 (v := (nI 1)) kc_i_1 ?_
  refine j_iadd C dX3_makeEnds_5 (v := (nI (mk + 1))) (nI_add _ _) ?_
  refine j_istore_n C dX3_makeEnds_6 rfl (by decide) (lv' := [(2, .int (nI (mk + 1))), (0, .ref h3), (1, .int (nI k))]) rfl ?_
  refine j_lv [1, 2, 0] rfl ?_
  suffices hc7 : ∀ (mm : Nat) (r mk : Nat) (ax ay az : Int32) (lim : Int64) (LW E : Nat → Int64) (dr : Nat → Bool), 62 - r < mm → (r = mk + 1) → (mk ≤ 60) → (skI ob dr LW) → (plI ob t0 p mk E) → jj X 0 0 7 [(0, .ref h3), (1, .int (nI k)), (2, .int (nI r))] [] [(h3, cO 3 [.ref hS, .ref h4, .ref he, .ref hy, .ref hc, .int (nI mk), .int (nI p), .int (nI t0)]), (he, cO 0 [.ref hew]), (hew, cJ (xT X) 183 E), (hy, cO 0 [.ref hyw]), (hyw, cJ (xT X) 183 Y), (hc, cO 0 [.ref hcw]), (hcw, cJ (xT X) 3 Ch), (h4, cO 4 [.ref hS, .ref hs, .ref hl, .ref hdr, .int ax, .int ay, .int az, .long lim]), (hs, cO 6 [.int (nI sc), .int (nI sp), .int (bI ss), .int (nI st), .ref so, .ref sr]), (so, cI (xT X) 21 ob), (sr, cI (xT X) 12 rq), (hl, cO 0 [.ref hlw]), (hlw, cJ (xT X) 903 LW), (hdr, cZ (xT X) 301 (fun j => bI (dr j))), (hS, cO 5 [.ref hh, .ref hv, .ref hq, .ref ha]), (hv, cI (xT X) 450 cvec), (hq, cI (xT X) 150 csq), (hh, cO 0 [.ref hhw]), (hhw, cJ (xT X) 450 hd)] by
    refine hc7 _ _ _ _ _ _ _ _ _ _ (Nat.lt_succ_self _) ?_ ?_ ?_ ?_
    · rfl
    · omega
    · exact hI
    · exact hE
  intro mm
  induction mm with
  | zero => intro r mk ax ay az lim LW E dr hm; exact absurd hm (Nat.not_lt_zero _)
  | succ mm ih7 =>
    intro r mk ax ay az lim LW E dr hm7 hr hmk hI hE
    refine j_iload_n C dX3_makeEnds_7 2 rfl rfl ?_
    refine j_iload_n C dX3_makeEnds_8 1 rfl rfl ?_
    refine j_icmp_gt C dX3_makeEnds_9 (tgt := 81) (by decide) (fun q9 => ?_) (fun q9 => ?_)
    · skip
      have q9 := (kn_gt (a := r) (b := k) (by omega) (by omega)).mp q9
      refine j_vretM C rw_ hQ (by decide) (by decide) ?_ dX3_makeEnds_81
      exact ⟨_, _, _, _, _, _, _, _, rfl, rfl, hmk, by omega, hI, hE⟩
    · skip
      have q9 := (kn_ngt (a := r) (b := k) (by omega) (by omega)).mp q9
      refine j_iload_n C dX3_makeEnds_12 2 rfl rfl ?_
      refine j_bipush C dX3_makeEnds_13 (v := (nI 60)) kc_b_60 ?_
      refine j_icmp_gt C dX3_makeEnds_15 (tgt := 81) (by decide) (fun q15 => ?_) (fun q15 => ?_)
      · skip
        have q15 := (kn_gt (a := r) (b := 60) (by omega) (by omega)).mp q15
        refine j_vretM C rw_ hQ (by decide) (by decide) ?_ dX3_makeEnds_81
        exact ⟨_, _, _, _, _, _, _, _, rfl, rfl, hmk, by omega, hI, hE⟩
      · skip
        have q15 := (kn_ngt (a := r) (b := 60) (by omega) (by omega)).mp q15
        refine j_aload_n C dX3_makeEnds_18 0 rfl rfl ?_
        refine j_get C (hin3) (ci := 3) rfl 2 (by decide) (hl14) 0 rfl (v := .ref he) rfl dX3_makeEnds_19 ?_
        refine j_iload_n C dX3_makeEnds_22 2 rfl rfl ?_
        refine j_iload_n C dX3_makeEnds_23 2 rfl rfl ?_
        refine j_iconst C dX3_makeEnds_24 (v := (nI 1)) kc_i_1 ?_
        refine j_isub C dX3_makeEnds_25 (v := (nI (r - 1))) (pk_sub (by omega)) ?_
        refine j_aload_n C dX3_makeEnds_26 0 rfl rfl ?_
        refine j_get C (hin3) (ci := 3) rfl 0 (by decide) (hl26) 0 rfl (v := .ref hS) rfl dX3_makeEnds_27 ?_
        refine j_get C (hin5) (ci := 5) rfl 0 (by decide) (hl51) 14 rfl (v := .ref hh) rfl dX3_makeEnds_30 ?_
        refine j_callVM C rw_ (nA := 3) (As := [.int (nI r), .int (nI (r - 1)), .ref hh]) (wr := [(h3, cO 3 [.ref hS, .ref h4, .ref he, .ref hy, .ref hc, .int (nI mk), .int (nI p), .int (nI t0)]), (hy, cO 0 [.ref hyw]), (hyw, cJ (xT X) 183 Y), (hc, cO 0 [.ref hcw]), (hcw, cJ (xT X) 3 Ch), (h4, cO 4 [.ref hS, .ref hs, .ref hl, .ref hdr, .int ax, .int ay, .int az, .long lim]), (hs, cO 6 [.int (nI sc), .int (nI sp), .int (bI ss), .int (nI st), .ref so, .ref sr]), (so, cI (xT X) 21 ob), (sr, cI (xT X) 12 rq), (hl, cO 0 [.ref hlw]), (hlw, cJ (xT X) 903 LW), (hdr, cZ (xT X) 301 (fun j => bI (dr j))), (hS, cO 5 [.ref hh, .ref hv, .ref hq, .ref ha]), (hv, cI (xT X) 450 cvec), (hq, cI (xT X) 150 csq)]) (c_X0_spread (xl X) (xT X) he hew 183 r (r - 1) hh hhw 450 E hd (by omega) (by omega) (by omega) (by omega) (by omega) (by omega) (by intro b h1 h2; rw [hE (r - 1) (by omega) b h2, decide_eq_false (by omega), Bool.false_and])) gX3_makeEnds_X0_spread rfl (by decide +kernel) rfl (by decide) (by decide) [1, 2, 17, 18] [0, 3, 4, 5, 6, 7, 8, 9, 10, 11, 12, 13, 14, 15, 16] rfl rfl rfl rfl (by decide) 1 rfl rfl (rest := []) rfl (Nat.le_of_ble_eq_true rfl) dX3_makeEnds_33 ?_
        rintro _ _ ⟨g_1, rfl, rfl, hsp⟩
        show jj X 0 0 36 [(0, .ref h3), (1, .int (nI k)), (2, .int (nI r))] [] [(h3, cO 3 [.ref hS, .ref h4, .ref he, .ref hy, .ref hc, .int (nI mk), .int (nI p), .int (nI t0)]), (hy, cO 0 [.ref hyw]), (hyw, cJ (xT X) 183 Y), (hc, cO 0 [.ref hcw]), (hcw, cJ (xT X) 3 Ch), (h4, cO 4 [.ref hS, .ref hs, .ref hl, .ref hdr, .int ax, .int ay, .int az, .long lim]), (hs, cO 6 [.int (nI sc), .int (nI sp), .int (bI ss), .int (nI st), .ref so, .ref sr]), (so, cI (xT X) 21 ob), (sr, cI (xT X) 12 rq), (hl, cO 0 [.ref hlw]), (hlw, cJ (xT X) 903 LW), (hdr, cZ (xT X) 301 (fun j => bI (dr j))), (hS, cO 5 [.ref hh, .ref hv, .ref hq, .ref ha]), (hv, cI (xT X) 450 cvec), (hq, cI (xT X) 150 csq), (he, cO 0 [.ref hew]), (hew, cJ (xT X) 183 g_1), (hh, cO 0 [.ref hhw]), (hhw, cJ (xT X) 450 hd)]
        refine j_aload_n C dX3_makeEnds_36 0 rfl rfl ?_
        refine j_get C (hin3) (ci := 3) rfl 1 (by decide) (hl30) 0 rfl (v := .ref h4) rfl dX3_makeEnds_37 ?_
        refine j_aload_n C dX3_makeEnds_40 0 rfl rfl ?_
        refine j_get C (hin3) (ci := 3) rfl 7 (by decide) (hl38) 0 rfl (v := .int (nI t0)) rfl dX3_makeEnds_41 ?_
        refine j_iload_n C dX3_makeEnds_44 2 rfl rfl ?_
        refine j_iadd C dX3_makeEnds_45 (v := (nI (t0 + r))) (nI_add _ _) ?_
        refine j_callVM C rw_ (nA := 1) (As := [.int (nI (t0 + r))]) (wr := [(h3, cO 3 [.ref hS, .ref h4, .ref he, .ref hy, .ref hc, .int (nI mk), .int (nI p), .int (nI t0)]), (hy, cO 0 [.ref hyw]), (hyw, cJ (xT X) 183 Y), (hc, cO 0 [.ref hcw]), (hcw, cJ (xT X) 3 Ch), (he, cO 0 [.ref hew]), (hew, cJ (xT X) 183 g_1), (hh, cO 0 [.ref hhw]), (hhw, cJ (xT X) 450 hd)]) (c_X4_draw (xl X) (xT X) h4 hS hs so sr hl hlw hdr hh hv hq ha sc sp st ss ob rq ax ay az lim LW dr (t0 + r) (by omega) (by omega)) gX3_makeEnds_X4_draw rfl (by decide +kernel) rfl (by decide) (by decide) [5, 6, 7, 8, 9, 10, 11, 12, 13, 14] [0, 1, 2, 3, 4, 15, 16, 17, 18] rfl rfl rfl rfl (by decide) 5 rfl rfl (rest := []) rfl (Nat.le_of_ble_eq_true rfl) dX3_makeEnds_46 ?_
        rintro _ _ ⟨ax'_2, ay'_3, az'_4, lim'_5, LW'_6, dr'_7, rfl, rfl, hI3, hdr3⟩
        show jj X 0 0 49 [(0, .ref h3), (1, .int (nI k)), (2, .int (nI r))] [] [(h3, cO 3 [.ref hS, .ref h4, .ref he, .ref hy, .ref hc, .int (nI mk), .int (nI p), .int (nI t0)]), (hy, cO 0 [.ref hyw]), (hyw, cJ (xT X) 183 Y), (hc, cO 0 [.ref hcw]), (hcw, cJ (xT X) 3 Ch), (he, cO 0 [.ref hew]), (hew, cJ (xT X) 183 g_1), (hh, cO 0 [.ref hhw]), (hhw, cJ (xT X) 450 hd), (h4, cO 4 [.ref hS, .ref hs, .ref hl, .ref hdr, .int ax'_2, .int ay'_3, .int az'_4, .long lim'_5]), (hs, cO 6 [.int (nI sc), .int (nI sp), .int (bI ss), .int (nI st), .ref so, .ref sr]), (so, cI (xT X) 21 ob), (sr, cI (xT X) 12 rq), (hl, cO 0 [.ref hlw]), (hlw, cJ (xT X) 903 LW'_6), (hdr, cZ (xT X) 301 (fun j => bI (dr'_7 j))), (hS, cO 5 [.ref hh, .ref hv, .ref hq, .ref ha]), (hv, cI (xT X) 450 cvec), (hq, cI (xT X) 150 csq)]
        refine j_aload_n C dX3_makeEnds_49 0 rfl rfl ?_
        refine j_get C (hin3) (ci := 3) rfl 2 (by decide) (hl14) 0 rfl (v := .ref he) rfl dX3_makeEnds_50 ?_
        refine j_iload_n C dX3_makeEnds_53 2 rfl rfl ?_
        refine j_aload_n C dX3_makeEnds_54 0 rfl rfl ?_
        refine j_get C (hin3) (ci := 3) rfl 1 (by decide) (hl30) 0 rfl (v := .ref h4) rfl dX3_makeEnds_55 ?_
        refine j_get C (hin4) (ci := 4) rfl 2 (by decide) (hl65) 9 rfl (v := .ref hl) rfl dX3_makeEnds_58 ?_
        refine j_aload_n C dX3_makeEnds_61 0 rfl rfl ?_
        refine j_get C (hin3) (ci := 3) rfl 7 (by decide) (hl38) 0 rfl (v := .int (nI t0)) rfl dX3_makeEnds_62 ?_
        refine j_iload_n C dX3_makeEnds_65 2 rfl rfl ?_
        refine j_iadd C dX3_makeEnds_66 (v := (nI (t0 + r))) (nI_add _ _) ?_
        refine j_callVM C rw_ (nA := 3) (As := [.int (nI r), .ref hl, .int (nI (t0 + r))]) (wr := [(h3, cO 3 [.ref hS, .ref h4, .ref he, .ref hy, .ref hc, .int (nI mk), .int (nI p), .int (nI t0)]), (hy, cO 0 [.ref hyw]), (hyw, cJ (xT X) 183 Y), (hc, cO 0 [.ref hcw]), (hcw, cJ (xT X) 3 Ch), (hh, cO 0 [.ref hhw]), (hhw, cJ (xT X) 450 hd), (h4, cO 4 [.ref hS, .ref hs, .ref hl, .ref hdr, .int ax'_2, .int ay'_3, .int az'_4, .long lim'_5]), (hs, cO 6 [.int (nI sc), .int (nI sp), .int (bI ss), .int (nI st), .ref so, .ref sr]), (so, cI (xT X) 21 ob), (sr, cI (xT X) 12 rq), (hdr, cZ (xT X) 301 (fun j => bI (dr'_7 j))), (hS, cO 5 [.ref hh, .ref hv, .ref hq, .ref ha]), (hv, cI (xT X) 450 cvec), (hq, cI (xT X) 150 csq)]) (c_X0_takeAway (xl X) (xT X) he hew 183 r hl hlw 903 (t0 + r) g_1 LW'_6 (by omega) (by omega) (by omega) (by omega)) gX3_makeEnds_X0_takeAway rfl (by decide +kernel) rfl (by decide) (by decide) [5, 6, 13, 14] [0, 1, 2, 3, 4, 7, 8, 9, 10, 11, 12, 15, 16, 17, 18] rfl rfl rfl rfl (by decide) 5 rfl rfl (rest := []) rfl (Nat.le_of_ble_eq_true rfl) dX3_makeEnds_67 ?_
        rintro _ _ ⟨g_8, rfl, rfl, hta⟩
        show jj X 0 0 70 [(0, .ref h3), (1, .int (nI k)), (2, .int (nI r))] [] [(h3, cO 3 [.ref hS, .ref h4, .ref he, .ref hy, .ref hc, .int (nI mk), .int (nI p), .int (nI t0)]), (hy, cO 0 [.ref hyw]), (hyw, cJ (xT X) 183 Y), (hc, cO 0 [.ref hcw]), (hcw, cJ (xT X) 3 Ch), (hh, cO 0 [.ref hhw]), (hhw, cJ (xT X) 450 hd), (h4, cO 4 [.ref hS, .ref hs, .ref hl, .ref hdr, .int ax'_2, .int ay'_3, .int az'_4, .long lim'_5]), (hs, cO 6 [.int (nI sc), .int (nI sp), .int (bI ss), .int (nI st), .ref so, .ref sr]), (so, cI (xT X) 21 ob), (sr, cI (xT X) 12 rq), (hdr, cZ (xT X) 301 (fun j => bI (dr'_7 j))), (hS, cO 5 [.ref hh, .ref hv, .ref hq, .ref ha]), (hv, cI (xT X) 450 cvec), (hq, cI (xT X) 150 csq), (he, cO 0 [.ref hew]), (hew, cJ (xT X) 183 g_8), (hl, cO 0 [.ref hlw]), (hlw, cJ (xT X) 903 LW'_6)]
        refine j_aload_n C dX3_makeEnds_70 0 rfl rfl ?_
        refine j_iload_n C dX3_makeEnds_71 2 rfl rfl ?_
        refine j_put C rw_ (hin3) tyX3 tyX3_ok nmX3 (ci := 3) rfl 5 (by decide) (hl48) (by decide +kernel) (ty := .int) (by decide +kernel) rfl rfl 0 rfl (Nat.le_of_ble_eq_true rfl) (w' := [(h3, cO 3 [.ref hS, .ref h4, .ref he, .ref hy, .ref hc, .int (nI r), .int (nI p), .int (nI t0)]), (hy, cO 0 [.ref hyw]), (hyw, cJ (xT X) 183 Y), (hc, cO 0 [.ref hcw]), (hcw, cJ (xT X) 3 Ch), (hh, cO 0 [.ref hhw]), (hhw, cJ (xT X) 450 hd), (h4, cO 4 [.ref hS, .ref hs, .ref hl, .ref hdr, .int ax'_2, .int ay'_3, .int az'_4, .long lim'_5]), (hs, cO 6 [.int (nI sc), .int (nI sp), .int (bI ss), .int (nI st), .ref so, .ref sr]), (so, cI (xT X) 21 ob), (sr, cI (xT X) 12 rq), (hdr, cZ (xT X) 301 (fun j => bI (dr'_7 j))), (hS, cO 5 [.ref hh, .ref hv, .ref hq, .ref ha]), (hv, cI (xT X) 450 cvec), (hq, cI (xT X) 150 csq), (he, cO 0 [.ref hew]), (hew, cJ (xT X) 183 g_8), (hl, cO 0 [.ref hlw]), (hlw, cJ (xT X) 903 LW'_6)]) rfl dX3_makeEnds_72 ?_
        refine j_iinc C dX3_makeEnds_75 (q := 2) (v := (nI (r + 1))) rfl (kc_inc r) (by decide) (lv' := [(2, .int (nI (r + 1))), (0, .ref h3), (1, .int (nI k))]) rfl ?_
        refine j_goto C dX3_makeEnds_78 (tgt := 7) (by decide) ?_
        refine j_lv [1, 2, 0] rfl ?_
        refine j_perm C (w' := [(h3, cO 3 [.ref hS, .ref h4, .ref he, .ref hy, .ref hc, .int (nI r), .int (nI p), .int (nI t0)]), (he, cO 0 [.ref hew]), (hew, cJ (xT X) 183 g_8), (hy, cO 0 [.ref hyw]), (hyw, cJ (xT X) 183 Y), (hc, cO 0 [.ref hcw]), (hcw, cJ (xT X) 3 Ch), (h4, cO 4 [.ref hS, .ref hs, .ref hl, .ref hdr, .int ax'_2, .int ay'_3, .int az'_4, .long lim'_5]), (hs, cO 6 [.int (nI sc), .int (nI sp), .int (bI ss), .int (nI st), .ref so, .ref sr]), (so, cI (xT X) 21 ob), (sr, cI (xT X) 12 rq), (hl, cO 0 [.ref hlw]), (hlw, cJ (xT X) 903 LW'_6), (hdr, cZ (xT X) 301 (fun j => bI (dr'_7 j))), (hS, cO 5 [.ref hh, .ref hv, .ref hq, .ref ha]), (hv, cI (xT X) 450 cvec), (hq, cI (xT X) 150 csq), (hh, cO 0 [.ref hhw]), (hhw, cJ (xT X) 450 hd)]) [0, 15, 16, 1, 2, 3, 4, 7, 8, 9, 10, 17, 18, 11, 12, 13, 14, 5, 6] rfl rfl ?_
        refine ih7 _ _ _ _ _ _ _ _ _ (by omega) ?_ ?_ ?_ ?_
        · rfl
        · omega
        · exact hI3
        · intro j hj c hc'
          rw [hta j c hc']
          by_cases h : j = r
          · subst h
            rw [if_pos rfl, hsp j c hc', if_pos rfl, hI3 (t0 + j) (by omega) (hdr3 (by omega)) c hc', un_nb (fun b hb => hE (j - 1) (by omega) b hb) hH hc']
            obtain ⟨i, rfl⟩ : ∃ i, j = i + 1 := ⟨j - 1, by omega⟩
            rw [rc, show i + 1 - 1 = i by omega]
            cases decide (c < 150) <;> simp
          · rw [if_neg h, hsp j c hc', if_neg h]; exact hE j (by omega) c hc'

set_option maxHeartbeats 4000000 in
set_option maxRecDepth 100000 in
/-- stepsTo(cell) -/
theorem c_X3_stepsTo (l : Launch) (T : jj_T) (h3 h4 he hew hy hyw hc hcw hS hs so sr hl hlw hdr hh hv hq ha hhw sc sp st mk p t0 : Nat) (ss : Bool) (ob rq : Nat → Int32) (ax ay az : Int32) (lim : Int64) (LW E Y Ch hd : Nat → Int64) (dr : Nat → Bool) (c : Nat) (hp : p < 150) (ht0 : t0 ≤ 240) (hmk : mk ≤ 60) (hI : skI ob dr LW) (hE : plI ob t0 p mk E) (hH : hdI hd) (hc1 : c < 150) : jM l T yX3_stepsTo wsX3_stepsTo { frames := 4, cells := 0, slots := 0, locals := 95 } [.ref h3, .int (nI c)] [(h3, cO 3 [.ref hS, .ref h4, .ref he, .ref hy, .ref hc, .int (nI mk), .int (nI p), .int (nI t0)]), (he, cO 0 [.ref hew]), (hew, cJ T 183 E), (hy, cO 0 [.ref hyw]), (hyw, cJ T 183 Y), (hc, cO 0 [.ref hcw]), (hcw, cJ T 3 Ch), (h4, cO 4 [.ref hS, .ref hs, .ref hl, .ref hdr, .int ax, .int ay, .int az, .long lim]), (hs, cO 6 [.int (nI sc), .int (nI sp), .int (bI ss), .int (nI st), .ref so, .ref sr]), (so, cI T 21 ob), (sr, cI T 12 rq), (hl, cO 0 [.ref hlw]), (hlw, cJ T 903 LW), (hdr, cZ T 301 (fun j => bI (dr j))), (hS, cO 5 [.ref hh, .ref hv, .ref hq, .ref ha]), (hv, cI T 450 cvec), (hq, cI T 150 csq), (hh, cO 0 [.ref hhw]), (hhw, cJ T 450 hd)] (fun v w1 => ∃ ax' : Int32, ∃ ay' : Int32, ∃ az' : Int32, ∃ lim' : Int64, ∃ LW' : Nat → Int64, ∃ dr' : Nat → Bool, ∃ E' : Nat → Int64, ∃ mk' : Nat, ∃ r : Int32, v = some (.int r) ∧ w1 = [(h3, cO 3 [.ref hS, .ref h4, .ref he, .ref hy, .ref hc, .int (nI mk'), .int (nI p), .int (nI t0)]), (he, cO 0 [.ref hew]), (hew, cJ T 183 E'), (hy, cO 0 [.ref hyw]), (hyw, cJ T 183 Y), (hc, cO 0 [.ref hcw]), (hcw, cJ T 3 Ch), (h4, cO 4 [.ref hS, .ref hs, .ref hl, .ref hdr, .int ax', .int ay', .int az', .long lim']), (hs, cO 6 [.int (nI sc), .int (nI sp), .int (bI ss), .int (nI st), .ref so, .ref sr]), (so, cI T 21 ob), (sr, cI T 12 rq), (hl, cO 0 [.ref hlw]), (hlw, cJ T 903 LW'), (hdr, cZ T 301 (fun j => bI (dr' j))), (hS, cO 5 [.ref hh, .ref hv, .ref hq, .ref ha]), (hv, cI T 450 cvec), (hq, cI T 150 csq), (hh, cO 0 [.ref hhw]), (hhw, cJ T 450 hd)] ∧ (mk' ≤ 60) ∧ (skI ob dr' LW') ∧ (plI ob t0 p mk' E') ∧ (ft_is (fun s => rc ob t0 p s c) 0 60 r) ∧ (∀ s, s ≤ 60 → r = nI s → s ≤ mk')) := by
  refine jM.of (cc := cX3_stepsTo) (maxL := 3) (ret := (some .int)) (by decide) rfl (Nat.le_of_ble_eq_true rfl) ?_
  intro X C rw_ hl hT hQ hnm
  subst hl; subst hT
  have hin3 : ∀ w ∈ u_ws RX3 TX3 8, w ∈ wsX3_stepsTo := by decide +kernel
  have hl14 : Cond.fieldLink RX3 14 (TX3 2).1 (TX3 2).2.1 (TX3 2).2.2.1 ∈ wsX3_stepsTo := by decide +kernel
  show jj X 0 0 0 [(0, .ref h3), (1, .int (nI c))] [] [(h3, cO 3 [.ref hS, .ref h4, .ref he, .ref hy, .ref hc, .int (nI mk), .int (nI p), .int (nI t0)]), (he, cO 0 [.ref hew]), (hew, cJ (xT X) 183 E), (hy, cO 0 [.ref hyw]), (hyw, cJ (xT X) 183 Y), (hc, cO 0 [.ref hcw]), (hcw, cJ (xT X) 3 Ch), (h4, cO 4 [.ref hS, .ref hs, .ref hl, .ref hdr, .int ax, .int ay, .int az, .long lim]), (hs, cO 6 [.int (nI sc), .int (nI sp), .int (bI ss), .int (nI st), .ref so, .ref sr]), (so, cI (xT X) 21 ob), (sr, cI (xT X) 12 rq), (hl, cO 0 [.ref hlw]), (hlw, cJ (xT X) 903 LW), (hdr, cZ (xT X) 301 (fun j => bI (dr j))), (hS, cO 5 [.ref hh, .ref hv, .ref hq, .ref ha]), (hv, cI (xT X) 450 cvec), (hq, cI (xT X) 150 csq), (hh, cO 0 [.ref hhw]), (hhw, cJ (xT X) 450 hd)]
  refine j_iconst C dX3_stepsTo_0 (v := (nI 0)) kc_i_0 ?_
  refine j_istore_n C dX3_stepsTo_1 rfl (by decide) (lv' := [(2, .int (nI 0)), (0, .ref h3), (1, .int (nI c))]) rfl ?_
  refine j_lv [1, 2, 0] rfl ?_
  suffices hc2 : ∀ (mm : Nat) (k mk : Nat) (ax ay az : Int32) (lim : Int64) (LW E : Nat → Int64) (dr : Nat → Bool), 61 - k < mm → (k ≤ 61) → (mk ≤ 60) → (skI ob dr LW) → (plI ob t0 p mk E) → (∀ s, s < k → rc ob t0 p s c = false) → jj X 0 0 2 [(0, .ref h3), (1, .int (nI c)), (2, .int (nI k))] [] [(h3, cO 3 [.ref hS, .ref h4, .ref he, .ref hy, .ref hc, .int (nI mk), .int (nI p), .int (nI t0)]), (he, cO 0 [.ref hew]), (hew, cJ (xT X) 183 E), (hy, cO 0 [.ref hyw]), (hyw, cJ (xT X) 183 Y), (hc, cO 0 [.ref hcw]), (hcw, cJ (xT X) 3 Ch), (h4, cO 4 [.ref hS, .ref hs, .ref hl, .ref hdr, .int ax, .int ay, .int az, .long lim]), (hs, cO 6 [.int (nI sc), .int (nI sp), .int (bI ss), .int (nI st), .ref so, .ref sr]), (so, cI (xT X) 21 ob), (sr, cI (xT X) 12 rq), (hl, cO 0 [.ref hlw]), (hlw, cJ (xT X) 903 LW), (hdr, cZ (xT X) 301 (fun j => bI (dr j))), (hS, cO 5 [.ref hh, .ref hv, .ref hq, .ref ha]), (hv, cI (xT X) 450 cvec), (hq, cI (xT X) 150 csq), (hh, cO 0 [.ref hhw]), (hhw, cJ (xT X) 450 hd)] by
    refine hc2 _ _ _ _ _ _ _ _ _ _ (Nat.lt_succ_self _) ?_ ?_ ?_ ?_ ?_
    · omega
    · omega
    · exact hI
    · exact hE
    · intro s hs; omega
  intro mm
  induction mm with
  | zero => intro k mk ax ay az lim LW E dr hm; exact absurd hm (Nat.not_lt_zero _)
  | succ mm ih2 =>
    intro k mk ax ay az lim LW E dr hm2 hk hmk hI hE hf
    refine j_iload_n C dX3_stepsTo_2 2 rfl rfl ?_
    refine j_bipush C dX3_stepsTo_3 (v := (nI 60)) kc_b_60 ?_
    refine j_icmp_gt C dX3_stepsTo_5 (tgt := 33) (by decide) (fun q5 => ?_) (fun q5 => ?_)
    · skip
      have q5 := (kn_gt (a := k) (b := 60) (by omega) (by omega)).mp q5
      refine j_bipush C dX3_stepsTo_33 (v := (-9)) kc_b_m9 ?_
      refine j_iretM C rw_ hQ (by decide) (by decide) rfl ?_ dX3_stepsTo_35
      refine ⟨_, _, _, _, _, _, _, _, _, rfl, rfl, hmk, hI, hE, Or.inr ⟨fun s _ hs => hf s (by omega), rfl⟩, fun s hs e => absurd e.symm (nI_n9 (by omega))⟩
    · skip
      have q5 := (kn_ngt (a := k) (b := 60) (by omega) (by omega)).mp q5
      refine j_aload_n C dX3_stepsTo_8 0 rfl rfl ?_
      refine j_iload_n C dX3_stepsTo_9 2 rfl rfl ?_
      refine j_callVM C rw_ (nA := 1) (As := [.int (nI k)]) (wr := []) (c_X3_makeEnds (xl X) (xT X) h3 h4 he hew hy hyw hc hcw hS hs so sr hl hlw hdr hh hv hq ha hhw sc sp st mk p t0 ss ob rq ax ay az lim LW E Y Ch hd dr k (by omega) (by omega) (by omega) (by exact hI) (by exact hE) (by exact hH) (by omega)) gX3_stepsTo_X3_makeEnds rfl (by decide +kernel) rfl (by decide) (by decide) [0, 1, 2, 3, 4, 5, 6, 7, 8, 9, 10, 11, 12, 13, 14, 15, 16, 17, 18] [] rfl rfl rfl rfl (by decide) 0 rfl rfl (rest := []) rfl (Nat.le_of_ble_eq_true rfl) dX3_stepsTo_10 ?_
      rintro _ _ ⟨ax'_1, ay'_2, az'_3, lim'_4, LW'_5, dr'_6, E'_7, mk'_8, rfl, rfl, hm3, hk3, hI3, hE3⟩
      show jj X 0 0 13 [(0, .ref h3), (1, .int (nI c)), (2, .int (nI k))] [] [(h3, cO 3 [.ref hS, .ref h4, .ref he, .ref hy, .ref hc, .int (nI mk'_8), .int (nI p), .int (nI t0)]), (he, cO 0 [.ref hew]), (hew, cJ (xT X) 183 E'_7), (hy, cO 0 [.ref hyw]), (hyw, cJ (xT X) 183 Y), (hc, cO 0 [.ref hcw]), (hcw, cJ (xT X) 3 Ch), (h4, cO 4 [.ref hS, .ref hs, .ref hl, .ref hdr, .int ax'_1, .int ay'_2, .int az'_3, .long lim'_4]), (hs, cO 6 [.int (nI sc), .int (nI sp), .int (bI ss), .int (nI st), .ref so, .ref sr]), (so, cI (xT X) 21 ob), (sr, cI (xT X) 12 rq), (hl, cO 0 [.ref hlw]), (hlw, cJ (xT X) 903 LW'_5), (hdr, cZ (xT X) 301 (fun j => bI (dr'_6 j))), (hS, cO 5 [.ref hh, .ref hv, .ref hq, .ref ha]), (hv, cI (xT X) 450 cvec), (hq, cI (xT X) 150 csq), (hh, cO 0 [.ref hhw]), (hhw, cJ (xT X) 450 hd)]
      refine j_aload_n C dX3_stepsTo_13 0 rfl rfl ?_
      refine j_get C (hin3) (ci := 3) rfl 2 (by decide) (hl14) 0 rfl (v := .ref he) rfl dX3_stepsTo_14 ?_
      refine j_iload_n C dX3_stepsTo_17 2 rfl rfl ?_
      refine j_iload_n C dX3_stepsTo_18 1 rfl rfl ?_
      refine j_callVR C (nA := 2) (As := [.int (nI k), .int (nI c)]) (c_X0_has (xl X) (xT X) he hew 183 k c E'_7 (by omega) (by omega) (by omega)) gX3_stepsTo_X0_has rfl (by decide +kernel) rfl ⟨rfl, rfl⟩ (by decide) (by decide) [1, 2] rfl rfl 1 rfl rfl (rest := []) rfl (Nat.le_of_ble_eq_true rfl) dX3_stepsTo_19 ?_
      rintro _ rfl
      show jj X 0 0 22 [(0, .ref h3), (1, .int (nI c)), (2, .int (nI k))] [.int (bI (cs_b E'_7 k c))] [(h3, cO 3 [.ref hS, .ref h4, .ref he, .ref hy, .ref hc, .int (nI mk'_8), .int (nI p), .int (nI t0)]), (he, cO 0 [.ref hew]), (hew, cJ (xT X) 183 E'_7), (hy, cO 0 [.ref hyw]), (hyw, cJ (xT X) 183 Y), (hc, cO 0 [.ref hcw]), (hcw, cJ (xT X) 3 Ch), (h4, cO 4 [.ref hS, .ref hs, .ref hl, .ref hdr, .int ax'_1, .int ay'_2, .int az'_3, .long lim'_4]), (hs, cO 6 [.int (nI sc), .int (nI sp), .int (bI ss), .int (nI st), .ref so, .ref sr]), (so, cI (xT X) 21 ob), (sr, cI (xT X) 12 rq), (hl, cO 0 [.ref hlw]), (hlw, cJ (xT X) 903 LW'_5), (hdr, cZ (xT X) 301 (fun j => bI (dr'_6 j))), (hS, cO 5 [.ref hh, .ref hv, .ref hq, .ref ha]), (hv, cI (xT X) 450 cvec), (hq, cI (xT X) 150 csq), (hh, cO 0 [.ref hhw]), (hhw, cJ (xT X) 450 hd)]
      refine j_if_eq C dX3_stepsTo_22 (tgt := 27) (by decide) (fun q22 => ?_) (fun q22 => ?_)
      · skip
        have q22 := (kb_eq).mp q22
        refine j_iinc C dX3_stepsTo_27 (q := 2) (v := (nI (k + 1))) rfl (kc_inc k) (by decide) (lv' := [(2, .int (nI (k + 1))), (0, .ref h3), (1, .int (nI c))]) rfl ?_
        refine j_goto C dX3_stepsTo_30 (tgt := 2) (by decide) ?_
        refine j_lv [1, 2, 0] rfl ?_
        refine ih2 _ _ _ _ _ _ _ _ _ (by omega) ?_ ?_ ?_ ?_ ?_
        · omega
        · exact hm3
        · exact hI3
        · exact hE3
        · intro s hs
          by_cases h : s = k
          · rw [h]; rw [hE3 k hk3 c (by omega), decide_eq_true hc1, Bool.true_and] at q22; exact q22
          · exact hf s (by omega)
      · skip
        have q22 := (kb_neq).mp q22
        refine j_iload_n C dX3_stepsTo_25 2 rfl rfl ?_
        refine j_iretM C rw_ hQ (by decide) (by decide) rfl ?_ dX3_stepsTo_26
        refine ⟨_, _, _, _, _, _, _, _, _, rfl, rfl, hm3, hI3, hE3, Or.inl ⟨k, Nat.zero_le _, by omega, ?_, fun d _ hd' => hf d hd', rfl⟩, fun s hs e => ?_⟩
        · rw [hE3 k hk3 c (by omega), decide_eq_true hc1, Bool.true_and] at q22; exact q22
        · rw [← (nI_eq (by omega) (by omega)).mp e]; exact hk3

set_option maxHeartbeats 4000000 in
set_option maxRecDepth 100000 in
/-- countEnds(k) -/
theorem c_X3_countEnds (l : Launch) (T : jj_T) (h3 h4 he hew hy hyw hc hcw hS hs so sr hl hlw hdr hh hv hq ha hhw sc sp st mk p t0 : Nat) (ss : Bool) (ob rq : Nat → Int32) (ax ay az : Int32) (lim : Int64) (LW E Y Ch hd : Nat → Int64) (dr : Nat → Bool) (k : Nat) (hp : p < 150) (ht0 : t0 ≤ 240) (hmk : mk ≤ 60) (hI : skI ob dr LW) (hE : plI ob t0 p mk E) (hH : hdI hd) (hk : k ≤ 60) : jM l T yX3_countEnds wsX3_countEnds { frames := 4, cells := 0, slots := 0, locals := 95 } [.ref h3, .int (nI k)] [(h3, cO 3 [.ref hS, .ref h4, .ref he, .ref hy, .ref hc, .int (nI mk), .int (nI p), .int (nI t0)]), (he, cO 0 [.ref hew]), (hew, cJ T 183 E), (hy, cO 0 [.ref hyw]), (hyw, cJ T 183 Y), (hc, cO 0 [.ref hcw]), (hcw, cJ T 3 Ch), (h4, cO 4 [.ref hS, .ref hs, .ref hl, .ref hdr, .int ax, .int ay, .int az, .long lim]), (hs, cO 6 [.int (nI sc), .int (nI sp), .int (bI ss), .int (nI st), .ref so, .ref sr]), (so, cI T 21 ob), (sr, cI T 12 rq), (hl, cO 0 [.ref hlw]), (hlw, cJ T 903 LW), (hdr, cZ T 301 (fun j => bI (dr j))), (hS, cO 5 [.ref hh, .ref hv, .ref hq, .ref ha]), (hv, cI T 450 cvec), (hq, cI T 150 csq), (hh, cO 0 [.ref hhw]), (hhw, cJ T 450 hd)] (fun v w1 => ∃ ax' : Int32, ∃ ay' : Int32, ∃ az' : Int32, ∃ lim' : Int64, ∃ LW' : Nat → Int64, ∃ dr' : Nat → Bool, ∃ E' : Nat → Int64, ∃ mk' : Nat, v = some (.int (nI (fb_ct (rc ob t0 p k) 150))) ∧ w1 = [(h3, cO 3 [.ref hS, .ref h4, .ref he, .ref hy, .ref hc, .int (nI mk'), .int (nI p), .int (nI t0)]), (he, cO 0 [.ref hew]), (hew, cJ T 183 E'), (hy, cO 0 [.ref hyw]), (hyw, cJ T 183 Y), (hc, cO 0 [.ref hcw]), (hcw, cJ T 3 Ch), (h4, cO 4 [.ref hS, .ref hs, .ref hl, .ref hdr, .int ax', .int ay', .int az', .long lim']), (hs, cO 6 [.int (nI sc), .int (nI sp), .int (bI ss), .int (nI st), .ref so, .ref sr]), (so, cI T 21 ob), (sr, cI T 12 rq), (hl, cO 0 [.ref hlw]), (hlw, cJ T 903 LW'), (hdr, cZ T 301 (fun j => bI (dr' j))), (hS, cO 5 [.ref hh, .ref hv, .ref hq, .ref ha]), (hv, cI T 450 cvec), (hq, cI T 150 csq), (hh, cO 0 [.ref hhw]), (hhw, cJ T 450 hd)] ∧ (skI ob dr' LW')) := by
  refine jM.of (cc := cX3_countEnds) (maxL := 2) (ret := (some .int)) (by decide) rfl (Nat.le_of_ble_eq_true rfl) ?_
  intro X C rw_ hl hT hQ hnm
  subst hl; subst hT
  have hin3 : ∀ w ∈ u_ws RX3 TX3 8, w ∈ wsX3_countEnds := by decide +kernel
  have hl14 : Cond.fieldLink RX3 14 (TX3 2).1 (TX3 2).2.1 (TX3 2).2.2.1 ∈ wsX3_countEnds := by decide +kernel
  show jj X 0 0 0 [(0, .ref h3), (1, .int (nI k))] [] [(h3, cO 3 [.ref hS, .ref h4, .ref he, .ref hy, .ref hc, .int (nI mk), .int (nI p), .int (nI t0)]), (he, cO 0 [.ref hew]), (hew, cJ (xT X) 183 E), (hy, cO 0 [.ref hyw]), (hyw, cJ (xT X) 183 Y), (hc, cO 0 [.ref hcw]), (hcw, cJ (xT X) 3 Ch), (h4, cO 4 [.ref hS, .ref hs, .ref hl, .ref hdr, .int ax, .int ay, .int az, .long lim]), (hs, cO 6 [.int (nI sc), .int (nI sp), .int (bI ss), .int (nI st), .ref so, .ref sr]), (so, cI (xT X) 21 ob), (sr, cI (xT X) 12 rq), (hl, cO 0 [.ref hlw]), (hlw, cJ (xT X) 903 LW), (hdr, cZ (xT X) 301 (fun j => bI (dr j))), (hS, cO 5 [.ref hh, .ref hv, .ref hq, .ref ha]), (hv, cI (xT X) 450 cvec), (hq, cI (xT X) 150 csq), (hh, cO 0 [.ref hhw]), (hhw, cJ (xT X) 450 hd)]
  refine j_aload_n C dX3_countEnds_0 0 rfl rfl ?_
  refine j_iload_n C dX3_countEnds_1 1 rfl rfl ?_
  refine j_callVM C rw_ (nA := 1) (As := [.int (nI k)]) (wr := []) (c_X3_makeEnds (xl X) (xT X) h3 h4 he hew hy hyw hc hcw hS hs so sr hl hlw hdr hh hv hq ha hhw sc sp st mk p t0 ss ob rq ax ay az lim LW E Y Ch hd dr k (by omega) (by omega) (by omega) (by exact hI) (by exact hE) (by exact hH) (by omega)) gX3_countEnds_X3_makeEnds rfl (by decide +kernel) rfl (by decide) (by decide) [0, 1, 2, 3, 4, 5, 6, 7, 8, 9, 10, 11, 12, 13, 14, 15, 16, 17, 18] [] rfl rfl rfl rfl (by decide) 0 rfl rfl (rest := []) rfl (Nat.le_of_ble_eq_true rfl) dX3_countEnds_2 ?_
  rintro _ _ ⟨ax'_1, ay'_2, az'_3, lim'_4, LW'_5, dr'_6, E'_7, mk'_8, rfl, rfl, hm3, hk3, hI3, hE3⟩
  show jj X 0 0 5 [(0, .ref h3), (1, .int (nI k))] [] [(h3, cO 3 [.ref hS, .ref h4, .ref he, .ref hy, .ref hc, .int (nI mk'_8), .int (nI p), .int (nI t0)]), (he, cO 0 [.ref hew]), (hew, cJ (xT X) 183 E'_7), (hy, cO 0 [.ref hyw]), (hyw, cJ (xT X) 183 Y), (hc, cO 0 [.ref hcw]), (hcw, cJ (xT X) 3 Ch), (h4, cO 4 [.ref hS, .ref hs, .ref hl, .ref hdr, .int ax'_1, .int ay'_2, .int az'_3, .long lim'_4]), (hs, cO 6 [.int (nI sc), .int (nI sp), .int (bI ss), .int (nI st), .ref so, .ref sr]), (so, cI (xT X) 21 ob), (sr, cI (xT X) 12 rq), (hl, cO 0 [.ref hlw]), (hlw, cJ (xT X) 903 LW'_5), (hdr, cZ (xT X) 301 (fun j => bI (dr'_6 j))), (hS, cO 5 [.ref hh, .ref hv, .ref hq, .ref ha]), (hv, cI (xT X) 450 cvec), (hq, cI (xT X) 150 csq), (hh, cO 0 [.ref hhw]), (hhw, cJ (xT X) 450 hd)]
  refine j_aload_n C dX3_countEnds_5 0 rfl rfl ?_
  refine j_get C (hin3) (ci := 3) rfl 2 (by decide) (hl14) 0 rfl (v := .ref he) rfl dX3_countEnds_6 ?_
  refine j_iload_n C dX3_countEnds_9 1 rfl rfl ?_
  refine j_callVR C (nA := 1) (As := [.int (nI k)]) (c_X0_size (xl X) (xT X) he hew 183 k E'_7 (by omega) (by omega)) gX3_countEnds_X0_size rfl (by decide +kernel) rfl ⟨rfl, rfl⟩ (by decide) (by decide) [1, 2] rfl rfl 1 rfl rfl (rest := []) rfl (Nat.le_of_ble_eq_true rfl) dX3_countEnds_10 ?_
  rintro _ rfl
  show jj X 0 0 13 [(0, .ref h3), (1, .int (nI k))] [.int (nI (fb_ct (cs_b E'_7 k) 192))] [(h3, cO 3 [.ref hS, .ref h4, .ref he, .ref hy, .ref hc, .int (nI mk'_8), .int (nI p), .int (nI t0)]), (he, cO 0 [.ref hew]), (hew, cJ (xT X) 183 E'_7), (hy, cO 0 [.ref hyw]), (hyw, cJ (xT X) 183 Y), (hc, cO 0 [.ref hcw]), (hcw, cJ (xT X) 3 Ch), (h4, cO 4 [.ref hS, .ref hs, .ref hl, .ref hdr, .int ax'_1, .int ay'_2, .int az'_3, .long lim'_4]), (hs, cO 6 [.int (nI sc), .int (nI sp), .int (bI ss), .int (nI st), .ref so, .ref sr]), (so, cI (xT X) 21 ob), (sr, cI (xT X) 12 rq), (hl, cO 0 [.ref hlw]), (hlw, cJ (xT X) 903 LW'_5), (hdr, cZ (xT X) 301 (fun j => bI (dr'_6 j))), (hS, cO 5 [.ref hh, .ref hv, .ref hq, .ref ha]), (hv, cI (xT X) 450 cvec), (hq, cI (xT X) 150 csq), (hh, cO 0 [.ref hhw]), (hhw, cJ (xT X) 450 hd)]
  refine j_iretM C rw_ hQ (by decide) (by decide) rfl ?_ dX3_countEnds_13
  refine ⟨_, _, _, _, _, _, _, _, kn_e ?_, rfl, hI3⟩
  rw [← ct_150]
  exact fb_ct_cong (fun c hc' => hE3 k hk3 c hc')

set_option maxHeartbeats 4000000 in
set_option maxRecDepth 100000 in
/-- findWays(cell, steps) -/
theorem c_X3_findWays (l : Launch) (T : jj_T) (h3 h4 he hew hy hyw hc hcw hS hs so sr hl hlw hdr hh hv hq ha hhw sc sp st mk p t0 : Nat) (ss : Bool) (ob rq : Nat → Int32) (ax ay az : Int32) (lim : Int64) (LW E Y Ch hd : Nat → Int64) (dr : Nat → Bool) (c steps : Nat) (hp : p < 150) (ht0 : t0 ≤ 240) (hmk : mk ≤ 60) (hI : skI ob dr LW) (hE : plI ob t0 p mk E) (hH : hdI hd) (hc1 : c < 150) (hst : steps ≤ mk) : jM l T yX3_findWays wsX3_findWays { frames := 3, cells := 0, slots := 0, locals := 73 } [.ref h3, .int (nI c), .int (nI steps)] [(h3, cO 3 [.ref hS, .ref h4, .ref he, .ref hy, .ref hc, .int (nI mk), .int (nI p), .int (nI t0)]), (he, cO 0 [.ref hew]), (hew, cJ T 183 E), (hy, cO 0 [.ref hyw]), (hyw, cJ T 183 Y), (hc, cO 0 [.ref hcw]), (hcw, cJ T 3 Ch), (h4, cO 4 [.ref hS, .ref hs, .ref hl, .ref hdr, .int ax, .int ay, .int az, .long lim]), (hs, cO 6 [.int (nI sc), .int (nI sp), .int (bI ss), .int (nI st), .ref so, .ref sr]), (so, cI T 21 ob), (sr, cI T 12 rq), (hl, cO 0 [.ref hlw]), (hlw, cJ T 903 LW), (hdr, cZ T 301 (fun j => bI (dr j))), (hS, cO 5 [.ref hh, .ref hv, .ref hq, .ref ha]), (hv, cI T 450 cvec), (hq, cI T 150 csq), (hh, cO 0 [.ref hhw]), (hhw, cJ T 450 hd)] (fun v w1 => ∃ Y' : Nat → Int64, v = none ∧ w1 = [(h3, cO 3 [.ref hS, .ref h4, .ref he, .ref hy, .ref hc, .int (nI mk), .int (nI p), .int (nI t0)]), (he, cO 0 [.ref hew]), (hew, cJ T 183 E), (hy, cO 0 [.ref hyw]), (hyw, cJ T 183 Y'), (hc, cO 0 [.ref hcw]), (hcw, cJ T 3 Ch), (h4, cO 4 [.ref hS, .ref hs, .ref hl, .ref hdr, .int ax, .int ay, .int az, .long lim]), (hs, cO 6 [.int (nI sc), .int (nI sp), .int (bI ss), .int (nI st), .ref so, .ref sr]), (so, cI T 21 ob), (sr, cI T 12 rq), (hl, cO 0 [.ref hlw]), (hlw, cJ T 903 LW), (hdr, cZ T 301 (fun j => bI (dr j))), (hS, cO 5 [.ref hh, .ref hv, .ref hq, .ref ha]), (hv, cI T 450 cvec), (hq, cI T 150 csq), (hh, cO 0 [.ref hhw]), (hhw, cJ T 450 hd)] ∧ (∀ i, i ≤ steps → ∀ c', c' < 192 → cs_b Y' i c' = (decide (c' < 150) && wy ob t0 p steps c (steps - i) c'))) := by
  refine jM.of (cc := cX3_findWays) (maxL := 4) (ret := none) (by decide) rfl (Nat.le_of_ble_eq_true rfl) ?_
  intro X C rw_ hl hT hQ hnm
  subst hl; subst hT
  have hin3 : ∀ w ∈ u_ws RX3 TX3 8, w ∈ wsX3_findWays := by decide +kernel
  have hin5 : ∀ w ∈ u_ws RX5 TX5 4, w ∈ wsX3_findWays := by decide +kernel
  have hl14 : Cond.fieldLink RX3 14 (TX3 2).1 (TX3 2).2.1 (TX3 2).2.2.1 ∈ wsX3_findWays := by decide +kernel
  have hl20 : Cond.fieldLink RX3 20 (TX3 3).1 (TX3 3).2.1 (TX3 3).2.2.1 ∈ wsX3_findWays := by decide +kernel
  have hl26 : Cond.fieldLink RX3 26 (TX3 0).1 (TX3 0).2.1 (TX3 0).2.2.1 ∈ wsX3_findWays := by decide +kernel
  have hl51 : Cond.fieldLink RX3 51 (TX5 0).1 (TX5 0).2.1 (TX5 0).2.2.1 ∈ wsX3_findWays := by decide +kernel
  show jj X 0 0 0 [(0, .ref h3), (1, .int (nI c)), (2, .int (nI steps))] [] [(h3, cO 3 [.ref hS, .ref h4, .ref he, .ref hy, .ref hc, .int (nI mk), .int (nI p), .int (nI t0)]), (he, cO 0 [.ref hew]), (hew, cJ (xT X) 183 E), (hy, cO 0 [.ref hyw]), (hyw, cJ (xT X) 183 Y), (hc, cO 0 [.ref hcw]), (hcw, cJ (xT X) 3 Ch), (h4, cO 4 [.ref hS, .ref hs, .ref hl, .ref hdr, .int ax, .int ay, .int az, .long lim]), (hs, cO 6 [.int (nI sc), .int (nI sp), .int (bI ss), .int (nI st), .ref so, .ref sr]), (so, cI (xT X) 21 ob), (sr, cI (xT X) 12 rq), (hl, cO 0 [.ref hlw]), (hlw, cJ (xT X) 903 LW), (hdr, cZ (xT X) 301 (fun j => bI (dr j))), (hS, cO 5 [.ref hh, .ref hv, .ref hq, .ref ha]), (hv, cI (xT X) 450 cvec), (hq, cI (xT X) 150 csq), (hh, cO 0 [.ref hhw]), (hhw, cJ (xT X) 450 hd)]
  refine j_aload_n C dX3_findWays_0 0 rfl rfl ?_
  refine j_get C (hin3) (ci := 3) rfl 3 (by decide) (hl20) 0 rfl (v := .ref hy) rfl dX3_findWays_1 ?_
  refine j_iload_n C dX3_findWays_4 2 rfl rfl ?_
  refine j_callVM C rw_ (nA := 1) (As := [.int (nI steps)]) (wr := [(h3, cO 3 [.ref hS, .ref h4, .ref he, .ref hy, .ref hc, .int (nI mk), .int (nI p), .int (nI t0)]), (he, cO 0 [.ref hew]), (hew, cJ (xT X) 183 E), (hc, cO 0 [.ref hcw]), (hcw, cJ (xT X) 3 Ch), (h4, cO 4 [.ref hS, .ref hs, .ref hl, .ref hdr, .int ax, .int ay, .int az, .long lim]), (hs, cO 6 [.int (nI sc), .int (nI sp), .int (bI ss), .int (nI st), .ref so, .ref sr]), (so, cI (xT X) 21 ob), (sr, cI (xT X) 12 rq), (hl, cO 0 [.ref hlw]), (hlw, cJ (xT X) 903 LW), (hdr, cZ (xT X) 301 (fun j => bI (dr j))), (hS, cO 5 [.ref hh, .ref hv, .ref hq, .ref ha]), (hv, cI (xT X) 450 cvec), (hq, cI (xT X) 150 csq), (hh, cO 0 [.ref hhw]), (hhw, cJ (xT X) 450 hd)]) (c_X0_clear (xl X) (xT X) hy hyw 183 steps Y (by omega) (by omega)) gX3_findWays_X0_clear rfl (by decide +kernel) rfl (by decide) (by decide) [3, 4] [0, 1, 2, 5, 6, 7, 8, 9, 10, 11, 12, 13, 14, 15, 16, 17, 18] rfl rfl rfl rfl (by decide) 3 rfl rfl (rest := []) rfl (Nat.le_of_ble_eq_true rfl) dX3_findWays_5 ?_
  rintro _ _ ⟨g_1, rfl, rfl, hg1⟩
  show jj X 0 0 8 [(0, .ref h3), (1, .int (nI c)), (2, .int (nI steps))] [] [(h3, cO 3 [.ref hS, .ref h4, .ref he, .ref hy, .ref hc, .int (nI mk), .int (nI p), .int (nI t0)]), (he, cO 0 [.ref hew]), (hew, cJ (xT X) 183 E), (hc, cO 0 [.ref hcw]), (hcw, cJ (xT X) 3 Ch), (h4, cO 4 [.ref hS, .ref hs, .ref hl, .ref hdr, .int ax, .int ay, .int az, .long lim]), (hs, cO 6 [.int (nI sc), .int (nI sp), .int (bI ss), .int (nI st), .ref so, .ref sr]), (so, cI (xT X) 21 ob), (sr, cI (xT X) 12 rq), (hl, cO 0 [.ref hlw]), (hlw, cJ (xT X) 903 LW), (hdr, cZ (xT X) 301 (fun j => bI (dr j))), (hS, cO 5 [.ref hh, .ref hv, .ref hq, .ref ha]), (hv, cI (xT X) 450 cvec), (hq, cI (xT X) 150 csq), (hh, cO 0 [.ref hhw]), (hhw, cJ (xT X) 450 hd), (hy, cO 0 [.ref hyw]), (hyw, cJ (xT X) 183 g_1)]
  refine j_aload_n C dX3_findWays_8 0 rfl rfl ?_
  refine j_get C (hin3) (ci := 3) rfl 3 (by decide) (hl20) 0 rfl (v := .ref hy) rfl dX3_findWays_9 ?_
  refine j_iload_n C dX3_findWays_12 2 rfl rfl ?_
  refine j_iload_n C dX3_findWays_13 1 rfl rfl ?_
  refine j_callVM C rw_ (nA := 2) (As := [.int (nI steps), .int (nI c)]) (wr := [(h3, cO 3 [.ref hS, .ref h4, .ref he, .ref hy, .ref hc, .int (nI mk), .int (nI p), .int (nI t0)]), (he, cO 0 [.ref hew]), (hew, cJ (xT X) 183 E), (hc, cO 0 [.ref hcw]), (hcw, cJ (xT X) 3 Ch), (h4, cO 4 [.ref hS, .ref hs, .ref hl, .ref hdr, .int ax, .int ay, .int az, .long lim]), (hs, cO 6 [.int (nI sc), .int (nI sp), .int (bI ss), .int (nI st), .ref so, .ref sr]), (so, cI (xT X) 21 ob), (sr, cI (xT X) 12 rq), (hl, cO 0 [.ref hlw]), (hlw, cJ (xT X) 903 LW), (hdr, cZ (xT X) 301 (fun j => bI (dr j))), (hS, cO 5 [.ref hh, .ref hv, .ref hq, .ref ha]), (hv, cI (xT X) 450 cvec), (hq, cI (xT X) 150 csq), (hh, cO 0 [.ref hhw]), (hhw, cJ (xT X) 450 hd)]) (c_X0_add (xl X) (xT X) hy hyw 183 steps c g_1 (by omega) (by omega) (by omega)) gX3_findWays_X0_add rfl (by decide +kernel) rfl (by decide) (by decide) [17, 18] [0, 1, 2, 3, 4, 5, 6, 7, 8, 9, 10, 11, 12, 13, 14, 15, 16] rfl rfl rfl rfl (by decide) 17 rfl rfl (rest := []) rfl (Nat.le_of_ble_eq_true rfl) dX3_findWays_14 ?_
  rintro _ _ ⟨g_2, rfl, rfl, hg2⟩
  show jj X 0 0 17 [(0, .ref h3), (1, .int (nI c)), (2, .int (nI steps))] [] [(h3, cO 3 [.ref hS, .ref h4, .ref he, .ref hy, .ref hc, .int (nI mk), .int (nI p), .int (nI t0)]), (he, cO 0 [.ref hew]), (hew, cJ (xT X) 183 E), (hc, cO 0 [.ref hcw]), (hcw, cJ (xT X) 3 Ch), (h4, cO 4 [.ref hS, .ref hs, .ref hl, .ref hdr, .int ax, .int ay, .int az, .long lim]), (hs, cO 6 [.int (nI sc), .int (nI sp), .int (bI ss), .int (nI st), .ref so, .ref sr]), (so, cI (xT X) 21 ob), (sr, cI (xT X) 12 rq), (hl, cO 0 [.ref hlw]), (hlw, cJ (xT X) 903 LW), (hdr, cZ (xT X) 301 (fun j => bI (dr j))), (hS, cO 5 [.ref hh, .ref hv, .ref hq, .ref ha]), (hv, cI (xT X) 450 cvec), (hq, cI (xT X) 150 csq), (hh, cO 0 [.ref hhw]), (hhw, cJ (xT X) 450 hd), (hy, cO 0 [.ref hyw]), (hyw, cJ (xT X) 183 g_2)]
  refine j_iload_n C dX3_findWays_17 2 rfl rfl ?_
  refine j_iconst C dX3_findWays_18 (v := (nI 1)) kc_i_1 ?_
  refine j_isub C dX3_findWays_19 (v := (nI steps - nI 1)) rfl ?_
  refine j_istore_n C dX3_findWays_20 rfl (by decide) (lv' := [(3, .int (nI steps - nI 1)), (0, .ref h3), (1, .int (nI c)), (2, .int (nI steps))]) rfl ?_
  refine j_lv [1, 2, 3, 0] rfl ?_
  refine j_perm C (w' := [(h3, cO 3 [.ref hS, .ref h4, .ref he, .ref hy, .ref hc, .int (nI mk), .int (nI p), .int (nI t0)]), (he, cO 0 [.ref hew]), (hew, cJ (xT X) 183 E), (hy, cO 0 [.ref hyw]), (hyw, cJ (xT X) 183 g_2), (hc, cO 0 [.ref hcw]), (hcw, cJ (xT X) 3 Ch), (h4, cO 4 [.ref hS, .ref hs, .ref hl, .ref hdr, .int ax, .int ay, .int az, .long lim]), (hs, cO 6 [.int (nI sc), .int (nI sp), .int (bI ss), .int (nI st), .ref so, .ref sr]), (so, cI (xT X) 21 ob), (sr, cI (xT X) 12 rq), (hl, cO 0 [.ref hlw]), (hlw, cJ (xT X) 903 LW), (hdr, cZ (xT X) 301 (fun j => bI (dr j))), (hS, cO 5 [.ref hh, .ref hv, .ref hq, .ref ha]), (hv, cI (xT X) 450 cvec), (hq, cI (xT X) 150 csq), (hh, cO 0 [.ref hhw]), (hhw, cJ (xT X) 450 hd)]) [0, 1, 2, 17, 18, 3, 4, 5, 6, 7, 8, 9, 10, 11, 12, 13, 14, 15, 16] rfl rfl ?_
  suffices hc21 : ∀ (mm : Nat) (j : Nat) (Y : Nat → Int64), j < mm → (j ≤ steps) → (∀ i, j ≤ i → i ≤ steps → ∀ c', c' < 192 → cs_b Y i c' = (decide (c' < 150) && wy ob t0 p steps c (steps - i) c')) → jj X 0 0 21 [(0, .ref h3), (1, .int (nI c)), (2, .int (nI steps)), (3, .int (nI j - nI 1))] [] [(h3, cO 3 [.ref hS, .ref h4, .ref he, .ref hy, .ref hc, .int (nI mk), .int (nI p), .int (nI t0)]), (he, cO 0 [.ref hew]), (hew, cJ (xT X) 183 E), (hy, cO 0 [.ref hyw]), (hyw, cJ (xT X) 183 Y), (hc, cO 0 [.ref hcw]), (hcw, cJ (xT X) 3 Ch), (h4, cO 4 [.ref hS, .ref hs, .ref hl, .ref hdr, .int ax, .int ay, .int az, .long lim]), (hs, cO 6 [.int (nI sc), .int (nI sp), .int (bI ss), .int (nI st), .ref so, .ref sr]), (so, cI (xT X) 21 ob), (sr, cI (xT X) 12 rq), (hl, cO 0 [.ref hlw]), (hlw, cJ (xT X) 903 LW), (hdr, cZ (xT X) 301 (fun j => bI (dr j))), (hS, cO 5 [.ref hh, .ref hv, .ref hq, .ref ha]), (hv, cI (xT X) 450 cvec), (hq, cI (xT X) 150 csq), (hh, cO 0 [.ref hhw]), (hhw, cJ (xT X) 450 hd)] by
    refine hc21 _ _ _ (Nat.lt_succ_self _) ?_ ?_
    · exact Nat.le_refl _
    · intro i h1 h2 c' hc'
      rw [show i = steps by omega, Nat.sub_self, wy, hg2 steps c' hc', hg1 steps c' hc', decide_eq_false (show ¬ (steps ≠ steps) from fun h => h rfl), Bool.false_and, Bool.or_false]
      by_cases h : c' = c
      · rw [decide_eq_true ⟨rfl, h⟩, decide_eq_true h, decide_eq_true (by omega)]; rfl
      · rw [decide_eq_false (fun q => h q.2), decide_eq_false h, Bool.and_false]
  intro mm
  induction mm with
  | zero => intro j Y hm; exact absurd hm (Nat.not_lt_zero _)
  | succ mm ih21 =>
    intro j Y hm21 hj hY
    refine j_iload_n C dX3_findWays_21 3 rfl rfl ?_
    refine j_if_lt C dX3_findWays_22 (tgt := 62) (by decide) (fun q22 => ?_) (fun q22 => ?_)
    · skip
      have hj0 : j = 0 := (sub1_lt (by omega)).mp q22
      refine j_vretM C rw_ hQ (by decide) (by decide) ?_ dX3_findWays_62
      exact ⟨_, rfl, rfl, fun i hi c' hc' => hY i (by omega) hi c' hc'⟩
    · skip
      obtain ⟨i, rfl⟩ : ∃ i, j = i + 1 := ⟨j - 1, by have := mt (sub1_lt (j := j) (by omega)).mpr q22; omega⟩
      rw [show nI (i + 1) - nI 1 = nI i from nI_pred i]
      refine j_aload_n C dX3_findWays_25 0 rfl rfl ?_
      refine j_get C (hin3) (ci := 3) rfl 3 (by decide) (hl20) 0 rfl (v := .ref hy) rfl dX3_findWays_26 ?_
      refine j_iload_n C dX3_findWays_29 3 rfl rfl ?_
      refine j_iload_n C dX3_findWays_30 3 rfl rfl ?_
      refine j_iconst C dX3_findWays_31 (v := (nI 1)) kc_i_1 ?_
      refine j_iadd C dX3_findWays_32 (v := (nI (i + 1))) (nI_add _ _) ?_
      refine j_aload_n C dX3_findWays_33 0 rfl rfl ?_
      refine j_get C (hin3) (ci := 3) rfl 0 (by decide) (hl26) 0 rfl (v := .ref hS) rfl dX3_findWays_34 ?_
      refine j_get C (hin5) (ci := 5) rfl 0 (by decide) (hl51) 14 rfl (v := .ref hh) rfl dX3_findWays_37 ?_
      refine j_callVM C rw_ (nA := 3) (As := [.int (nI i), .int (nI (i + 1)), .ref hh]) (wr := [(h3, cO 3 [.ref hS, .ref h4, .ref he, .ref hy, .ref hc, .int (nI mk), .int (nI p), .int (nI t0)]), (he, cO 0 [.ref hew]), (hew, cJ (xT X) 183 E), (hc, cO 0 [.ref hcw]), (hcw, cJ (xT X) 3 Ch), (h4, cO 4 [.ref hS, .ref hs, .ref hl, .ref hdr, .int ax, .int ay, .int az, .long lim]), (hs, cO 6 [.int (nI sc), .int (nI sp), .int (bI ss), .int (nI st), .ref so, .ref sr]), (so, cI (xT X) 21 ob), (sr, cI (xT X) 12 rq), (hl, cO 0 [.ref hlw]), (hlw, cJ (xT X) 903 LW), (hdr, cZ (xT X) 301 (fun j => bI (dr j))), (hS, cO 5 [.ref hh, .ref hv, .ref hq, .ref ha]), (hv, cI (xT X) 450 cvec), (hq, cI (xT X) 150 csq)]) (c_X0_spread (xl X) (xT X) hy hyw 183 i (i + 1) hh hhw 450 Y hd (by omega) (by omega) (by omega) (by omega) (by omega) (by omega) (by intro b h1 h2; rw [hY (i + 1) (by omega) (by omega) b h2, decide_eq_false (by omega), Bool.false_and])) gX3_findWays_X0_spread rfl (by decide +kernel) rfl (by decide) (by decide) [3, 4, 17, 18] [0, 1, 2, 5, 6, 7, 8, 9, 10, 11, 12, 13, 14, 15, 16] rfl rfl rfl rfl (by decide) 3 rfl rfl (rest := []) rfl (Nat.le_of_ble_eq_true rfl) dX3_findWays_40 ?_
      rintro _ _ ⟨g_3, rfl, rfl, hsp⟩
      show jj X 0 0 43 [(0, .ref h3), (1, .int (nI c)), (2, .int (nI steps)), (3, .int (nI i))] [] [(h3, cO 3 [.ref hS, .ref h4, .ref he, .ref hy, .ref hc, .int (nI mk), .int (nI p), .int (nI t0)]), (he, cO 0 [.ref hew]), (hew, cJ (xT X) 183 E), (hc, cO 0 [.ref hcw]), (hcw, cJ (xT X) 3 Ch), (h4, cO 4 [.ref hS, .ref hs, .ref hl, .ref hdr, .int ax, .int ay, .int az, .long lim]), (hs, cO 6 [.int (nI sc), .int (nI sp), .int (bI ss), .int (nI st), .ref so, .ref sr]), (so, cI (xT X) 21 ob), (sr, cI (xT X) 12 rq), (hl, cO 0 [.ref hlw]), (hlw, cJ (xT X) 903 LW), (hdr, cZ (xT X) 301 (fun j => bI (dr j))), (hS, cO 5 [.ref hh, .ref hv, .ref hq, .ref ha]), (hv, cI (xT X) 450 cvec), (hq, cI (xT X) 150 csq), (hy, cO 0 [.ref hyw]), (hyw, cJ (xT X) 183 g_3), (hh, cO 0 [.ref hhw]), (hhw, cJ (xT X) 450 hd)]
      refine j_aload_n C dX3_findWays_43 0 rfl rfl ?_
      refine j_get C (hin3) (ci := 3) rfl 3 (by decide) (hl20) 0 rfl (v := .ref hy) rfl dX3_findWays_44 ?_
      refine j_iload_n C dX3_findWays_47 3 rfl rfl ?_
      refine j_aload_n C dX3_findWays_48 0 rfl rfl ?_
      refine j_get C (hin3) (ci := 3) rfl 2 (by decide) (hl14) 0 rfl (v := .ref he) rfl dX3_findWays_49 ?_
      refine j_iload_n C dX3_findWays_52 3 rfl rfl ?_
      refine j_callVM C rw_ (nA := 3) (As := [.int (nI i), .ref he, .int (nI i)]) (wr := [(h3, cO 3 [.ref hS, .ref h4, .ref he, .ref hy, .ref hc, .int (nI mk), .int (nI p), .int (nI t0)]), (hc, cO 0 [.ref hcw]), (hcw, cJ (xT X) 3 Ch), (h4, cO 4 [.ref hS, .ref hs, .ref hl, .ref hdr, .int ax, .int ay, .int az, .long lim]), (hs, cO 6 [.int (nI sc), .int (nI sp), .int (bI ss), .int (nI st), .ref so, .ref sr]), (so, cI (xT X) 21 ob), (sr, cI (xT X) 12 rq), (hl, cO 0 [.ref hlw]), (hlw, cJ (xT X) 903 LW), (hdr, cZ (xT X) 301 (fun j => bI (dr j))), (hS, cO 5 [.ref hh, .ref hv, .ref hq, .ref ha]), (hv, cI (xT X) 450 cvec), (hq, cI (xT X) 150 csq), (hh, cO 0 [.ref hhw]), (hhw, cJ (xT X) 450 hd)]) (c_X0_retain (xl X) (xT X) hy hyw 183 i he hew 183 i g_3 E (by omega) (by omega) (by omega) (by omega)) gX3_findWays_X0_retain rfl (by decide +kernel) rfl (by decide) (by decide) [15, 16, 1, 2] [0, 3, 4, 5, 6, 7, 8, 9, 10, 11, 12, 13, 14, 17, 18] rfl rfl rfl rfl (by decide) 15 rfl rfl (rest := []) rfl (Nat.le_of_ble_eq_true rfl) dX3_findWays_53 ?_
      rintro _ _ ⟨g_4, rfl, rfl, hre⟩
      show jj X 0 0 56 [(0, .ref h3), (1, .int (nI c)), (2, .int (nI steps)), (3, .int (nI i))] [] [(h3, cO 3 [.ref hS, .ref h4, .ref he, .ref hy, .ref hc, .int (nI mk), .int (nI p), .int (nI t0)]), (hc, cO 0 [.ref hcw]), (hcw, cJ (xT X) 3 Ch), (h4, cO 4 [.ref hS, .ref hs, .ref hl, .ref hdr, .int ax, .int ay, .int az, .long lim]), (hs, cO 6 [.int (nI sc), .int (nI sp), .int (bI ss), .int (nI st), .ref so, .ref sr]), (so, cI (xT X) 21 ob), (sr, cI (xT X) 12 rq), (hl, cO 0 [.ref hlw]), (hlw, cJ (xT X) 903 LW), (hdr, cZ (xT X) 301 (fun j => bI (dr j))), (hS, cO 5 [.ref hh, .ref hv, .ref hq, .ref ha]), (hv, cI (xT X) 450 cvec), (hq, cI (xT X) 150 csq), (hh, cO 0 [.ref hhw]), (hhw, cJ (xT X) 450 hd), (hy, cO 0 [.ref hyw]), (hyw, cJ (xT X) 183 g_4), (he, cO 0 [.ref hew]), (hew, cJ (xT X) 183 E)]
      refine j_iinc C dX3_findWays_56 (q := 3) (v := (nI i - nI 1)) rfl (kc_decI i) (by decide) (lv' := [(3, .int (nI i - nI 1)), (0, .ref h3), (1, .int (nI c)), (2, .int (nI steps))]) rfl ?_
      refine j_goto C dX3_findWays_59 (tgt := 21) (by decide) ?_
      refine j_lv [1, 2, 3, 0] rfl ?_
      refine j_perm C (w' := [(h3, cO 3 [.ref hS, .ref h4, .ref he, .ref hy, .ref hc, .int (nI mk), .int (nI p), .int (nI t0)]), (he, cO 0 [.ref hew]), (hew, cJ (xT X) 183 E), (hy, cO 0 [.ref hyw]), (hyw, cJ (xT X) 183 g_4), (hc, cO 0 [.ref hcw]), (hcw, cJ (xT X) 3 Ch), (h4, cO 4 [.ref hS, .ref hs, .ref hl, .ref hdr, .int ax, .int ay, .int az, .long lim]), (hs, cO 6 [.int (nI sc), .int (nI sp), .int (bI ss), .int (nI st), .ref so, .ref sr]), (so, cI (xT X) 21 ob), (sr, cI (xT X) 12 rq), (hl, cO 0 [.ref hlw]), (hlw, cJ (xT X) 903 LW), (hdr, cZ (xT X) 301 (fun j => bI (dr j))), (hS, cO 5 [.ref hh, .ref hv, .ref hq, .ref ha]), (hv, cI (xT X) 450 cvec), (hq, cI (xT X) 150 csq), (hh, cO 0 [.ref hhw]), (hhw, cJ (xT X) 450 hd)]) [0, 17, 18, 15, 16, 1, 2, 3, 4, 5, 6, 7, 8, 9, 10, 11, 12, 13, 14] rfl rfl ?_
      refine ih21 _ _ (by omega) ?_ ?_
      · omega
      · intro z h1 h2 c' hc'
        rw [hre z c' hc']
        by_cases h : z = i
        · subst h
          rw [if_pos rfl, hsp z c' hc', if_pos rfl, hE z (by omega) c' hc', un_nb (fun b hb => hY (z + 1) (by omega) (by omega) b hb) hH hc', show steps - z = (steps - (z + 1)) + 1 by omega, wy, show steps - (steps - (z + 1) + 1) = z by omega]
          cases decide (c' < 150) <;> simp
        · rw [if_neg h, hsp z c' hc', if_neg h]; exact hY z (by omega) h2 c' hc'
