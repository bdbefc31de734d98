/-! THE LAW (6): its start -/
abbrev s00 : sT := ((0, 0, false, 0, st_ob0, fun _ => 0), 0, (fun _ => (0, 0, false, 0, st_ob0, fun _ => 0)), fun _ => none)
set_option maxHeartbeats 4000000 in
theorem k_X7_init (l : Launch) (T : jj_T) (h7 : Nat) : jM l T yX7_init wsX7_init { frames := 4, cells := 60, slots := 7000, locals := 91 } [.ref h7] [(h7, cO 7 [.null, .null, .null, .null, .null, .null, .null, .null])] (fun v w1 => v = none ∧ PW T h7 s00 w1) := by
  refine jM.mono (c_X7_init l T h7) (fun v w1 h => ?_)
  refine Exists.elim h (fun hS h => ?_)
  refine Exists.elim h (fun a0 h => ?_)
  refine Exists.elim h (fun ao h => ?_)
  refine Exists.elim h (fun ar h => ?_)
  refine Exists.elim h (fun d0 h => ?_)
  refine Exists.elim h (fun d1 h => ?_)
  refine Exists.elim h (fun d2 h => ?_)
  refine Exists.elim h (fun h1 h => ?_)
  refine Exists.elim h (fun hst h => ?_)
  refine Exists.elim h (fun hsl h => ?_)
  refine Exists.elim h (fun h4 h => ?_)
  refine Exists.elim h (fun hs h => ?_)
  refine Exists.elim h (fun so h => ?_)
  refine Exists.elim h (fun sr h => ?_)
  refine Exists.elim h (fun hl h => ?_)
  refine Exists.elim h (fun hlw h => ?_)
  refine Exists.elim h (fun hdr h => ?_)
  refine Exists.elim h (fun h3 h => ?_)
  refine Exists.elim h (fun he h => ?_)
  refine Exists.elim h (fun hew h => ?_)
  refine Exists.elim h (fun hy h => ?_)
  refine Exists.elim h (fun hyw h => ?_)
  refine Exists.elim h (fun hc h => ?_)
  refine Exists.elim h (fun hcw h => ?_)
  refine Exists.elim h (fun h2 h => ?_)
  refine Exists.elim h (fun ga h => ?_)
  refine Exists.elim h (fun go h => ?_)
  refine Exists.elim h (fun gr h => ?_)
  refine Exists.elim h (fun hh h => ?_)
  refine Exists.elim h (fun hhw h => ?_)
  refine Exists.elim h (fun hv h => ?_)
  refine Exists.elim h (fun hq h => ?_)
  refine Exists.elim h (fun ha h => ?_)
  refine Exists.elim h (fun hd h => ?_)
  have e0 : rgW T (fun _ => none) 14 ++ rgW T (fun _ => none) 2 = [] := rfl
  refine ⟨w1, ⟨h.1, PW.mk (hS := hS) (a0 := a0) (ao := ao) (ar := ar) (d0 := d0) (d1 := d1) (d2 := d2) (h1 := h1) (hst := hst) (hsl := hsl) (h2 := h2) (ga := ga) (go := go) (gr := gr) (h3 := h3) (he := he) (hew := hew) (hy := hy) (hyw := hyw) (hc := hc) (hcw := hcw) (h4 := h4) (hs := hs) (so := so) (sr := sr) (hl := hl) (hlw := hlw) (hdr := hdr) (hh := hh) (hhw := hhw) (hv := hv) (hq := hq) (ha := ha) (ol := 0) (dc := 0) (dp := 0) (dn := 0) (ck := 0) (gp := 0) (gn := 0) (mk := 0) (p := 0) (t0 := 0) (sc := 0) (sp := 0) (st := 0) (ds := false) (gs := false) (ss := false) (bs := nI 0) (bd := nI 0) (ax := nI 0) (ay := nI 0) (az := nI 0) (lim := lN 0) (dob := st_ob0) (gob := st_ob0) (sob := st_ob0) (drq := fun _ => 0) (grq := fun _ => 0) (srq := fun _ => 0) (E := fun _ => 0) (Y := fun _ => 0) (Ch := fun _ => 0) (LW := fun _ => 0) (hd := hd) (dr := fun _ => false) (sf := fun _ => none) (slf := fun _ => none) (P := fun _ => none) (Q := fun _ => none) ?_ ⟨Nat.zero_le _, by decide, fun _ _ => rfl, fun j h9 => absurd h9 (Nat.not_lt_zero j)⟩ (fun _ _ => ⟨rfl, Or.inl ⟨rfl, rfl⟩⟩) (fun t _ h9 => absurd h9 Bool.false_ne_true) h.2.2⟩, List.Perm.refl _⟩
  rw [e0, List.append_nil]
  exact List.Perm.of_eq h.2.1
set_option maxHeartbeats 4000000 in
theorem k_X8_init (l : Launch) (T : jj_T) (h8 : Nat) : jM l T yX8_init wsX8_init { frames := 3, cells := 14, slots := 36000, locals := 67 } [.ref h8] [(h8, cO 8 [.int (nI 0), .null, .null, .null, .null, .null, .int (nI 0), .int (nI 0), .null, .null, .null, .null, .null, .null, .null, .null, .null, .int (nI 0), .int (nI 0)])] (fun v w1 => v = none ∧ MW T h8 0 s00 w1) := by
  refine jM.mono (c_X8_init l T h8) (fun v w1 h => ?_)
  refine Exists.elim h (fun rv h => ?_)
  refine Exists.elim h (fun rn h => ?_)
  refine Exists.elim h (fun rnw h => ?_)
  refine Exists.elim h (fun rt h => ?_)
  refine Exists.elim h (fun rd h => ?_)
  refine Exists.elim h (fun rk h => ?_)
  refine Exists.elim h (fun rik h => ?_)
  refine Exists.elim h (fun rdk h => ?_)
  refine Exists.elim h (fun rre h => ?_)
  refine Exists.elim h (fun rle h => ?_)
  refine Exists.elim h (fun rhe h => ?_)
  refine Exists.elim h (fun rth h => ?_)
  refine Exists.elim h (fun rpa h => ?_)
  refine Exists.elim h (fun ror h => ?_)
  refine ⟨w1, ⟨h.1, MW.mk (rv := rv) (rn := rn) (rnw := rnw) (rt := rt) (rd := rd) (rk := rk) (rik := rik) (rdk := rdk) (rre := rre) (rle := rle) (rhe := rhe) (rth := rth) (rpa := rpa) (ror := ror) (nx := 0) (bv := nI 0) (bo := nI 0) (g9 := fun _ => 0) (D := fun _ => 0) (K := fun _ => 0) (pt := fun _ => 0) (oq := fun _ => 0) (ik := fun _ => false) (dk := fun _ => false) (re := fun _ => false) (le := fun _ => false) (he := fun _ => false) (th := fun _ => false) (List.Perm.of_eq h.2) (Nat.zero_le _) (by decide) (fun j h9 => absurd h9 (Nat.not_lt_zero j)) (fun i _ => ⟨rfl, fun a h9 => (Option.some_ne_none a h9.symm).elim⟩)⟩, List.Perm.refl _⟩
theorem okA0 : okA (0, 0, false, 0, st_ob0, fun _ => 0) := ⟨by decide, by decide, by decide, fun i h => absurd h (Nat.not_lt_zero i), by unfold coI; decide +kernel, by unfold obI; decide +kernel⟩
theorem okS0 : okS s00 := ⟨okA0, fun j h => absurd h (Nat.not_lt_zero j), fun i a h => (Option.some_ne_none a h.symm).elim⟩
theorem lwp_0 (a b o d : va_W) : (((b ++ a) ++ o) ++ d).Perm (a ++ (b ++ (o ++ d))) := by
  rw [List.append_assoc (b ++ a) o d, ← List.append_assoc a b (o ++ d)]
  exact List.Perm.append_right _ List.perm_append_comm
set_option maxHeartbeats 4000000 in
theorem law_walk0 {X : jj_X} (C : jj_C X cL_law RL wsL_law room_1 9 ret) (rw_ : jj_RW X) (hlS : (xl X).stackTraces = false) (hZ : jZ (xA X) (xs X) (xs X).heap) {b L : Nat} {sc : Nat → Int32} (hL : jj_L X b L sc) (hLL : L ≤ 2560) : jj X 0 0 0 [(0, .ref b)] [] [] := by
  have hin7 : ∀ w ∈ u_ws RX7 TX7 8, w ∈ wsL_law := by decide +kernel
  have hin8 : ∀ w ∈ u_ws RX8 TX8 19, w ∈ wsL_law := by decide +kernel
  refine j_new C rw_ hin7 tyX7 tyX7_ok (ci := 7) rfl (by decide +kernel) (by decide +kernel) (by decide +kernel) (fs := [.null, .null, .null, .null, .null, .null, .null, .null]) (by decide +kernel) (by decide) (by decide) dL_law_0 (fun h7 => ?_)
  refine j_dup C dL_law_3 rfl ?_
  refine j_callIMp C rw_ (nA := 0) (As := []) (wr := []) (k_X7_init (xl X) (xT X) h7) gL_law_X7_init rfl (by decide +kernel) (by decide +kernel) (by decide +kernel) rfl (by decide +kernel) rfl (by decide) (by decide) (List.Perm.refl _) (rest := [.ref h7]) rfl (Nat.le_of_ble_eq_true rfl) dL_law_4 (fun v w7 h => ?_)
  obtain ⟨rfl, W7⟩ := h
  rw [List.append_nil]
  refine j_astore_n C (i := 1) dL_law_7 rfl (by decide) (lv' := [(1, .ref h7), (0, .ref b)]) rfl ?_
  refine j_new C rw_ hin8 tyX8 tyX8_ok (ci := 8) rfl (by decide +kernel) (by decide +kernel) (by decide +kernel) (fs := [.int (nI 0), .null, .null, .null, .null, .null, .int (nI 0), .int (nI 0), .null, .null, .null, .null, .null, .null, .null, .null, .null, .int (nI 0), .int (nI 0)]) (by decide +kernel) (by decide) (by decide) dL_law_8 (fun h8 => ?_)
  refine j_dup C dL_law_11 rfl ?_
  refine j_callIMp C rw_ (nA := 0) (As := []) (wr := w7) (k_X8_init (xl X) (xT X) h8) gL_law_X8_init rfl (by decide +kernel) (by decide +kernel) (by decide +kernel) rfl (by decide +kernel) rfl (by decide) (by decide) List.perm_append_comm (rest := [.ref h8]) rfl (Nat.le_of_ble_eq_true rfl) dL_law_12 (fun v w8 h => ?_)
  obtain ⟨rfl, W8⟩ := h
  refine j_astore_n C (i := 2) dL_law_15 rfl (by decide) (lv' := [(2, .ref h8), (1, .ref h7), (0, .ref b)]) rfl ?_
  refine j_iconst C dL_law_16 (v := nI 1) kc_i_1 ?_
  refine j_newarrJ C rw_ (N := 1) rfl (by decide) (by decide +kernel) (by decide) (by decide) dL_law_17 (fun out => ?_)
  refine j_astore_n C (i := 3) dL_law_19 rfl (by decide) (lv' := [(3, .ref out), (2, .ref h8), (1, .ref h7), (0, .ref b)]) rfl ?_
  refine j_iconst C dL_law_20 (v := nI 1) kc_i_1 ?_
  refine j_newarrD C rw_ (N := 1) rfl (by decide) (by decide +kernel) (by decide) (by decide) dL_law_21 (fun outD => ?_)
  refine j_astore C (i := 4) dL_law_23 (by decide) (lv' := [(4, .ref outD), (3, .ref out), (2, .ref h8), (1, .ref h7), (0, .ref b)]) rfl ?_
  refine j_iconst C dL_law_25 (v := nI 0) kc_i_0 ?_
  refine j_istore C (i := 5) dL_law_26 (by decide) (lv' := [(5, .int (nI 0)), (4, .ref outD), (3, .ref out), (2, .ref h8), (1, .ref h7), (0, .ref b)]) rfl ?_
  refine j_permP C (lwp_0 w7 w8 [(out, cJ (xT X) 1 (fun _ => 0))] [(outD, cD (xT X) 1 (fun _ => 0))]) ?_
  refine j_lv [5, 4, 3, 2, 1, 0] rfl ?_
  exact law_loop C rw_ hlS hZ hL hLL 512 (i := 0) (by omega) (by omega) (by decide) (by decide) W7 W8 okS0
theorem whole_start {p : Program} {e : Env} {s : State} {m : MethodId} {below : List Frame} {meth : Method} {c : Code} (l : Launch) (hflags : l.flags = flags0) {b L : Nat} {xs : Nat → Int32} (hL : L ≤ 2560) (C0 : lw_At p s m meth c b L xs) : W p l e room_1 s m #[Value.ref b] below meth c s.heap [] 0 0 (lw_Z below #[Value.ref b] s) (entryFrame m ([Value.ref b] : List Value).toArray 9) := by
  refine law_of l C0 (fun X C rw_ hl hZ hL9 => law_walk0 C rw_ ?_ hZ hL9 hL)
  rw [hl]; unfold Launch.stackTraces; rw [hflags]; decide
