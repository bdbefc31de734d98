/-! THE MODEL: the best plan -/
theorem upB {le : Nat → Bool} {m : Nat} {x : Int32} {b : Bool} (hx : x = bI b) (j : Nat) : upd (fun j => bI (le j)) m x j = bI (va_up le m b j) := by
  unfold upd va_up
  by_cases h : j = m
  · rw [if_pos h, if_pos h, hx]
  · rw [if_neg h, if_neg h]
theorem qm_lt : ∀ q < 62, (nI q - nI 1 < 0 ↔ q = 0) := by decide +kernel
/-- the rows of leads behind s are right; of row s those below c -/
def leI (ob : Nat → Int32) (t0 p steps cell s c : Nat) (le : Nat → Bool) : Prop := (∀ s', s < s' → s' ≤ steps → ∀ d, d < 150 → le (150 * s' + d) = wy ob t0 p steps cell (steps - s') d) ∧ ∀ d, d < c → le (150 * s + d) = wy ob t0 p steps cell (steps - s) d
theorem leI_s {ob : Nat → Int32} {t0 p steps cell s c : Nat} {le : Nat → Bool} (h : leI ob t0 p steps cell s c le) (hc : c < 150) : leI ob t0 p steps cell s (c + 1) (va_up le (150 * s + c) (wy ob t0 p steps cell (steps - s) c)) := by
  refine ⟨fun s' h1 h2 d h3 => ?_, fun d hd => ?_⟩
  · unfold va_up; rw [if_neg (by omega)]; exact h.1 s' h1 h2 d h3
  · unfold va_up
    by_cases e : d = c
    · rw [if_pos (by omega), e]
    · rw [if_neg (by omega)]; exact h.2 d (by omega)
theorem leI_n {ob : Nat → Int32} {t0 p steps cell s : Nat} {le : Nat → Bool} (h : leI ob t0 p steps cell (s + 1) 150 le) : leI ob t0 p steps cell s 0 le :=
  ⟨fun s' h1 h2 d h3 => by
    by_cases e : s' = s + 1
    · rw [e]; exact h.2 d h3
    · exact h.1 s' (by omega) h2 d h3, fun d hd => absurd hd (Nat.not_lt_zero _)⟩
set_option maxHeartbeats 4000000 in
set_option maxRecDepth 100000 in
/-- layPath(cell, steps) -/
theorem c_X8_layPath (l : Launch) (T : jj_T) (h8 rv rn rnw rt rd rk rik rdk rre rle rhe rth rpa ror na nx : Nat) (rf bv bo : Int32) (ac ap an : Nat) (ash : Bool) (aob arq : Nat → Int32) (c9 st9 : Nat) (re le : Nat → Bool) (pt : Nat → Int32) (hap : ap < 150) (hc9 : c9 < 150) (hst : st9 ≤ 60) (hrc : rc aob ac ap st9 c9 = true) (hre : ∀ s, s ≤ st9 → ∀ c, c < 150 → re (150 * s + c) = rc aob ac ap s c) : jM l T yX8_layPath wsX8_layPath { frames := 0, cells := 0, slots := 0, locals := 0 } [.ref h8, .int (nI c9), .int (nI st9)] [(h8, cO 8 [.int rf, .ref rv, .ref rn, .ref rnw, .ref rt, .ref rd, .int (nI na), .int (nI nx), .ref rk, .ref rik, .ref rdk, .ref rre, .ref rle, .ref rhe, .ref rth, .ref rpa, .ref ror, .int bv, .int bo]), (rn, cI T 600 (fun j => nI (near4 j))), (rnw, cI T 37 (rowF ac ap ash an aob arq)), (rre, cZ T 9150 (fun j => bI (re j))), (rle, cZ T 9150 (fun j => bI (le j))), (rpa, cI T 61 pt)] (fun v w1 => ∃ le' : Nat → Bool, ∃ pt' : Nat → Int32, v = none ∧ w1 = [(h8, cO 8 [.int rf, .ref rv, .ref rn, .ref rnw, .ref rt, .ref rd, .int (nI na), .int (nI nx), .ref rk, .ref rik, .ref rdk, .ref rre, .ref rle, .ref rhe, .ref rth, .ref rpa, .ref ror, .int bv, .int bo]), (rn, cI T 600 (fun j => nI (near4 j))), (rnw, cI T 37 (rowF ac ap ash an aob arq)), (rre, cZ T 9150 (fun j => bI (re j))), (rle, cZ T 9150 (fun j => bI (le' j))), (rpa, cI T 61 pt')] ∧ (∀ i, i ≤ st9 → pt' i = nI ((pth aob ac ap st9 c9) i))) := by
  refine jM.of (cc := cX8_layPath) (maxL := 8) (ret := none) (by decide) rfl (Nat.le_of_ble_eq_true rfl) ?_
  intro X C rw_ hl hT hQ hnm
  subst hl; subst hT
  have hin8 : ∀ w ∈ u_ws RX8 TX8 19, w ∈ wsX8_layPath := by decide +kernel
  have hl13 : Cond.fieldLink RX8 13 (TX8 2).1 (TX8 2).2.1 (TX8 2).2.2.1 ∈ wsX8_layPath := by decide +kernel
  have hl16 : Cond.fieldLink RX8 16 (TX8 3).1 (TX8 3).2.1 (TX8 3).2.2.1 ∈ wsX8_layPath := by decide +kernel
  have hl35 : Cond.fieldLink RX8 35 (TX8 11).1 (TX8 11).2.1 (TX8 11).2.2.1 ∈ wsX8_layPath := by decide +kernel
  have hl38 : Cond.fieldLink RX8 38 (TX8 12).1 (TX8 12).2.1 (TX8 12).2.2.1 ∈ wsX8_layPath := by decide +kernel
  have hl47 : Cond.fieldLink RX8 47 (TX8 15).1 (TX8 15).2.1 (TX8 15).2.2.1 ∈ wsX8_layPath := by decide +kernel
  show jj X 0 0 0 [(0, .ref h8), (1, .int (nI c9)), (2, .int (nI st9))] [] [(h8, cO 8 [.int rf, .ref rv, .ref rn, .ref rnw, .ref rt, .ref rd, .int (nI na), .int (nI nx), .ref rk, .ref rik, .ref rdk, .ref rre, .ref rle, .ref rhe, .ref rth, .ref rpa, .ref ror, .int bv, .int bo]), (rn, cI (xT X) 600 (fun j => nI (near4 j))), (rnw, cI (xT X) 37 (rowF ac ap ash an aob arq)), (rre, cZ (xT X) 9150 (fun j => bI (re j))), (rle, cZ (xT X) 9150 (fun j => bI (le j))), (rpa, cI (xT X) 61 pt)]
  refine j_iconst C dX8_layPath_0 (v := (nI 0)) kc_i_0 ?_
  refine j_istore_n C dX8_layPath_1 rfl (by decide) (lv' := [(3, .int (nI 0)), (0, .ref h8), (1, .int (nI c9)), (2, .int (nI st9))]) rfl ?_
  refine j_lv [1, 2, 3, 0] rfl ?_
  suffices hc2 : ∀ (mm : Nat) (c : Nat) (le : Nat → Bool), 150 - c < mm → (c ≤ 150) → (leI aob ac ap st9 c9 st9 c le) → jj X 0 0 2 [(0, .ref h8), (1, .int (nI c9)), (2, .int (nI st9)), (3, .int (nI c))] [] [(h8, cO 8 [.int rf, .ref rv, .ref rn, .ref rnw, .ref rt, .ref rd, .int (nI na), .int (nI nx), .ref rk, .ref rik, .ref rdk, .ref rre, .ref rle, .ref rhe, .ref rth, .ref rpa, .ref ror, .int bv, .int bo]), (rn, cI (xT X) 600 (fun j => nI (near4 j))), (rnw, cI (xT X) 37 (rowF ac ap ash an aob arq)), (rre, cZ (xT X) 9150 (fun j => bI (re j))), (rle, cZ (xT X) 9150 (fun j => bI (le j))), (rpa, cI (xT X) 61 pt)] by
    refine hc2 _ _ _ (Nat.lt_succ_self _) ?_ ?_
    · omega
    · exact ⟨fun s h1 h2 => by omega, fun d hd => by omega⟩
  intro mm
  induction mm with
  | zero => intro c le hm; exact absurd hm (Nat.not_lt_zero _)
  | succ mm ih2 =>
    intro c le hm2 hc hI
    refine j_iload_n C dX8_layPath_2 3 rfl rfl ?_
    refine j_sipush C dX8_layPath_3 (v := (nI 150)) kc_s_150 ?_
    refine j_icmp_ge C dX8_layPath_6 (tgt := 37) (by decide) (fun q6 => ?_) (fun q6 => ?_)
    · skip
      have q6 := (kn_ge (a := c) (b := 150) (by omega) (by omega)).mp q6
      refine j_iload_n C dX8_layPath_37 2 rfl rfl ?_
      refine j_iconst C dX8_layPath_38 (v := (nI 1)) kc_i_1 ?_
      refine j_isub C dX8_layPath_39 (v := (nI st9 - nI 1)) rfl ?_
      refine j_istore_n C dX8_layPath_40 rfl (by decide) (lv' := [(3, .int (nI st9 - nI 1)), (0, .ref h8), (1, .int (nI c9)), (2, .int (nI st9))]) rfl ?_
      refine j_lv [1, 2, 3, 0] rfl ?_
      suffices hc41 : ∀ (mm : Nat) (q : Nat) (le : Nat → Bool), q + 1 < mm → (q ≤ st9) → (leI aob ac ap st9 c9 q 150 le) → jj X 0 0 41 [(0, .ref h8), (1, .int (nI c9)), (2, .int (nI st9)), (3, .int (nI q - nI 1))] [] [(h8, cO 8 [.int rf, .ref rv, .ref rn, .ref rnw, .ref rt, .ref rd, .int (nI na), .int (nI nx), .ref rk, .ref rik, .ref rdk, .ref rre, .ref rle, .ref rhe, .ref rth, .ref rpa, .ref ror, .int bv, .int bo]), (rn, cI (xT X) 600 (fun j => nI (near4 j))), (rnw, cI (xT X) 37 (rowF ac ap ash an aob arq)), (rre, cZ (xT X) 9150 (fun j => bI (re j))), (rle, cZ (xT X) 9150 (fun j => bI (le j))), (rpa, cI (xT X) 61 pt)] by
        refine hc41 _ st9 _ (Nat.lt_succ_self _) ?_ ?_
        · omega
        · exact (show c = 150 by omega) ▸ hI
      intro mm
      induction mm with
      | zero => intro q le hm; exact absurd hm (Nat.not_lt_zero _)
      | succ mm ih41 =>
        intro q le hm41 hq hI0
        refine j_iload_n C dX8_layPath_41 3 rfl rfl ?_
        refine j_if_lt C dX8_layPath_42 (tgt := 179) (by decide) (fun q42 => ?_) (fun q42 => ?_)
        · skip
          have hq0 := (qm_lt q (by omega)).mp q42
          have hle : ∀ s, 1 ≤ s → s ≤ st9 → ∀ d, d < 150 → le (150 * s + d) = wy aob ac ap st9 c9 (st9 - s) d := fun s h1 h2 d h3 => hI0.1 s (by omega) h2 d h3
          refine j_aload_n C dX8_layPath_179 0 rfl rfl ?_
          refine j_get C (hin8) (ci := 8) rfl 15 (by decide) (hl47) 0 rfl (v := .ref rpa) rfl dX8_layPath_180 ?_
          refine j_iconst C dX8_layPath_183 (v := (nI 0)) kc_i_0 ?_
          refine j_aload_n C dX8_layPath_184 0 rfl rfl ?_
          refine j_get C (hin8) (ci := 8) rfl 3 (by decide) (hl16) 0 rfl (v := .ref rnw) rfl dX8_layPath_185 ?_
          refine j_bipush C dX8_layPath_188 (v := (nI 22)) kc_b_22 ?_
          refine j_ialoadN C 22 rfl 2 rfl (by omega) (by decide) dX8_layPath_190 ?_
          show jj X 0 0 191 [(0, .ref h8), (1, .int (nI c9)), (2, .int (nI st9)), (3, .int (nI q - nI 1))] [.int (nI ap), .int (nI 0), .ref rpa] [(h8, cO 8 [.int rf, .ref rv, .ref rn, .ref rnw, .ref rt, .ref rd, .int (nI na), .int (nI nx), .ref rk, .ref rik, .ref rdk, .ref rre, .ref rle, .ref rhe, .ref rth, .ref rpa, .ref ror, .int bv, .int bo]), (rn, cI (xT X) 600 (fun j => nI (near4 j))), (rnw, cI (xT X) 37 (rowF ac ap ash an aob arq)), (rre, cZ (xT X) 9150 (fun j => bI (re j))), (rle, cZ (xT X) 9150 (fun j => bI (le j))), (rpa, cI (xT X) 61 pt)]
          refine j_iastoreN C rw_ 0 rfl 5 rfl (by omega) (by decide) (w' := [(h8, cO 8 [.int rf, .ref rv, .ref rn, .ref rnw, .ref rt, .ref rd, .int (nI na), .int (nI nx), .ref rk, .ref rik, .ref rdk, .ref rre, .ref rle, .ref rhe, .ref rth, .ref rpa, .ref ror, .int bv, .int bo]), (rn, cI (xT X) 600 (fun j => nI (near4 j))), (rnw, cI (xT X) 37 (rowF ac ap ash an aob arq)), (rre, cZ (xT X) 9150 (fun j => bI (re j))), (rle, cZ (xT X) 9150 (fun j => bI (le j))), (rpa, cI (xT X) 61 (upd pt 0 (nI ap)))]) rfl dX8_layPath_191 ?_
          refine j_iconst C dX8_layPath_192 (v := (nI 1)) kc_i_1 ?_
          refine j_istore_n C dX8_layPath_193 rfl (by decide) (lv' := [(3, .int (nI 1)), (0, .ref h8), (1, .int (nI c9)), (2, .int (nI st9))]) rfl ?_
          refine j_lv [1, 2, 3, 0] rfl ?_
          suffices hc194 : ∀ (mm : Nat) (j : Nat) (pt : Nat → Int32), st9 + 1 - j < mm → (j ≤ st9) → (∀ i, i ≤ j → pt i = nI ((pth aob ac ap st9 c9) i)) → jj X 0 0 194 [(0, .ref h8), (1, .int (nI c9)), (2, .int (nI st9)), (3, .int (nI (j + 1)))] [] [(h8, cO 8 [.int rf, .ref rv, .ref rn, .ref rnw, .ref rt, .ref rd, .int (nI na), .int (nI nx), .ref rk, .ref rik, .ref rdk, .ref rre, .ref rle, .ref rhe, .ref rth, .ref rpa, .ref ror, .int bv, .int bo]), (rn, cI (xT X) 600 (fun j => nI (near4 j))), (rnw, cI (xT X) 37 (rowF ac ap ash an aob arq)), (rre, cZ (xT X) 9150 (fun j => bI (re j))), (rle, cZ (xT X) 9150 (fun j => bI (le j))), (rpa, cI (xT X) 61 pt)] by
            refine hc194 _ 0 _ (Nat.lt_succ_self _) ?_ ?_
            · omega
            · intro i hi; rw [show i = 0 by omega]; unfold upd; rw [if_pos rfl]; rfl
          intro mm
          induction mm with
          | zero => intro j pt hm; exact absurd hm (Nat.not_lt_zero _)
          | succ mm ih194 =>
            intro j pt hm194 hj hp
            refine j_iload_n C dX8_layPath_194 3 rfl rfl ?_
            refine j_iload_n C dX8_layPath_195 2 rfl rfl ?_
            refine j_icmp_gt C dX8_layPath_196 (tgt := 310) (by decide) (fun q196 => ?_) (fun q196 => ?_)
            · skip
              have q196 := (kn_gt (a := j + 1) (b := st9) (by omega) (by omega)).mp q196
              refine j_vretM C rw_ hQ (by decide) (by decide) ?_ dX8_layPath_310
              exact ⟨_, _, rfl, rfl, fun i hi => hp i (by omega)⟩
            · skip
              have q196 := (kn_ngt (a := j + 1) (b := st9) (by omega) (by omega)).mp q196
              refine j_aload_n C dX8_layPath_199 0 rfl rfl ?_
              refine j_get C (hin8) (ci := 8) rfl 15 (by decide) (hl47) 0 rfl (v := .ref rpa) rfl dX8_layPath_200 ?_
              refine j_iload_n C dX8_layPath_203 3 rfl rfl ?_
              refine j_iconst C dX8_layPath_204 (v := (nI 1)) kc_i_1 ?_
              refine j_isub C dX8_layPath_205 (v := (nI j)) (by rw [show j = (j + 1) - 1 from rfl]; exact pk_sub (by omega)) ?_
              refine j_ialoadN C j rfl 5 rfl (by omega) (by decide) dX8_layPath_206 ?_
              refine j_ieq (nI ((pth aob ac ap st9 c9) j)) (by exact hp j (by omega)) ?_
              refine j_istore C dX8_layPath_207 (by decide) (lv' := [(4, .int (nI ((pth aob ac ap st9 c9) j))), (0, .ref h8), (1, .int (nI c9)), (2, .int (nI st9)), (3, .int (nI (j + 1)))]) rfl ?_
              have hpj := (pth_ok hap hc9 hrc j (by omega)).1
              refine j_aload_n C dX8_layPath_209 1 rfl rfl ?_
              refine j_get C (hin8) (ci := 8) rfl 12 (by decide) (hl38) 0 rfl (v := .ref rle) rfl dX8_layPath_210 ?_
              have hc233 : ∀ (m0 : Nat), (m0 = lstN (wy aob ac ap st9 c9 (st9 - (j + 1))) ((pth aob ac ap st9 c9) j) 0) → jj X 0 0 233 [(0, .ref h8), (1, .int (nI c9)), (2, .int (nI st9)), (3, .int (nI (j + 1))), (4, .int (nI ((pth aob ac ap st9 c9) j)))] [.int (nI m0)] [(h8, cO 8 [.int rf, .ref rv, .ref rn, .ref rnw, .ref rt, .ref rd, .int (nI na), .int (nI nx), .ref rk, .ref rik, .ref rdk, .ref rre, .ref rle, .ref rhe, .ref rth, .ref rpa, .ref ror, .int bv, .int bo]), (rn, cI (xT X) 600 (fun j => nI (near4 j))), (rnw, cI (xT X) 37 (rowF ac ap ash an aob arq)), (rre, cZ (xT X) 9150 (fun j => bI (re j))), (rle, cZ (xT X) 9150 (fun j => bI (le j))), (rpa, cI (xT X) 61 pt)] := by
                intro m0 hm0
                refine j_istore C dX8_layPath_233 (by decide) (lv' := [(5, .int (nI m0)), (0, .ref h8), (1, .int (nI c9)), (2, .int (nI st9)), (3, .int (nI (j + 1))), (4, .int (nI ((pth aob ac ap st9 c9) j)))]) rfl ?_
                refine j_iconst C dX8_layPath_235 (v := (nI 0)) kc_i_0 ?_
                refine j_istore C dX8_layPath_236 (by decide) (lv' := [(6, .int (nI 0)), (5, .int (nI m0)), (0, .ref h8), (1, .int (nI c9)), (2, .int (nI st9)), (3, .int (nI (j + 1))), (4, .int (nI ((pth aob ac ap st9 c9) j)))]) rfl ?_
                refine j_lv [2, 3, 4, 5, 6, 1, 0] rfl ?_
                suffices hc238 : ∀ (mm : Nat) (k mm9 : Nat), 4 - k < mm → (k ≤ 4) → (mm9 = lstN (wy aob ac ap st9 c9 (st9 - (j + 1))) ((pth aob ac ap st9 c9) j) k) → (mm9 ≤ 150) → jj X 0 0 238 [(0, .ref h8), (1, .int (nI c9)), (2, .int (nI st9)), (3, .int (nI (j + 1))), (4, .int (nI ((pth aob ac ap st9 c9) j))), (5, .int (nI mm9)), (6, .int (nI k))] [] [(h8, cO 8 [.int rf, .ref rv, .ref rn, .ref rnw, .ref rt, .ref rd, .int (nI na), .int (nI nx), .ref rk, .ref rik, .ref rdk, .ref rre, .ref rle, .ref rhe, .ref rth, .ref rpa, .ref ror, .int bv, .int bo]), (rn, cI (xT X) 600 (fun j => nI (near4 j))), (rnw, cI (xT X) 37 (rowF ac ap ash an aob arq)), (rre, cZ (xT X) 9150 (fun j => bI (re j))), (rle, cZ (xT X) 9150 (fun j => bI (le j))), (rpa, cI (xT X) 61 pt)] by
                  refine hc238 _ 0 _ (Nat.lt_succ_self _) ?_ ?_ ?_
                  · omega
                  · exact hm0
                  · rw [hm0, lstN]; split <;> omega
                intro mm
                induction mm with
                | zero => intro k mm9 hm; exact absurd hm (Nat.not_lt_zero _)
                | succ mm ih238 =>
                  intro k mm9 hm238 hk hm hm150
                  refine j_iload C dX8_layPath_238 6 rfl ?_
                  refine j_iconst C dX8_layPath_240 (v := (nI 4)) kc_i_4 ?_
                  refine j_icmp_ge C dX8_layPath_241 (tgt := 296) (by decide) (fun q241 => ?_) (fun q241 => ?_)
                  · skip
                    have q241 := (kn_ge (a := k) (b := 4) (by omega) (by omega)).mp q241
                    refine j_aload_n C dX8_layPath_296 0 rfl rfl ?_
                    refine j_get C (hin8) (ci := 8) rfl 15 (by decide) (hl47) 0 rfl (v := .ref rpa) rfl dX8_layPath_297 ?_
                    refine j_iload_n C dX8_layPath_300 3 rfl rfl ?_
                    refine j_iload C dX8_layPath_301 5 rfl ?_
                    refine j_iastoreN C rw_ (j + 1) rfl 5 rfl (by omega) (by decide) (w' := [(h8, cO 8 [.int rf, .ref rv, .ref rn, .ref rnw, .ref rt, .ref rd, .int (nI na), .int (nI nx), .ref rk, .ref rik, .ref rdk, .ref rre, .ref rle, .ref rhe, .ref rth, .ref rpa, .ref ror, .int bv, .int bo]), (rn, cI (xT X) 600 (fun j => nI (near4 j))), (rnw, cI (xT X) 37 (rowF ac ap ash an aob arq)), (rre, cZ (xT X) 9150 (fun j => bI (re j))), (rle, cZ (xT X) 9150 (fun j => bI (le j))), (rpa, cI (xT X) 61 (upd pt (j + 1) (nI mm9)))]) rfl dX8_layPath_303 ?_
                    have hls : lstN (wy aob ac ap st9 c9 (st9 - (j + 1))) ((pth aob ac ap st9 c9) j) k = (pth aob ac ap st9 c9) (j + 1) := by rw [show k = 4 by omega]; rfl
                    refine j_iinc C dX8_layPath_304 (q := 3) (v := (nI (j + 1 + 1))) rfl (kc_inc (j + 1)) (by decide) (lv' := [(3, .int (nI (j + 1 + 1))), (0, .ref h8), (1, .int (nI c9)), (2, .int (nI st9)), (4, .int (nI ((pth aob ac ap st9 c9) j))), (5, .int (nI mm9)), (6, .int (nI k))]) rfl ?_
                    refine j_goto C dX8_layPath_307 (tgt := 194) (by decide) ?_
                    refine j_lv [1, 2, 3, 0] rfl ?_
                    refine ih194 (j + 1) _ (by omega) ?_ ?_
                    · omega
                    · intro i hi; unfold upd
                      by_cases h : i = j + 1
                      · rw [if_pos h, h, ← hls, ← hm]
                      · rw [if_neg h]; exact hp i (by omega)
                  · skip
                    have q241 := (kn_nge (a := k) (b := 4) (by omega) (by omega)).mp q241
                    have hnk := (tb_near ((pth aob ac ap st9 c9) j) hpj k (by omega)).1
                    refine j_aload_n C dX8_layPath_244 0 rfl rfl ?_
                    refine j_get C (hin8) (ci := 8) rfl 2 (by decide) (hl13) 0 rfl (v := .ref rn) rfl dX8_layPath_245 ?_
                    refine j_iconst C dX8_layPath_248 (v := (nI 4)) kc_i_4 ?_
                    refine j_iload C dX8_layPath_249 4 rfl ?_
                    refine j_imul C dX8_layPath_251 (v := (nI (4 * ((pth aob ac ap st9 c9) j)))) (pk_mul _ _) ?_
                    refine j_iload C dX8_layPath_252 6 rfl ?_
                    refine j_iadd C dX8_layPath_254 (v := (nI (4 * ((pth aob ac ap st9 c9) j) + k))) (nI_add _ _) ?_
                    refine j_ialoadN C (4 * ((pth aob ac ap st9 c9) j) + k) rfl 1 rfl (by omega) (by decide) dX8_layPath_255 ?_
                    refine j_istore C dX8_layPath_256 (by decide) (lv' := [(7, .int (nI (near4 (4 * ((pth aob ac ap st9 c9) j) + k)))), (0, .ref h8), (1, .int (nI c9)), (2, .int (nI st9)), (3, .int (nI (j + 1))), (4, .int (nI ((pth aob ac ap st9 c9) j))), (5, .int (nI mm9)), (6, .int (nI k))]) rfl ?_
                    refine j_aload_n C dX8_layPath_258 1 rfl rfl ?_
                    refine j_get C (hin8) (ci := 8) rfl 12 (by decide) (hl38) 0 rfl (v := .ref rle) rfl dX8_layPath_259 ?_
                    refine j_sipush C dX8_layPath_262 (v := (nI 150)) kc_s_150 ?_
                    refine j_iload_n C dX8_layPath_265 4 rfl rfl ?_
                    refine j_imul C dX8_layPath_266 (v := (nI (150 * (j + 1)))) (pk_mul _ _) ?_
                    refine j_iload C dX8_layPath_267 0 rfl ?_
                    refine j_iadd C dX8_layPath_269 (v := (nI (150 * (j + 1) + (near4 (4 * ((pth aob ac ap st9 c9) j) + k))))) (nI_add _ _) ?_
                    refine j_zaloadN C (150 * (j + 1) + (near4 (4 * ((pth aob ac ap st9 c9) j) + k))) rfl 4 rfl (by omega) (by decide) dX8_layPath_270 ?_
                    rw [show (le (150 * (j + 1) + (near4 (4 * ((pth aob ac ap st9 c9) j) + k)))) = wy aob ac ap st9 c9 (st9 - (j + 1)) (near4 (4 * (pth aob ac ap st9 c9) j + k)) from by exact hle (j + 1) (by omega) (by omega) _ hnk]
                    show jj X 0 0 271 [(7, .int (nI (near4 (4 * ((pth aob ac ap st9 c9) j) + k)))), (0, .ref h8), (1, .int (nI c9)), (2, .int (nI st9)), (3, .int (nI (j + 1))), (4, .int (nI ((pth aob ac ap st9 c9) j))), (5, .int (nI mm9)), (6, .int (nI k))] [.int (bI (wy aob ac ap st9 c9 (st9 - (j + 1)) (near4 (4 * (pth aob ac ap st9 c9) j + k))))] [(h8, cO 8 [.int rf, .ref rv, .ref rn, .ref rnw, .ref rt, .ref rd, .int (nI na), .int (nI nx), .ref rk, .ref rik, .ref rdk, .ref rre, .ref rle, .ref rhe, .ref rth, .ref rpa, .ref ror, .int bv, .int bo]), (rn, cI (xT X) 600 (fun j => nI (near4 j))), (rnw, cI (xT X) 37 (rowF ac ap ash an aob arq)), (rre, cZ (xT X) 9150 (fun j => bI (re j))), (rle, cZ (xT X) 9150 (fun j => bI (le j))), (rpa, cI (xT X) 61 pt)]
                    refine j_if_eq C dX8_layPath_271 (tgt := 286) (by decide) (fun q271 => ?_) (fun q271 => ?_)
                    · skip
                      have q271 := (kb_eq).mp q271
                      refine j_iload C dX8_layPath_286 6 rfl ?_
                      refine j_istore C dX8_layPath_288 (by decide) (lv' := [(5, .int (nI mm9)), (7, .int (nI (near4 (4 * ((pth aob ac ap st9 c9) j) + k)))), (0, .ref h8), (1, .int (nI c9)), (2, .int (nI st9)), (3, .int (nI (j + 1))), (4, .int (nI ((pth aob ac ap st9 c9) j))), (6, .int (nI k))]) rfl ?_
                      refine j_iinc C dX8_layPath_290 (q := 7) (v := (nI (k + 1))) rfl (kc_inc k) (by decide) (lv' := [(6, .int (nI (k + 1))), (5, .int (nI mm9)), (7, .int (nI (near4 (4 * ((pth aob ac ap st9 c9) j) + k)))), (0, .ref h8), (1, .int (nI c9)), (2, .int (nI st9)), (3, .int (nI (j + 1))), (4, .int (nI ((pth aob ac ap st9 c9) j)))]) rfl ?_
                      refine j_goto C dX8_layPath_293 (tgt := 238) (by decide) ?_
                      refine j_lv [3, 4, 5, 6, 7, 1, 0] rfl ?_
                      refine ih238 _ _ (by omega) ?_ ?_ ?_
                      · omega
                      · rw [lstN, ← hm, q271]; rfl
                      · omega
                    · skip
                      have q271 := (kb_neq).mp q271
                      refine j_iload C dX8_layPath_274 0 rfl ?_
                      refine j_iload C dX8_layPath_276 6 rfl ?_
                      refine j_icmp_ge C dX8_layPath_278 (tgt := 286) (by decide) (fun q278 => ?_) (fun q278 => ?_)
                      · skip
                        have q278 := (kn_ge (a := near4 (4 * ((pth aob ac ap st9 c9) j) + k)) (b := mm9) (by omega) (by omega)).mp q278
                        refine j_iload C dX8_layPath_286 6 rfl ?_
                        refine j_istore C dX8_layPath_288 (by decide) (lv' := [(5, .int (nI mm9)), (7, .int (nI (near4 (4 * ((pth aob ac ap st9 c9) j) + k)))), (0, .ref h8), (1, .int (nI c9)), (2, .int (nI st9)), (3, .int (nI (j + 1))), (4, .int (nI ((pth aob ac ap st9 c9) j))), (6, .int (nI k))]) rfl ?_
                        refine j_iinc C dX8_layPath_290 (q := 7) (v := (nI (k + 1))) rfl (kc_inc k) (by decide) (lv' := [(6, .int (nI (k + 1))), (5, .int (nI mm9)), (7, .int (nI (near4 (4 * ((pth aob ac ap st9 c9) j) + k)))), (0, .ref h8), (1, .int (nI c9)), (2, .int (nI st9)), (3, .int (nI (j + 1))), (4, .int (nI ((pth aob ac ap st9 c9) j)))]) rfl ?_
                        refine j_goto C dX8_layPath_293 (tgt := 238) (by decide) ?_
                        refine j_lv [3, 4, 5, 6, 7, 1, 0] rfl ?_
                        refine ih238 _ _ (by omega) ?_ ?_ ?_
                        · omega
                        · rw [lstN, ← hm, q271, Bool.true_and, if_neg (by simpa using q278)]
                        · omega
                      · skip
                        have q278 := (kn_nge (a := near4 (4 * ((pth aob ac ap st9 c9) j) + k)) (b := mm9) (by omega) (by omega)).mp q278
                        refine j_iload C dX8_layPath_281 0 rfl ?_
                        refine j_goto C dX8_layPath_283 (tgt := 288) (by decide) ?_
                        refine j_istore C dX8_layPath_288 (by decide) (lv' := [(5, .int (nI (near4 (4 * ((pth aob ac ap st9 c9) j) + k)))), (7, .int (nI (near4 (4 * ((pth aob ac ap st9 c9) j) + k)))), (0, .ref h8), (1, .int (nI c9)), (2, .int (nI st9)), (3, .int (nI (j + 1))), (4, .int (nI ((pth aob ac ap st9 c9) j))), (6, .int (nI k))]) rfl ?_
                        refine j_iinc C dX8_layPath_290 (q := 7) (v := (nI (k + 1))) rfl (kc_inc k) (by decide) (lv' := [(6, .int (nI (k + 1))), (5, .int (nI (near4 (4 * ((pth aob ac ap st9 c9) j) + k)))), (7, .int (nI (near4 (4 * ((pth aob ac ap st9 c9) j) + k)))), (0, .ref h8), (1, .int (nI c9)), (2, .int (nI st9)), (3, .int (nI (j + 1))), (4, .int (nI ((pth aob ac ap st9 c9) j)))]) rfl ?_
                        refine j_goto C dX8_layPath_293 (tgt := 238) (by decide) ?_
                        refine j_lv [3, 4, 5, 6, 7, 1, 0] rfl ?_
                        refine ih238 _ _ (by omega) ?_ ?_ ?_
                        · omega
                        · rw [lstN, ← hm, q271, Bool.true_and, if_pos (by simpa using q278)]
                        · omega
              refine j_sipush C dX8_layPath_213 (v := (nI 150)) kc_s_150 ?_
              refine j_iload_n C dX8_layPath_216 4 rfl rfl ?_
              refine j_imul C dX8_layPath_217 (v := (nI (150 * (j + 1)))) (pk_mul _ _) ?_
              refine j_iload C dX8_layPath_218 0 rfl ?_
              refine j_iadd C dX8_layPath_220 (v := (nI (150 * (j + 1) + (pth aob ac ap st9 c9) j))) (nI_add _ _) ?_
              refine j_zaloadN C (150 * (j + 1) + (pth aob ac ap st9 c9) j) rfl 4 rfl (by omega) (by decide) dX8_layPath_221 ?_
              rw [show (le (150 * (j + 1) + (pth aob ac ap st9 c9) j)) = wy aob ac ap st9 c9 (st9 - (j + 1)) ((pth aob ac ap st9 c9) j) from by exact hle (j + 1) (by omega) (by omega) _ hpj]
              show jj X 0 0 222 [(4, .int (nI ((pth aob ac ap st9 c9) j))), (0, .ref h8), (1, .int (nI c9)), (2, .int (nI st9)), (3, .int (nI (j + 1)))] [.int (bI (wy aob ac ap st9 c9 (st9 - (j + 1)) ((pth aob ac ap st9 c9) j)))] [(h8, cO 8 [.int rf, .ref rv, .ref rn, .ref rnw, .ref rt, .ref rd, .int (nI na), .int (nI nx), .ref rk, .ref rik, .ref rdk, .ref rre, .ref rle, .ref rhe, .ref rth, .ref rpa, .ref ror, .int bv, .int bo]), (rn, cI (xT X) 600 (fun j => nI (near4 j))), (rnw, cI (xT X) 37 (rowF ac ap ash an aob arq)), (rre, cZ (xT X) 9150 (fun j => bI (re j))), (rle, cZ (xT X) 9150 (fun j => bI (le j))), (rpa, cI (xT X) 61 pt)]
              refine j_if_eq C dX8_layPath_222 (tgt := 230) (by decide) (fun q222 => ?_) (fun q222 => ?_)
              · skip
                have q222 := (kb_eq).mp q222
                refine j_sipush C dX8_layPath_230 (v := (nI 150)) kc_s_150 ?_
                refine j_lv [1, 2, 3, 4, 0] rfl ?_
                refine hc233 _ ?_
                · rw [lstN, if_neg (by rw [q222]; decide)]
              · skip
                have q222 := (kb_neq).mp q222
                refine j_iload C dX8_layPath_225 0 rfl ?_
                refine j_goto C dX8_layPath_227 (tgt := 233) (by decide) ?_
                refine j_lv [1, 2, 3, 4, 0] rfl ?_
                refine hc233 _ ?_
                · rw [lstN, if_pos q222]
        · skip
          obtain ⟨s, rfl⟩ : ∃ s, q = s + 1 := ⟨q - 1, by have := mt (qm_lt q (by omega)).mpr q42; omega⟩
          rw [show nI (s + 1) - nI 1 = nI s from pk_sub (by omega)]
          show jj X 0 0 45 [(0, .ref h8), (1, .int (nI c9)), (2, .int (nI st9)), (3, .int (nI s))] [] [(h8, cO 8 [.int rf, .ref rv, .ref rn, .ref rnw, .ref rt, .ref rd, .int (nI na), .int (nI nx), .ref rk, .ref rik, .ref rdk, .ref rre, .ref rle, .ref rhe, .ref rth, .ref rpa, .ref ror, .int bv, .int bo]), (rn, cI (xT X) 600 (fun j => nI (near4 j))), (rnw, cI (xT X) 37 (rowF ac ap ash an aob arq)), (rre, cZ (xT X) 9150 (fun j => bI (re j))), (rle, cZ (xT X) 9150 (fun j => bI (le j))), (rpa, cI (xT X) 61 pt)]
          refine j_iconst C dX8_layPath_45 (v := (nI 0)) kc_i_0 ?_
          refine j_istore C dX8_layPath_46 (by decide) (lv' := [(4, .int (nI 0)), (0, .ref h8), (1, .int (nI c9)), (2, .int (nI st9)), (3, .int (nI s))]) rfl ?_
          refine j_lv [1, 2, 3, 4, 0] rfl ?_
          suffices hc48 : ∀ (mm : Nat) (c : Nat) (le : Nat → Bool), 150 - c < mm → (c ≤ 150) → (leI aob ac ap st9 c9 s c le) → jj X 0 0 48 [(0, .ref h8), (1, .int (nI c9)), (2, .int (nI st9)), (3, .int (nI s)), (4, .int (nI c))] [] [(h8, cO 8 [.int rf, .ref rv, .ref rn, .ref rnw, .ref rt, .ref rd, .int (nI na), .int (nI nx), .ref rk, .ref rik, .ref rdk, .ref rre, .ref rle, .ref rhe, .ref rth, .ref rpa, .ref ror, .int bv, .int bo]), (rn, cI (xT X) 600 (fun j => nI (near4 j))), (rnw, cI (xT X) 37 (rowF ac ap ash an aob arq)), (rre, cZ (xT X) 9150 (fun j => bI (re j))), (rle, cZ (xT X) 9150 (fun j => bI (le j))), (rpa, cI (xT X) 61 pt)] by
            refine hc48 _ _ _ (Nat.lt_succ_self _) ?_ ?_
            · omega
            · exact leI_n hI0
          intro mm
          induction mm with
          | zero => intro c le hm; exact absurd hm (Nat.not_lt_zero _)
          | succ mm ih48 =>
            intro c le hm48 hc hI
            refine j_iload C dX8_layPath_48 4 rfl ?_
            refine j_sipush C dX8_layPath_50 (v := (nI 150)) kc_s_150 ?_
            refine j_icmp_ge C dX8_layPath_53 (tgt := 173) (by decide) (fun q53 => ?_) (fun q53 => ?_)
            · skip
              have q53 := (kn_ge (a := c) (b := 150) (by omega) (by omega)).mp q53
              refine j_iinc C dX8_layPath_173 (q := 3) (v := (nI s - nI 1)) rfl (kc_decI s) (by decide) (lv' := [(3, .int (nI s - nI 1)), (0, .ref h8), (1, .int (nI c9)), (2, .int (nI st9)), (4, .int (nI c))]) rfl ?_
              refine j_goto C dX8_layPath_176 (tgt := 41) (by decide) ?_
              refine j_lv [1, 2, 3, 0] rfl ?_
              refine ih41 s _ (by omega) ?_ ?_
              · omega
              · exact (show c = 150 by omega) ▸ hI
            · skip
              have q53 := (kn_nge (a := c) (b := 150) (by omega) (by omega)).mp q53
              refine j_aload_n C dX8_layPath_56 0 rfl rfl ?_
              refine j_get C (hin8) (ci := 8) rfl 12 (by decide) (hl38) 0 rfl (v := .ref rle) rfl dX8_layPath_57 ?_
              refine j_sipush C dX8_layPath_60 (v := (nI 150)) kc_s_150 ?_
              refine j_iload_n C dX8_layPath_63 3 rfl rfl ?_
              refine j_iconst C dX8_layPath_64 (v := (nI 1)) kc_i_1 ?_
              refine j_iadd C dX8_layPath_65 (v := (nI (s + 1))) (nI_add _ _) ?_
              refine j_imul C dX8_layPath_66 (v := (nI (150 * (s + 1)))) (pk_mul _ _) ?_
              refine j_iload C dX8_layPath_67 4 rfl ?_
              refine j_iadd C dX8_layPath_69 (v := (nI (150 * (s + 1) + c))) (nI_add _ _) ?_
              refine j_zaloadN C (150 * (s + 1) + c) rfl 4 rfl (by omega) (by decide) dX8_layPath_70 ?_
              rw [show (le (150 * (s + 1) + c)) = wy aob ac ap st9 c9 (st9 - (s + 1)) c from by exact hI.1 (s + 1) (by omega) (by omega) c (by omega)]
              show jj X 0 0 71 [(0, .ref h8), (1, .int (nI c9)), (2, .int (nI st9)), (3, .int (nI s)), (4, .int (nI c))] [.int (bI (wy aob ac ap st9 c9 (st9 - (s + 1)) c))] [(h8, cO 8 [.int rf, .ref rv, .ref rn, .ref rnw, .ref rt, .ref rd, .int (nI na), .int (nI nx), .ref rk, .ref rik, .ref rdk, .ref rre, .ref rle, .ref rhe, .ref rth, .ref rpa, .ref ror, .int bv, .int bo]), (rn, cI (xT X) 600 (fun j => nI (near4 j))), (rnw, cI (xT X) 37 (rowF ac ap ash an aob arq)), (rre, cZ (xT X) 9150 (fun j => bI (re j))), (rle, cZ (xT X) 9150 (fun j => bI (le j))), (rpa, cI (xT X) 61 pt)]
              refine j_istore C dX8_layPath_71 (by decide) (lv' := [(5, .int (bI (wy aob ac ap st9 c9 (st9 - (s + 1)) c))), (0, .ref h8), (1, .int (nI c9)), (2, .int (nI st9)), (3, .int (nI s)), (4, .int (nI c))]) rfl ?_
              refine j_iconst C dX8_layPath_73 (v := (nI 0)) kc_i_0 ?_
              refine j_istore C dX8_layPath_74 (by decide) (lv' := [(6, .int (nI 0)), (5, .int (bI (wy aob ac ap st9 c9 (st9 - (s + 1)) c))), (0, .ref h8), (1, .int (nI c9)), (2, .int (nI st9)), (3, .int (nI s)), (4, .int (nI c))]) rfl ?_
              refine j_lv [2, 3, 4, 5, 6, 1, 0] rfl ?_
              suffices hc76 : ∀ (mm : Nat) (k : Nat) (is : Bool), 4 - k < mm → (k ≤ 4) → (nborN (wy aob ac ap st9 c9 (st9 - (s + 1))) c k = is) → jj X 0 0 76 [(0, .ref h8), (1, .int (nI c9)), (2, .int (nI st9)), (3, .int (nI s)), (4, .int (nI c)), (5, .int (bI is)), (6, .int (nI k))] [] [(h8, cO 8 [.int rf, .ref rv, .ref rn, .ref rnw, .ref rt, .ref rd, .int (nI na), .int (nI nx), .ref rk, .ref rik, .ref rdk, .ref rre, .ref rle, .ref rhe, .ref rth, .ref rpa, .ref ror, .int bv, .int bo]), (rn, cI (xT X) 600 (fun j => nI (near4 j))), (rnw, cI (xT X) 37 (rowF ac ap ash an aob arq)), (rre, cZ (xT X) 9150 (fun j => bI (re j))), (rle, cZ (xT X) 9150 (fun j => bI (le j))), (rpa, cI (xT X) 61 pt)] by
                refine hc76 _ _ _ (Nat.lt_succ_self _) ?_ ?_
                · omega
                · rfl
              intro mm
              induction mm with
              | zero => intro k is hm; exact absurd hm (Nat.not_lt_zero _)
              | succ mm ih76 =>
                intro k is hm76 hk hb
                refine j_iload C dX8_layPath_76 6 rfl ?_
                refine j_iconst C dX8_layPath_78 (v := (nI 4)) kc_i_4 ?_
                refine j_icmp_ge C dX8_layPath_79 (tgt := 128) (by decide) (fun q79 => ?_) (fun q79 => ?_)
                · skip
                  have q79 := (kn_ge (a := k) (b := 4) (by omega) (by omega)).mp q79
                  have hbe : nbor (wy aob ac ap st9 c9 (st9 - (s + 1))) c = is := by unfold nbor; rw [← hb, show k = 4 by omega]
                  have hwy : wy aob ac ap st9 c9 (st9 - s) c = (is && rc aob ac ap s c) := by rw [show st9 - s = (st9 - (s + 1)) + 1 by omega, wy, hbe, show st9 - (st9 - (s + 1) + 1) = s by omega]
                  refine j_aload_n C dX8_layPath_128 0 rfl rfl ?_
                  refine j_get C (hin8) (ci := 8) rfl 12 (by decide) (hl38) 0 rfl (v := .ref rle) rfl dX8_layPath_129 ?_
                  refine j_sipush C dX8_layPath_132 (v := (nI 150)) kc_s_150 ?_
                  refine j_iload_n C dX8_layPath_135 3 rfl rfl ?_
                  refine j_imul C dX8_layPath_136 (v := (nI (150 * s))) (pk_mul _ _) ?_
                  refine j_iload C dX8_layPath_137 4 rfl ?_
                  refine j_iadd C dX8_layPath_139 (v := (nI (150 * s + c))) (nI_add _ _) ?_
                  refine j_iload C dX8_layPath_140 5 rfl ?_
                  refine j_if_eq C dX8_layPath_142 (tgt := 165) (by decide) (fun q142 => ?_) (fun q142 => ?_)
                  · skip
                    have q142 := (kb_eq).mp q142
                    refine j_iconst C dX8_layPath_165 (v := (nI 0)) kc_i_0 ?_
                    refine j_zastoreN C rw_ (150 * s + c) rfl 4 rfl (by omega) (by decide) (w' := [(h8, cO 8 [.int rf, .ref rv, .ref rn, .ref rnw, .ref rt, .ref rd, .int (nI na), .int (nI nx), .ref rk, .ref rik, .ref rdk, .ref rre, .ref rle, .ref rhe, .ref rth, .ref rpa, .ref ror, .int bv, .int bo]), (rn, cI (xT X) 600 (fun j => nI (near4 j))), (rnw, cI (xT X) 37 (rowF ac ap ash an aob arq)), (rre, cZ (xT X) 9150 (fun j => bI (re j))), (rle, cZ (xT X) 9150 (upd (fun j => bI (le j)) (150 * s + c) (vp_nar .boolean (nI 0)))), (rpa, cI (xT X) 61 pt)]) rfl dX8_layPath_166 ?_
                    refine j_extZ C (fun j => bI (va_up le (150 * s + c) (wy aob ac ap st9 c9 (st9 - s) c) j)) 4 rfl (fun j hj => ?_) (w' := [(h8, cO 8 [.int rf, .ref rv, .ref rn, .ref rnw, .ref rt, .ref rd, .int (nI na), .int (nI nx), .ref rk, .ref rik, .ref rdk, .ref rre, .ref rle, .ref rhe, .ref rth, .ref rpa, .ref ror, .int bv, .int bo]), (rn, cI (xT X) 600 (fun j => nI (near4 j))), (rnw, cI (xT X) 37 (rowF ac ap ash an aob arq)), (rre, cZ (xT X) 9150 (fun j => bI (re j))), (rle, cZ (xT X) 9150 (fun j => bI (va_up le (150 * s + c) (wy aob ac ap st9 c9 (st9 - s) c) j))), (rpa, cI (xT X) 61 pt)]) rfl ?_
                    · exact upB (by rw [hwy]; first | (rw [q142]; exact bI_n0) | (rw [q142, q158]; exact bI_n0) | (rw [q142, q158]; exact bI_n1)) j
                    refine j_iinc C dX8_layPath_167 (q := 4) (v := (nI (c + 1))) rfl (kc_inc c) (by decide) (lv' := [(4, .int (nI (c + 1))), (0, .ref h8), (1, .int (nI c9)), (2, .int (nI st9)), (3, .int (nI s)), (5, .int (bI is)), (6, .int (nI k))]) rfl ?_
                    refine j_goto C dX8_layPath_170 (tgt := 48) (by decide) ?_
                    refine j_lv [1, 2, 3, 4, 0] rfl ?_
                    refine ih48 _ _ (by omega) ?_ ?_
                    · omega
                    · exact leI_s hI (by omega)
                  · skip
                    have q142 := (kb_neq).mp q142
                    refine j_aload_n C dX8_layPath_145 0 rfl rfl ?_
                    refine j_get C (hin8) (ci := 8) rfl 11 (by decide) (hl35) 0 rfl (v := .ref rre) rfl dX8_layPath_146 ?_
                    refine j_sipush C dX8_layPath_149 (v := (nI 150)) kc_s_150 ?_
                    refine j_iload_n C dX8_layPath_152 3 rfl rfl ?_
                    refine j_imul C dX8_layPath_153 (v := (nI (150 * s))) (pk_mul _ _) ?_
                    refine j_iload C dX8_layPath_154 4 rfl ?_
                    refine j_iadd C dX8_layPath_156 (v := (nI (150 * s + c))) (nI_add _ _) ?_
                    refine j_zaloadN C (150 * s + c) rfl 3 rfl (by omega) (by decide) dX8_layPath_157 ?_
                    rw [show (re (150 * s + c)) = rc aob ac ap s c from by exact hre s (by omega) c (by omega)]
                    show jj X 0 0 158 [(0, .ref h8), (1, .int (nI c9)), (2, .int (nI st9)), (3, .int (nI s)), (4, .int (nI c)), (5, .int (bI is)), (6, .int (nI k))] [.int (bI (rc aob ac ap s c)), .int (nI (150 * s + c)), .ref rle] [(h8, cO 8 [.int rf, .ref rv, .ref rn, .ref rnw, .ref rt, .ref rd, .int (nI na), .int (nI nx), .ref rk, .ref rik, .ref rdk, .ref rre, .ref rle, .ref rhe, .ref rth, .ref rpa, .ref ror, .int bv, .int bo]), (rn, cI (xT X) 600 (fun j => nI (near4 j))), (rnw, cI (xT X) 37 (rowF ac ap ash an aob arq)), (rre, cZ (xT X) 9150 (fun j => bI (re j))), (rle, cZ (xT X) 9150 (fun j => bI (le j))), (rpa, cI (xT X) 61 pt)]
                    refine j_if_eq C dX8_layPath_158 (tgt := 165) (by decide) (fun q158 => ?_) (fun q158 => ?_)
                    · skip
                      have q158 := (kb_eq).mp q158
                      refine j_iconst C dX8_layPath_165 (v := (nI 0)) kc_i_0 ?_
                      refine j_zastoreN C rw_ (150 * s + c) rfl 4 rfl (by omega) (by decide) (w' := [(h8, cO 8 [.int rf, .ref rv, .ref rn, .ref rnw, .ref rt, .ref rd, .int (nI na), .int (nI nx), .ref rk, .ref rik, .ref rdk, .ref rre, .ref rle, .ref rhe, .ref rth, .ref rpa, .ref ror, .int bv, .int bo]), (rn, cI (xT X) 600 (fun j => nI (near4 j))), (rnw, cI (xT X) 37 (rowF ac ap ash an aob arq)), (rre, cZ (xT X) 9150 (fun j => bI (re j))), (rle, cZ (xT X) 9150 (upd (fun j => bI (le j)) (150 * s + c) (vp_nar .boolean (nI 0)))), (rpa, cI (xT X) 61 pt)]) rfl dX8_layPath_166 ?_
                      refine j_extZ C (fun j => bI (va_up le (150 * s + c) (wy aob ac ap st9 c9 (st9 - s) c) j)) 4 rfl (fun j hj => ?_) (w' := [(h8, cO 8 [.int rf, .ref rv, .ref rn, .ref rnw, .ref rt, .ref rd, .int (nI na), .int (nI nx), .ref rk, .ref rik, .ref rdk, .ref rre, .ref rle, .ref rhe, .ref rth, .ref rpa, .ref ror, .int bv, .int bo]), (rn, cI (xT X) 600 (fun j => nI (near4 j))), (rnw, cI (xT X) 37 (rowF ac ap ash an aob arq)), (rre, cZ (xT X) 9150 (fun j => bI (re j))), (rle, cZ (xT X) 9150 (fun j => bI (va_up le (150 * s + c) (wy aob ac ap st9 c9 (st9 - s) c) j))), (rpa, cI (xT X) 61 pt)]) rfl ?_
                      · exact upB (by rw [hwy]; first | (rw [q142]; exact bI_n0) | (rw [q142, q158]; exact bI_n0) | (rw [q142, q158]; exact bI_n1)) j
                      refine j_iinc C dX8_layPath_167 (q := 4) (v := (nI (c + 1))) rfl (kc_inc c) (by decide) (lv' := [(4, .int (nI (c + 1))), (0, .ref h8), (1, .int (nI c9)), (2, .int (nI st9)), (3, .int (nI s)), (5, .int (bI is)), (6, .int (nI k))]) rfl ?_
                      refine j_goto C dX8_layPath_170 (tgt := 48) (by decide) ?_
                      refine j_lv [1, 2, 3, 4, 0] rfl ?_
                      refine ih48 _ _ (by omega) ?_ ?_
                      · omega
                      · exact leI_s hI (by omega)
                    · skip
                      have q158 := (kb_neq).mp q158
                      refine j_iconst C dX8_layPath_161 (v := (nI 1)) kc_i_1 ?_
                      refine j_goto C dX8_layPath_162 (tgt := 166) (by decide) ?_
                      refine j_zastoreN C rw_ (150 * s + c) rfl 4 rfl (by omega) (by decide) (w' := [(h8, cO 8 [.int rf, .ref rv, .ref rn, .ref rnw, .ref rt, .ref rd, .int (nI na), .int (nI nx), .ref rk, .ref rik, .ref rdk, .ref rre, .ref rle, .ref rhe, .ref rth, .ref rpa, .ref ror, .int bv, .int bo]), (rn, cI (xT X) 600 (fun j => nI (near4 j))), (rnw, cI (xT X) 37 (rowF ac ap ash an aob arq)), (rre, cZ (xT X) 9150 (fun j => bI (re j))), (rle, cZ (xT X) 9150 (upd (fun j => bI (le j)) (150 * s + c) (vp_nar .boolean (nI 1)))), (rpa, cI (xT X) 61 pt)]) rfl dX8_layPath_166 ?_
                      refine j_extZ C (fun j => bI (va_up le (150 * s + c) (wy aob ac ap st9 c9 (st9 - s) c) j)) 4 rfl (fun j hj => ?_) (w' := [(h8, cO 8 [.int rf, .ref rv, .ref rn, .ref rnw, .ref rt, .ref rd, .int (nI na), .int (nI nx), .ref rk, .ref rik, .ref rdk, .ref rre, .ref rle, .ref rhe, .ref rth, .ref rpa, .ref ror, .int bv, .int bo]), (rn, cI (xT X) 600 (fun j => nI (near4 j))), (rnw, cI (xT X) 37 (rowF ac ap ash an aob arq)), (rre, cZ (xT X) 9150 (fun j => bI (re j))), (rle, cZ (xT X) 9150 (fun j => bI (va_up le (150 * s + c) (wy aob ac ap st9 c9 (st9 - s) c) j))), (rpa, cI (xT X) 61 pt)]) rfl ?_
                      · exact upB (by rw [hwy]; first | (rw [q142]; exact bI_n0) | (rw [q142, q158]; exact bI_n0) | (rw [q142, q158]; exact bI_n1)) j
                      refine j_iinc C dX8_layPath_167 (q := 4) (v := (nI (c + 1))) rfl (kc_inc c) (by decide) (lv' := [(4, .int (nI (c + 1))), (0, .ref h8), (1, .int (nI c9)), (2, .int (nI st9)), (3, .int (nI s)), (5, .int (bI is)), (6, .int (nI k))]) rfl ?_
                      refine j_goto C dX8_layPath_170 (tgt := 48) (by decide) ?_
                      refine j_lv [1, 2, 3, 4, 0] rfl ?_
                      refine ih48 _ _ (by omega) ?_ ?_
                      · omega
                      · exact leI_s hI (by omega)
                · skip
                  have q79 := (kn_nge (a := k) (b := 4) (by omega) (by omega)).mp q79
                  have hnk := (tb_near c (by omega) k (by omega)).1
                  refine j_iload C dX8_layPath_82 5 rfl ?_
                  refine j_if_ne C dX8_layPath_84 (tgt := 115) (by decide) (fun q84 => ?_) (fun q84 => ?_)
                  · skip
                    have q84 := (kb_ne).mp q84
                    refine j_iconst C dX8_layPath_115 (v := (nI 1)) kc_i_1 ?_
                    refine j_goto C dX8_layPath_116 (tgt := 120) (by decide) ?_
                    show jj X 0 0 120 [(0, .ref h8), (1, .int (nI c9)), (2, .int (nI st9)), (3, .int (nI s)), (4, .int (nI c)), (5, .int (bI is)), (6, .int (nI k))] [.int (bI true)] [(h8, cO 8 [.int rf, .ref rv, .ref rn, .ref rnw, .ref rt, .ref rd, .int (nI na), .int (nI nx), .ref rk, .ref rik, .ref rdk, .ref rre, .ref rle, .ref rhe, .ref rth, .ref rpa, .ref ror, .int bv, .int bo]), (rn, cI (xT X) 600 (fun j => nI (near4 j))), (rnw, cI (xT X) 37 (rowF ac ap ash an aob arq)), (rre, cZ (xT X) 9150 (fun j => bI (re j))), (rle, cZ (xT X) 9150 (fun j => bI (le j))), (rpa, cI (xT X) 61 pt)]
                    refine j_istore C dX8_layPath_120 (by decide) (lv' := [(5, .int (bI true)), (0, .ref h8), (1, .int (nI c9)), (2, .int (nI st9)), (3, .int (nI s)), (4, .int (nI c)), (6, .int (nI k))]) rfl ?_
                    refine j_iinc C dX8_layPath_122 (q := 6) (v := (nI (k + 1))) rfl (kc_inc k) (by decide) (lv' := [(6, .int (nI (k + 1))), (5, .int (bI true)), (0, .ref h8), (1, .int (nI c9)), (2, .int (nI st9)), (3, .int (nI s)), (4, .int (nI c))]) rfl ?_
                    refine j_goto C dX8_layPath_125 (tgt := 76) (by decide) ?_
                    refine j_lv [2, 3, 4, 5, 6, 1, 0] rfl ?_
                    refine ih76 _ _ (by omega) ?_ ?_
                    · omega
                    · rw [nborN, hb]; first | (rw [q84]; rfl) | (rw [q84, q112]; rfl)
                  · skip
                    have q84 := (kb_nne).mp q84
                    refine j_aload_n C dX8_layPath_87 0 rfl rfl ?_
                    refine j_get C (hin8) (ci := 8) rfl 12 (by decide) (hl38) 0 rfl (v := .ref rle) rfl dX8_layPath_88 ?_
                    refine j_sipush C dX8_layPath_91 (v := (nI 150)) kc_s_150 ?_
                    refine j_iload_n C dX8_layPath_94 3 rfl rfl ?_
                    refine j_iconst C dX8_layPath_95 (v := (nI 1)) kc_i_1 ?_
                    refine j_iadd C dX8_layPath_96 (v := (nI (s + 1))) (nI_add _ _) ?_
                    refine j_imul C dX8_layPath_97 (v := (nI (150 * (s + 1)))) (pk_mul _ _) ?_
                    refine j_aload_n C dX8_layPath_98 0 rfl rfl ?_
                    refine j_get C (hin8) (ci := 8) rfl 2 (by decide) (hl13) 0 rfl (v := .ref rn) rfl dX8_layPath_99 ?_
                    refine j_iconst C dX8_layPath_102 (v := (nI 4)) kc_i_4 ?_
                    refine j_iload C dX8_layPath_103 4 rfl ?_
                    refine j_imul C dX8_layPath_105 (v := (nI (4 * c))) (pk_mul _ _) ?_
                    refine j_iload C dX8_layPath_106 6 rfl ?_
                    refine j_iadd C dX8_layPath_108 (v := (nI (4 * c + k))) (nI_add _ _) ?_
                    refine j_ialoadN C (4 * c + k) rfl 1 rfl (by omega) (by decide) dX8_layPath_109 ?_
                    refine j_iadd C dX8_layPath_110 (v := (nI (150 * (s + 1) + (near4 (4 * c + k))))) (nI_add _ _) ?_
                    refine j_zaloadN C (150 * (s + 1) + (near4 (4 * c + k))) rfl 4 rfl (by omega) (by decide) dX8_layPath_111 ?_
                    rw [show (le (150 * (s + 1) + (near4 (4 * c + k)))) = wy aob ac ap st9 c9 (st9 - (s + 1)) (near4 (4 * c + k)) from by exact hI.1 (s + 1) (by omega) (by omega) _ hnk]
                    show jj X 0 0 112 [(0, .ref h8), (1, .int (nI c9)), (2, .int (nI st9)), (3, .int (nI s)), (4, .int (nI c)), (5, .int (bI is)), (6, .int (nI k))] [.int (bI (wy aob ac ap st9 c9 (st9 - (s + 1)) (near4 (4 * c + k))))] [(h8, cO 8 [.int rf, .ref rv, .ref rn, .ref rnw, .ref rt, .ref rd, .int (nI na), .int (nI nx), .ref rk, .ref rik, .ref rdk, .ref rre, .ref rle, .ref rhe, .ref rth, .ref rpa, .ref ror, .int bv, .int bo]), (rn, cI (xT X) 600 (fun j => nI (near4 j))), (rnw, cI (xT X) 37 (rowF ac ap ash an aob arq)), (rre, cZ (xT X) 9150 (fun j => bI (re j))), (rle, cZ (xT X) 9150 (fun j => bI (le j))), (rpa, cI (xT X) 61 pt)]
                    refine j_if_eq C dX8_layPath_112 (tgt := 119) (by decide) (fun q112 => ?_) (fun q112 => ?_)
                    · skip
                      have q112 := (kb_eq).mp q112
                      refine j_iconst C dX8_layPath_119 (v := (nI 0)) kc_i_0 ?_
                      show jj X 0 0 120 [(0, .ref h8), (1, .int (nI c9)), (2, .int (nI st9)), (3, .int (nI s)), (4, .int (nI c)), (5, .int (bI is)), (6, .int (nI k))] [.int (bI false)] [(h8, cO 8 [.int rf, .ref rv, .ref rn, .ref rnw, .ref rt, .ref rd, .int (nI na), .int (nI nx), .ref rk, .ref rik, .ref rdk, .ref rre, .ref rle, .ref rhe, .ref rth, .ref rpa, .ref ror, .int bv, .int bo]), (rn, cI (xT X) 600 (fun j => nI (near4 j))), (rnw, cI (xT X) 37 (rowF ac ap ash an aob arq)), (rre, cZ (xT X) 9150 (fun j => bI (re j))), (rle, cZ (xT X) 9150 (fun j => bI (le j))), (rpa, cI (xT X) 61 pt)]
                      refine j_istore C dX8_layPath_120 (by decide) (lv' := [(5, .int (bI false)), (0, .ref h8), (1, .int (nI c9)), (2, .int (nI st9)), (3, .int (nI s)), (4, .int (nI c)), (6, .int (nI k))]) rfl ?_
                      refine j_iinc C dX8_layPath_122 (q := 6) (v := (nI (k + 1))) rfl (kc_inc k) (by decide) (lv' := [(6, .int (nI (k + 1))), (5, .int (bI false)), (0, .ref h8), (1, .int (nI c9)), (2, .int (nI st9)), (3, .int (nI s)), (4, .int (nI c))]) rfl ?_
                      refine j_goto C dX8_layPath_125 (tgt := 76) (by decide) ?_
                      refine j_lv [2, 3, 4, 5, 6, 1, 0] rfl ?_
                      refine ih76 _ _ (by omega) ?_ ?_
                      · omega
                      · rw [nborN, hb]; first | (rw [q84]; rfl) | (rw [q84, q112]; rfl)
                    · skip
                      have q112 := (kb_neq).mp q112
                      refine j_iconst C dX8_layPath_115 (v := (nI 1)) kc_i_1 ?_
                      refine j_goto C dX8_layPath_116 (tgt := 120) (by decide) ?_
                      show jj X 0 0 120 [(0, .ref h8), (1, .int (nI c9)), (2, .int (nI st9)), (3, .int (nI s)), (4, .int (nI c)), (5, .int (bI is)), (6, .int (nI k))] [.int (bI true)] [(h8, cO 8 [.int rf, .ref rv, .ref rn, .ref rnw, .ref rt, .ref rd, .int (nI na), .int (nI nx), .ref rk, .ref rik, .ref rdk, .ref rre, .ref rle, .ref rhe, .ref rth, .ref rpa, .ref ror, .int bv, .int bo]), (rn, cI (xT X) 600 (fun j => nI (near4 j))), (rnw, cI (xT X) 37 (rowF ac ap ash an aob arq)), (rre, cZ (xT X) 9150 (fun j => bI (re j))), (rle, cZ (xT X) 9150 (fun j => bI (le j))), (rpa, cI (xT X) 61 pt)]
                      refine j_istore C dX8_layPath_120 (by decide) (lv' := [(5, .int (bI true)), (0, .ref h8), (1, .int (nI c9)), (2, .int (nI st9)), (3, .int (nI s)), (4, .int (nI c)), (6, .int (nI k))]) rfl ?_
                      refine j_iinc C dX8_layPath_122 (q := 6) (v := (nI (k + 1))) rfl (kc_inc k) (by decide) (lv' := [(6, .int (nI (k + 1))), (5, .int (bI true)), (0, .ref h8), (1, .int (nI c9)), (2, .int (nI st9)), (3, .int (nI s)), (4, .int (nI c))]) rfl ?_
                      refine j_goto C dX8_layPath_125 (tgt := 76) (by decide) ?_
                      refine j_lv [2, 3, 4, 5, 6, 1, 0] rfl ?_
                      refine ih76 _ _ (by omega) ?_ ?_
                      · omega
                      · rw [nborN, hb]; first | (rw [q84]; rfl) | (rw [q84, q112]; rfl)
    · skip
      have q6 := (kn_nge (a := c) (b := 150) (by omega) (by omega)).mp q6
      refine j_aload_n C dX8_layPath_9 0 rfl rfl ?_
      refine j_get C (hin8) (ci := 8) rfl 12 (by decide) (hl38) 0 rfl (v := .ref rle) rfl dX8_layPath_10 ?_
      refine j_sipush C dX8_layPath_13 (v := (nI 150)) kc_s_150 ?_
      refine j_iload_n C dX8_layPath_16 2 rfl rfl ?_
      refine j_imul C dX8_layPath_17 (v := (nI (150 * st9))) (pk_mul _ _) ?_
      refine j_iload_n C dX8_layPath_18 3 rfl rfl ?_
      refine j_iadd C dX8_layPath_19 (v := (nI (150 * st9 + c))) (nI_add _ _) ?_
      refine j_iload_n C dX8_layPath_20 3 rfl rfl ?_
      refine j_iload_n C dX8_layPath_21 1 rfl rfl ?_
      refine j_icmp_ne C dX8_layPath_22 (tgt := 29) (by decide) (fun q22 => ?_) (fun q22 => ?_)
      · skip
        have q22 := (kn_ne (a := c) (b := c9) (by omega) (by omega)).mp q22
        refine j_iconst C dX8_layPath_29 (v := (nI 0)) kc_i_0 ?_
        refine j_zastoreN C rw_ (150 * st9 + c) rfl 4 rfl (by omega) (by decide) (w' := [(h8, cO 8 [.int rf, .ref rv, .ref rn, .ref rnw, .ref rt, .ref rd, .int (nI na), .int (nI nx), .ref rk, .ref rik, .ref rdk, .ref rre, .ref rle, .ref rhe, .ref rth, .ref rpa, .ref ror, .int bv, .int bo]), (rn, cI (xT X) 600 (fun j => nI (near4 j))), (rnw, cI (xT X) 37 (rowF ac ap ash an aob arq)), (rre, cZ (xT X) 9150 (fun j => bI (re j))), (rle, cZ (xT X) 9150 (upd (fun j => bI (le j)) (150 * st9 + c) (vp_nar .boolean (nI 0)))), (rpa, cI (xT X) 61 pt)]) rfl dX8_layPath_30 ?_
        refine j_extZ C (fun j => bI (va_up le (150 * st9 + c) (wy aob ac ap st9 c9 (st9 - st9) c) j)) 4 rfl (fun j hj => ?_) (w' := [(h8, cO 8 [.int rf, .ref rv, .ref rn, .ref rnw, .ref rt, .ref rd, .int (nI na), .int (nI nx), .ref rk, .ref rik, .ref rdk, .ref rre, .ref rle, .ref rhe, .ref rth, .ref rpa, .ref ror, .int bv, .int bo]), (rn, cI (xT X) 600 (fun j => nI (near4 j))), (rnw, cI (xT X) 37 (rowF ac ap ash an aob arq)), (rre, cZ (xT X) 9150 (fun j => bI (re j))), (rle, cZ (xT X) 9150 (fun j => bI (va_up le (150 * st9 + c) (wy aob ac ap st9 c9 (st9 - st9) c) j))), (rpa, cI (xT X) 61 pt)]) rfl ?_
        · exact upB (by rw [Nat.sub_self, wy]; first | (rw [decide_eq_true q22]; exact bI_n1) | (rw [decide_eq_false q22]; exact bI_n0)) j
        refine j_iinc C dX8_layPath_31 (q := 3) (v := (nI (c + 1))) rfl (kc_inc c) (by decide) (lv' := [(3, .int (nI (c + 1))), (0, .ref h8), (1, .int (nI c9)), (2, .int (nI st9))]) rfl ?_
        refine j_goto C dX8_layPath_34 (tgt := 2) (by decide) ?_
        refine j_lv [1, 2, 3, 0] rfl ?_
        refine ih2 _ _ (by omega) ?_ ?_
        · omega
        · exact leI_s hI (by omega)
      · skip
        have q22 := (kn_nne (a := c) (b := c9) (by omega) (by omega)).mp q22
        refine j_iconst C dX8_layPath_25 (v := (nI 1)) kc_i_1 ?_
        refine j_goto C dX8_layPath_26 (tgt := 30) (by decide) ?_
        refine j_zastoreN C rw_ (150 * st9 + c) rfl 4 rfl (by omega) (by decide) (w' := [(h8, cO 8 [.int rf, .ref rv, .ref rn, .ref rnw, .ref rt, .ref rd, .int (nI na), .int (nI nx), .ref rk, .ref rik, .ref rdk, .ref rre, .ref rle, .ref rhe, .ref rth, .ref rpa, .ref ror, .int bv, .int bo]), (rn, cI (xT X) 600 (fun j => nI (near4 j))), (rnw, cI (xT X) 37 (rowF ac ap ash an aob arq)), (rre, cZ (xT X) 9150 (fun j => bI (re j))), (rle, cZ (xT X) 9150 (upd (fun j => bI (le j)) (150 * st9 + c) (vp_nar .boolean (nI 1)))), (rpa, cI (xT X) 61 pt)]) rfl dX8_layPath_30 ?_
        refine j_extZ C (fun j => bI (va_up le (150 * st9 + c) (wy aob ac ap st9 c9 (st9 - st9) c) j)) 4 rfl (fun j hj => ?_) (w' := [(h8, cO 8 [.int rf, .ref rv, .ref rn, .ref rnw, .ref rt, .ref rd, .int (nI na), .int (nI nx), .ref rk, .ref rik, .ref rdk, .ref rre, .ref rle, .ref rhe, .ref rth, .ref rpa, .ref ror, .int bv, .int bo]), (rn, cI (xT X) 600 (fun j => nI (near4 j))), (rnw, cI (xT X) 37 (rowF ac ap ash an aob arq)), (rre, cZ (xT X) 9150 (fun j => bI (re j))), (rle, cZ (xT X) 9150 (fun j => bI (va_up le (150 * st9 + c) (wy aob ac ap st9 c9 (st9 - st9) c) j))), (rpa, cI (xT X) 61 pt)]) rfl ?_
        · exact upB (by rw [Nat.sub_self, wy]; first | (rw [decide_eq_true q22]; exact bI_n1) | (rw [decide_eq_false q22]; exact bI_n0)) j
        refine j_iinc C dX8_layPath_31 (q := 3) (v := (nI (c + 1))) rfl (kc_inc c) (by decide) (lv' := [(3, .int (nI (c + 1))), (0, .ref h8), (1, .int (nI c9)), (2, .int (nI st9))]) rfl ?_
        refine j_goto C dX8_layPath_34 (tgt := 2) (by decide) ?_
        refine j_lv [1, 2, 3, 0] rfl ?_
        refine ih2 _ _ (by omega) ?_ ?_
        · omega
        · exact leI_s hI (by omega)
