/-! THE LAW (4): the cases -/
theorem cmp_self (x : Int64) : lg_cmp x x = 0 := by unfold lg_cmp; simp
set_option maxHeartbeats 4000000 in
theorem law_c_coordinate {X : jj_X} (C : jj_C X cL_law RL wsL_law room_1 9 ret) (rw_ : jj_RW X) (hlS : (xl X).stackTraces = false) (hZ : jZ (xA X) (xs X) (xs X).heap) {b L : Nat} {sc : Nat → Int32} (hL : jj_L X b L sc) (hLL : L ≤ 2560) {h7 h8 out outD i k n k8 : Nat} {s : sT} {w7 w8 : va_W} {f : Nat → Int64} {g : Nat → UInt64} (hi : i + 5 ≤ L) (hk : k + 9 ≤ 601024) (hn : n + 75 ≤ 7293034) (W7 : PW (xT X) h7 s w7) (W8 : MW (xT X) h8 k8 s w8) (O : okS s) (kk : ∀ (s2 : sT) (w72 w82 : va_W) (f2 : Nat → Int64) (g2 : Nat → UInt64) (k2 n2 k82 : Nat), k2 ≤ k + 9 → n2 ≤ n + 75 → PW (xT X) h7 s2 w72 → MW (xT X) h8 k82 s2 w82 → okS s2 → jj X k2 n2 2209 (lvL b h7 h8 out outD i) [] (lwW (xT X) w72 w82 out outD f2 g2)) : jj X k n 200 (lvL b h7 h8 out outD i) [] (lwW (xT X) w7 w8 out outD f g) := by
  obtain ⟨⟨ac, ap, ash, an, aob, arq⟩, cn, M, S⟩ := s
  refine j_aload_n C dL_law_200 1 rfl rfl ?_
  refine j_aload_n C dL_law_201 0 rfl rfl ?_
  refine j_iload C dL_law_202 5 rfl ?_
  refine j_iconst C dL_law_204 (v := nI 1) kc_i_1 ?_
  refine j_iadd C dL_law_205 (v := nI (i + 1)) (nI_add i 1) ?_
  refine j_sld C rw_ hL (nI_in (by omega) (by omega)) dL_law_206 ?_
  rw [nI_clamp (show i + 1 < 2 ^ 31 by omega)]
  refine j_aload_n C dL_law_207 0 rfl rfl ?_
  refine j_iload C dL_law_208 5 rfl ?_
  refine j_iconst C dL_law_210 (v := nI 2) kc_i_2 ?_
  refine j_iadd C dL_law_211 (v := nI (i + 2)) (nI_add i 2) ?_
  refine j_sld C rw_ hL (nI_in (by omega) (by omega)) dL_law_212 ?_
  rw [nI_clamp (show i + 2 < 2 ^ 31 by omega)]
  refine j_aload_n C dL_law_213 3 rfl rfl ?_
  refine j_callSWp C rw_ hZ (nA := 4) (As := [.ref h7, .int (sc (i + 1)), .int (sc (i + 2)), .ref out]) (c_L_coordinate (xl X) (xT X) hlS (out := out) (f := f) (sc (i + 1)) (sc (i + 2)) W7 O) gL_law_L_coordinate rfl (by decide +kernel) rfl (by decide) ⟨by show k + 2 ≤ 601024; omega, by show n + 12 ≤ 7293034; omega⟩ (lwp_7 _ _ _ _ _ _ _) (rest := []) rfl (Nat.le_of_ble_eq_true rfl) dL_law_214 (fun v w1 h => ?_)
  obtain ⟨k9, rfl, hk9, hc9⟩ := h
  refine j_istore C (i := 6) dL_law_217 (by decide) rfl ?_
  rcases hc9 with ⟨hz9, r, w72, f2, hr, hP, hf2, rfl⟩ | ⟨hz9, w72, hP, rfl⟩
  · refine j_permP C (lwp_7 _ w72 w8 out outD f2 g).symm ?_
    refine j_aload_n C dL_law_219 3 rfl rfl ?_
    refine j_aload_n C dL_law_220 1 rfl rfl ?_
    refine j_iload C dL_law_221 6 rfl ?_
    refine j_iconst C dL_law_223 (v := nI 1) kc_i_1 ?_
    refine j_iadd C dL_law_224 (v := nI (i + 1)) (nI_add i 1) ?_
    refine j_sld C rw_ hL (nI_in (by omega) (by omega)) dL_law_225 ?_
    rw [nI_clamp (show i + 1 < 2 ^ 31 by omega)]
    refine j_aload_n C dL_law_226 1 rfl rfl ?_
    refine j_iload C dL_law_227 6 rfl ?_
    refine j_iconst C dL_law_229 (v := nI 2) kc_i_2 ?_
    refine j_iadd C dL_law_230 (v := nI (i + 2)) (nI_add i 2) ?_
    refine j_sld C rw_ hL (nI_in (by omega) (by omega)) dL_law_231 ?_
    rw [nI_clamp (show i + 2 < 2 ^ 31 by omega)]
    obtain ⟨fs8, hm8⟩ := MW.mem W8
    refine j_callVMp C rw_ (nA := 2) (As := [.int (sc (i + 1)), .int (sc (i + 2))]) (wc := w8) (n_X8_coordinate (xl X) (xT X) (sc (i + 1)) (sc (i + 2)) W8 O) gL_law_X8_coordinate rfl (by decide +kernel) rfl (by decide) ⟨by show k + 2 + 0 ≤ 601024; omega, by show n + 12 + 0 ≤ 7293034; omega⟩ (lwp_8 _ _ _ _ _ _ _) hm8 (ci := 8) rfl (rest := []) rfl (Nat.le_of_ble_eq_true rfl) dL_law_232 (fun v w1 h => ?_)
    obtain ⟨k10, r2, rfl, hk10, hc10⟩ := h
    refine j_istore C (i := 7) dL_law_235 (by decide) rfl ?_
    refine j_permP C (lwp_8 _ w72 w1 out outD f2 g).symm ?_
    have ek : k10 = k9 := hk10.trans hk9.symm
    rcases hc10 with ⟨hz10, hr2, hM⟩ | ⟨hz10, hM⟩
    · refine j_aload_n C dL_law_237 4 rfl rfl ?_
      refine j_thrown C hM (lwp_8 _ _ _ _ _ _ _) (by decide) (by show k + 2 + 0 ≤ 601024; omega) (by show n + 12 + 0 ≤ 7293034; omega) dL_law_238 ?_
      refine j_iload C dL_law_241 1 rfl ?_
      refine j_icmp_eq C dL_law_243 (tgt := 248) (by decide) (fun _ => ?_) (fun e => absurd (congrArg nI (hz10.symm.trans ek)) e)
      refine j_iload C dL_law_248 1 rfl ?_
      have er := ru_coordinate hr hr2
      subst er
      refine j_if_ne C dL_law_250 (tgt := 265) (by decide) (fun e => absurd (by rw [hz9]; rfl) e) (fun _ => ?_)
      refine j_permP C (lwp_7 _ _ _ _ _ _ _) ?_
      refine j_aload_n C dL_law_253 5 rfl rfl ?_
      refine j_iconst C dL_law_254 (v := nI 0) kc_i_0 ?_
      refine j_laloadN C 0 rfl 0 rfl (by decide) (by decide) dL_law_255 ?_
      refine j_iload C dL_law_256 0 rfl ?_
      refine j_i2l C dL_law_258 rfl ?_
      refine j_lcmp C dL_law_259 ?_
      refine j_if_eq C dL_law_260 (tgt := 265) (by decide) (fun _ => ?_) (fun e => absurd (by rw [hf2]; exact cmp_self _) e)
      refine j_goto C dL_law_265 (tgt := 2209) (by decide) ?_
      refine j_permP C (lwp_7 _ _ _ _ _ _ _).symm ?_
      refine j_lv [2, 3, 4, 5, 6, 7] rfl ?_
      exact kk _ w72 w1 f2 g _ _ 0 (by show k + 2 + 0 ≤ k + 9; omega) (by show n + 12 + 0 ≤ n + 75; omega) hP hM O
    · exact absurd (ek.trans hz9) hz10
  · refine j_permP C (lwp_7 _ w72 w8 out outD f g).symm ?_
    refine j_aload_n C dL_law_219 3 rfl rfl ?_
    refine j_aload_n C dL_law_220 1 rfl rfl ?_
    refine j_iload C dL_law_221 6 rfl ?_
    refine j_iconst C dL_law_223 (v := nI 1) kc_i_1 ?_
    refine j_iadd C dL_law_224 (v := nI (i + 1)) (nI_add i 1) ?_
    refine j_sld C rw_ hL (nI_in (by omega) (by omega)) dL_law_225 ?_
    rw [nI_clamp (show i + 1 < 2 ^ 31 by omega)]
    refine j_aload_n C dL_law_226 1 rfl rfl ?_
    refine j_iload C dL_law_227 6 rfl ?_
    refine j_iconst C dL_law_229 (v := nI 2) kc_i_2 ?_
    refine j_iadd C dL_law_230 (v := nI (i + 2)) (nI_add i 2) ?_
    refine j_sld C rw_ hL (nI_in (by omega) (by omega)) dL_law_231 ?_
    rw [nI_clamp (show i + 2 < 2 ^ 31 by omega)]
    obtain ⟨fs8, hm8⟩ := MW.mem W8
    refine j_callVMp C rw_ (nA := 2) (As := [.int (sc (i + 1)), .int (sc (i + 2))]) (wc := w8) (n_X8_coordinate (xl X) (xT X) (sc (i + 1)) (sc (i + 2)) W8 O) gL_law_X8_coordinate rfl (by decide +kernel) rfl (by decide) ⟨by show k + 2 + 0 ≤ 601024; omega, by show n + 12 + 0 ≤ 7293034; omega⟩ (lwp_8 _ _ _ _ _ _ _) hm8 (ci := 8) rfl (rest := []) rfl (Nat.le_of_ble_eq_true rfl) dL_law_232 (fun v w1 h => ?_)
    obtain ⟨k10, r2, rfl, hk10, hc10⟩ := h
    refine j_istore C (i := 7) dL_law_235 (by decide) rfl ?_
    refine j_permP C (lwp_8 _ w72 w1 out outD f g).symm ?_
    have ek : k10 = k9 := hk10.trans hk9.symm
    rcases hc10 with ⟨hz10, hr2, hM⟩ | ⟨hz10, hM⟩
    · exact absurd (ek ▸ hz10) hz9
    · refine j_aload_n C dL_law_237 4 rfl rfl ?_
      refine j_thrown C hM (lwp_8 _ _ _ _ _ _ _) (by decide) (by show k + 2 + 0 ≤ 601024; omega) (by show n + 12 + 0 ≤ 7293034; omega) dL_law_238 ?_
      refine j_iload C dL_law_241 1 rfl ?_
      refine j_icmp_eq C dL_law_243 (tgt := 248) (by decide) (fun _ => ?_) (fun e => absurd (congrArg nI ek) e)
      refine j_iload C dL_law_248 1 rfl ?_
      have hb : k9 ≤ 3 := by rw [hk9]; unfold kf_coordinate; (repeat' split) <;> omega
      refine j_if_ne C dL_law_250 (tgt := 265) (by decide) (fun _ => ?_) (fun e => absurd ((nI_eq (show k9 < 2 ^ 31 by omega) (show 0 < 2 ^ 31 by decide)).mp e) hz9)
      refine j_goto C dL_law_265 (tgt := 2209) (by decide) ?_
      refine j_lv [2, 3, 4, 5, 6, 7] rfl ?_
      exact kk _ w72 w1 f g _ _ k10 (by show k + 2 + 0 ≤ k + 9; omega) (by show n + 12 + 0 ≤ n + 75; omega) hP hM O
