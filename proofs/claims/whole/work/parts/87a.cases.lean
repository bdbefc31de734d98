/-! THE LAW (4): the cases -/
set_option maxHeartbeats 4000000 in
theorem law_c_cellOf {X : jj_X} (C : jj_C X cL_law RL wsL_law room_1 9 ret) (rw_ : jj_RW X) (hlS : (xl X).stackTraces = false) (hZ : jZ (xA X) (xs X) (xs X).heap) {b L : Nat} {sc : Nat → Int32} (hL : jj_L X b L sc) (hLL : L ≤ 2560) {h7 h8 out outD i k n k8 : Nat} {s : sT} {w7 w8 : va_W} {f : Nat → Int64} {g : Nat → UInt64} (hi : i + 5 ≤ L) (hk : k + 9 ≤ 601024) (hn : n + 75 ≤ 7293034) (W7 : PW (xT X) h7 s w7) (W8 : MW (xT X) h8 k8 s w8) (O : okS s) (kk : ∀ (s2 : sT) (w72 w82 : va_W) (f2 : Nat → Int64) (g2 : Nat → UInt64) (k2 n2 k82 : Nat), k2 ≤ k + 9 → n2 ≤ n + 75 → PW (xT X) h7 s2 w72 → MW (xT X) h8 k82 s2 w82 → okS s2 → jj X k2 n2 2209 (lvL b h7 h8 out outD i) [] (lwW (xT X) w72 w82 out outD f2 g2)) : jj X k n 268 (lvL b h7 h8 out outD i) [] (lwW (xT X) w7 w8 out outD f g) := by
  obtain ⟨⟨ac, ap, ash, an, aob, arq⟩, cn, M, S⟩ := s
  refine j_aload_n C dL_law_268 1 rfl rfl ?_
  refine j_aload_n C dL_law_269 0 rfl rfl ?_
  refine j_iload C dL_law_270 5 rfl ?_
  refine j_iconst C dL_law_272 (v := nI 1) kc_i_1 ?_
  refine j_iadd C dL_law_273 (v := nI (i + 1)) (nI_add i 1) ?_
  refine j_sld C rw_ hL (nI_in (by omega) (by omega)) dL_law_274 ?_
  rw [nI_clamp (show i + 1 < 2 ^ 31 by omega)]
  refine j_aload_n C dL_law_275 0 rfl rfl ?_
  refine j_iload C dL_law_276 5 rfl ?_
  refine j_iconst C dL_law_278 (v := nI 2) kc_i_2 ?_
  refine j_iadd C dL_law_279 (v := nI (i + 2)) (nI_add i 2) ?_
  refine j_sld C rw_ hL (nI_in (by omega) (by omega)) dL_law_280 ?_
  rw [nI_clamp (show i + 2 < 2 ^ 31 by omega)]
  refine j_aload_n C dL_law_281 0 rfl rfl ?_
  refine j_iload C dL_law_282 5 rfl ?_
  refine j_iconst C dL_law_284 (v := nI 3) kc_i_3 ?_
  refine j_iadd C dL_law_285 (v := nI (i + 3)) (nI_add i 3) ?_
  refine j_sld C rw_ hL (nI_in (by omega) (by omega)) dL_law_286 ?_
  rw [nI_clamp (show i + 3 < 2 ^ 31 by omega)]
  obtain ⟨fs7, hm7⟩ := PW.mem W7
  obtain ⟨fs8, hm8⟩ := MW.mem W8
  refine j_callVMp C rw_ (nA := 3) (As := [.int (sc (i + 1)), .int (sc (i + 2)), .int (sc (i + 3))]) (wc := w7) (k_X7_cellOf (xl X) (xT X) hlS (sc (i + 1)) (sc (i + 2)) (sc (i + 3)) W7 O) gL_law_X7_cellOf rfl (by decide +kernel) rfl (by decide) ⟨by show k + 0 ≤ 601024; omega, by show n + 0 ≤ 7293034; omega⟩ (List.Perm.refl _) hm7 (ci := 7) rfl (rest := []) rfl (Nat.le_of_ble_eq_true rfl) dL_law_287 (fun v w1 h => ?_)
  obtain ⟨r, rfl, hr, hP⟩ := h
  refine j_aload_n C dL_law_290 2 rfl rfl ?_
  refine j_aload_n C dL_law_291 0 rfl rfl ?_
  refine j_iload C dL_law_292 5 rfl ?_
  refine j_iconst C dL_law_294 (v := nI 1) kc_i_1 ?_
  refine j_iadd C dL_law_295 (v := nI (i + 1)) (nI_add i 1) ?_
  refine j_sld C rw_ hL (nI_in (by omega) (by omega)) dL_law_296 ?_
  rw [nI_clamp (show i + 1 < 2 ^ 31 by omega)]
  refine j_aload_n C dL_law_297 0 rfl rfl ?_
  refine j_iload C dL_law_298 5 rfl ?_
  refine j_iconst C dL_law_300 (v := nI 2) kc_i_2 ?_
  refine j_iadd C dL_law_301 (v := nI (i + 2)) (nI_add i 2) ?_
  refine j_sld C rw_ hL (nI_in (by omega) (by omega)) dL_law_302 ?_
  rw [nI_clamp (show i + 2 < 2 ^ 31 by omega)]
  refine j_aload_n C dL_law_303 0 rfl rfl ?_
  refine j_iload C dL_law_304 5 rfl ?_
  refine j_iconst C dL_law_306 (v := nI 3) kc_i_3 ?_
  refine j_iadd C dL_law_307 (v := nI (i + 3)) (nI_add i 3) ?_
  refine j_sld C rw_ hL (nI_in (by omega) (by omega)) dL_law_308 ?_
  rw [nI_clamp (show i + 3 < 2 ^ 31 by omega)]
  refine j_callVMp C rw_ (nA := 3) (As := [.int (sc (i + 1)), .int (sc (i + 2)), .int (sc (i + 3))]) (wc := w8) (n_X8_cellOf (xl X) (xT X) (sc (i + 1)) (sc (i + 2)) (sc (i + 3)) W8 O) gL_law_X8_cellOf rfl (by decide +kernel) rfl (by decide) ⟨by show k + 0 + 0 ≤ 601024; omega, by show n + 0 + 0 ≤ 7293034; omega⟩ (lwp_8 _ _ _ _ _ _ _) hm8 (ci := 8) rfl (rest := [.int r]) rfl (Nat.le_of_ble_eq_true rfl) dL_law_309 (fun v w2 h => ?_)
  obtain ⟨r2, rfl, hr2, hM⟩ := h
  refine j_icmp_eq C dL_law_312 (tgt := 2209) (by decide) (fun _ => ?_) (fun e => absurd (fs_uniq hr hr2) e)
  refine j_permP C (lwp_8 _ w1 w2 out outD f g).symm ?_
  exact kk _ w1 w2 f g _ _ 0 (by show k + 0 + 0 ≤ k + 9; omega) (by show n + 0 + 0 ≤ n + 75; omega) hP hM O
set_option maxHeartbeats 4000000 in
theorem law_c_neighbour {X : jj_X} (C : jj_C X cL_law RL wsL_law room_1 9 ret) (rw_ : jj_RW X) (hlS : (xl X).stackTraces = false) (hZ : jZ (xA X) (xs X) (xs X).heap) {b L : Nat} {sc : Nat → Int32} (hL : jj_L X b L sc) (hLL : L ≤ 2560) {h7 h8 out outD i k n k8 : Nat} {s : sT} {w7 w8 : va_W} {f : Nat → Int64} {g : Nat → UInt64} (hi : i + 5 ≤ L) (hk : k + 9 ≤ 601024) (hn : n + 75 ≤ 7293034) (W7 : PW (xT X) h7 s w7) (W8 : MW (xT X) h8 k8 s w8) (O : okS s) (kk : ∀ (s2 : sT) (w72 w82 : va_W) (f2 : Nat → Int64) (g2 : Nat → UInt64) (k2 n2 k82 : Nat), k2 ≤ k + 9 → n2 ≤ n + 75 → PW (xT X) h7 s2 w72 → MW (xT X) h8 k82 s2 w82 → okS s2 → jj X k2 n2 2209 (lvL b h7 h8 out outD i) [] (lwW (xT X) w72 w82 out outD f2 g2)) : jj X k n 317 (lvL b h7 h8 out outD i) [] (lwW (xT X) w7 w8 out outD f g) := by
  obtain ⟨⟨ac, ap, ash, an, aob, arq⟩, cn, M, S⟩ := s
  refine j_aload_n C dL_law_317 1 rfl rfl ?_
  refine j_aload_n C dL_law_318 0 rfl rfl ?_
  refine j_iload C dL_law_319 5 rfl ?_
  refine j_iconst C dL_law_321 (v := nI 1) kc_i_1 ?_
  refine j_iadd C dL_law_322 (v := nI (i + 1)) (nI_add i 1) ?_
  refine j_sld C rw_ hL (nI_in (by omega) (by omega)) dL_law_323 ?_
  rw [nI_clamp (show i + 1 < 2 ^ 31 by omega)]
  refine j_aload_n C dL_law_324 0 rfl rfl ?_
  refine j_iload C dL_law_325 5 rfl ?_
  refine j_iconst C dL_law_327 (v := nI 2) kc_i_2 ?_
  refine j_iadd C dL_law_328 (v := nI (i + 2)) (nI_add i 2) ?_
  refine j_sld C rw_ hL (nI_in (by omega) (by omega)) dL_law_329 ?_
  rw [nI_clamp (show i + 2 < 2 ^ 31 by omega)]
  refine j_aload_n C dL_law_330 3 rfl rfl ?_
  refine j_callSWp C rw_ hZ (nA := 4) (As := [.ref h7, .int (sc (i + 1)), .int (sc (i + 2)), .ref out]) (c_L_neighbour (xl X) (xT X) hlS (out := out) (f := f) (sc (i + 1)) (sc (i + 2)) W7 O) gL_law_L_neighbour rfl (by decide +kernel) rfl (by decide) ⟨by show k + 2 ≤ 601024; omega, by show n + 12 ≤ 7293034; omega⟩ (lwp_7 _ _ _ _ _ _ _) (rest := []) rfl (Nat.le_of_ble_eq_true rfl) dL_law_331 (fun v w1 h => ?_)
  obtain ⟨k9, rfl, hk9, hc9⟩ := h
  refine j_istore C (i := 6) dL_law_334 (by decide) rfl ?_
  rcases hc9 with ⟨hz9, r, w72, f2, hr, hP, hf2, rfl⟩ | ⟨hz9, w72, hP, rfl⟩
  · refine j_permP C (lwp_7 _ w72 w8 out outD f2 g).symm ?_
    refine j_aload_n C dL_law_336 3 rfl rfl ?_
    refine j_aload_n C dL_law_337 1 rfl rfl ?_
    refine j_iload C dL_law_338 6 rfl ?_
    refine j_iconst C dL_law_340 (v := nI 1) kc_i_1 ?_
    refine j_iadd C dL_law_341 (v := nI (i + 1)) (nI_add i 1) ?_
    refine j_sld C rw_ hL (nI_in (by omega) (by omega)) dL_law_342 ?_
    rw [nI_clamp (show i + 1 < 2 ^ 31 by omega)]
    refine j_aload_n C dL_law_343 1 rfl rfl ?_
    refine j_iload C dL_law_344 6 rfl ?_
    refine j_iconst C dL_law_346 (v := nI 2) kc_i_2 ?_
    refine j_iadd C dL_law_347 (v := nI (i + 2)) (nI_add i 2) ?_
    refine j_sld C rw_ hL (nI_in (by omega) (by omega)) dL_law_348 ?_
    rw [nI_clamp (show i + 2 < 2 ^ 31 by omega)]
    obtain ⟨fs8, hm8⟩ := MW.mem W8
    refine j_callVMp C rw_ (nA := 2) (As := [.int (sc (i + 1)), .int (sc (i + 2))]) (wc := w8) (n_X8_neighbour (xl X) (xT X) (sc (i + 1)) (sc (i + 2)) W8 O) gL_law_X8_neighbour rfl (by decide +kernel) rfl (by decide) ⟨by show k + 2 + 0 ≤ 601024; omega, by show n + 12 + 0 ≤ 7293034; omega⟩ (lwp_8 _ _ _ _ _ _ _) hm8 (ci := 8) rfl (rest := []) rfl (Nat.le_of_ble_eq_true rfl) dL_law_349 (fun v w1 h => ?_)
    obtain ⟨k10, r2, rfl, hk10, hc10⟩ := h
    refine j_istore C (i := 7) dL_law_352 (by decide) rfl ?_
    refine j_permP C (lwp_8 _ w72 w1 out outD f2 g).symm ?_
    have ek : k10 = k9 := hk10.trans hk9.symm
    rcases hc10 with ⟨hz10, hr2, hM⟩ | ⟨hz10, hM⟩
    · refine j_aload_n C dL_law_354 4 rfl rfl ?_
      refine j_thrown C hM (lwp_8 _ _ _ _ _ _ _) (by decide) (by show k + 2 + 0 ≤ 601024; omega) (by show n + 12 + 0 ≤ 7293034; omega) dL_law_355 ?_
      refine j_iload C dL_law_358 1 rfl ?_
      refine j_icmp_eq C dL_law_360 (tgt := 365) (by decide) (fun _ => ?_) (fun e => absurd (congrArg nI (hz10.symm.trans ek)) e)
      refine j_iload C dL_law_365 1 rfl ?_
      have er := ru_neighbour hr hr2
      subst er
      refine j_if_ne C dL_law_367 (tgt := 382) (by decide) (fun e => absurd (by rw [hz9]; rfl) e) (fun _ => ?_)
      refine j_permP C (lwp_7 _ _ _ _ _ _ _) ?_
      refine j_aload_n C dL_law_370 5 rfl rfl ?_
      refine j_iconst C dL_law_371 (v := nI 0) kc_i_0 ?_
      refine j_laloadN C 0 rfl 0 rfl (by decide) (by decide) dL_law_372 ?_
      refine j_iload C dL_law_373 0 rfl ?_
      refine j_i2l C dL_law_375 rfl ?_
      refine j_lcmp C dL_law_376 ?_
      refine j_if_eq C dL_law_377 (tgt := 382) (by decide) (fun _ => ?_) (fun e => absurd (by rw [hf2]; exact cmp_self _) e)
      refine j_goto C dL_law_382 (tgt := 2209) (by decide) ?_
      refine j_permP C (lwp_7 _ _ _ _ _ _ _).symm ?_
      refine j_lv [2, 3, 4, 5, 6, 7] rfl ?_
      exact kk _ w72 w1 f2 g _ _ 0 (by show k + 2 + 0 ≤ k + 9; omega) (by show n + 12 + 0 ≤ n + 75; omega) hP hM O
    · exact absurd (ek.trans hz9) hz10
  · refine j_permP C (lwp_7 _ w72 w8 out outD f g).symm ?_
    refine j_aload_n C dL_law_336 3 rfl rfl ?_
    refine j_aload_n C dL_law_337 1 rfl rfl ?_
    refine j_iload C dL_law_338 6 rfl ?_
    refine j_iconst C dL_law_340 (v := nI 1) kc_i_1 ?_
    refine j_iadd C dL_law_341 (v := nI (i + 1)) (nI_add i 1) ?_
    refine j_sld C rw_ hL (nI_in (by omega) (by omega)) dL_law_342 ?_
    rw [nI_clamp (show i + 1 < 2 ^ 31 by omega)]
    refine j_aload_n C dL_law_343 1 rfl rfl ?_
    refine j_iload C dL_law_344 6 rfl ?_
    refine j_iconst C dL_law_346 (v := nI 2) kc_i_2 ?_
    refine j_iadd C dL_law_347 (v := nI (i + 2)) (nI_add i 2) ?_
    refine j_sld C rw_ hL (nI_in (by omega) (by omega)) dL_law_348 ?_
    rw [nI_clamp (show i + 2 < 2 ^ 31 by omega)]
    obtain ⟨fs8, hm8⟩ := MW.mem W8
    refine j_callVMp C rw_ (nA := 2) (As := [.int (sc (i + 1)), .int (sc (i + 2))]) (wc := w8) (n_X8_neighbour (xl X) (xT X) (sc (i + 1)) (sc (i + 2)) W8 O) gL_law_X8_neighbour rfl (by decide +kernel) rfl (by decide) ⟨by show k + 2 + 0 ≤ 601024; omega, by show n + 12 + 0 ≤ 7293034; omega⟩ (lwp_8 _ _ _ _ _ _ _) hm8 (ci := 8) rfl (rest := []) rfl (Nat.le_of_ble_eq_true rfl) dL_law_349 (fun v w1 h => ?_)
    obtain ⟨k10, r2, rfl, hk10, hc10⟩ := h
    refine j_istore C (i := 7) dL_law_352 (by decide) rfl ?_
    refine j_permP C (lwp_8 _ w72 w1 out outD f g).symm ?_
    have ek : k10 = k9 := hk10.trans hk9.symm
    rcases hc10 with ⟨hz10, hr2, hM⟩ | ⟨hz10, hM⟩
    · exact absurd (ek ▸ hz10) hz9
    · refine j_aload_n C dL_law_354 4 rfl rfl ?_
      refine j_thrown C hM (lwp_8 _ _ _ _ _ _ _) (by decide) (by show k + 2 + 0 ≤ 601024; omega) (by show n + 12 + 0 ≤ 7293034; omega) dL_law_355 ?_
      refine j_iload C dL_law_358 1 rfl ?_
      refine j_icmp_eq C dL_law_360 (tgt := 365) (by decide) (fun _ => ?_) (fun e => absurd (congrArg nI ek) e)
      refine j_iload C dL_law_365 1 rfl ?_
      have hb : k9 ≤ 3 := by rw [hk9]; unfold kf_neighbour; (repeat' split) <;> omega
      refine j_if_ne C dL_law_367 (tgt := 382) (by decide) (fun _ => ?_) (fun e => absurd ((nI_eq (show k9 < 2 ^ 31 by omega) (show 0 < 2 ^ 31 by decide)).mp e) hz9)
      refine j_goto C dL_law_382 (tgt := 2209) (by decide) ?_
      refine j_lv [2, 3, 4, 5, 6, 7] rfl ?_
      exact kk _ w72 w1 f g _ _ k10 (by show k + 2 + 0 ≤ k + 9; omega) (by show n + 12 + 0 ≤ n + 75; omega) hP hM O
set_option maxHeartbeats 4000000 in
theorem law_c_direction {X : jj_X} (C : jj_C X cL_law RL wsL_law room_1 9 ret) (rw_ : jj_RW X) (hlS : (xl X).stackTraces = false) (hZ : jZ (xA X) (xs X) (xs X).heap) {b L : Nat} {sc : Nat → Int32} (hL : jj_L X b L sc) (hLL : L ≤ 2560) {h7 h8 out outD i k n k8 : Nat} {s : sT} {w7 w8 : va_W} {f : Nat → Int64} {g : Nat → UInt64} (hi : i + 5 ≤ L) (hk : k + 9 ≤ 601024) (hn : n + 75 ≤ 7293034) (W7 : PW (xT X) h7 s w7) (W8 : MW (xT X) h8 k8 s w8) (O : okS s) (kk : ∀ (s2 : sT) (w72 w82 : va_W) (f2 : Nat → Int64) (g2 : Nat → UInt64) (k2 n2 k82 : Nat), k2 ≤ k + 9 → n2 ≤ n + 75 → PW (xT X) h7 s2 w72 → MW (xT X) h8 k82 s2 w82 → okS s2 → jj X k2 n2 2209 (lvL b h7 h8 out outD i) [] (lwW (xT X) w72 w82 out outD f2 g2)) : jj X k n 385 (lvL b h7 h8 out outD i) [] (lwW (xT X) w7 w8 out outD f g) := by
  obtain ⟨⟨ac, ap, ash, an, aob, arq⟩, cn, M, S⟩ := s
  refine j_aload_n C dL_law_385 1 rfl rfl ?_
  refine j_aload_n C dL_law_386 0 rfl rfl ?_
  refine j_iload C dL_law_387 5 rfl ?_
  refine j_iconst C dL_law_389 (v := nI 1) kc_i_1 ?_
  refine j_iadd C dL_law_390 (v := nI (i + 1)) (nI_add i 1) ?_
  refine j_sld C rw_ hL (nI_in (by omega) (by omega)) dL_law_391 ?_
  rw [nI_clamp (show i + 1 < 2 ^ 31 by omega)]
  refine j_aload_n C dL_law_392 0 rfl rfl ?_
  refine j_iload C dL_law_393 5 rfl ?_
  refine j_iconst C dL_law_395 (v := nI 2) kc_i_2 ?_
  refine j_iadd C dL_law_396 (v := nI (i + 2)) (nI_add i 2) ?_
  refine j_sld C rw_ hL (nI_in (by omega) (by omega)) dL_law_397 ?_
  rw [nI_clamp (show i + 2 < 2 ^ 31 by omega)]
  refine j_aload_n C dL_law_398 0 rfl rfl ?_
  refine j_iload C dL_law_399 5 rfl ?_
  refine j_iconst C dL_law_401 (v := nI 3) kc_i_3 ?_
  refine j_iadd C dL_law_402 (v := nI (i + 3)) (nI_add i 3) ?_
  refine j_sld C rw_ hL (nI_in (by omega) (by omega)) dL_law_403 ?_
  rw [nI_clamp (show i + 3 < 2 ^ 31 by omega)]
  refine j_aload_n C dL_law_404 3 rfl rfl ?_
  refine j_callSWp C rw_ hZ (nA := 5) (As := [.ref h7, .int (sc (i + 1)), .int (sc (i + 2)), .int (sc (i + 3)), .ref out]) (c_L_direction (xl X) (xT X) hlS (out := out) (f := f) (sc (i + 1)) (sc (i + 2)) (sc (i + 3)) W7 O) gL_law_L_direction rfl (by decide +kernel) rfl (by decide) ⟨by show k + 3 ≤ 601024; omega, by show n + 18 ≤ 7293034; omega⟩ (lwp_7 _ _ _ _ _ _ _) (rest := []) rfl (Nat.le_of_ble_eq_true rfl) dL_law_405 (fun v w1 h => ?_)
  obtain ⟨k9, rfl, hk9, hc9⟩ := h
  refine j_istore C (i := 6) dL_law_408 (by decide) rfl ?_
  rcases hc9 with ⟨hz9, r, w72, f2, hr, hP, hf2, rfl⟩ | ⟨hz9, w72, hP, rfl⟩
  · refine j_permP C (lwp_7 _ w72 w8 out outD f2 g).symm ?_
    refine j_aload_n C dL_law_410 3 rfl rfl ?_
    refine j_aload_n C dL_law_411 1 rfl rfl ?_
    refine j_iload C dL_law_412 6 rfl ?_
    refine j_iconst C dL_law_414 (v := nI 1) kc_i_1 ?_
    refine j_iadd C dL_law_415 (v := nI (i + 1)) (nI_add i 1) ?_
    refine j_sld C rw_ hL (nI_in (by omega) (by omega)) dL_law_416 ?_
    rw [nI_clamp (show i + 1 < 2 ^ 31 by omega)]
    refine j_aload_n C dL_law_417 1 rfl rfl ?_
    refine j_iload C dL_law_418 6 rfl ?_
    refine j_iconst C dL_law_420 (v := nI 2) kc_i_2 ?_
    refine j_iadd C dL_law_421 (v := nI (i + 2)) (nI_add i 2) ?_
    refine j_sld C rw_ hL (nI_in (by omega) (by omega)) dL_law_422 ?_
    rw [nI_clamp (show i + 2 < 2 ^ 31 by omega)]
    refine j_aload_n C dL_law_423 1 rfl rfl ?_
    refine j_iload C dL_law_424 6 rfl ?_
    refine j_iconst C dL_law_426 (v := nI 3) kc_i_3 ?_
    refine j_iadd C dL_law_427 (v := nI (i + 3)) (nI_add i 3) ?_
    refine j_sld C rw_ hL (nI_in (by omega) (by omega)) dL_law_428 ?_
    rw [nI_clamp (show i + 3 < 2 ^ 31 by omega)]
    obtain ⟨fs8, hm8⟩ := MW.mem W8
    refine j_callVMp C rw_ (nA := 3) (As := [.int (sc (i + 1)), .int (sc (i + 2)), .int (sc (i + 3))]) (wc := w8) (n_X8_direction (xl X) (xT X) (sc (i + 1)) (sc (i + 2)) (sc (i + 3)) W8 O) gL_law_X8_direction rfl (by decide +kernel) rfl (by decide) ⟨by show k + 3 + 0 ≤ 601024; omega, by show n + 18 + 0 ≤ 7293034; omega⟩ (lwp_8 _ _ _ _ _ _ _) hm8 (ci := 8) rfl (rest := []) rfl (Nat.le_of_ble_eq_true rfl) dL_law_429 (fun v w1 h => ?_)
    obtain ⟨k10, r2, rfl, hk10, hc10⟩ := h
    refine j_istore C (i := 7) dL_law_432 (by decide) rfl ?_
    refine j_permP C (lwp_8 _ w72 w1 out outD f2 g).symm ?_
    have ek : k10 = k9 := hk10.trans hk9.symm
    rcases hc10 with ⟨hz10, hr2, hM⟩ | ⟨hz10, hM⟩
    · refine j_aload_n C dL_law_434 4 rfl rfl ?_
      refine j_thrown C hM (lwp_8 _ _ _ _ _ _ _) (by decide) (by show k + 3 + 0 ≤ 601024; omega) (by show n + 18 + 0 ≤ 7293034; omega) dL_law_435 ?_
      refine j_iload C dL_law_438 1 rfl ?_
      refine j_icmp_eq C dL_law_440 (tgt := 445) (by decide) (fun _ => ?_) (fun e => absurd (congrArg nI (hz10.symm.trans ek)) e)
      refine j_iload C dL_law_445 1 rfl ?_
      have er := ru_direction hr hr2
      subst er
      refine j_if_ne C dL_law_447 (tgt := 462) (by decide) (fun e => absurd (by rw [hz9]; rfl) e) (fun _ => ?_)
      refine j_permP C (lwp_7 _ _ _ _ _ _ _) ?_
      refine j_aload_n C dL_law_450 5 rfl rfl ?_
      refine j_iconst C dL_law_451 (v := nI 0) kc_i_0 ?_
      refine j_laloadN C 0 rfl 0 rfl (by decide) (by decide) dL_law_452 ?_
      refine j_iload C dL_law_453 0 rfl ?_
      refine j_i2l C dL_law_455 rfl ?_
      refine j_lcmp C dL_law_456 ?_
      refine j_if_eq C dL_law_457 (tgt := 462) (by decide) (fun _ => ?_) (fun e => absurd (by rw [hf2]; exact cmp_self _) e)
      refine j_goto C dL_law_462 (tgt := 2209) (by decide) ?_
      refine j_permP C (lwp_7 _ _ _ _ _ _ _).symm ?_
      refine j_lv [2, 3, 4, 5, 6, 7] rfl ?_
      exact kk _ w72 w1 f2 g _ _ 0 (by show k + 3 + 0 ≤ k + 9; omega) (by show n + 18 + 0 ≤ n + 75; omega) hP hM O
    · exact absurd (ek.trans hz9) hz10
  · refine j_permP C (lwp_7 _ w72 w8 out outD f g).symm ?_
    refine j_aload_n C dL_law_410 3 rfl rfl ?_
    refine j_aload_n C dL_law_411 1 rfl rfl ?_
    refine j_iload C dL_law_412 6 rfl ?_
    refine j_iconst C dL_law_414 (v := nI 1) kc_i_1 ?_
    refine j_iadd C dL_law_415 (v := nI (i + 1)) (nI_add i 1) ?_
    refine j_sld C rw_ hL (nI_in (by omega) (by omega)) dL_law_416 ?_
    rw [nI_clamp (show i + 1 < 2 ^ 31 by omega)]
    refine j_aload_n C dL_law_417 1 rfl rfl ?_
    refine j_iload C dL_law_418 6 rfl ?_
    refine j_iconst C dL_law_420 (v := nI 2) kc_i_2 ?_
    refine j_iadd C dL_law_421 (v := nI (i + 2)) (nI_add i 2) ?_
    refine j_sld C rw_ hL (nI_in (by omega) (by omega)) dL_law_422 ?_
    rw [nI_clamp (show i + 2 < 2 ^ 31 by omega)]
    refine j_aload_n C dL_law_423 1 rfl rfl ?_
    refine j_iload C dL_law_424 6 rfl ?_
    refine j_iconst C dL_law_426 (v := nI 3) kc_i_3 ?_
    refine j_iadd C dL_law_427 (v := nI (i + 3)) (nI_add i 3) ?_
    refine j_sld C rw_ hL (nI_in (by omega) (by omega)) dL_law_428 ?_
    rw [nI_clamp (show i + 3 < 2 ^ 31 by omega)]
    obtain ⟨fs8, hm8⟩ := MW.mem W8
    refine j_callVMp C rw_ (nA := 3) (As := [.int (sc (i + 1)), .int (sc (i + 2)), .int (sc (i + 3))]) (wc := w8) (n_X8_direction (xl X) (xT X) (sc (i + 1)) (sc (i + 2)) (sc (i + 3)) W8 O) gL_law_X8_direction rfl (by decide +kernel) rfl (by decide) ⟨by show k + 3 + 0 ≤ 601024; omega, by show n + 18 + 0 ≤ 7293034; omega⟩ (lwp_8 _ _ _ _ _ _ _) hm8 (ci := 8) rfl (rest := []) rfl (Nat.le_of_ble_eq_true rfl) dL_law_429 (fun v w1 h => ?_)
    obtain ⟨k10, r2, rfl, hk10, hc10⟩ := h
    refine j_istore C (i := 7) dL_law_432 (by decide) rfl ?_
    refine j_permP C (lwp_8 _ w72 w1 out outD f g).symm ?_
    have ek : k10 = k9 := hk10.trans hk9.symm
    rcases hc10 with ⟨hz10, hr2, hM⟩ | ⟨hz10, hM⟩
    · exact absurd (ek ▸ hz10) hz9
    · refine j_aload_n C dL_law_434 4 rfl rfl ?_
      refine j_thrown C hM (lwp_8 _ _ _ _ _ _ _) (by decide) (by show k + 3 + 0 ≤ 601024; omega) (by show n + 18 + 0 ≤ 7293034; omega) dL_law_435 ?_
      refine j_iload C dL_law_438 1 rfl ?_
      refine j_icmp_eq C dL_law_440 (tgt := 445) (by decide) (fun _ => ?_) (fun e => absurd (congrArg nI ek) e)
      refine j_iload C dL_law_445 1 rfl ?_
      have hb : k9 ≤ 3 := by rw [hk9]; unfold kf_direction; (repeat' split) <;> omega
      refine j_if_ne C dL_law_447 (tgt := 462) (by decide) (fun _ => ?_) (fun e => absurd ((nI_eq (show k9 < 2 ^ 31 by omega) (show 0 < 2 ^ 31 by decide)).mp e) hz9)
      refine j_goto C dL_law_462 (tgt := 2209) (by decide) ?_
      refine j_lv [2, 3, 4, 5, 6, 7] rfl ?_
      exact kk _ w72 w1 f g _ _ k10 (by show k + 3 + 0 ≤ k + 9; omega) (by show n + 18 + 0 ≤ n + 75; omega) hP hM O
set_option maxHeartbeats 4000000 in
theorem law_c_cosine {X : jj_X} (C : jj_C X cL_law RL wsL_law room_1 9 ret) (rw_ : jj_RW X) (hlS : (xl X).stackTraces = false) (hZ : jZ (xA X) (xs X) (xs X).heap) {b L : Nat} {sc : Nat → Int32} (hL : jj_L X b L sc) (hLL : L ≤ 2560) {h7 h8 out outD i k n k8 : Nat} {s : sT} {w7 w8 : va_W} {f : Nat → Int64} {g : Nat → UInt64} (hi : i + 5 ≤ L) (hk : k + 9 ≤ 601024) (hn : n + 75 ≤ 7293034) (W7 : PW (xT X) h7 s w7) (W8 : MW (xT X) h8 k8 s w8) (O : okS s) (kk : ∀ (s2 : sT) (w72 w82 : va_W) (f2 : Nat → Int64) (g2 : Nat → UInt64) (k2 n2 k82 : Nat), k2 ≤ k + 9 → n2 ≤ n + 75 → PW (xT X) h7 s2 w72 → MW (xT X) h8 k82 s2 w82 → okS s2 → jj X k2 n2 2209 (lvL b h7 h8 out outD i) [] (lwW (xT X) w72 w82 out outD f2 g2)) : jj X k n 521 (lvL b h7 h8 out outD i) [] (lwW (xT X) w7 w8 out outD f g) := by
  obtain ⟨⟨ac, ap, ash, an, aob, arq⟩, cn, M, S⟩ := s
  refine j_aload_n C dL_law_521 1 rfl rfl ?_
  refine j_aload_n C dL_law_522 0 rfl rfl ?_
  refine j_iload C dL_law_523 5 rfl ?_
  refine j_iconst C dL_law_525 (v := nI 1) kc_i_1 ?_
  refine j_iadd C dL_law_526 (v := nI (i + 1)) (nI_add i 1) ?_
  refine j_sld C rw_ hL (nI_in (by omega) (by omega)) dL_law_527 ?_
  rw [nI_clamp (show i + 1 < 2 ^ 31 by omega)]
  refine j_aload_n C dL_law_528 0 rfl rfl ?_
  refine j_iload C dL_law_529 5 rfl ?_
  refine j_iconst C dL_law_531 (v := nI 2) kc_i_2 ?_
  refine j_iadd C dL_law_532 (v := nI (i + 2)) (nI_add i 2) ?_
  refine j_sld C rw_ hL (nI_in (by omega) (by omega)) dL_law_533 ?_
  rw [nI_clamp (show i + 2 < 2 ^ 31 by omega)]
  refine j_aload_n C dL_law_534 0 rfl rfl ?_
  refine j_iload C dL_law_535 5 rfl ?_
  refine j_iconst C dL_law_537 (v := nI 3) kc_i_3 ?_
  refine j_iadd C dL_law_538 (v := nI (i + 3)) (nI_add i 3) ?_
  refine j_sld C rw_ hL (nI_in (by omega) (by omega)) dL_law_539 ?_
  rw [nI_clamp (show i + 3 < 2 ^ 31 by omega)]
  refine j_aload C dL_law_540 4 rfl ?_
  refine j_callSWp C rw_ hZ (nA := 5) (As := [.ref h7, .int (sc (i + 1)), .int (sc (i + 2)), .int (sc (i + 3)), .ref outD]) (c_L_cosine (xl X) (xT X) hlS (out := outD) (f := g) (sc (i + 1)) (sc (i + 2)) (sc (i + 3)) W7 O) gL_law_L_cosine rfl (by decide +kernel) rfl (by decide) ⟨by show k + 3 ≤ 601024; omega, by show n + 18 ≤ 7293034; omega⟩ (lwp_D _ _ _ _ _ _ _) (rest := []) rfl (Nat.le_of_ble_eq_true rfl) dL_law_542 (fun v w1 h => ?_)
  obtain ⟨k9, rfl, hk9, hc9⟩ := h
  refine j_istore C (i := 6) dL_law_545 (by decide) rfl ?_
  rcases hc9 with ⟨hz9, r, w72, f2, hr, hP, hf2, rfl⟩ | ⟨hz9, w72, hP, rfl⟩
  · refine j_permP C (lwp_D _ w72 w8 out outD f f2).symm ?_
    refine j_aload_n C dL_law_547 3 rfl rfl ?_
    refine j_aload_n C dL_law_548 1 rfl rfl ?_
    refine j_iload C dL_law_549 6 rfl ?_
    refine j_iconst C dL_law_551 (v := nI 1) kc_i_1 ?_
    refine j_iadd C dL_law_552 (v := nI (i + 1)) (nI_add i 1) ?_
    refine j_sld C rw_ hL (nI_in (by omega) (by omega)) dL_law_553 ?_
    rw [nI_clamp (show i + 1 < 2 ^ 31 by omega)]
    refine j_aload_n C dL_law_554 1 rfl rfl ?_
    refine j_iload C dL_law_555 6 rfl ?_
    refine j_iconst C dL_law_557 (v := nI 2) kc_i_2 ?_
    refine j_iadd C dL_law_558 (v := nI (i + 2)) (nI_add i 2) ?_
    refine j_sld C rw_ hL (nI_in (by omega) (by omega)) dL_law_559 ?_
    rw [nI_clamp (show i + 2 < 2 ^ 31 by omega)]
    refine j_aload_n C dL_law_560 1 rfl rfl ?_
    refine j_iload C dL_law_561 6 rfl ?_
    refine j_iconst C dL_law_563 (v := nI 3) kc_i_3 ?_
    refine j_iadd C dL_law_564 (v := nI (i + 3)) (nI_add i 3) ?_
    refine j_sld C rw_ hL (nI_in (by omega) (by omega)) dL_law_565 ?_
    rw [nI_clamp (show i + 3 < 2 ^ 31 by omega)]
    obtain ⟨fs8, hm8⟩ := MW.mem W8
    refine j_callVMp C rw_ (nA := 3) (As := [.int (sc (i + 1)), .int (sc (i + 2)), .int (sc (i + 3))]) (wc := w8) (n_X8_cosine (xl X) (xT X) (sc (i + 1)) (sc (i + 2)) (sc (i + 3)) W8 O) gL_law_X8_cosine rfl (by decide +kernel) rfl (by decide) ⟨by show k + 3 + 0 ≤ 601024; omega, by show n + 18 + 0 ≤ 7293034; omega⟩ (lwp_8 _ _ _ _ _ _ _) hm8 (ci := 8) rfl (rest := []) rfl (Nat.le_of_ble_eq_true rfl) dL_law_566 (fun v w1 h => ?_)
    obtain ⟨k10, r2, rfl, hk10, hc10⟩ := h
    refine j_dstore C (i := 7) dL_law_569 (by decide) rfl ?_
    refine j_permP C (lwp_8 _ w72 w1 out outD f f2).symm ?_
    have ek : k10 = k9 := hk10.trans hk9.symm
    rcases hc10 with ⟨hz10, hr2, hM⟩ | ⟨hz10, hM⟩
    · refine j_aload_n C dL_law_571 4 rfl rfl ?_
      refine j_thrown C hM (lwp_8 _ _ _ _ _ _ _) (by decide) (by show k + 3 + 0 ≤ 601024; omega) (by show n + 18 + 0 ≤ 7293034; omega) dL_law_572 ?_
      refine j_iload C dL_law_575 1 rfl ?_
      refine j_icmp_eq C dL_law_577 (tgt := 582) (by decide) (fun _ => ?_) (fun e => absurd (congrArg nI (hz10.symm.trans ek)) e)
      refine j_iload C dL_law_582 1 rfl ?_
      have er := ru_cosine hr hr2
      subst er
      refine j_if_ne C dL_law_584 (tgt := 619) (by decide) (fun e => absurd (by rw [hz9]; rfl) e) (fun _ => ?_)
      refine j_permP C (lwp_D _ _ _ _ _ _ _) ?_
      refine j_aload C dL_law_587 6 rfl ?_
      refine j_iconst C dL_law_589 (v := nI 0) kc_i_0 ?_
      refine j_daloadN C 0 rfl 0 rfl (by decide) (by decide) dL_law_590 ?_
      refine j_dload C dL_law_591 0 rfl ?_
      refine j_dcmp C dL_law_593 (v := Op.cmpValue (FP.dcmp r r) .l) (by rw [hf2]) ?_
      refine j_if_eq C dL_law_594 (tgt := 619) (by decide) (fun _ => ?_) (fun e0 => ?_)
      · skip
        refine j_goto C dL_law_619 (tgt := 2209) (by decide) ?_
        refine j_permP C (lwp_D _ _ _ _ _ _ _).symm ?_
        refine j_lv [2, 3, 4, 5, 6, 7] rfl ?_
        exact kk _ w72 w1 f f2 _ _ 0 (by show k + 3 + 0 ≤ k + 9; omega) (by show n + 18 + 0 ≤ n + 75; omega) hP hM O
      · skip
        refine j_aload C dL_law_597 6 rfl ?_
        refine j_iconst C dL_law_599 (v := nI 0) kc_i_0 ?_
        refine j_daloadN C 0 rfl 0 rfl (by decide) (by decide) dL_law_600 ?_
        refine j_aload C dL_law_601 6 rfl ?_
        refine j_iconst C dL_law_603 (v := nI 0) kc_i_0 ?_
        refine j_daloadN C 0 rfl 0 rfl (by decide) (by decide) dL_law_604 ?_
        refine j_dcmp C dL_law_605 (v := Op.cmpValue (FP.dcmp r r) .l) (by rw [hf2]) ?_
        refine j_if_eq C dL_law_606 (tgt := 617) (by decide) (fun e1 => absurd e1 e0) (fun _ => ?_)
        refine j_dload C dL_law_609 0 rfl ?_
        refine j_dload C dL_law_611 0 rfl ?_
        refine j_dcmp C dL_law_613 (v := Op.cmpValue (FP.dcmp r r) .l) rfl ?_
        refine j_if_ne C dL_law_614 (tgt := 619) (by decide) (fun _ => ?_) (fun e1 => absurd e1 e0)
        refine j_goto C dL_law_619 (tgt := 2209) (by decide) ?_
        refine j_permP C (lwp_D _ _ _ _ _ _ _).symm ?_
        refine j_lv [2, 3, 4, 5, 6, 7] rfl ?_
        exact kk _ w72 w1 f f2 _ _ 0 (by show k + 3 + 0 ≤ k + 9; omega) (by show n + 18 + 0 ≤ n + 75; omega) hP hM O
    · exact absurd (ek.trans hz9) hz10
  · refine j_permP C (lwp_D _ w72 w8 out outD f g).symm ?_
    refine j_aload_n C dL_law_547 3 rfl rfl ?_
    refine j_aload_n C dL_law_548 1 rfl rfl ?_
    refine j_iload C dL_law_549 6 rfl ?_
    refine j_iconst C dL_law_551 (v := nI 1) kc_i_1 ?_
    refine j_iadd C dL_law_552 (v := nI (i + 1)) (nI_add i 1) ?_
    refine j_sld C rw_ hL (nI_in (by omega) (by omega)) dL_law_553 ?_
    rw [nI_clamp (show i + 1 < 2 ^ 31 by omega)]
    refine j_aload_n C dL_law_554 1 rfl rfl ?_
    refine j_iload C dL_law_555 6 rfl ?_
    refine j_iconst C dL_law_557 (v := nI 2) kc_i_2 ?_
    refine j_iadd C dL_law_558 (v := nI (i + 2)) (nI_add i 2) ?_
    refine j_sld C rw_ hL (nI_in (by omega) (by omega)) dL_law_559 ?_
    rw [nI_clamp (show i + 2 < 2 ^ 31 by omega)]
    refine j_aload_n C dL_law_560 1 rfl rfl ?_
    refine j_iload C dL_law_561 6 rfl ?_
    refine j_iconst C dL_law_563 (v := nI 3) kc_i_3 ?_
    refine j_iadd C dL_law_564 (v := nI (i + 3)) (nI_add i 3) ?_
    refine j_sld C rw_ hL (nI_in (by omega) (by omega)) dL_law_565 ?_
    rw [nI_clamp (show i + 3 < 2 ^ 31 by omega)]
    obtain ⟨fs8, hm8⟩ := MW.mem W8
    refine j_callVMp C rw_ (nA := 3) (As := [.int (sc (i + 1)), .int (sc (i + 2)), .int (sc (i + 3))]) (wc := w8) (n_X8_cosine (xl X) (xT X) (sc (i + 1)) (sc (i + 2)) (sc (i + 3)) W8 O) gL_law_X8_cosine rfl (by decide +kernel) rfl (by decide) ⟨by show k + 3 + 0 ≤ 601024; omega, by show n + 18 + 0 ≤ 7293034; omega⟩ (lwp_8 _ _ _ _ _ _ _) hm8 (ci := 8) rfl (rest := []) rfl (Nat.le_of_ble_eq_true rfl) dL_law_566 (fun v w1 h => ?_)
    obtain ⟨k10, r2, rfl, hk10, hc10⟩ := h
    refine j_dstore C (i := 7) dL_law_569 (by decide) rfl ?_
    refine j_permP C (lwp_8 _ w72 w1 out outD f g).symm ?_
    have ek : k10 = k9 := hk10.trans hk9.symm
    rcases hc10 with ⟨hz10, hr2, hM⟩ | ⟨hz10, hM⟩
    · exact absurd (ek ▸ hz10) hz9
    · refine j_aload_n C dL_law_571 4 rfl rfl ?_
      refine j_thrown C hM (lwp_8 _ _ _ _ _ _ _) (by decide) (by show k + 3 + 0 ≤ 601024; omega) (by show n + 18 + 0 ≤ 7293034; omega) dL_law_572 ?_
      refine j_iload C dL_law_575 1 rfl ?_
      refine j_icmp_eq C dL_law_577 (tgt := 582) (by decide) (fun _ => ?_) (fun e => absurd (congrArg nI ek) e)
      refine j_iload C dL_law_582 1 rfl ?_
      have hb : k9 ≤ 3 := by rw [hk9]; unfold kf_cosine; (repeat' split) <;> omega
      refine j_if_ne C dL_law_584 (tgt := 619) (by decide) (fun _ => ?_) (fun e => absurd ((nI_eq (show k9 < 2 ^ 31 by omega) (show 0 < 2 ^ 31 by decide)).mp e) hz9)
      refine j_goto C dL_law_619 (tgt := 2209) (by decide) ?_
      refine j_lv [2, 3, 4, 5, 6, 7] rfl ?_
      exact kk _ w72 w1 f g _ _ k10 (by show k + 3 + 0 ≤ k + 9; omega) (by show n + 18 + 0 ≤ n + 75; omega) hP hM O
set_option maxHeartbeats 4000000 in
theorem law_c_isBright {X : jj_X} (C : jj_C X cL_law RL wsL_law room_1 9 ret) (rw_ : jj_RW X) (hlS : (xl X).stackTraces = false) (hZ : jZ (xA X) (xs X) (xs X).heap) {b L : Nat} {sc : Nat → Int32} (hL : jj_L X b L sc) (hLL : L ≤ 2560) {h7 h8 out outD i k n k8 : Nat} {s : sT} {w7 w8 : va_W} {f : Nat → Int64} {g : Nat → UInt64} (hi : i + 5 ≤ L) (hk : k + 9 ≤ 601024) (hn : n + 75 ≤ 7293034) (W7 : PW (xT X) h7 s w7) (W8 : MW (xT X) h8 k8 s w8) (O : okS s) (kk : ∀ (s2 : sT) (w72 w82 : va_W) (f2 : Nat → Int64) (g2 : Nat → UInt64) (k2 n2 k82 : Nat), k2 ≤ k + 9 → n2 ≤ n + 75 → PW (xT X) h7 s2 w72 → MW (xT X) h8 k82 s2 w82 → okS s2 → jj X k2 n2 2209 (lvL b h7 h8 out outD i) [] (lwW (xT X) w72 w82 out outD f2 g2)) : jj X k n 622 (lvL b h7 h8 out outD i) [] (lwW (xT X) w7 w8 out outD f g) := by
  obtain ⟨⟨ac, ap, ash, an, aob, arq⟩, cn, M, S⟩ := s
  refine j_aload_n C dL_law_622 1 rfl rfl ?_
  refine j_aload_n C dL_law_623 0 rfl rfl ?_
  refine j_iload C dL_law_624 5 rfl ?_
  refine j_iconst C dL_law_626 (v := nI 1) kc_i_1 ?_
  refine j_iadd C dL_law_627 (v := nI (i + 1)) (nI_add i 1) ?_
  refine j_sld C rw_ hL (nI_in (by omega) (by omega)) dL_law_628 ?_
  rw [nI_clamp (show i + 1 < 2 ^ 31 by omega)]
  refine j_aload_n C dL_law_629 0 rfl rfl ?_
  refine j_iload C dL_law_630 5 rfl ?_
  refine j_iconst C dL_law_632 (v := nI 2) kc_i_2 ?_
  refine j_iadd C dL_law_633 (v := nI (i + 2)) (nI_add i 2) ?_
  refine j_sld C rw_ hL (nI_in (by omega) (by omega)) dL_law_634 ?_
  rw [nI_clamp (show i + 2 < 2 ^ 31 by omega)]
  refine j_aload_n C dL_law_635 3 rfl rfl ?_
  refine j_callSWp C rw_ hZ (nA := 4) (As := [.ref h7, .int (sc (i + 1)), .int (sc (i + 2)), .ref out]) (c_L_isBright (xl X) (xT X) hlS (out := out) (f := f) (sc (i + 1)) (sc (i + 2)) W7 O) gL_law_L_isBright rfl (by decide +kernel) rfl (by decide) ⟨by show k + 2 ≤ 601024; omega, by show n + 12 ≤ 7293034; omega⟩ (lwp_7 _ _ _ _ _ _ _) (rest := []) rfl (Nat.le_of_ble_eq_true rfl) dL_law_636 (fun v w1 h => ?_)
  obtain ⟨k9, rfl, hk9, hc9⟩ := h
  refine j_istore C (i := 6) dL_law_639 (by decide) rfl ?_
  rcases hc9 with ⟨hz9, r, w72, f2, hr, hP, hf2, rfl⟩ | ⟨hz9, w72, hP, rfl⟩
  · refine j_permP C (lwp_7 _ w72 w8 out outD f2 g).symm ?_
    refine j_aload_n C dL_law_641 3 rfl rfl ?_
    refine j_aload_n C dL_law_642 1 rfl rfl ?_
    refine j_iload C dL_law_643 6 rfl ?_
    refine j_iconst C dL_law_645 (v := nI 1) kc_i_1 ?_
    refine j_iadd C dL_law_646 (v := nI (i + 1)) (nI_add i 1) ?_
    refine j_sld C rw_ hL (nI_in (by omega) (by omega)) dL_law_647 ?_
    rw [nI_clamp (show i + 1 < 2 ^ 31 by omega)]
    refine j_aload_n C dL_law_648 1 rfl rfl ?_
    refine j_iload C dL_law_649 6 rfl ?_
    refine j_iconst C dL_law_651 (v := nI 2) kc_i_2 ?_
    refine j_iadd C dL_law_652 (v := nI (i + 2)) (nI_add i 2) ?_
    refine j_sld C rw_ hL (nI_in (by omega) (by omega)) dL_law_653 ?_
    rw [nI_clamp (show i + 2 < 2 ^ 31 by omega)]
    obtain ⟨fs8, hm8⟩ := MW.mem W8
    refine j_callVMp C rw_ (nA := 2) (As := [.int (sc (i + 1)), .int (sc (i + 2))]) (wc := w8) (n_X8_isBright (xl X) (xT X) (sc (i + 1)) (sc (i + 2)) W8 O) gL_law_X8_isBright rfl (by decide +kernel) rfl (by decide) ⟨by show k + 2 + 0 ≤ 601024; omega, by show n + 12 + 0 ≤ 7293034; omega⟩ (lwp_8 _ _ _ _ _ _ _) hm8 (ci := 8) rfl (rest := []) rfl (Nat.le_of_ble_eq_true rfl) dL_law_654 (fun v w1 h => ?_)
    obtain ⟨k10, r2, rfl, hk10, hc10⟩ := h
    refine j_istore C (i := 7) dL_law_657 (by decide) rfl ?_
    refine j_permP C (lwp_8 _ w72 w1 out outD f2 g).symm ?_
    have ek : k10 = k9 := hk10.trans hk9.symm
    rcases hc10 with ⟨hz10, hr2, hM⟩ | ⟨hz10, hM⟩
    · refine j_aload_n C dL_law_659 4 rfl rfl ?_
      refine j_thrown C hM (lwp_8 _ _ _ _ _ _ _) (by decide) (by show k + 2 + 0 ≤ 601024; omega) (by show n + 12 + 0 ≤ 7293034; omega) dL_law_660 ?_
      refine j_iload C dL_law_663 1 rfl ?_
      refine j_icmp_eq C dL_law_665 (tgt := 670) (by decide) (fun _ => ?_) (fun e => absurd (congrArg nI (hz10.symm.trans ek)) e)
      refine j_iload C dL_law_670 1 rfl ?_
      have er := ru_isBright hr hr2
      subst er
      refine j_if_ne C dL_law_672 (tgt := 694) (by decide) (fun e => absurd (by rw [hz9]; rfl) e) (fun _ => ?_)
      refine j_permP C (lwp_7 _ _ _ _ _ _ _) ?_
      refine j_aload_n C dL_law_675 5 rfl rfl ?_
      refine j_iconst C dL_law_676 (v := nI 0) kc_i_0 ?_
      refine j_laloadN C 0 rfl 0 rfl (by decide) (by decide) dL_law_677 ?_
      refine j_iload C dL_law_678 0 rfl ?_
      have e01 : r = 0 ∨ r = 1 := by
        have h01 : r = bI (br aob (xN (sc (i + 1))) (xN (sc (i + 2)))) := hr
        rw [h01]; cases br aob (xN (sc (i + 1))) (xN (sc (i + 2)))
        · exact Or.inl rfl
        · exact Or.inr rfl
      refine j_if_eq C dL_law_680 (tgt := 687) (by decide) (fun e0 => ?_) (fun e0 => ?_)
      · skip
        refine j_lconst C dL_law_687 (v := 0) (by decide +kernel) ?_
        refine j_lcmp C dL_law_688 ?_
        refine j_if_eq C dL_law_689 (tgt := 694) (by decide) (fun _ => ?_) (fun e => absurd (by rw [hf2, e0]; decide +kernel) e)
        refine j_goto C dL_law_694 (tgt := 2209) (by decide) ?_
        refine j_permP C (lwp_7 _ _ _ _ _ _ _).symm ?_
        refine j_lv [2, 3, 4, 5, 6, 7] rfl ?_
        exact kk _ w72 w1 f2 g _ _ 0 (by show k + 2 + 0 ≤ k + 9; omega) (by show n + 12 + 0 ≤ n + 75; omega) hP hM O
      · skip
        have e1 : r = 1 := e01.resolve_left e0
        refine j_lconst C dL_law_683 (v := 1) (by decide +kernel) ?_
        refine j_goto C dL_law_684 (tgt := 688) (by decide) ?_
        refine j_lcmp C dL_law_688 ?_
        refine j_if_eq C dL_law_689 (tgt := 694) (by decide) (fun _ => ?_) (fun e => absurd (by rw [hf2, e1]; decide +kernel) e)
        refine j_goto C dL_law_694 (tgt := 2209) (by decide) ?_
        refine j_permP C (lwp_7 _ _ _ _ _ _ _).symm ?_
        refine j_lv [2, 3, 4, 5, 6, 7] rfl ?_
        exact kk _ w72 w1 f2 g _ _ 0 (by show k + 2 + 0 ≤ k + 9; omega) (by show n + 12 + 0 ≤ n + 75; omega) hP hM O
    · exact absurd (ek.trans hz9) hz10
  · refine j_permP C (lwp_7 _ w72 w8 out outD f g).symm ?_
    refine j_aload_n C dL_law_641 3 rfl rfl ?_
    refine j_aload_n C dL_law_642 1 rfl rfl ?_
    refine j_iload C dL_law_643 6 rfl ?_
    refine j_iconst C dL_law_645 (v := nI 1) kc_i_1 ?_
    refine j_iadd C dL_law_646 (v := nI (i + 1)) (nI_add i 1) ?_
    refine j_sld C rw_ hL (nI_in (by omega) (by omega)) dL_law_647 ?_
    rw [nI_clamp (show i + 1 < 2 ^ 31 by omega)]
    refine j_aload_n C dL_law_648 1 rfl rfl ?_
    refine j_iload C dL_law_649 6 rfl ?_
    refine j_iconst C dL_law_651 (v := nI 2) kc_i_2 ?_
    refine j_iadd C dL_law_652 (v := nI (i + 2)) (nI_add i 2) ?_
    refine j_sld C rw_ hL (nI_in (by omega) (by omega)) dL_law_653 ?_
    rw [nI_clamp (show i + 2 < 2 ^ 31 by omega)]
    obtain ⟨fs8, hm8⟩ := MW.mem W8
    refine j_callVMp C rw_ (nA := 2) (As := [.int (sc (i + 1)), .int (sc (i + 2))]) (wc := w8) (n_X8_isBright (xl X) (xT X) (sc (i + 1)) (sc (i + 2)) W8 O) gL_law_X8_isBright rfl (by decide +kernel) rfl (by decide) ⟨by show k + 2 + 0 ≤ 601024; omega, by show n + 12 + 0 ≤ 7293034; omega⟩ (lwp_8 _ _ _ _ _ _ _) hm8 (ci := 8) rfl (rest := []) rfl (Nat.le_of_ble_eq_true rfl) dL_law_654 (fun v w1 h => ?_)
    obtain ⟨k10, r2, rfl, hk10, hc10⟩ := h
    refine j_istore C (i := 7) dL_law_657 (by decide) rfl ?_
    refine j_permP C (lwp_8 _ w72 w1 out outD f g).symm ?_
    have ek : k10 = k9 := hk10.trans hk9.symm
    rcases hc10 with ⟨hz10, hr2, hM⟩ | ⟨hz10, hM⟩
    · exact absurd (ek ▸ hz10) hz9
    · refine j_aload_n C dL_law_659 4 rfl rfl ?_
      refine j_thrown C hM (lwp_8 _ _ _ _ _ _ _) (by decide) (by show k + 2 + 0 ≤ 601024; omega) (by show n + 12 + 0 ≤ 7293034; omega) dL_law_660 ?_
      refine j_iload C dL_law_663 1 rfl ?_
      refine j_icmp_eq C dL_law_665 (tgt := 670) (by decide) (fun _ => ?_) (fun e => absurd (congrArg nI ek) e)
      refine j_iload C dL_law_670 1 rfl ?_
      have hb : k9 ≤ 3 := by rw [hk9]; unfold kf_isBright; (repeat' split) <;> omega
      refine j_if_ne C dL_law_672 (tgt := 694) (by decide) (fun _ => ?_) (fun e => absurd ((nI_eq (show k9 < 2 ^ 31 by omega) (show 0 < 2 ^ 31 by decide)).mp e) hz9)
      refine j_goto C dL_law_694 (tgt := 2209) (by decide) ?_
      refine j_lv [2, 3, 4, 5, 6, 7] rfl ?_
      exact kk _ w72 w1 f g _ _ k10 (by show k + 2 + 0 ≤ k + 9; omega) (by show n + 12 + 0 ≤ n + 75; omega) hP hM O
set_option maxHeartbeats 4000000 in
theorem law_c_clock {X : jj_X} (C : jj_C X cL_law RL wsL_law room_1 9 ret) (rw_ : jj_RW X) (hlS : (xl X).stackTraces = false) (hZ : jZ (xA X) (xs X) (xs X).heap) {b L : Nat} {sc : Nat → Int32} (hL : jj_L X b L sc) (hLL : L ≤ 2560) {h7 h8 out outD i k n k8 : Nat} {s : sT} {w7 w8 : va_W} {f : Nat → Int64} {g : Nat → UInt64} (hi : i + 5 ≤ L) (hk : k + 9 ≤ 601024) (hn : n + 75 ≤ 7293034) (W7 : PW (xT X) h7 s w7) (W8 : MW (xT X) h8 k8 s w8) (O : okS s) (kk : ∀ (s2 : sT) (w72 w82 : va_W) (f2 : Nat → Int64) (g2 : Nat → UInt64) (k2 n2 k82 : Nat), k2 ≤ k + 9 → n2 ≤ n + 75 → PW (xT X) h7 s2 w72 → MW (xT X) h8 k82 s2 w82 → okS s2 → jj X k2 n2 2209 (lvL b h7 h8 out outD i) [] (lwW (xT X) w72 w82 out outD f2 g2)) : jj X k n 821 (lvL b h7 h8 out outD i) [] (lwW (xT X) w7 w8 out outD f g) := by
  obtain ⟨⟨ac, ap, ash, an, aob, arq⟩, cn, M, S⟩ := s
  refine j_aload_n C dL_law_821 1 rfl rfl ?_
  obtain ⟨fs7, hm7⟩ := PW.mem W7
  obtain ⟨fs8, hm8⟩ := MW.mem W8
  refine j_callVMp C rw_ (nA := 0) (As := []) (wc := w7) (k_X7_clock (xl X) (xT X) hlS  W7 O) gL_law_X7_clock rfl (by decide +kernel) rfl (by decide) ⟨by show k + 0 ≤ 601024; omega, by show n + 0 ≤ 7293034; omega⟩ (List.Perm.refl _) hm7 (ci := 7) rfl (rest := []) rfl (Nat.le_of_ble_eq_true rfl) dL_law_822 (fun v w1 h => ?_)
  obtain ⟨rfl, hP⟩ := h
  refine j_aload_n C dL_law_825 2 rfl rfl ?_
  refine j_callVMp C rw_ (nA := 0) (As := []) (wc := w8) (n_X8_clock (xl X) (xT X)  W8 O) gL_law_X8_clock rfl (by decide +kernel) rfl (by decide) ⟨by show k + 0 + 0 ≤ 601024; omega, by show n + 0 + 0 ≤ 7293034; omega⟩ (lwp_8 _ _ _ _ _ _ _) hm8 (ci := 8) rfl (rest := [.int (nI ac)]) rfl (Nat.le_of_ble_eq_true rfl) dL_law_826 (fun v w2 h => ?_)
  obtain ⟨rfl, hM⟩ := h
  refine j_icmp_eq C dL_law_829 (tgt := 2209) (by decide) (fun _ => ?_) (fun e => absurd rfl e)
  refine j_permP C (lwp_8 _ w1 w2 out outD f g).symm ?_
  exact kk _ w1 w2 f g _ _ 0 (by show k + 0 + 0 ≤ k + 9; omega) (by show n + 0 + 0 ≤ n + 75; omega) hP hM O
set_option maxHeartbeats 4000000 in
theorem law_c_position {X : jj_X} (C : jj_C X cL_law RL wsL_law room_1 9 ret) (rw_ : jj_RW X) (hlS : (xl X).stackTraces = false) (hZ : jZ (xA X) (xs X) (xs X).heap) {b L : Nat} {sc : Nat → Int32} (hL : jj_L X b L sc) (hLL : L ≤ 2560) {h7 h8 out outD i k n k8 : Nat} {s : sT} {w7 w8 : va_W} {f : Nat → Int64} {g : Nat → UInt64} (hi : i + 5 ≤ L) (hk : k + 9 ≤ 601024) (hn : n + 75 ≤ 7293034) (W7 : PW (xT X) h7 s w7) (W8 : MW (xT X) h8 k8 s w8) (O : okS s) (kk : ∀ (s2 : sT) (w72 w82 : va_W) (f2 : Nat → Int64) (g2 : Nat → UInt64) (k2 n2 k82 : Nat), k2 ≤ k + 9 → n2 ≤ n + 75 → PW (xT X) h7 s2 w72 → MW (xT X) h8 k82 s2 w82 → okS s2 → jj X k2 n2 2209 (lvL b h7 h8 out outD i) [] (lwW (xT X) w72 w82 out outD f2 g2)) : jj X k n 834 (lvL b h7 h8 out outD i) [] (lwW (xT X) w7 w8 out outD f g) := by
  obtain ⟨⟨ac, ap, ash, an, aob, arq⟩, cn, M, S⟩ := s
  refine j_aload_n C dL_law_834 1 rfl rfl ?_
  obtain ⟨fs7, hm7⟩ := PW.mem W7
  obtain ⟨fs8, hm8⟩ := MW.mem W8
  refine j_callVMp C rw_ (nA := 0) (As := []) (wc := w7) (k_X7_position (xl X) (xT X) hlS  W7 O) gL_law_X7_position rfl (by decide +kernel) rfl (by decide) ⟨by show k + 0 ≤ 601024; omega, by show n + 0 ≤ 7293034; omega⟩ (List.Perm.refl _) hm7 (ci := 7) rfl (rest := []) rfl (Nat.le_of_ble_eq_true rfl) dL_law_835 (fun v w1 h => ?_)
  obtain ⟨rfl, hP⟩ := h
  refine j_aload_n C dL_law_838 2 rfl rfl ?_
  refine j_callVMp C rw_ (nA := 0) (As := []) (wc := w8) (n_X8_position (xl X) (xT X)  W8 O) gL_law_X8_position rfl (by decide +kernel) rfl (by decide) ⟨by show k + 0 + 0 ≤ 601024; omega, by show n + 0 + 0 ≤ 7293034; omega⟩ (lwp_8 _ _ _ _ _ _ _) hm8 (ci := 8) rfl (rest := [.int (nI ap)]) rfl (Nat.le_of_ble_eq_true rfl) dL_law_839 (fun v w2 h => ?_)
  obtain ⟨rfl, hM⟩ := h
  refine j_icmp_eq C dL_law_842 (tgt := 2209) (by decide) (fun _ => ?_) (fun e => absurd rfl e)
  refine j_permP C (lwp_8 _ w1 w2 out outD f g).symm ?_
  exact kk _ w1 w2 f g _ _ 0 (by show k + 0 + 0 ≤ k + 9; omega) (by show n + 0 + 0 ≤ n + 75; omega) hP hM O
set_option maxHeartbeats 4000000 in
theorem law_c_isClosed {X : jj_X} (C : jj_C X cL_law RL wsL_law room_1 9 ret) (rw_ : jj_RW X) (hlS : (xl X).stackTraces = false) (hZ : jZ (xA X) (xs X) (xs X).heap) {b L : Nat} {sc : Nat → Int32} (hL : jj_L X b L sc) (hLL : L ≤ 2560) {h7 h8 out outD i k n k8 : Nat} {s : sT} {w7 w8 : va_W} {f : Nat → Int64} {g : Nat → UInt64} (hi : i + 5 ≤ L) (hk : k + 9 ≤ 601024) (hn : n + 75 ≤ 7293034) (W7 : PW (xT X) h7 s w7) (W8 : MW (xT X) h8 k8 s w8) (O : okS s) (kk : ∀ (s2 : sT) (w72 w82 : va_W) (f2 : Nat → Int64) (g2 : Nat → UInt64) (k2 n2 k82 : Nat), k2 ≤ k + 9 → n2 ≤ n + 75 → PW (xT X) h7 s2 w72 → MW (xT X) h8 k82 s2 w82 → okS s2 → jj X k2 n2 2209 (lvL b h7 h8 out outD i) [] (lwW (xT X) w72 w82 out outD f2 g2)) : jj X k n 847 (lvL b h7 h8 out outD i) [] (lwW (xT X) w7 w8 out outD f g) := by
  obtain ⟨⟨ac, ap, ash, an, aob, arq⟩, cn, M, S⟩ := s
  refine j_aload_n C dL_law_847 1 rfl rfl ?_
  obtain ⟨fs7, hm7⟩ := PW.mem W7
  obtain ⟨fs8, hm8⟩ := MW.mem W8
  refine j_callVMp C rw_ (nA := 0) (As := []) (wc := w7) (k_X7_isClosed (xl X) (xT X) hlS  W7 O) gL_law_X7_isClosed rfl (by decide +kernel) rfl (by decide) ⟨by show k + 0 ≤ 601024; omega, by show n + 0 ≤ 7293034; omega⟩ (List.Perm.refl _) hm7 (ci := 7) rfl (rest := []) rfl (Nat.le_of_ble_eq_true rfl) dL_law_848 (fun v w1 h => ?_)
  obtain ⟨rfl, hP⟩ := h
  refine j_aload_n C dL_law_851 2 rfl rfl ?_
  refine j_callVMp C rw_ (nA := 0) (As := []) (wc := w8) (n_X8_isClosed (xl X) (xT X)  W8 O) gL_law_X8_isClosed rfl (by decide +kernel) rfl (by decide) ⟨by show k + 0 + 0 ≤ 601024; omega, by show n + 0 + 0 ≤ 7293034; omega⟩ (lwp_8 _ _ _ _ _ _ _) hm8 (ci := 8) rfl (rest := [.int (bI ash)]) rfl (Nat.le_of_ble_eq_true rfl) dL_law_852 (fun v w2 h => ?_)
  obtain ⟨rfl, hM⟩ := h
  refine j_icmp_eq C dL_law_855 (tgt := 2209) (by decide) (fun _ => ?_) (fun e => absurd rfl e)
  refine j_permP C (lwp_8 _ w1 w2 out outD f g).symm ?_
  exact kk _ w1 w2 f g _ _ 0 (by show k + 0 + 0 ≤ k + 9; omega) (by show n + 0 + 0 ≤ n + 75; omega) hP hM O
set_option maxHeartbeats 4000000 in
theorem law_c_requestCount {X : jj_X} (C : jj_C X cL_law RL wsL_law room_1 9 ret) (rw_ : jj_RW X) (hlS : (xl X).stackTraces = false) (hZ : jZ (xA X) (xs X) (xs X).heap) {b L : Nat} {sc : Nat → Int32} (hL : jj_L X b L sc) (hLL : L ≤ 2560) {h7 h8 out outD i k n k8 : Nat} {s : sT} {w7 w8 : va_W} {f : Nat → Int64} {g : Nat → UInt64} (hi : i + 5 ≤ L) (hk : k + 9 ≤ 601024) (hn : n + 75 ≤ 7293034) (W7 : PW (xT X) h7 s w7) (W8 : MW (xT X) h8 k8 s w8) (O : okS s) (kk : ∀ (s2 : sT) (w72 w82 : va_W) (f2 : Nat → Int64) (g2 : Nat → UInt64) (k2 n2 k82 : Nat), k2 ≤ k + 9 → n2 ≤ n + 75 → PW (xT X) h7 s2 w72 → MW (xT X) h8 k82 s2 w82 → okS s2 → jj X k2 n2 2209 (lvL b h7 h8 out outD i) [] (lwW (xT X) w72 w82 out outD f2 g2)) : jj X k n 860 (lvL b h7 h8 out outD i) [] (lwW (xT X) w7 w8 out outD f g) := by
  obtain ⟨⟨ac, ap, ash, an, aob, arq⟩, cn, M, S⟩ := s
  refine j_aload_n C dL_law_860 1 rfl rfl ?_
  obtain ⟨fs7, hm7⟩ := PW.mem W7
  obtain ⟨fs8, hm8⟩ := MW.mem W8
  refine j_callVMp C rw_ (nA := 0) (As := []) (wc := w7) (k_X7_requestCount (xl X) (xT X) hlS  W7 O) gL_law_X7_requestCount rfl (by decide +kernel) rfl (by decide) ⟨by show k + 0 ≤ 601024; omega, by show n + 0 ≤ 7293034; omega⟩ (List.Perm.refl _) hm7 (ci := 7) rfl (rest := []) rfl (Nat.le_of_ble_eq_true rfl) dL_law_861 (fun v w1 h => ?_)
  obtain ⟨rfl, hP⟩ := h
  refine j_aload_n C dL_law_864 2 rfl rfl ?_
  refine j_callVMp C rw_ (nA := 0) (As := []) (wc := w8) (n_X8_requestCount (xl X) (xT X)  W8 O) gL_law_X8_requestCount rfl (by decide +kernel) rfl (by decide) ⟨by show k + 0 + 0 ≤ 601024; omega, by show n + 0 + 0 ≤ 7293034; omega⟩ (lwp_8 _ _ _ _ _ _ _) hm8 (ci := 8) rfl (rest := [.int (nI an)]) rfl (Nat.le_of_ble_eq_true rfl) dL_law_865 (fun v w2 h => ?_)
  obtain ⟨rfl, hM⟩ := h
  refine j_icmp_eq C dL_law_868 (tgt := 2209) (by decide) (fun _ => ?_) (fun e => absurd rfl e)
  refine j_permP C (lwp_8 _ w1 w2 out outD f g).symm ?_
  exact kk _ w1 w2 f g _ _ 0 (by show k + 0 + 0 ≤ k + 9; omega) (by show n + 0 + 0 ≤ n + 75; omega) hP hM O
