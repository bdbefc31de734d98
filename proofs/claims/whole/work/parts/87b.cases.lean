/-! THE LAW (4): the cases -/
set_option maxHeartbeats 4000000 in
theorem law_c_cone {X : jj_X} (C : jj_C X cL_law RL wsL_law room_1 9 ret) (rw_ : jj_RW X) (hlS : (xl X).stackTraces = false) (hZ : jZ (xA X) (xs X) (xs X).heap) {b L : Nat} {sc : Nat → Int32} (hL : jj_L X b L sc) (hLL : L ≤ 2560) {h7 h8 out outD i k n k8 : Nat} {s : sT} {w7 w8 : va_W} {f : Nat → Int64} {g : Nat → UInt64} (hi : i + 5 ≤ L) (hk : k + 9 ≤ 601024) (hn : n + 75 ≤ 7293034) (W7 : PW (xT X) h7 s w7) (W8 : MW (xT X) h8 k8 s w8) (O : okS s) (kk : ∀ (s2 : sT) (w72 w82 : va_W) (f2 : Nat → Int64) (g2 : Nat → UInt64) (k2 n2 k82 : Nat), k2 ≤ k + 9 → n2 ≤ n + 75 → PW (xT X) h7 s2 w72 → MW (xT X) h8 k82 s2 w82 → okS s2 → jj X k2 n2 2209 (lvL b h7 h8 out outD i) [] (lwW (xT X) w72 w82 out outD f2 g2)) : jj X k n 465 (lvL b h7 h8 out outD i) [] (lwW (xT X) w7 w8 out outD f g) := by
  obtain ⟨⟨ac, ap, ash, an, aob, arq⟩, cn, M, S⟩ := s
  refine j_aload_n C dL_law_465 1 rfl rfl ?_
  refine j_aload_n C dL_law_466 0 rfl rfl ?_
  refine j_iload C dL_law_467 5 rfl ?_
  refine j_iconst C dL_law_469 (v := nI 1) kc_i_1 ?_
  refine j_iadd C dL_law_470 (v := nI (i + 1)) (nI_add i 1) ?_
  refine j_sld C rw_ hL (nI_in (by omega) (by omega)) dL_law_471 ?_
  rw [nI_clamp (show i + 1 < 2 ^ 31 by omega)]
  refine j_aload_n C dL_law_472 3 rfl rfl ?_
  refine j_callSWp C rw_ hZ (nA := 3) (As := [.ref h7, .int (sc (i + 1)), .ref out]) (c_L_cone (xl X) (xT X) hlS (out := out) (f := f) (sc (i + 1)) W7 O) gL_law_L_cone rfl (by decide +kernel) rfl (by decide) ⟨by show k + 1 ≤ 601024; omega, by show n + 6 ≤ 7293034; omega⟩ (lwp_7 _ _ _ _ _ _ _) (rest := []) rfl (Nat.le_of_ble_eq_true rfl) dL_law_473 (fun v w1 h => ?_)
  obtain ⟨k9, rfl, hk9, hc9⟩ := h
  refine j_istore C (i := 6) dL_law_476 (by decide) rfl ?_
  rcases hc9 with ⟨hz9, r, w72, f2, hr, hP, hf2, rfl⟩ | ⟨hz9, w72, hP, rfl⟩
  · refine j_permP C (lwp_7 _ w72 w8 out outD f2 g).symm ?_
    refine j_aload_n C dL_law_478 3 rfl rfl ?_
    refine j_aload_n C dL_law_479 1 rfl rfl ?_
    refine j_iload C dL_law_480 6 rfl ?_
    refine j_iconst C dL_law_482 (v := nI 1) kc_i_1 ?_
    refine j_iadd C dL_law_483 (v := nI (i + 1)) (nI_add i 1) ?_
    refine j_sld C rw_ hL (nI_in (by omega) (by omega)) dL_law_484 ?_
    rw [nI_clamp (show i + 1 < 2 ^ 31 by omega)]
    obtain ⟨fs8, hm8⟩ := MW.mem W8
    refine j_callVMp C rw_ (nA := 1) (As := [.int (sc (i + 1))]) (wc := w8) (n_X8_cone (xl X) (xT X) (sc (i + 1)) W8 O) gL_law_X8_cone rfl (by decide +kernel) rfl (by decide) ⟨by show k + 1 + 0 ≤ 601024; omega, by show n + 6 + 0 ≤ 7293034; omega⟩ (lwp_8 _ _ _ _ _ _ _) hm8 (ci := 8) rfl (rest := []) rfl (Nat.le_of_ble_eq_true rfl) dL_law_485 (fun v w1 h => ?_)
    obtain ⟨k10, r2, rfl, hk10, hc10⟩ := h
    refine j_istore C (i := 7) dL_law_488 (by decide) rfl ?_
    refine j_permP C (lwp_8 _ w72 w1 out outD f2 g).symm ?_
    have ek : k10 = k9 := hk10.trans hk9.symm
    rcases hc10 with ⟨hz10, hr2, hM⟩ | ⟨hz10, hM⟩
    · refine j_aload_n C dL_law_490 4 rfl rfl ?_
      refine j_thrown C hM (lwp_8 _ _ _ _ _ _ _) (by decide) (by show k + 1 + 0 ≤ 601024; omega) (by show n + 6 + 0 ≤ 7293034; omega) dL_law_491 ?_
      refine j_iload C dL_law_494 1 rfl ?_
      refine j_icmp_eq C dL_law_496 (tgt := 501) (by decide) (fun _ => ?_) (fun e => absurd (congrArg nI (hz10.symm.trans ek)) e)
      refine j_iload C dL_law_501 1 rfl ?_
      have er := ru_cone hr hr2
      subst er
      refine j_if_ne C dL_law_503 (tgt := 518) (by decide) (fun e => absurd (by rw [hz9]; rfl) e) (fun _ => ?_)
      refine j_permP C (lwp_7 _ _ _ _ _ _ _) ?_
      refine j_aload_n C dL_law_506 5 rfl rfl ?_
      refine j_iconst C dL_law_507 (v := nI 0) kc_i_0 ?_
      refine j_laloadN C 0 rfl 0 rfl (by decide) (by decide) dL_law_508 ?_
      refine j_iload C dL_law_509 0 rfl ?_
      refine j_i2l C dL_law_511 rfl ?_
      refine j_lcmp C dL_law_512 ?_
      refine j_if_eq C dL_law_513 (tgt := 518) (by decide) (fun _ => ?_) (fun e => absurd (by rw [hf2]; exact cmp_self _) e)
      refine j_goto C dL_law_518 (tgt := 2209) (by decide) ?_
      refine j_permP C (lwp_7 _ _ _ _ _ _ _).symm ?_
      refine j_lv [2, 3, 4, 5, 6, 7] rfl ?_
      exact kk _ w72 w1 f2 g _ _ 0 (by show k + 1 + 0 ≤ k + 9; omega) (by show n + 6 + 0 ≤ n + 75; omega) hP hM O
    · exact absurd (ek.trans hz9) hz10
  · refine j_permP C (lwp_7 _ w72 w8 out outD f g).symm ?_
    refine j_aload_n C dL_law_478 3 rfl rfl ?_
    refine j_aload_n C dL_law_479 1 rfl rfl ?_
    refine j_iload C dL_law_480 6 rfl ?_
    refine j_iconst C dL_law_482 (v := nI 1) kc_i_1 ?_
    refine j_iadd C dL_law_483 (v := nI (i + 1)) (nI_add i 1) ?_
    refine j_sld C rw_ hL (nI_in (by omega) (by omega)) dL_law_484 ?_
    rw [nI_clamp (show i + 1 < 2 ^ 31 by omega)]
    obtain ⟨fs8, hm8⟩ := MW.mem W8
    refine j_callVMp C rw_ (nA := 1) (As := [.int (sc (i + 1))]) (wc := w8) (n_X8_cone (xl X) (xT X) (sc (i + 1)) W8 O) gL_law_X8_cone rfl (by decide +kernel) rfl (by decide) ⟨by show k + 1 + 0 ≤ 601024; omega, by show n + 6 + 0 ≤ 7293034; omega⟩ (lwp_8 _ _ _ _ _ _ _) hm8 (ci := 8) rfl (rest := []) rfl (Nat.le_of_ble_eq_true rfl) dL_law_485 (fun v w1 h => ?_)
    obtain ⟨k10, r2, rfl, hk10, hc10⟩ := h
    refine j_istore C (i := 7) dL_law_488 (by decide) rfl ?_
    refine j_permP C (lwp_8 _ w72 w1 out outD f g).symm ?_
    have ek : k10 = k9 := hk10.trans hk9.symm
    rcases hc10 with ⟨hz10, hr2, hM⟩ | ⟨hz10, hM⟩
    · exact absurd (ek ▸ hz10) hz9
    · refine j_aload_n C dL_law_490 4 rfl rfl ?_
      refine j_thrown C hM (lwp_8 _ _ _ _ _ _ _) (by decide) (by show k + 1 + 0 ≤ 601024; omega) (by show n + 6 + 0 ≤ 7293034; omega) dL_law_491 ?_
      refine j_iload C dL_law_494 1 rfl ?_
      refine j_icmp_eq C dL_law_496 (tgt := 501) (by decide) (fun _ => ?_) (fun e => absurd (congrArg nI ek) e)
      refine j_iload C dL_law_501 1 rfl ?_
      have hb : k9 ≤ 3 := by rw [hk9]; unfold kf_cone; (repeat' split) <;> omega
      refine j_if_ne C dL_law_503 (tgt := 518) (by decide) (fun _ => ?_) (fun e => absurd ((nI_eq (show k9 < 2 ^ 31 by omega) (show 0 < 2 ^ 31 by decide)).mp e) hz9)
      refine j_goto C dL_law_518 (tgt := 2209) (by decide) ?_
      refine j_lv [2, 3, 4, 5, 6, 7] rfl ?_
      exact kk _ w72 w1 f g _ _ k10 (by show k + 1 + 0 ≤ k + 9; omega) (by show n + 6 + 0 ≤ n + 75; omega) hP hM O
set_option maxHeartbeats 4000000 in
theorem law_c_brightCells {X : jj_X} (C : jj_C X cL_law RL wsL_law room_1 9 ret) (rw_ : jj_RW X) (hlS : (xl X).stackTraces = false) (hZ : jZ (xA X) (xs X) (xs X).heap) {b L : Nat} {sc : Nat → Int32} (hL : jj_L X b L sc) (hLL : L ≤ 2560) {h7 h8 out outD i k n k8 : Nat} {s : sT} {w7 w8 : va_W} {f : Nat → Int64} {g : Nat → UInt64} (hi : i + 5 ≤ L) (hk : k + 9 ≤ 601024) (hn : n + 75 ≤ 7293034) (W7 : PW (xT X) h7 s w7) (W8 : MW (xT X) h8 k8 s w8) (O : okS s) (kk : ∀ (s2 : sT) (w72 w82 : va_W) (f2 : Nat → Int64) (g2 : Nat → UInt64) (k2 n2 k82 : Nat), k2 ≤ k + 9 → n2 ≤ n + 75 → PW (xT X) h7 s2 w72 → MW (xT X) h8 k82 s2 w82 → okS s2 → jj X k2 n2 2209 (lvL b h7 h8 out outD i) [] (lwW (xT X) w72 w82 out outD f2 g2)) : jj X k n 697 (lvL b h7 h8 out outD i) [] (lwW (xT X) w7 w8 out outD f g) := by
  obtain ⟨⟨ac, ap, ash, an, aob, arq⟩, cn, M, S⟩ := s
  refine j_aload_n C dL_law_697 1 rfl rfl ?_
  refine j_aload_n C dL_law_698 0 rfl rfl ?_
  refine j_iload C dL_law_699 5 rfl ?_
  refine j_iconst C dL_law_701 (v := nI 1) kc_i_1 ?_
  refine j_iadd C dL_law_702 (v := nI (i + 1)) (nI_add i 1) ?_
  refine j_sld C rw_ hL (nI_in (by omega) (by omega)) dL_law_703 ?_
  rw [nI_clamp (show i + 1 < 2 ^ 31 by omega)]
  refine j_aload_n C dL_law_704 3 rfl rfl ?_
  refine j_callSWp C rw_ hZ (nA := 3) (As := [.ref h7, .int (sc (i + 1)), .ref out]) (c_L_brightCells (xl X) (xT X) hlS (out := out) (f := f) (sc (i + 1)) W7 O) gL_law_L_brightCells rfl (by decide +kernel) rfl (by decide) ⟨by show k + 1 ≤ 601024; omega, by show n + 6 ≤ 7293034; omega⟩ (lwp_7 _ _ _ _ _ _ _) (rest := []) rfl (Nat.le_of_ble_eq_true rfl) dL_law_705 (fun v w1 h => ?_)
  obtain ⟨k9, rfl, hk9, hc9⟩ := h
  refine j_istore C (i := 6) dL_law_708 (by decide) rfl ?_
  rcases hc9 with ⟨hz9, r, w72, f2, hr, hP, hf2, rfl⟩ | ⟨hz9, w72, hP, rfl⟩
  · refine j_permP C (lwp_7 _ w72 w8 out outD f2 g).symm ?_
    refine j_aload_n C dL_law_710 3 rfl rfl ?_
    refine j_aload_n C dL_law_711 1 rfl rfl ?_
    refine j_iload C dL_law_712 6 rfl ?_
    refine j_iconst C dL_law_714 (v := nI 1) kc_i_1 ?_
    refine j_iadd C dL_law_715 (v := nI (i + 1)) (nI_add i 1) ?_
    refine j_sld C rw_ hL (nI_in (by omega) (by omega)) dL_law_716 ?_
    rw [nI_clamp (show i + 1 < 2 ^ 31 by omega)]
    obtain ⟨fs8, hm8⟩ := MW.mem W8
    refine j_callVMp C rw_ (nA := 1) (As := [.int (sc (i + 1))]) (wc := w8) (n_X8_brightCells (xl X) (xT X) (sc (i + 1)) W8 O) gL_law_X8_brightCells rfl (by decide +kernel) rfl (by decide) ⟨by show k + 1 + 0 ≤ 601024; omega, by show n + 6 + 0 ≤ 7293034; omega⟩ (lwp_8 _ _ _ _ _ _ _) hm8 (ci := 8) rfl (rest := []) rfl (Nat.le_of_ble_eq_true rfl) dL_law_717 (fun v w1 h => ?_)
    obtain ⟨k10, r2, rfl, hk10, hc10⟩ := h
    refine j_istore C (i := 7) dL_law_720 (by decide) rfl ?_
    refine j_permP C (lwp_8 _ w72 w1 out outD f2 g).symm ?_
    have ek : k10 = k9 := hk10.trans hk9.symm
    rcases hc10 with ⟨hz10, hr2, hM⟩ | ⟨hz10, hM⟩
    · refine j_aload_n C dL_law_722 4 rfl rfl ?_
      refine j_thrown C hM (lwp_8 _ _ _ _ _ _ _) (by decide) (by show k + 1 + 0 ≤ 601024; omega) (by show n + 6 + 0 ≤ 7293034; omega) dL_law_723 ?_
      refine j_iload C dL_law_726 1 rfl ?_
      refine j_icmp_eq C dL_law_728 (tgt := 733) (by decide) (fun _ => ?_) (fun e => absurd (congrArg nI (hz10.symm.trans ek)) e)
      refine j_iload C dL_law_733 1 rfl ?_
      have er := ru_brightCells hr hr2
      subst er
      refine j_if_ne C dL_law_735 (tgt := 750) (by decide) (fun e => absurd (by rw [hz9]; rfl) e) (fun _ => ?_)
      refine j_permP C (lwp_7 _ _ _ _ _ _ _) ?_
      refine j_aload_n C dL_law_738 5 rfl rfl ?_
      refine j_iconst C dL_law_739 (v := nI 0) kc_i_0 ?_
      refine j_laloadN C 0 rfl 0 rfl (by decide) (by decide) dL_law_740 ?_
      refine j_iload C dL_law_741 0 rfl ?_
      refine j_i2l C dL_law_743 rfl ?_
      refine j_lcmp C dL_law_744 ?_
      refine j_if_eq C dL_law_745 (tgt := 750) (by decide) (fun _ => ?_) (fun e => absurd (by rw [hf2]; exact cmp_self _) e)
      refine j_goto C dL_law_750 (tgt := 2209) (by decide) ?_
      refine j_permP C (lwp_7 _ _ _ _ _ _ _).symm ?_
      refine j_lv [2, 3, 4, 5, 6, 7] rfl ?_
      exact kk _ w72 w1 f2 g _ _ 0 (by show k + 1 + 0 ≤ k + 9; omega) (by show n + 6 + 0 ≤ n + 75; omega) hP hM O
    · exact absurd (ek.trans hz9) hz10
  · refine j_permP C (lwp_7 _ w72 w8 out outD f g).symm ?_
    refine j_aload_n C dL_law_710 3 rfl rfl ?_
    refine j_aload_n C dL_law_711 1 rfl rfl ?_
    refine j_iload C dL_law_712 6 rfl ?_
    refine j_iconst C dL_law_714 (v := nI 1) kc_i_1 ?_
    refine j_iadd C dL_law_715 (v := nI (i + 1)) (nI_add i 1) ?_
    refine j_sld C rw_ hL (nI_in (by omega) (by omega)) dL_law_716 ?_
    rw [nI_clamp (show i + 1 < 2 ^ 31 by omega)]
    obtain ⟨fs8, hm8⟩ := MW.mem W8
    refine j_callVMp C rw_ (nA := 1) (As := [.int (sc (i + 1))]) (wc := w8) (n_X8_brightCells (xl X) (xT X) (sc (i + 1)) W8 O) gL_law_X8_brightCells rfl (by decide +kernel) rfl (by decide) ⟨by show k + 1 + 0 ≤ 601024; omega, by show n + 6 + 0 ≤ 7293034; omega⟩ (lwp_8 _ _ _ _ _ _ _) hm8 (ci := 8) rfl (rest := []) rfl (Nat.le_of_ble_eq_true rfl) dL_law_717 (fun v w1 h => ?_)
    obtain ⟨k10, r2, rfl, hk10, hc10⟩ := h
    refine j_istore C (i := 7) dL_law_720 (by decide) rfl ?_
    refine j_permP C (lwp_8 _ w72 w1 out outD f g).symm ?_
    have ek : k10 = k9 := hk10.trans hk9.symm
    rcases hc10 with ⟨hz10, hr2, hM⟩ | ⟨hz10, hM⟩
    · exact absurd (ek ▸ hz10) hz9
    · refine j_aload_n C dL_law_722 4 rfl rfl ?_
      refine j_thrown C hM (lwp_8 _ _ _ _ _ _ _) (by decide) (by show k + 1 + 0 ≤ 601024; omega) (by show n + 6 + 0 ≤ 7293034; omega) dL_law_723 ?_
      refine j_iload C dL_law_726 1 rfl ?_
      refine j_icmp_eq C dL_law_728 (tgt := 733) (by decide) (fun _ => ?_) (fun e => absurd (congrArg nI ek) e)
      refine j_iload C dL_law_733 1 rfl ?_
      have hb : k9 ≤ 3 := by rw [hk9]; unfold kf_brightCells; (repeat' split) <;> omega
      refine j_if_ne C dL_law_735 (tgt := 750) (by decide) (fun _ => ?_) (fun e => absurd ((nI_eq (show k9 < 2 ^ 31 by omega) (show 0 < 2 ^ 31 by decide)).mp e) hz9)
      refine j_goto C dL_law_750 (tgt := 2209) (by decide) ?_
      refine j_lv [2, 3, 4, 5, 6, 7] rfl ?_
      exact kk _ w72 w1 f g _ _ k10 (by show k + 1 + 0 ≤ k + 9; omega) (by show n + 6 + 0 ≤ n + 75; omega) hP hM O
set_option maxHeartbeats 4000000 in
theorem law_c_firstBright {X : jj_X} (C : jj_C X cL_law RL wsL_law room_1 9 ret) (rw_ : jj_RW X) (hlS : (xl X).stackTraces = false) (hZ : jZ (xA X) (xs X) (xs X).heap) {b L : Nat} {sc : Nat → Int32} (hL : jj_L X b L sc) (hLL : L ≤ 2560) {h7 h8 out outD i k n k8 : Nat} {s : sT} {w7 w8 : va_W} {f : Nat → Int64} {g : Nat → UInt64} (hi : i + 5 ≤ L) (hk : k + 9 ≤ 601024) (hn : n + 75 ≤ 7293034) (W7 : PW (xT X) h7 s w7) (W8 : MW (xT X) h8 k8 s w8) (O : okS s) (kk : ∀ (s2 : sT) (w72 w82 : va_W) (f2 : Nat → Int64) (g2 : Nat → UInt64) (k2 n2 k82 : Nat), k2 ≤ k + 9 → n2 ≤ n + 75 → PW (xT X) h7 s2 w72 → MW (xT X) h8 k82 s2 w82 → okS s2 → jj X k2 n2 2209 (lvL b h7 h8 out outD i) [] (lwW (xT X) w72 w82 out outD f2 g2)) : jj X k n 753 (lvL b h7 h8 out outD i) [] (lwW (xT X) w7 w8 out outD f g) := by
  obtain ⟨⟨ac, ap, ash, an, aob, arq⟩, cn, M, S⟩ := s
  refine j_aload_n C dL_law_753 1 rfl rfl ?_
  refine j_aload_n C dL_law_754 0 rfl rfl ?_
  refine j_iload C dL_law_755 5 rfl ?_
  refine j_iconst C dL_law_757 (v := nI 1) kc_i_1 ?_
  refine j_iadd C dL_law_758 (v := nI (i + 1)) (nI_add i 1) ?_
  refine j_sld C rw_ hL (nI_in (by omega) (by omega)) dL_law_759 ?_
  rw [nI_clamp (show i + 1 < 2 ^ 31 by omega)]
  refine j_aload_n C dL_law_760 0 rfl rfl ?_
  refine j_iload C dL_law_761 5 rfl ?_
  refine j_iconst C dL_law_763 (v := nI 2) kc_i_2 ?_
  refine j_iadd C dL_law_764 (v := nI (i + 2)) (nI_add i 2) ?_
  refine j_sld C rw_ hL (nI_in (by omega) (by omega)) dL_law_765 ?_
  rw [nI_clamp (show i + 2 < 2 ^ 31 by omega)]
  refine j_aload_n C dL_law_766 3 rfl rfl ?_
  refine j_callSWp C rw_ hZ (nA := 4) (As := [.ref h7, .int (sc (i + 1)), .int (sc (i + 2)), .ref out]) (c_L_firstBright (xl X) (xT X) hlS (out := out) (f := f) (sc (i + 1)) (sc (i + 2)) W7 O) gL_law_L_firstBright rfl (by decide +kernel) rfl (by decide) ⟨by show k + 2 ≤ 601024; omega, by show n + 12 ≤ 7293034; omega⟩ (lwp_7 _ _ _ _ _ _ _) (rest := []) rfl (Nat.le_of_ble_eq_true rfl) dL_law_767 (fun v w1 h => ?_)
  obtain ⟨k9, rfl, hk9, hc9⟩ := h
  refine j_istore C (i := 6) dL_law_770 (by decide) rfl ?_
  rcases hc9 with ⟨hz9, r, w72, f2, hr, hP, hf2, rfl⟩ | ⟨hz9, w72, hP, rfl⟩
  · refine j_permP C (lwp_7 _ w72 w8 out outD f2 g).symm ?_
    refine j_aload_n C dL_law_772 3 rfl rfl ?_
    refine j_aload_n C dL_law_773 1 rfl rfl ?_
    refine j_iload C dL_law_774 6 rfl ?_
    refine j_iconst C dL_law_776 (v := nI 1) kc_i_1 ?_
    refine j_iadd C dL_law_777 (v := nI (i + 1)) (nI_add i 1) ?_
    refine j_sld C rw_ hL (nI_in (by omega) (by omega)) dL_law_778 ?_
    rw [nI_clamp (show i + 1 < 2 ^ 31 by omega)]
    refine j_aload_n C dL_law_779 1 rfl rfl ?_
    refine j_iload C dL_law_780 6 rfl ?_
    refine j_iconst C dL_law_782 (v := nI 2) kc_i_2 ?_
    refine j_iadd C dL_law_783 (v := nI (i + 2)) (nI_add i 2) ?_
    refine j_sld C rw_ hL (nI_in (by omega) (by omega)) dL_law_784 ?_
    rw [nI_clamp (show i + 2 < 2 ^ 31 by omega)]
    obtain ⟨fs8, hm8⟩ := MW.mem W8
    refine j_callVMp C rw_ (nA := 2) (As := [.int (sc (i + 1)), .int (sc (i + 2))]) (wc := w8) (n_X8_firstBright (xl X) (xT X) (sc (i + 1)) (sc (i + 2)) W8 O) gL_law_X8_firstBright rfl (by decide +kernel) rfl (by decide) ⟨by show k + 2 + 0 ≤ 601024; omega, by show n + 12 + 0 ≤ 7293034; omega⟩ (lwp_8 _ _ _ _ _ _ _) hm8 (ci := 8) rfl (rest := []) rfl (Nat.le_of_ble_eq_true rfl) dL_law_785 (fun v w1 h => ?_)
    obtain ⟨k10, r2, rfl, hk10, hc10⟩ := h
    refine j_istore C (i := 7) dL_law_788 (by decide) rfl ?_
    refine j_permP C (lwp_8 _ w72 w1 out outD f2 g).symm ?_
    have ek : k10 = k9 := hk10.trans hk9.symm
    rcases hc10 with ⟨hz10, hr2, hM⟩ | ⟨hz10, hM⟩
    · refine j_aload_n C dL_law_790 4 rfl rfl ?_
      refine j_thrown C hM (lwp_8 _ _ _ _ _ _ _) (by decide) (by show k + 2 + 0 ≤ 601024; omega) (by show n + 12 + 0 ≤ 7293034; omega) dL_law_791 ?_
      refine j_iload C dL_law_794 1 rfl ?_
      refine j_icmp_eq C dL_law_796 (tgt := 801) (by decide) (fun _ => ?_) (fun e => absurd (congrArg nI (hz10.symm.trans ek)) e)
      refine j_iload C dL_law_801 1 rfl ?_
      have er := ru_firstBright hr hr2
      subst er
      refine j_if_ne C dL_law_803 (tgt := 818) (by decide) (fun e => absurd (by rw [hz9]; rfl) e) (fun _ => ?_)
      refine j_permP C (lwp_7 _ _ _ _ _ _ _) ?_
      refine j_aload_n C dL_law_806 5 rfl rfl ?_
      refine j_iconst C dL_law_807 (v := nI 0) kc_i_0 ?_
      refine j_laloadN C 0 rfl 0 rfl (by decide) (by decide) dL_law_808 ?_
      refine j_iload C dL_law_809 0 rfl ?_
      refine j_i2l C dL_law_811 rfl ?_
      refine j_lcmp C dL_law_812 ?_
      refine j_if_eq C dL_law_813 (tgt := 818) (by decide) (fun _ => ?_) (fun e => absurd (by rw [hf2]; exact cmp_self _) e)
      refine j_goto C dL_law_818 (tgt := 2209) (by decide) ?_
      refine j_permP C (lwp_7 _ _ _ _ _ _ _).symm ?_
      refine j_lv [2, 3, 4, 5, 6, 7] rfl ?_
      exact kk _ w72 w1 f2 g _ _ 0 (by show k + 2 + 0 ≤ k + 9; omega) (by show n + 12 + 0 ≤ n + 75; omega) hP hM O
    · exact absurd (ek.trans hz9) hz10
  · refine j_permP C (lwp_7 _ w72 w8 out outD f g).symm ?_
    refine j_aload_n C dL_law_772 3 rfl rfl ?_
    refine j_aload_n C dL_law_773 1 rfl rfl ?_
    refine j_iload C dL_law_774 6 rfl ?_
    refine j_iconst C dL_law_776 (v := nI 1) kc_i_1 ?_
    refine j_iadd C dL_law_777 (v := nI (i + 1)) (nI_add i 1) ?_
    refine j_sld C rw_ hL (nI_in (by omega) (by omega)) dL_law_778 ?_
    rw [nI_clamp (show i + 1 < 2 ^ 31 by omega)]
    refine j_aload_n C dL_law_779 1 rfl rfl ?_
    refine j_iload C dL_law_780 6 rfl ?_
    refine j_iconst C dL_law_782 (v := nI 2) kc_i_2 ?_
    refine j_iadd C dL_law_783 (v := nI (i + 2)) (nI_add i 2) ?_
    refine j_sld C rw_ hL (nI_in (by omega) (by omega)) dL_law_784 ?_
    rw [nI_clamp (show i + 2 < 2 ^ 31 by omega)]
    obtain ⟨fs8, hm8⟩ := MW.mem W8
    refine j_callVMp C rw_ (nA := 2) (As := [.int (sc (i + 1)), .int (sc (i + 2))]) (wc := w8) (n_X8_firstBright (xl X) (xT X) (sc (i + 1)) (sc (i + 2)) W8 O) gL_law_X8_firstBright rfl (by decide +kernel) rfl (by decide) ⟨by show k + 2 + 0 ≤ 601024; omega, by show n + 12 + 0 ≤ 7293034; omega⟩ (lwp_8 _ _ _ _ _ _ _) hm8 (ci := 8) rfl (rest := []) rfl (Nat.le_of_ble_eq_true rfl) dL_law_785 (fun v w1 h => ?_)
    obtain ⟨k10, r2, rfl, hk10, hc10⟩ := h
    refine j_istore C (i := 7) dL_law_788 (by decide) rfl ?_
    refine j_permP C (lwp_8 _ w72 w1 out outD f g).symm ?_
    have ek : k10 = k9 := hk10.trans hk9.symm
    rcases hc10 with ⟨hz10, hr2, hM⟩ | ⟨hz10, hM⟩
    · exact absurd (ek ▸ hz10) hz9
    · refine j_aload_n C dL_law_790 4 rfl rfl ?_
      refine j_thrown C hM (lwp_8 _ _ _ _ _ _ _) (by decide) (by show k + 2 + 0 ≤ 601024; omega) (by show n + 12 + 0 ≤ 7293034; omega) dL_law_791 ?_
      refine j_iload C dL_law_794 1 rfl ?_
      refine j_icmp_eq C dL_law_796 (tgt := 801) (by decide) (fun _ => ?_) (fun e => absurd (congrArg nI ek) e)
      refine j_iload C dL_law_801 1 rfl ?_
      have hb : k9 ≤ 3 := by rw [hk9]; unfold kf_firstBright; (repeat' split) <;> omega
      refine j_if_ne C dL_law_803 (tgt := 818) (by decide) (fun _ => ?_) (fun e => absurd ((nI_eq (show k9 < 2 ^ 31 by omega) (show 0 < 2 ^ 31 by decide)).mp e) hz9)
      refine j_goto C dL_law_818 (tgt := 2209) (by decide) ?_
      refine j_lv [2, 3, 4, 5, 6, 7] rfl ?_
      exact kk _ w72 w1 f g _ _ k10 (by show k + 2 + 0 ≤ k + 9; omega) (by show n + 12 + 0 ≤ n + 75; omega) hP hM O
set_option maxHeartbeats 4000000 in
theorem law_c_setAxis {X : jj_X} (C : jj_C X cL_law RL wsL_law room_1 9 ret) (rw_ : jj_RW X) (hlS : (xl X).stackTraces = false) (hZ : jZ (xA X) (xs X) (xs X).heap) {b L : Nat} {sc : Nat → Int32} (hL : jj_L X b L sc) (hLL : L ≤ 2560) {h7 h8 out outD i k n k8 : Nat} {s : sT} {w7 w8 : va_W} {f : Nat → Int64} {g : Nat → UInt64} (hi : i + 5 ≤ L) (hk : k + 9 ≤ 601024) (hn : n + 75 ≤ 7293034) (W7 : PW (xT X) h7 s w7) (W8 : MW (xT X) h8 k8 s w8) (O : okS s) (kk : ∀ (s2 : sT) (w72 w82 : va_W) (f2 : Nat → Int64) (g2 : Nat → UInt64) (k2 n2 k82 : Nat), k2 ≤ k + 9 → n2 ≤ n + 75 → PW (xT X) h7 s2 w72 → MW (xT X) h8 k82 s2 w82 → okS s2 → jj X k2 n2 2209 (lvL b h7 h8 out outD i) [] (lwW (xT X) w72 w82 out outD f2 g2)) : jj X k n 873 (lvL b h7 h8 out outD i) [] (lwW (xT X) w7 w8 out outD f g) := by
  obtain ⟨⟨ac, ap, ash, an, aob, arq⟩, cn, M, S⟩ := s
  refine j_aload_n C dL_law_873 1 rfl rfl ?_
  refine j_aload_n C dL_law_874 0 rfl rfl ?_
  refine j_iload C dL_law_875 5 rfl ?_
  refine j_iconst C dL_law_877 (v := nI 1) kc_i_1 ?_
  refine j_iadd C dL_law_878 (v := nI (i + 1)) (nI_add i 1) ?_
  refine j_sld C rw_ hL (nI_in (by omega) (by omega)) dL_law_879 ?_
  rw [nI_clamp (show i + 1 < 2 ^ 31 by omega)]
  refine j_aload_n C dL_law_880 0 rfl rfl ?_
  refine j_iload C dL_law_881 5 rfl ?_
  refine j_iconst C dL_law_883 (v := nI 2) kc_i_2 ?_
  refine j_iadd C dL_law_884 (v := nI (i + 2)) (nI_add i 2) ?_
  refine j_sld C rw_ hL (nI_in (by omega) (by omega)) dL_law_885 ?_
  rw [nI_clamp (show i + 2 < 2 ^ 31 by omega)]
  refine j_aload_n C dL_law_886 0 rfl rfl ?_
  refine j_iload C dL_law_887 5 rfl ?_
  refine j_iconst C dL_law_889 (v := nI 3) kc_i_3 ?_
  refine j_iadd C dL_law_890 (v := nI (i + 3)) (nI_add i 3) ?_
  refine j_sld C rw_ hL (nI_in (by omega) (by omega)) dL_law_891 ?_
  rw [nI_clamp (show i + 3 < 2 ^ 31 by omega)]
  refine j_aload_n C dL_law_892 0 rfl rfl ?_
  refine j_iload C dL_law_893 5 rfl ?_
  refine j_iconst C dL_law_895 (v := nI 4) kc_i_4 ?_
  refine j_iadd C dL_law_896 (v := nI (i + 4)) (nI_add i 4) ?_
  refine j_sld C rw_ hL (nI_in (by omega) (by omega)) dL_law_897 ?_
  rw [nI_clamp (show i + 4 < 2 ^ 31 by omega)]
  refine j_aload_n C dL_law_898 3 rfl rfl ?_
  refine j_callSWp C rw_ hZ (nA := 6) (As := [.ref h7, .int (sc (i + 1)), .int (sc (i + 2)), .int (sc (i + 3)), .int (sc (i + 4)), .ref out]) (c_L_setAxis (xl X) (xT X) hlS (out := out) (f := f) (sc (i + 1)) (sc (i + 2)) (sc (i + 3)) (sc (i + 4)) W7 O) gL_law_L_setAxis rfl (by decide +kernel) rfl (by decide) ⟨by show k + 9 ≤ 601024; omega, by show n + 75 ≤ 7293034; omega⟩ (lwp_7 _ _ _ _ _ _ _) (rest := []) rfl (Nat.le_of_ble_eq_true rfl) dL_law_899 (fun v w1 h => ?_)
  obtain ⟨k9, rfl, hk9, hc9⟩ := h
  refine j_istore C (i := 6) dL_law_902 (by decide) rfl ?_
  rcases hc9 with ⟨hz9, r, w72, f2, hr, hP, hf2, rfl⟩ | ⟨hz9, w72, hP, rfl⟩
  · refine j_permP C (lwp_7 _ w72 w8 out outD f2 g).symm ?_
    refine j_aload_n C dL_law_904 3 rfl rfl ?_
    refine j_aload_n C dL_law_905 1 rfl rfl ?_
    refine j_iload C dL_law_906 6 rfl ?_
    refine j_iconst C dL_law_908 (v := nI 1) kc_i_1 ?_
    refine j_iadd C dL_law_909 (v := nI (i + 1)) (nI_add i 1) ?_
    refine j_sld C rw_ hL (nI_in (by omega) (by omega)) dL_law_910 ?_
    rw [nI_clamp (show i + 1 < 2 ^ 31 by omega)]
    refine j_aload_n C dL_law_911 1 rfl rfl ?_
    refine j_iload C dL_law_912 6 rfl ?_
    refine j_iconst C dL_law_914 (v := nI 2) kc_i_2 ?_
    refine j_iadd C dL_law_915 (v := nI (i + 2)) (nI_add i 2) ?_
    refine j_sld C rw_ hL (nI_in (by omega) (by omega)) dL_law_916 ?_
    rw [nI_clamp (show i + 2 < 2 ^ 31 by omega)]
    refine j_aload_n C dL_law_917 1 rfl rfl ?_
    refine j_iload C dL_law_918 6 rfl ?_
    refine j_iconst C dL_law_920 (v := nI 3) kc_i_3 ?_
    refine j_iadd C dL_law_921 (v := nI (i + 3)) (nI_add i 3) ?_
    refine j_sld C rw_ hL (nI_in (by omega) (by omega)) dL_law_922 ?_
    rw [nI_clamp (show i + 3 < 2 ^ 31 by omega)]
    refine j_aload_n C dL_law_923 1 rfl rfl ?_
    refine j_iload C dL_law_924 6 rfl ?_
    refine j_iconst C dL_law_926 (v := nI 4) kc_i_4 ?_
    refine j_iadd C dL_law_927 (v := nI (i + 4)) (nI_add i 4) ?_
    refine j_sld C rw_ hL (nI_in (by omega) (by omega)) dL_law_928 ?_
    rw [nI_clamp (show i + 4 < 2 ^ 31 by omega)]
    obtain ⟨fs8, hm8⟩ := MW.mem W8
    refine j_callVMp C rw_ (nA := 4) (As := [.int (sc (i + 1)), .int (sc (i + 2)), .int (sc (i + 3)), .int (sc (i + 4))]) (wc := w8) (n_X8_setAxis (xl X) (xT X) (sc (i + 1)) (sc (i + 2)) (sc (i + 3)) (sc (i + 4)) W8 O) gL_law_X8_setAxis rfl (by decide +kernel) rfl (by decide) ⟨by show k + 9 + 0 ≤ 601024; omega, by show n + 75 + 0 ≤ 7293034; omega⟩ (lwp_8 _ _ _ _ _ _ _) hm8 (ci := 8) rfl (rest := []) rfl (Nat.le_of_ble_eq_true rfl) dL_law_929 (fun v w1 h => ?_)
    obtain ⟨k10, r2, rfl, hk10, hc10⟩ := h
    refine j_istore C (i := 7) dL_law_932 (by decide) rfl ?_
    refine j_permP C (lwp_8 _ w72 w1 out outD f2 g).symm ?_
    have ek : k10 = k9 := hk10.trans hk9.symm
    rcases hc10 with ⟨hz10, hr2, hM⟩ | ⟨hz10, hM⟩
    · refine j_aload_n C dL_law_934 4 rfl rfl ?_
      refine j_thrown C hM (lwp_8 _ _ _ _ _ _ _) (by decide) (by show k + 9 + 0 ≤ 601024; omega) (by show n + 75 + 0 ≤ 7293034; omega) dL_law_935 ?_
      refine j_iload C dL_law_938 1 rfl ?_
      refine j_icmp_eq C dL_law_940 (tgt := 945) (by decide) (fun _ => ?_) (fun e => absurd (congrArg nI (hz10.symm.trans ek)) e)
      refine j_iload C dL_law_945 1 rfl ?_
      have er := ru_setAxis hr hr2
      subst er
      refine j_if_ne C dL_law_947 (tgt := 962) (by decide) (fun e => absurd (by rw [hz9]; rfl) e) (fun _ => ?_)
      refine j_permP C (lwp_7 _ _ _ _ _ _ _) ?_
      refine j_aload_n C dL_law_950 5 rfl rfl ?_
      refine j_iconst C dL_law_951 (v := nI 0) kc_i_0 ?_
      refine j_laloadN C 0 rfl 0 rfl (by decide) (by decide) dL_law_952 ?_
      refine j_iload C dL_law_953 0 rfl ?_
      refine j_i2l C dL_law_955 rfl ?_
      refine j_lcmp C dL_law_956 ?_
      refine j_if_eq C dL_law_957 (tgt := 962) (by decide) (fun _ => ?_) (fun e => absurd (by rw [hf2]; exact cmp_self _) e)
      refine j_goto C dL_law_962 (tgt := 2209) (by decide) ?_
      refine j_permP C (lwp_7 _ _ _ _ _ _ _).symm ?_
      refine j_lv [2, 3, 4, 5, 6, 7] rfl ?_
      exact kk _ w72 w1 f2 g _ _ 0 (by show k + 9 + 0 ≤ k + 9; omega) (by show n + 75 + 0 ≤ n + 75; omega) hP hM (po_setAxis (PW.cn W7) O (hk9.symm.trans hz9) hr)
    · exact absurd (ek.trans hz9) hz10
  · refine j_permP C (lwp_7 _ w72 w8 out outD f g).symm ?_
    refine j_aload_n C dL_law_904 3 rfl rfl ?_
    refine j_aload_n C dL_law_905 1 rfl rfl ?_
    refine j_iload C dL_law_906 6 rfl ?_
    refine j_iconst C dL_law_908 (v := nI 1) kc_i_1 ?_
    refine j_iadd C dL_law_909 (v := nI (i + 1)) (nI_add i 1) ?_
    refine j_sld C rw_ hL (nI_in (by omega) (by omega)) dL_law_910 ?_
    rw [nI_clamp (show i + 1 < 2 ^ 31 by omega)]
    refine j_aload_n C dL_law_911 1 rfl rfl ?_
    refine j_iload C dL_law_912 6 rfl ?_
    refine j_iconst C dL_law_914 (v := nI 2) kc_i_2 ?_
    refine j_iadd C dL_law_915 (v := nI (i + 2)) (nI_add i 2) ?_
    refine j_sld C rw_ hL (nI_in (by omega) (by omega)) dL_law_916 ?_
    rw [nI_clamp (show i + 2 < 2 ^ 31 by omega)]
    refine j_aload_n C dL_law_917 1 rfl rfl ?_
    refine j_iload C dL_law_918 6 rfl ?_
    refine j_iconst C dL_law_920 (v := nI 3) kc_i_3 ?_
    refine j_iadd C dL_law_921 (v := nI (i + 3)) (nI_add i 3) ?_
    refine j_sld C rw_ hL (nI_in (by omega) (by omega)) dL_law_922 ?_
    rw [nI_clamp (show i + 3 < 2 ^ 31 by omega)]
    refine j_aload_n C dL_law_923 1 rfl rfl ?_
    refine j_iload C dL_law_924 6 rfl ?_
    refine j_iconst C dL_law_926 (v := nI 4) kc_i_4 ?_
    refine j_iadd C dL_law_927 (v := nI (i + 4)) (nI_add i 4) ?_
    refine j_sld C rw_ hL (nI_in (by omega) (by omega)) dL_law_928 ?_
    rw [nI_clamp (show i + 4 < 2 ^ 31 by omega)]
    obtain ⟨fs8, hm8⟩ := MW.mem W8
    refine j_callVMp C rw_ (nA := 4) (As := [.int (sc (i + 1)), .int (sc (i + 2)), .int (sc (i + 3)), .int (sc (i + 4))]) (wc := w8) (n_X8_setAxis (xl X) (xT X) (sc (i + 1)) (sc (i + 2)) (sc (i + 3)) (sc (i + 4)) W8 O) gL_law_X8_setAxis rfl (by decide +kernel) rfl (by decide) ⟨by show k + 9 + 0 ≤ 601024; omega, by show n + 75 + 0 ≤ 7293034; omega⟩ (lwp_8 _ _ _ _ _ _ _) hm8 (ci := 8) rfl (rest := []) rfl (Nat.le_of_ble_eq_true rfl) dL_law_929 (fun v w1 h => ?_)
    obtain ⟨k10, r2, rfl, hk10, hc10⟩ := h
    refine j_istore C (i := 7) dL_law_932 (by decide) rfl ?_
    refine j_permP C (lwp_8 _ w72 w1 out outD f g).symm ?_
    have ek : k10 = k9 := hk10.trans hk9.symm
    rcases hc10 with ⟨hz10, hr2, hM⟩ | ⟨hz10, hM⟩
    · exact absurd (ek ▸ hz10) hz9
    · refine j_aload_n C dL_law_934 4 rfl rfl ?_
      refine j_thrown C hM (lwp_8 _ _ _ _ _ _ _) (by decide) (by show k + 9 + 0 ≤ 601024; omega) (by show n + 75 + 0 ≤ 7293034; omega) dL_law_935 ?_
      refine j_iload C dL_law_938 1 rfl ?_
      refine j_icmp_eq C dL_law_940 (tgt := 945) (by decide) (fun _ => ?_) (fun e => absurd (congrArg nI ek) e)
      refine j_iload C dL_law_945 1 rfl ?_
      have hb : k9 ≤ 3 := by rw [hk9]; unfold kf_setAxis; (repeat' split) <;> omega
      refine j_if_ne C dL_law_947 (tgt := 962) (by decide) (fun _ => ?_) (fun e => absurd ((nI_eq (show k9 < 2 ^ 31 by omega) (show 0 < 2 ^ 31 by decide)).mp e) hz9)
      refine j_goto C dL_law_962 (tgt := 2209) (by decide) ?_
      refine j_lv [2, 3, 4, 5, 6, 7] rfl ?_
      exact kk _ w72 w1 f g _ _ k10 (by show k + 9 + 0 ≤ k + 9; omega) (by show n + 75 + 0 ≤ n + 75; omega) hP hM O
set_option maxHeartbeats 4000000 in
theorem law_c_setDrift {X : jj_X} (C : jj_C X cL_law RL wsL_law room_1 9 ret) (rw_ : jj_RW X) (hlS : (xl X).stackTraces = false) (hZ : jZ (xA X) (xs X) (xs X).heap) {b L : Nat} {sc : Nat → Int32} (hL : jj_L X b L sc) (hLL : L ≤ 2560) {h7 h8 out outD i k n k8 : Nat} {s : sT} {w7 w8 : va_W} {f : Nat → Int64} {g : Nat → UInt64} (hi : i + 5 ≤ L) (hk : k + 9 ≤ 601024) (hn : n + 75 ≤ 7293034) (W7 : PW (xT X) h7 s w7) (W8 : MW (xT X) h8 k8 s w8) (O : okS s) (kk : ∀ (s2 : sT) (w72 w82 : va_W) (f2 : Nat → Int64) (g2 : Nat → UInt64) (k2 n2 k82 : Nat), k2 ≤ k + 9 → n2 ≤ n + 75 → PW (xT X) h7 s2 w72 → MW (xT X) h8 k82 s2 w82 → okS s2 → jj X k2 n2 2209 (lvL b h7 h8 out outD i) [] (lwW (xT X) w72 w82 out outD f2 g2)) : jj X k n 965 (lvL b h7 h8 out outD i) [] (lwW (xT X) w7 w8 out outD f g) := by
  obtain ⟨⟨ac, ap, ash, an, aob, arq⟩, cn, M, S⟩ := s
  refine j_aload_n C dL_law_965 1 rfl rfl ?_
  refine j_aload_n C dL_law_966 0 rfl rfl ?_
  refine j_iload C dL_law_967 5 rfl ?_
  refine j_iconst C dL_law_969 (v := nI 1) kc_i_1 ?_
  refine j_iadd C dL_law_970 (v := nI (i + 1)) (nI_add i 1) ?_
  refine j_sld C rw_ hL (nI_in (by omega) (by omega)) dL_law_971 ?_
  rw [nI_clamp (show i + 1 < 2 ^ 31 by omega)]
  refine j_aload_n C dL_law_972 0 rfl rfl ?_
  refine j_iload C dL_law_973 5 rfl ?_
  refine j_iconst C dL_law_975 (v := nI 2) kc_i_2 ?_
  refine j_iadd C dL_law_976 (v := nI (i + 2)) (nI_add i 2) ?_
  refine j_sld C rw_ hL (nI_in (by omega) (by omega)) dL_law_977 ?_
  rw [nI_clamp (show i + 2 < 2 ^ 31 by omega)]
  refine j_aload_n C dL_law_978 0 rfl rfl ?_
  refine j_iload C dL_law_979 5 rfl ?_
  refine j_iconst C dL_law_981 (v := nI 3) kc_i_3 ?_
  refine j_iadd C dL_law_982 (v := nI (i + 3)) (nI_add i 3) ?_
  refine j_sld C rw_ hL (nI_in (by omega) (by omega)) dL_law_983 ?_
  rw [nI_clamp (show i + 3 < 2 ^ 31 by omega)]
  refine j_aload_n C dL_law_984 0 rfl rfl ?_
  refine j_iload C dL_law_985 5 rfl ?_
  refine j_iconst C dL_law_987 (v := nI 4) kc_i_4 ?_
  refine j_iadd C dL_law_988 (v := nI (i + 4)) (nI_add i 4) ?_
  refine j_sld C rw_ hL (nI_in (by omega) (by omega)) dL_law_989 ?_
  rw [nI_clamp (show i + 4 < 2 ^ 31 by omega)]
  refine j_aload_n C dL_law_990 3 rfl rfl ?_
  refine j_callSWp C rw_ hZ (nA := 6) (As := [.ref h7, .int (sc (i + 1)), .int (sc (i + 2)), .int (sc (i + 3)), .int (sc (i + 4)), .ref out]) (c_L_setDrift (xl X) (xT X) hlS (out := out) (f := f) (sc (i + 1)) (sc (i + 2)) (sc (i + 3)) (sc (i + 4)) W7 O) gL_law_L_setDrift rfl (by decide +kernel) rfl (by decide) ⟨by show k + 8 ≤ 601024; omega, by show n + 69 ≤ 7293034; omega⟩ (lwp_7 _ _ _ _ _ _ _) (rest := []) rfl (Nat.le_of_ble_eq_true rfl) dL_law_991 (fun v w1 h => ?_)
  obtain ⟨k9, rfl, hk9, hc9⟩ := h
  refine j_istore C (i := 6) dL_law_994 (by decide) rfl ?_
  rcases hc9 with ⟨hz9, r, w72, f2, hr, hP, hf2, rfl⟩ | ⟨hz9, w72, hP, rfl⟩
  · refine j_permP C (lwp_7 _ w72 w8 out outD f2 g).symm ?_
    refine j_aload_n C dL_law_996 3 rfl rfl ?_
    refine j_aload_n C dL_law_997 1 rfl rfl ?_
    refine j_iload C dL_law_998 6 rfl ?_
    refine j_iconst C dL_law_1000 (v := nI 1) kc_i_1 ?_
    refine j_iadd C dL_law_1001 (v := nI (i + 1)) (nI_add i 1) ?_
    refine j_sld C rw_ hL (nI_in (by omega) (by omega)) dL_law_1002 ?_
    rw [nI_clamp (show i + 1 < 2 ^ 31 by omega)]
    refine j_aload_n C dL_law_1003 1 rfl rfl ?_
    refine j_iload C dL_law_1004 6 rfl ?_
    refine j_iconst C dL_law_1006 (v := nI 2) kc_i_2 ?_
    refine j_iadd C dL_law_1007 (v := nI (i + 2)) (nI_add i 2) ?_
    refine j_sld C rw_ hL (nI_in (by omega) (by omega)) dL_law_1008 ?_
    rw [nI_clamp (show i + 2 < 2 ^ 31 by omega)]
    refine j_aload_n C dL_law_1009 1 rfl rfl ?_
    refine j_iload C dL_law_1010 6 rfl ?_
    refine j_iconst C dL_law_1012 (v := nI 3) kc_i_3 ?_
    refine j_iadd C dL_law_1013 (v := nI (i + 3)) (nI_add i 3) ?_
    refine j_sld C rw_ hL (nI_in (by omega) (by omega)) dL_law_1014 ?_
    rw [nI_clamp (show i + 3 < 2 ^ 31 by omega)]
    refine j_aload_n C dL_law_1015 1 rfl rfl ?_
    refine j_iload C dL_law_1016 6 rfl ?_
    refine j_iconst C dL_law_1018 (v := nI 4) kc_i_4 ?_
    refine j_iadd C dL_law_1019 (v := nI (i + 4)) (nI_add i 4) ?_
    refine j_sld C rw_ hL (nI_in (by omega) (by omega)) dL_law_1020 ?_
    rw [nI_clamp (show i + 4 < 2 ^ 31 by omega)]
    obtain ⟨fs8, hm8⟩ := MW.mem W8
    refine j_callVMp C rw_ (nA := 4) (As := [.int (sc (i + 1)), .int (sc (i + 2)), .int (sc (i + 3)), .int (sc (i + 4))]) (wc := w8) (n_X8_setDrift (xl X) (xT X) (sc (i + 1)) (sc (i + 2)) (sc (i + 3)) (sc (i + 4)) W8 O) gL_law_X8_setDrift rfl (by decide +kernel) rfl (by decide) ⟨by show k + 8 + 0 ≤ 601024; omega, by show n + 69 + 0 ≤ 7293034; omega⟩ (lwp_8 _ _ _ _ _ _ _) hm8 (ci := 8) rfl (rest := []) rfl (Nat.le_of_ble_eq_true rfl) dL_law_1021 (fun v w1 h => ?_)
    obtain ⟨k10, r2, rfl, hk10, hc10⟩ := h
    refine j_istore C (i := 7) dL_law_1024 (by decide) rfl ?_
    refine j_permP C (lwp_8 _ w72 w1 out outD f2 g).symm ?_
    have ek : k10 = k9 := hk10.trans hk9.symm
    rcases hc10 with ⟨hz10, hr2, hM⟩ | ⟨hz10, hM⟩
    · refine j_aload_n C dL_law_1026 4 rfl rfl ?_
      refine j_thrown C hM (lwp_8 _ _ _ _ _ _ _) (by decide) (by show k + 8 + 0 ≤ 601024; omega) (by show n + 69 + 0 ≤ 7293034; omega) dL_law_1027 ?_
      refine j_iload C dL_law_1030 1 rfl ?_
      refine j_icmp_eq C dL_law_1032 (tgt := 1037) (by decide) (fun _ => ?_) (fun e => absurd (congrArg nI (hz10.symm.trans ek)) e)
      refine j_iload C dL_law_1037 1 rfl ?_
      have er := ru_setDrift hr hr2
      subst er
      refine j_if_ne C dL_law_1039 (tgt := 1054) (by decide) (fun e => absurd (by rw [hz9]; rfl) e) (fun _ => ?_)
      refine j_permP C (lwp_7 _ _ _ _ _ _ _) ?_
      refine j_aload_n C dL_law_1042 5 rfl rfl ?_
      refine j_iconst C dL_law_1043 (v := nI 0) kc_i_0 ?_
      refine j_laloadN C 0 rfl 0 rfl (by decide) (by decide) dL_law_1044 ?_
      refine j_iload C dL_law_1045 0 rfl ?_
      refine j_i2l C dL_law_1047 rfl ?_
      refine j_lcmp C dL_law_1048 ?_
      refine j_if_eq C dL_law_1049 (tgt := 1054) (by decide) (fun _ => ?_) (fun e => absurd (by rw [hf2]; exact cmp_self _) e)
      refine j_goto C dL_law_1054 (tgt := 2209) (by decide) ?_
      refine j_permP C (lwp_7 _ _ _ _ _ _ _).symm ?_
      refine j_lv [2, 3, 4, 5, 6, 7] rfl ?_
      exact kk _ w72 w1 f2 g _ _ 0 (by show k + 8 + 0 ≤ k + 9; omega) (by show n + 69 + 0 ≤ n + 75; omega) hP hM (po_setDrift (PW.cn W7) O (hk9.symm.trans hz9) hr)
    · exact absurd (ek.trans hz9) hz10
  · refine j_permP C (lwp_7 _ w72 w8 out outD f g).symm ?_
    refine j_aload_n C dL_law_996 3 rfl rfl ?_
    refine j_aload_n C dL_law_997 1 rfl rfl ?_
    refine j_iload C dL_law_998 6 rfl ?_
    refine j_iconst C dL_law_1000 (v := nI 1) kc_i_1 ?_
    refine j_iadd C dL_law_1001 (v := nI (i + 1)) (nI_add i 1) ?_
    refine j_sld C rw_ hL (nI_in (by omega) (by omega)) dL_law_1002 ?_
    rw [nI_clamp (show i + 1 < 2 ^ 31 by omega)]
    refine j_aload_n C dL_law_1003 1 rfl rfl ?_
    refine j_iload C dL_law_1004 6 rfl ?_
    refine j_iconst C dL_law_1006 (v := nI 2) kc_i_2 ?_
    refine j_iadd C dL_law_1007 (v := nI (i + 2)) (nI_add i 2) ?_
    refine j_sld C rw_ hL (nI_in (by omega) (by omega)) dL_law_1008 ?_
    rw [nI_clamp (show i + 2 < 2 ^ 31 by omega)]
    refine j_aload_n C dL_law_1009 1 rfl rfl ?_
    refine j_iload C dL_law_1010 6 rfl ?_
    refine j_iconst C dL_law_1012 (v := nI 3) kc_i_3 ?_
    refine j_iadd C dL_law_1013 (v := nI (i + 3)) (nI_add i 3) ?_
    refine j_sld C rw_ hL (nI_in (by omega) (by omega)) dL_law_1014 ?_
    rw [nI_clamp (show i + 3 < 2 ^ 31 by omega)]
    refine j_aload_n C dL_law_1015 1 rfl rfl ?_
    refine j_iload C dL_law_1016 6 rfl ?_
    refine j_iconst C dL_law_1018 (v := nI 4) kc_i_4 ?_
    refine j_iadd C dL_law_1019 (v := nI (i + 4)) (nI_add i 4) ?_
    refine j_sld C rw_ hL (nI_in (by omega) (by omega)) dL_law_1020 ?_
    rw [nI_clamp (show i + 4 < 2 ^ 31 by omega)]
    obtain ⟨fs8, hm8⟩ := MW.mem W8
    refine j_callVMp C rw_ (nA := 4) (As := [.int (sc (i + 1)), .int (sc (i + 2)), .int (sc (i + 3)), .int (sc (i + 4))]) (wc := w8) (n_X8_setDrift (xl X) (xT X) (sc (i + 1)) (sc (i + 2)) (sc (i + 3)) (sc (i + 4)) W8 O) gL_law_X8_setDrift rfl (by decide +kernel) rfl (by decide) ⟨by show k + 8 + 0 ≤ 601024; omega, by show n + 69 + 0 ≤ 7293034; omega⟩ (lwp_8 _ _ _ _ _ _ _) hm8 (ci := 8) rfl (rest := []) rfl (Nat.le_of_ble_eq_true rfl) dL_law_1021 (fun v w1 h => ?_)
    obtain ⟨k10, r2, rfl, hk10, hc10⟩ := h
    refine j_istore C (i := 7) dL_law_1024 (by decide) rfl ?_
    refine j_permP C (lwp_8 _ w72 w1 out outD f g).symm ?_
    have ek : k10 = k9 := hk10.trans hk9.symm
    rcases hc10 with ⟨hz10, hr2, hM⟩ | ⟨hz10, hM⟩
    · exact absurd (ek ▸ hz10) hz9
    · refine j_aload_n C dL_law_1026 4 rfl rfl ?_
      refine j_thrown C hM (lwp_8 _ _ _ _ _ _ _) (by decide) (by show k + 8 + 0 ≤ 601024; omega) (by show n + 69 + 0 ≤ 7293034; omega) dL_law_1027 ?_
      refine j_iload C dL_law_1030 1 rfl ?_
      refine j_icmp_eq C dL_law_1032 (tgt := 1037) (by decide) (fun _ => ?_) (fun e => absurd (congrArg nI ek) e)
      refine j_iload C dL_law_1037 1 rfl ?_
      have hb : k9 ≤ 3 := by rw [hk9]; unfold kf_setDrift; (repeat' split) <;> omega
      refine j_if_ne C dL_law_1039 (tgt := 1054) (by decide) (fun _ => ?_) (fun e => absurd ((nI_eq (show k9 < 2 ^ 31 by omega) (show 0 < 2 ^ 31 by decide)).mp e) hz9)
      refine j_goto C dL_law_1054 (tgt := 2209) (by decide) ?_
      refine j_lv [2, 3, 4, 5, 6, 7] rfl ?_
      exact kk _ w72 w1 f g _ _ k10 (by show k + 8 + 0 ≤ k + 9; omega) (by show n + 69 + 0 ≤ n + 75; omega) hP hM O
set_option maxHeartbeats 4000000 in
theorem law_c_setCone {X : jj_X} (C : jj_C X cL_law RL wsL_law room_1 9 ret) (rw_ : jj_RW X) (hlS : (xl X).stackTraces = false) (hZ : jZ (xA X) (xs X) (xs X).heap) {b L : Nat} {sc : Nat → Int32} (hL : jj_L X b L sc) (hLL : L ≤ 2560) {h7 h8 out outD i k n k8 : Nat} {s : sT} {w7 w8 : va_W} {f : Nat → Int64} {g : Nat → UInt64} (hi : i + 5 ≤ L) (hk : k + 9 ≤ 601024) (hn : n + 75 ≤ 7293034) (W7 : PW (xT X) h7 s w7) (W8 : MW (xT X) h8 k8 s w8) (O : okS s) (kk : ∀ (s2 : sT) (w72 w82 : va_W) (f2 : Nat → Int64) (g2 : Nat → UInt64) (k2 n2 k82 : Nat), k2 ≤ k + 9 → n2 ≤ n + 75 → PW (xT X) h7 s2 w72 → MW (xT X) h8 k82 s2 w82 → okS s2 → jj X k2 n2 2209 (lvL b h7 h8 out outD i) [] (lwW (xT X) w72 w82 out outD f2 g2)) : jj X k n 1057 (lvL b h7 h8 out outD i) [] (lwW (xT X) w7 w8 out outD f g) := by
  obtain ⟨⟨ac, ap, ash, an, aob, arq⟩, cn, M, S⟩ := s
  refine j_aload_n C dL_law_1057 1 rfl rfl ?_
  refine j_aload_n C dL_law_1058 0 rfl rfl ?_
  refine j_iload C dL_law_1059 5 rfl ?_
  refine j_iconst C dL_law_1061 (v := nI 1) kc_i_1 ?_
  refine j_iadd C dL_law_1062 (v := nI (i + 1)) (nI_add i 1) ?_
  refine j_sld C rw_ hL (nI_in (by omega) (by omega)) dL_law_1063 ?_
  rw [nI_clamp (show i + 1 < 2 ^ 31 by omega)]
  refine j_aload_n C dL_law_1064 0 rfl rfl ?_
  refine j_iload C dL_law_1065 5 rfl ?_
  refine j_iconst C dL_law_1067 (v := nI 2) kc_i_2 ?_
  refine j_iadd C dL_law_1068 (v := nI (i + 2)) (nI_add i 2) ?_
  refine j_sld C rw_ hL (nI_in (by omega) (by omega)) dL_law_1069 ?_
  rw [nI_clamp (show i + 2 < 2 ^ 31 by omega)]
  refine j_aload_n C dL_law_1070 3 rfl rfl ?_
  refine j_callSWp C rw_ hZ (nA := 4) (As := [.ref h7, .int (sc (i + 1)), .int (sc (i + 2)), .ref out]) (c_L_setCone (xl X) (xT X) hlS (out := out) (f := f) (sc (i + 1)) (sc (i + 2)) W7 O) gL_law_L_setCone rfl (by decide +kernel) rfl (by decide) ⟨by show k + 6 ≤ 601024; omega, by show n + 57 ≤ 7293034; omega⟩ (lwp_7 _ _ _ _ _ _ _) (rest := []) rfl (Nat.le_of_ble_eq_true rfl) dL_law_1071 (fun v w1 h => ?_)
  obtain ⟨k9, rfl, hk9, hc9⟩ := h
  refine j_istore C (i := 6) dL_law_1074 (by decide) rfl ?_
  rcases hc9 with ⟨hz9, r, w72, f2, hr, hP, hf2, rfl⟩ | ⟨hz9, w72, hP, rfl⟩
  · refine j_permP C (lwp_7 _ w72 w8 out outD f2 g).symm ?_
    refine j_aload_n C dL_law_1076 3 rfl rfl ?_
    refine j_aload_n C dL_law_1077 1 rfl rfl ?_
    refine j_iload C dL_law_1078 6 rfl ?_
    refine j_iconst C dL_law_1080 (v := nI 1) kc_i_1 ?_
    refine j_iadd C dL_law_1081 (v := nI (i + 1)) (nI_add i 1) ?_
    refine j_sld C rw_ hL (nI_in (by omega) (by omega)) dL_law_1082 ?_
    rw [nI_clamp (show i + 1 < 2 ^ 31 by omega)]
    refine j_aload_n C dL_law_1083 1 rfl rfl ?_
    refine j_iload C dL_law_1084 6 rfl ?_
    refine j_iconst C dL_law_1086 (v := nI 2) kc_i_2 ?_
    refine j_iadd C dL_law_1087 (v := nI (i + 2)) (nI_add i 2) ?_
    refine j_sld C rw_ hL (nI_in (by omega) (by omega)) dL_law_1088 ?_
    rw [nI_clamp (show i + 2 < 2 ^ 31 by omega)]
    obtain ⟨fs8, hm8⟩ := MW.mem W8
    refine j_callVMp C rw_ (nA := 2) (As := [.int (sc (i + 1)), .int (sc (i + 2))]) (wc := w8) (n_X8_setCone (xl X) (xT X) (sc (i + 1)) (sc (i + 2)) W8 O) gL_law_X8_setCone rfl (by decide +kernel) rfl (by decide) ⟨by show k + 6 + 0 ≤ 601024; omega, by show n + 57 + 0 ≤ 7293034; omega⟩ (lwp_8 _ _ _ _ _ _ _) hm8 (ci := 8) rfl (rest := []) rfl (Nat.le_of_ble_eq_true rfl) dL_law_1089 (fun v w1 h => ?_)
    obtain ⟨k10, r2, rfl, hk10, hc10⟩ := h
    refine j_istore C (i := 7) dL_law_1092 (by decide) rfl ?_
    refine j_permP C (lwp_8 _ w72 w1 out outD f2 g).symm ?_
    have ek : k10 = k9 := hk10.trans hk9.symm
    rcases hc10 with ⟨hz10, hr2, hM⟩ | ⟨hz10, hM⟩
    · refine j_aload_n C dL_law_1094 4 rfl rfl ?_
      refine j_thrown C hM (lwp_8 _ _ _ _ _ _ _) (by decide) (by show k + 6 + 0 ≤ 601024; omega) (by show n + 57 + 0 ≤ 7293034; omega) dL_law_1095 ?_
      refine j_iload C dL_law_1098 1 rfl ?_
      refine j_icmp_eq C dL_law_1100 (tgt := 1105) (by decide) (fun _ => ?_) (fun e => absurd (congrArg nI (hz10.symm.trans ek)) e)
      refine j_iload C dL_law_1105 1 rfl ?_
      have er := ru_setCone hr hr2
      subst er
      refine j_if_ne C dL_law_1107 (tgt := 1122) (by decide) (fun e => absurd (by rw [hz9]; rfl) e) (fun _ => ?_)
      refine j_permP C (lwp_7 _ _ _ _ _ _ _) ?_
      refine j_aload_n C dL_law_1110 5 rfl rfl ?_
      refine j_iconst C dL_law_1111 (v := nI 0) kc_i_0 ?_
      refine j_laloadN C 0 rfl 0 rfl (by decide) (by decide) dL_law_1112 ?_
      refine j_iload C dL_law_1113 0 rfl ?_
      refine j_i2l C dL_law_1115 rfl ?_
      refine j_lcmp C dL_law_1116 ?_
      refine j_if_eq C dL_law_1117 (tgt := 1122) (by decide) (fun _ => ?_) (fun e => absurd (by rw [hf2]; exact cmp_self _) e)
      refine j_goto C dL_law_1122 (tgt := 2209) (by decide) ?_
      refine j_permP C (lwp_7 _ _ _ _ _ _ _).symm ?_
      refine j_lv [2, 3, 4, 5, 6, 7] rfl ?_
      exact kk _ w72 w1 f2 g _ _ 0 (by show k + 6 + 0 ≤ k + 9; omega) (by show n + 57 + 0 ≤ n + 75; omega) hP hM (po_setCone (PW.cn W7) O (hk9.symm.trans hz9) hr)
    · exact absurd (ek.trans hz9) hz10
  · refine j_permP C (lwp_7 _ w72 w8 out outD f g).symm ?_
    refine j_aload_n C dL_law_1076 3 rfl rfl ?_
    refine j_aload_n C dL_law_1077 1 rfl rfl ?_
    refine j_iload C dL_law_1078 6 rfl ?_
    refine j_iconst C dL_law_1080 (v := nI 1) kc_i_1 ?_
    refine j_iadd C dL_law_1081 (v := nI (i + 1)) (nI_add i 1) ?_
    refine j_sld C rw_ hL (nI_in (by omega) (by omega)) dL_law_1082 ?_
    rw [nI_clamp (show i + 1 < 2 ^ 31 by omega)]
    refine j_aload_n C dL_law_1083 1 rfl rfl ?_
    refine j_iload C dL_law_1084 6 rfl ?_
    refine j_iconst C dL_law_1086 (v := nI 2) kc_i_2 ?_
    refine j_iadd C dL_law_1087 (v := nI (i + 2)) (nI_add i 2) ?_
    refine j_sld C rw_ hL (nI_in (by omega) (by omega)) dL_law_1088 ?_
    rw [nI_clamp (show i + 2 < 2 ^ 31 by omega)]
    obtain ⟨fs8, hm8⟩ := MW.mem W8
    refine j_callVMp C rw_ (nA := 2) (As := [.int (sc (i + 1)), .int (sc (i + 2))]) (wc := w8) (n_X8_setCone (xl X) (xT X) (sc (i + 1)) (sc (i + 2)) W8 O) gL_law_X8_setCone rfl (by decide +kernel) rfl (by decide) ⟨by show k + 6 + 0 ≤ 601024; omega, by show n + 57 + 0 ≤ 7293034; omega⟩ (lwp_8 _ _ _ _ _ _ _) hm8 (ci := 8) rfl (rest := []) rfl (Nat.le_of_ble_eq_true rfl) dL_law_1089 (fun v w1 h => ?_)
    obtain ⟨k10, r2, rfl, hk10, hc10⟩ := h
    refine j_istore C (i := 7) dL_law_1092 (by decide) rfl ?_
    refine j_permP C (lwp_8 _ w72 w1 out outD f g).symm ?_
    have ek : k10 = k9 := hk10.trans hk9.symm
    rcases hc10 with ⟨hz10, hr2, hM⟩ | ⟨hz10, hM⟩
    · exact absurd (ek ▸ hz10) hz9
    · refine j_aload_n C dL_law_1094 4 rfl rfl ?_
      refine j_thrown C hM (lwp_8 _ _ _ _ _ _ _) (by decide) (by show k + 6 + 0 ≤ 601024; omega) (by show n + 57 + 0 ≤ 7293034; omega) dL_law_1095 ?_
      refine j_iload C dL_law_1098 1 rfl ?_
      refine j_icmp_eq C dL_law_1100 (tgt := 1105) (by decide) (fun _ => ?_) (fun e => absurd (congrArg nI ek) e)
      refine j_iload C dL_law_1105 1 rfl ?_
      have hb : k9 ≤ 3 := by rw [hk9]; unfold kf_setCone; (repeat' split) <;> omega
      refine j_if_ne C dL_law_1107 (tgt := 1122) (by decide) (fun _ => ?_) (fun e => absurd ((nI_eq (show k9 < 2 ^ 31 by omega) (show 0 < 2 ^ 31 by decide)).mp e) hz9)
      refine j_goto C dL_law_1122 (tgt := 2209) (by decide) ?_
      refine j_lv [2, 3, 4, 5, 6, 7] rfl ?_
      exact kk _ w72 w1 f g _ _ k10 (by show k + 6 + 0 ≤ k + 9; omega) (by show n + 57 + 0 ≤ n + 75; omega) hP hM O
set_option maxHeartbeats 4000000 in
theorem law_c_step {X : jj_X} (C : jj_C X cL_law RL wsL_law room_1 9 ret) (rw_ : jj_RW X) (hlS : (xl X).stackTraces = false) (hZ : jZ (xA X) (xs X) (xs X).heap) {b L : Nat} {sc : Nat → Int32} (hL : jj_L X b L sc) (hLL : L ≤ 2560) {h7 h8 out outD i k n k8 : Nat} {s : sT} {w7 w8 : va_W} {f : Nat → Int64} {g : Nat → UInt64} (hi : i + 5 ≤ L) (hk : k + 9 ≤ 601024) (hn : n + 75 ≤ 7293034) (W7 : PW (xT X) h7 s w7) (W8 : MW (xT X) h8 k8 s w8) (O : okS s) (kk : ∀ (s2 : sT) (w72 w82 : va_W) (f2 : Nat → Int64) (g2 : Nat → UInt64) (k2 n2 k82 : Nat), k2 ≤ k + 9 → n2 ≤ n + 75 → PW (xT X) h7 s2 w72 → MW (xT X) h8 k82 s2 w82 → okS s2 → jj X k2 n2 2209 (lvL b h7 h8 out outD i) [] (lwW (xT X) w72 w82 out outD f2 g2)) : jj X k n 1125 (lvL b h7 h8 out outD i) [] (lwW (xT X) w7 w8 out outD f g) := by
  obtain ⟨⟨ac, ap, ash, an, aob, arq⟩, cn, M, S⟩ := s
  refine j_aload_n C dL_law_1125 1 rfl rfl ?_
  refine j_aload_n C dL_law_1126 0 rfl rfl ?_
  refine j_iload C dL_law_1127 5 rfl ?_
  refine j_iconst C dL_law_1129 (v := nI 1) kc_i_1 ?_
  refine j_iadd C dL_law_1130 (v := nI (i + 1)) (nI_add i 1) ?_
  refine j_sld C rw_ hL (nI_in (by omega) (by omega)) dL_law_1131 ?_
  rw [nI_clamp (show i + 1 < 2 ^ 31 by omega)]
  refine j_aload_n C dL_law_1132 3 rfl rfl ?_
  refine j_callSWp C rw_ hZ (nA := 3) (As := [.ref h7, .int (sc (i + 1)), .ref out]) (c_L_step (xl X) (xT X) hlS (out := out) (f := f) (sc (i + 1)) W7 O) gL_law_L_step rfl (by decide +kernel) rfl (by decide) ⟨by show k + 6 ≤ 601024; omega, by show n + 57 ≤ 7293034; omega⟩ (lwp_7 _ _ _ _ _ _ _) (rest := []) rfl (Nat.le_of_ble_eq_true rfl) dL_law_1133 (fun v w1 h => ?_)
  obtain ⟨k9, rfl, hk9, hc9⟩ := h
  refine j_istore C (i := 6) dL_law_1136 (by decide) rfl ?_
  rcases hc9 with ⟨hz9, r, w72, f2, hr, hP, hf2, rfl⟩ | ⟨hz9, w72, hP, rfl⟩
  · refine j_permP C (lwp_7 _ w72 w8 out outD f2 g).symm ?_
    refine j_aload_n C dL_law_1138 3 rfl rfl ?_
    refine j_aload_n C dL_law_1139 1 rfl rfl ?_
    refine j_iload C dL_law_1140 6 rfl ?_
    refine j_iconst C dL_law_1142 (v := nI 1) kc_i_1 ?_
    refine j_iadd C dL_law_1143 (v := nI (i + 1)) (nI_add i 1) ?_
    refine j_sld C rw_ hL (nI_in (by omega) (by omega)) dL_law_1144 ?_
    rw [nI_clamp (show i + 1 < 2 ^ 31 by omega)]
    obtain ⟨fs8, hm8⟩ := MW.mem W8
    refine j_callVMp C rw_ (nA := 1) (As := [.int (sc (i + 1))]) (wc := w8) (n_X8_step (xl X) (xT X) (sc (i + 1)) W8 O) gL_law_X8_step rfl (by decide +kernel) rfl (by decide) ⟨by show k + 6 + 0 ≤ 601024; omega, by show n + 57 + 0 ≤ 7293034; omega⟩ (lwp_8 _ _ _ _ _ _ _) hm8 (ci := 8) rfl (rest := []) rfl (Nat.le_of_ble_eq_true rfl) dL_law_1145 (fun v w1 h => ?_)
    obtain ⟨k10, r2, rfl, hk10, hc10⟩ := h
    refine j_istore C (i := 7) dL_law_1148 (by decide) rfl ?_
    refine j_permP C (lwp_8 _ w72 w1 out outD f2 g).symm ?_
    have ek : k10 = k9 := hk10.trans hk9.symm
    rcases hc10 with ⟨hz10, hr2, hM⟩ | ⟨hz10, hM⟩
    · refine j_aload_n C dL_law_1150 4 rfl rfl ?_
      refine j_thrown C hM (lwp_8 _ _ _ _ _ _ _) (by decide) (by show k + 6 + 0 ≤ 601024; omega) (by show n + 57 + 0 ≤ 7293034; omega) dL_law_1151 ?_
      refine j_iload C dL_law_1154 1 rfl ?_
      refine j_icmp_eq C dL_law_1156 (tgt := 1161) (by decide) (fun _ => ?_) (fun e => absurd (congrArg nI (hz10.symm.trans ek)) e)
      refine j_iload C dL_law_1161 1 rfl ?_
      have er := ru_step hr hr2
      subst er
      refine j_if_ne C dL_law_1163 (tgt := 1178) (by decide) (fun e => absurd (by rw [hz9]; rfl) e) (fun _ => ?_)
      refine j_permP C (lwp_7 _ _ _ _ _ _ _) ?_
      refine j_aload_n C dL_law_1166 5 rfl rfl ?_
      refine j_iconst C dL_law_1167 (v := nI 0) kc_i_0 ?_
      refine j_laloadN C 0 rfl 0 rfl (by decide) (by decide) dL_law_1168 ?_
      refine j_iload C dL_law_1169 0 rfl ?_
      refine j_i2l C dL_law_1171 rfl ?_
      refine j_lcmp C dL_law_1172 ?_
      refine j_if_eq C dL_law_1173 (tgt := 1178) (by decide) (fun _ => ?_) (fun e => absurd (by rw [hf2]; exact cmp_self _) e)
      refine j_goto C dL_law_1178 (tgt := 2209) (by decide) ?_
      refine j_permP C (lwp_7 _ _ _ _ _ _ _).symm ?_
      refine j_lv [2, 3, 4, 5, 6, 7] rfl ?_
      exact kk _ w72 w1 f2 g _ _ 0 (by show k + 6 + 0 ≤ k + 9; omega) (by show n + 57 + 0 ≤ n + 75; omega) hP hM (po_step (PW.cn W7) O (hk9.symm.trans hz9) hr)
    · exact absurd (ek.trans hz9) hz10
  · refine j_permP C (lwp_7 _ w72 w8 out outD f g).symm ?_
    refine j_aload_n C dL_law_1138 3 rfl rfl ?_
    refine j_aload_n C dL_law_1139 1 rfl rfl ?_
    refine j_iload C dL_law_1140 6 rfl ?_
    refine j_iconst C dL_law_1142 (v := nI 1) kc_i_1 ?_
    refine j_iadd C dL_law_1143 (v := nI (i + 1)) (nI_add i 1) ?_
    refine j_sld C rw_ hL (nI_in (by omega) (by omega)) dL_law_1144 ?_
    rw [nI_clamp (show i + 1 < 2 ^ 31 by omega)]
    obtain ⟨fs8, hm8⟩ := MW.mem W8
    refine j_callVMp C rw_ (nA := 1) (As := [.int (sc (i + 1))]) (wc := w8) (n_X8_step (xl X) (xT X) (sc (i + 1)) W8 O) gL_law_X8_step rfl (by decide +kernel) rfl (by decide) ⟨by show k + 6 + 0 ≤ 601024; omega, by show n + 57 + 0 ≤ 7293034; omega⟩ (lwp_8 _ _ _ _ _ _ _) hm8 (ci := 8) rfl (rest := []) rfl (Nat.le_of_ble_eq_true rfl) dL_law_1145 (fun v w1 h => ?_)
    obtain ⟨k10, r2, rfl, hk10, hc10⟩ := h
    refine j_istore C (i := 7) dL_law_1148 (by decide) rfl ?_
    refine j_permP C (lwp_8 _ w72 w1 out outD f g).symm ?_
    have ek : k10 = k9 := hk10.trans hk9.symm
    rcases hc10 with ⟨hz10, hr2, hM⟩ | ⟨hz10, hM⟩
    · exact absurd (ek ▸ hz10) hz9
    · refine j_aload_n C dL_law_1150 4 rfl rfl ?_
      refine j_thrown C hM (lwp_8 _ _ _ _ _ _ _) (by decide) (by show k + 6 + 0 ≤ 601024; omega) (by show n + 57 + 0 ≤ 7293034; omega) dL_law_1151 ?_
      refine j_iload C dL_law_1154 1 rfl ?_
      refine j_icmp_eq C dL_law_1156 (tgt := 1161) (by decide) (fun _ => ?_) (fun e => absurd (congrArg nI ek) e)
      refine j_iload C dL_law_1161 1 rfl ?_
      have hb : k9 ≤ 3 := by rw [hk9]; unfold kf_step; (repeat' split) <;> omega
      refine j_if_ne C dL_law_1163 (tgt := 1178) (by decide) (fun _ => ?_) (fun e => absurd ((nI_eq (show k9 < 2 ^ 31 by omega) (show 0 < 2 ^ 31 by decide)).mp e) hz9)
      refine j_goto C dL_law_1178 (tgt := 2209) (by decide) ?_
      refine j_lv [2, 3, 4, 5, 6, 7] rfl ?_
      exact kk _ w72 w1 f g _ _ k10 (by show k + 6 + 0 ≤ k + 9; omega) (by show n + 57 + 0 ≤ n + 75; omega) hP hM O
set_option maxHeartbeats 4000000 in
theorem law_c_slew {X : jj_X} (C : jj_C X cL_law RL wsL_law room_1 9 ret) (rw_ : jj_RW X) (hlS : (xl X).stackTraces = false) (hZ : jZ (xA X) (xs X) (xs X).heap) {b L : Nat} {sc : Nat → Int32} (hL : jj_L X b L sc) (hLL : L ≤ 2560) {h7 h8 out outD i k n k8 : Nat} {s : sT} {w7 w8 : va_W} {f : Nat → Int64} {g : Nat → UInt64} (hi : i + 5 ≤ L) (hk : k + 9 ≤ 601024) (hn : n + 75 ≤ 7293034) (W7 : PW (xT X) h7 s w7) (W8 : MW (xT X) h8 k8 s w8) (O : okS s) (kk : ∀ (s2 : sT) (w72 w82 : va_W) (f2 : Nat → Int64) (g2 : Nat → UInt64) (k2 n2 k82 : Nat), k2 ≤ k + 9 → n2 ≤ n + 75 → PW (xT X) h7 s2 w72 → MW (xT X) h8 k82 s2 w82 → okS s2 → jj X k2 n2 2209 (lvL b h7 h8 out outD i) [] (lwW (xT X) w72 w82 out outD f2 g2)) : jj X k n 1181 (lvL b h7 h8 out outD i) [] (lwW (xT X) w7 w8 out outD f g) := by
  obtain ⟨⟨ac, ap, ash, an, aob, arq⟩, cn, M, S⟩ := s
  refine j_aload_n C dL_law_1181 1 rfl rfl ?_
  refine j_aload_n C dL_law_1182 0 rfl rfl ?_
  refine j_iload C dL_law_1183 5 rfl ?_
  refine j_iconst C dL_law_1185 (v := nI 1) kc_i_1 ?_
  refine j_iadd C dL_law_1186 (v := nI (i + 1)) (nI_add i 1) ?_
  refine j_sld C rw_ hL (nI_in (by omega) (by omega)) dL_law_1187 ?_
  rw [nI_clamp (show i + 1 < 2 ^ 31 by omega)]
  refine j_aload_n C dL_law_1188 3 rfl rfl ?_
  refine j_callSWp C rw_ hZ (nA := 3) (As := [.ref h7, .int (sc (i + 1)), .ref out]) (c_L_slew (xl X) (xT X) hlS (out := out) (f := f) (sc (i + 1)) W7 O) gL_law_L_slew rfl (by decide +kernel) rfl (by decide) ⟨by show k + 6 ≤ 601024; omega, by show n + 57 ≤ 7293034; omega⟩ (lwp_7 _ _ _ _ _ _ _) (rest := []) rfl (Nat.le_of_ble_eq_true rfl) dL_law_1189 (fun v w1 h => ?_)
  obtain ⟨k9, rfl, hk9, hc9⟩ := h
  refine j_istore C (i := 6) dL_law_1192 (by decide) rfl ?_
  rcases hc9 with ⟨hz9, r, w72, f2, hr, hP, hf2, rfl⟩ | ⟨hz9, w72, hP, rfl⟩
  · refine j_permP C (lwp_7 _ w72 w8 out outD f2 g).symm ?_
    refine j_aload_n C dL_law_1194 3 rfl rfl ?_
    refine j_aload_n C dL_law_1195 1 rfl rfl ?_
    refine j_iload C dL_law_1196 6 rfl ?_
    refine j_iconst C dL_law_1198 (v := nI 1) kc_i_1 ?_
    refine j_iadd C dL_law_1199 (v := nI (i + 1)) (nI_add i 1) ?_
    refine j_sld C rw_ hL (nI_in (by omega) (by omega)) dL_law_1200 ?_
    rw [nI_clamp (show i + 1 < 2 ^ 31 by omega)]
    obtain ⟨fs8, hm8⟩ := MW.mem W8
    refine j_callVMp C rw_ (nA := 1) (As := [.int (sc (i + 1))]) (wc := w8) (n_X8_slew (xl X) (xT X) (sc (i + 1)) W8 O) gL_law_X8_slew rfl (by decide +kernel) rfl (by decide) ⟨by show k + 6 + 0 ≤ 601024; omega, by show n + 57 + 0 ≤ 7293034; omega⟩ (lwp_8 _ _ _ _ _ _ _) hm8 (ci := 8) rfl (rest := []) rfl (Nat.le_of_ble_eq_true rfl) dL_law_1201 (fun v w1 h => ?_)
    obtain ⟨k10, r2, rfl, hk10, hc10⟩ := h
    refine j_istore C (i := 7) dL_law_1204 (by decide) rfl ?_
    refine j_permP C (lwp_8 _ w72 w1 out outD f2 g).symm ?_
    have ek : k10 = k9 := hk10.trans hk9.symm
    rcases hc10 with ⟨hz10, hr2, hM⟩ | ⟨hz10, hM⟩
    · refine j_aload_n C dL_law_1206 4 rfl rfl ?_
      refine j_thrown C hM (lwp_8 _ _ _ _ _ _ _) (by decide) (by show k + 6 + 0 ≤ 601024; omega) (by show n + 57 + 0 ≤ 7293034; omega) dL_law_1207 ?_
      refine j_iload C dL_law_1210 1 rfl ?_
      refine j_icmp_eq C dL_law_1212 (tgt := 1217) (by decide) (fun _ => ?_) (fun e => absurd (congrArg nI (hz10.symm.trans ek)) e)
      refine j_iload C dL_law_1217 1 rfl ?_
      have er := ru_slew hr hr2
      subst er
      refine j_if_ne C dL_law_1219 (tgt := 1234) (by decide) (fun e => absurd (by rw [hz9]; rfl) e) (fun _ => ?_)
      refine j_permP C (lwp_7 _ _ _ _ _ _ _) ?_
      refine j_aload_n C dL_law_1222 5 rfl rfl ?_
      refine j_iconst C dL_law_1223 (v := nI 0) kc_i_0 ?_
      refine j_laloadN C 0 rfl 0 rfl (by decide) (by decide) dL_law_1224 ?_
      refine j_iload C dL_law_1225 0 rfl ?_
      refine j_i2l C dL_law_1227 rfl ?_
      refine j_lcmp C dL_law_1228 ?_
      refine j_if_eq C dL_law_1229 (tgt := 1234) (by decide) (fun _ => ?_) (fun e => absurd (by rw [hf2]; exact cmp_self _) e)
      refine j_goto C dL_law_1234 (tgt := 2209) (by decide) ?_
      refine j_permP C (lwp_7 _ _ _ _ _ _ _).symm ?_
      refine j_lv [2, 3, 4, 5, 6, 7] rfl ?_
      exact kk _ w72 w1 f2 g _ _ 0 (by show k + 6 + 0 ≤ k + 9; omega) (by show n + 57 + 0 ≤ n + 75; omega) hP hM (po_slew (PW.cn W7) O (hk9.symm.trans hz9) hr)
    · exact absurd (ek.trans hz9) hz10
  · refine j_permP C (lwp_7 _ w72 w8 out outD f g).symm ?_
    refine j_aload_n C dL_law_1194 3 rfl rfl ?_
    refine j_aload_n C dL_law_1195 1 rfl rfl ?_
    refine j_iload C dL_law_1196 6 rfl ?_
    refine j_iconst C dL_law_1198 (v := nI 1) kc_i_1 ?_
    refine j_iadd C dL_law_1199 (v := nI (i + 1)) (nI_add i 1) ?_
    refine j_sld C rw_ hL (nI_in (by omega) (by omega)) dL_law_1200 ?_
    rw [nI_clamp (show i + 1 < 2 ^ 31 by omega)]
    obtain ⟨fs8, hm8⟩ := MW.mem W8
    refine j_callVMp C rw_ (nA := 1) (As := [.int (sc (i + 1))]) (wc := w8) (n_X8_slew (xl X) (xT X) (sc (i + 1)) W8 O) gL_law_X8_slew rfl (by decide +kernel) rfl (by decide) ⟨by show k + 6 + 0 ≤ 601024; omega, by show n + 57 + 0 ≤ 7293034; omega⟩ (lwp_8 _ _ _ _ _ _ _) hm8 (ci := 8) rfl (rest := []) rfl (Nat.le_of_ble_eq_true rfl) dL_law_1201 (fun v w1 h => ?_)
    obtain ⟨k10, r2, rfl, hk10, hc10⟩ := h
    refine j_istore C (i := 7) dL_law_1204 (by decide) rfl ?_
    refine j_permP C (lwp_8 _ w72 w1 out outD f g).symm ?_
    have ek : k10 = k9 := hk10.trans hk9.symm
    rcases hc10 with ⟨hz10, hr2, hM⟩ | ⟨hz10, hM⟩
    · exact absurd (ek ▸ hz10) hz9
    · refine j_aload_n C dL_law_1206 4 rfl rfl ?_
      refine j_thrown C hM (lwp_8 _ _ _ _ _ _ _) (by decide) (by show k + 6 + 0 ≤ 601024; omega) (by show n + 57 + 0 ≤ 7293034; omega) dL_law_1207 ?_
      refine j_iload C dL_law_1210 1 rfl ?_
      refine j_icmp_eq C dL_law_1212 (tgt := 1217) (by decide) (fun _ => ?_) (fun e => absurd (congrArg nI ek) e)
      refine j_iload C dL_law_1217 1 rfl ?_
      have hb : k9 ≤ 3 := by rw [hk9]; unfold kf_slew; (repeat' split) <;> omega
      refine j_if_ne C dL_law_1219 (tgt := 1234) (by decide) (fun _ => ?_) (fun e => absurd ((nI_eq (show k9 < 2 ^ 31 by omega) (show 0 < 2 ^ 31 by decide)).mp e) hz9)
      refine j_goto C dL_law_1234 (tgt := 2209) (by decide) ?_
      refine j_lv [2, 3, 4, 5, 6, 7] rfl ?_
      exact kk _ w72 w1 f g _ _ k10 (by show k + 6 + 0 ≤ k + 9; omega) (by show n + 57 + 0 ≤ n + 75; omega) hP hM O
