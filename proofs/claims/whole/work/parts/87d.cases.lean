/-! THE LAW (4): the cases -/
set_option maxHeartbeats 4000000 in
theorem law_c_reachableCells {X : jj_X} (C : jj_C X cL_law RL wsL_law room_1 9 ret) (rw_ : jj_RW X) (hlS : (xl X).stackTraces = false) (hZ : jZ (xA X) (xs X) (xs X).heap) {b L : Nat} {sc : Nat → Int32} (hL : jj_L X b L sc) (hLL : L ≤ 2560) {h7 h8 out outD i k n k8 : Nat} {s : sT} {w7 w8 : va_W} {f : Nat → Int64} {g : Nat → UInt64} (hi : i + 5 ≤ L) (hk : k + 9 ≤ 601024) (hn : n + 75 ≤ 7293034) (W7 : PW (xT X) h7 s w7) (W8 : MW (xT X) h8 k8 s w8) (O : okS s) (kk : ∀ (s2 : sT) (w72 w82 : va_W) (f2 : Nat → Int64) (g2 : Nat → UInt64) (k2 n2 k82 : Nat), k2 ≤ k + 9 → n2 ≤ n + 75 → PW (xT X) h7 s2 w72 → MW (xT X) h8 k82 s2 w82 → okS s2 → jj X k2 n2 2209 (lvL b h7 h8 out outD i) [] (lwW (xT X) w72 w82 out outD f2 g2)) : jj X k n 1685 (lvL b h7 h8 out outD i) [] (lwW (xT X) w7 w8 out outD f g) := by
  obtain ⟨⟨ac, ap, ash, an, aob, arq⟩, cn, M, S⟩ := s
  refine j_aload_n C dL_law_1685 1 rfl rfl ?_
  refine j_aload_n C dL_law_1686 0 rfl rfl ?_
  refine j_iload C dL_law_1687 5 rfl ?_
  refine j_iconst C dL_law_1689 (v := nI 1) kc_i_1 ?_
  refine j_iadd C dL_law_1690 (v := nI (i + 1)) (nI_add i 1) ?_
  refine j_sld C rw_ hL (nI_in (by omega) (by omega)) dL_law_1691 ?_
  rw [nI_clamp (show i + 1 < 2 ^ 31 by omega)]
  refine j_aload_n C dL_law_1692 3 rfl rfl ?_
  refine j_callSWp C rw_ hZ (nA := 3) (As := [.ref h7, .int (sc (i + 1)), .ref out]) (c_L_reachableCells (xl X) (xT X) hlS (out := out) (f := f) (sc (i + 1)) W7 O) gL_law_L_reachableCells rfl (by decide +kernel) rfl (by decide) ⟨by show k + 2 ≤ 601024; omega, by show n + 12 ≤ 7293034; omega⟩ (lwp_7 _ _ _ _ _ _ _) (rest := []) rfl (Nat.le_of_ble_eq_true rfl) dL_law_1693 (fun v w1 h => ?_)
  obtain ⟨k9, rfl, hk9, hc9⟩ := h
  refine j_istore C (i := 6) dL_law_1696 (by decide) rfl ?_
  rcases hc9 with ⟨hz9, r, w72, f2, hr, hP, hf2, rfl⟩ | ⟨hz9, w72, hP, rfl⟩
  · refine j_permP C (lwp_7 _ w72 w8 out outD f2 g).symm ?_
    refine j_aload_n C dL_law_1698 3 rfl rfl ?_
    refine j_aload_n C dL_law_1699 1 rfl rfl ?_
    refine j_iload C dL_law_1700 6 rfl ?_
    refine j_iconst C dL_law_1702 (v := nI 1) kc_i_1 ?_
    refine j_iadd C dL_law_1703 (v := nI (i + 1)) (nI_add i 1) ?_
    refine j_sld C rw_ hL (nI_in (by omega) (by omega)) dL_law_1704 ?_
    rw [nI_clamp (show i + 1 < 2 ^ 31 by omega)]
    obtain ⟨fs8, hm8⟩ := MW.mem W8
    refine j_callVMp C rw_ (nA := 1) (As := [.int (sc (i + 1))]) (wc := w8) (n_X8_reachableCells (xl X) (xT X) (sc (i + 1)) W8 O) gL_law_X8_reachableCells rfl (by decide +kernel) rfl (by decide) ⟨by show k + 2 + 0 ≤ 601024; omega, by show n + 12 + 0 ≤ 7293034; omega⟩ (lwp_8 _ _ _ _ _ _ _) hm8 (ci := 8) rfl (rest := []) rfl (Nat.le_of_ble_eq_true rfl) dL_law_1705 (fun v w1 h => ?_)
    obtain ⟨k10, r2, rfl, hk10, hc10⟩ := h
    refine j_istore C (i := 7) dL_law_1708 (by decide) rfl ?_
    refine j_permP C (lwp_8 _ w72 w1 out outD f2 g).symm ?_
    have ek : k10 = k9 := hk10.trans hk9.symm
    rcases hc10 with ⟨hz10, hr2, hM⟩ | ⟨hz10, hM⟩
    · refine j_aload_n C dL_law_1710 4 rfl rfl ?_
      refine j_thrown C hM (lwp_8 _ _ _ _ _ _ _) (by decide) (by show k + 2 + 0 ≤ 601024; omega) (by show n + 12 + 0 ≤ 7293034; omega) dL_law_1711 ?_
      refine j_iload C dL_law_1714 1 rfl ?_
      refine j_icmp_eq C dL_law_1716 (tgt := 1721) (by decide) (fun _ => ?_) (fun e => absurd (congrArg nI (hz10.symm.trans ek)) e)
      refine j_iload C dL_law_1721 1 rfl ?_
      have er := ru_reachableCells hr hr2
      subst er
      refine j_if_ne C dL_law_1723 (tgt := 1738) (by decide) (fun e => absurd (by rw [hz9]; rfl) e) (fun _ => ?_)
      refine j_permP C (lwp_7 _ _ _ _ _ _ _) ?_
      refine j_aload_n C dL_law_1726 5 rfl rfl ?_
      refine j_iconst C dL_law_1727 (v := nI 0) kc_i_0 ?_
      refine j_laloadN C 0 rfl 0 rfl (by decide) (by decide) dL_law_1728 ?_
      refine j_iload C dL_law_1729 0 rfl ?_
      refine j_i2l C dL_law_1731 rfl ?_
      refine j_lcmp C dL_law_1732 ?_
      refine j_if_eq C dL_law_1733 (tgt := 1738) (by decide) (fun _ => ?_) (fun e => absurd (by rw [hf2]; exact cmp_self _) e)
      refine j_goto C dL_law_1738 (tgt := 2209) (by decide) ?_
      refine j_permP C (lwp_7 _ _ _ _ _ _ _).symm ?_
      refine j_lv [2, 3, 4, 5, 6, 7] rfl ?_
      exact kk _ w72 w1 f2 g _ _ 0 (by show k + 2 + 0 ≤ k + 9; omega) (by show n + 12 + 0 ≤ n + 75; omega) hP hM O
    · exact absurd (ek.trans hz9) hz10
  · refine j_permP C (lwp_7 _ w72 w8 out outD f g).symm ?_
    refine j_aload_n C dL_law_1698 3 rfl rfl ?_
    refine j_aload_n C dL_law_1699 1 rfl rfl ?_
    refine j_iload C dL_law_1700 6 rfl ?_
    refine j_iconst C dL_law_1702 (v := nI 1) kc_i_1 ?_
    refine j_iadd C dL_law_1703 (v := nI (i + 1)) (nI_add i 1) ?_
    refine j_sld C rw_ hL (nI_in (by omega) (by omega)) dL_law_1704 ?_
    rw [nI_clamp (show i + 1 < 2 ^ 31 by omega)]
    obtain ⟨fs8, hm8⟩ := MW.mem W8
    refine j_callVMp C rw_ (nA := 1) (As := [.int (sc (i + 1))]) (wc := w8) (n_X8_reachableCells (xl X) (xT X) (sc (i + 1)) W8 O) gL_law_X8_reachableCells rfl (by decide +kernel) rfl (by decide) ⟨by show k + 2 + 0 ≤ 601024; omega, by show n + 12 + 0 ≤ 7293034; omega⟩ (lwp_8 _ _ _ _ _ _ _) hm8 (ci := 8) rfl (rest := []) rfl (Nat.le_of_ble_eq_true rfl) dL_law_1705 (fun v w1 h => ?_)
    obtain ⟨k10, r2, rfl, hk10, hc10⟩ := h
    refine j_istore C (i := 7) dL_law_1708 (by decide) rfl ?_
    refine j_permP C (lwp_8 _ w72 w1 out outD f g).symm ?_
    have ek : k10 = k9 := hk10.trans hk9.symm
    rcases hc10 with ⟨hz10, hr2, hM⟩ | ⟨hz10, hM⟩
    · exact absurd (ek ▸ hz10) hz9
    · refine j_aload_n C dL_law_1710 4 rfl rfl ?_
      refine j_thrown C hM (lwp_8 _ _ _ _ _ _ _) (by decide) (by show k + 2 + 0 ≤ 601024; omega) (by show n + 12 + 0 ≤ 7293034; omega) dL_law_1711 ?_
      refine j_iload C dL_law_1714 1 rfl ?_
      refine j_icmp_eq C dL_law_1716 (tgt := 1721) (by decide) (fun _ => ?_) (fun e => absurd (congrArg nI ek) e)
      refine j_iload C dL_law_1721 1 rfl ?_
      have hb : k9 ≤ 3 := by rw [hk9]; unfold kf_reachableCells; (repeat' split) <;> omega
      refine j_if_ne C dL_law_1723 (tgt := 1738) (by decide) (fun _ => ?_) (fun e => absurd ((nI_eq (show k9 < 2 ^ 31 by omega) (show 0 < 2 ^ 31 by decide)).mp e) hz9)
      refine j_goto C dL_law_1738 (tgt := 2209) (by decide) ?_
      refine j_lv [2, 3, 4, 5, 6, 7] rfl ?_
      exact kk _ w72 w1 f g _ _ k10 (by show k + 2 + 0 ≤ k + 9; omega) (by show n + 12 + 0 ≤ n + 75; omega) hP hM O
set_option maxHeartbeats 4000000 in
theorem law_c_parkingCell {X : jj_X} (C : jj_C X cL_law RL wsL_law room_1 9 ret) (rw_ : jj_RW X) (hlS : (xl X).stackTraces = false) (hZ : jZ (xA X) (xs X) (xs X).heap) {b L : Nat} {sc : Nat → Int32} (hL : jj_L X b L sc) (hLL : L ≤ 2560) {h7 h8 out outD i k n k8 : Nat} {s : sT} {w7 w8 : va_W} {f : Nat → Int64} {g : Nat → UInt64} (hi : i + 5 ≤ L) (hk : k + 9 ≤ 601024) (hn : n + 75 ≤ 7293034) (W7 : PW (xT X) h7 s w7) (W8 : MW (xT X) h8 k8 s w8) (O : okS s) (kk : ∀ (s2 : sT) (w72 w82 : va_W) (f2 : Nat → Int64) (g2 : Nat → UInt64) (k2 n2 k82 : Nat), k2 ≤ k + 9 → n2 ≤ n + 75 → PW (xT X) h7 s2 w72 → MW (xT X) h8 k82 s2 w82 → okS s2 → jj X k2 n2 2209 (lvL b h7 h8 out outD i) [] (lwW (xT X) w72 w82 out outD f2 g2)) : jj X k n 1741 (lvL b h7 h8 out outD i) [] (lwW (xT X) w7 w8 out outD f g) := by
  obtain ⟨⟨ac, ap, ash, an, aob, arq⟩, cn, M, S⟩ := s
  refine j_aload_n C dL_law_1741 1 rfl rfl ?_
  refine j_aload_n C dL_law_1742 0 rfl rfl ?_
  refine j_iload C dL_law_1743 5 rfl ?_
  refine j_iconst C dL_law_1745 (v := nI 1) kc_i_1 ?_
  refine j_iadd C dL_law_1746 (v := nI (i + 1)) (nI_add i 1) ?_
  refine j_sld C rw_ hL (nI_in (by omega) (by omega)) dL_law_1747 ?_
  rw [nI_clamp (show i + 1 < 2 ^ 31 by omega)]
  refine j_aload_n C dL_law_1748 3 rfl rfl ?_
  refine j_callSWp C rw_ hZ (nA := 3) (As := [.ref h7, .int (sc (i + 1)), .ref out]) (c_L_parkingCell (xl X) (xT X) hlS (out := out) (f := f) (sc (i + 1)) W7 O) gL_law_L_parkingCell rfl (by decide +kernel) rfl (by decide) ⟨by show k + 2 ≤ 601024; omega, by show n + 12 ≤ 7293034; omega⟩ (lwp_7 _ _ _ _ _ _ _) (rest := []) rfl (Nat.le_of_ble_eq_true rfl) dL_law_1749 (fun v w1 h => ?_)
  obtain ⟨k9, rfl, hk9, hc9⟩ := h
  refine j_istore C (i := 6) dL_law_1752 (by decide) rfl ?_
  rcases hc9 with ⟨hz9, r, w72, f2, hr, hP, hf2, rfl⟩ | ⟨hz9, w72, hP, rfl⟩
  · refine j_permP C (lwp_7 _ w72 w8 out outD f2 g).symm ?_
    refine j_aload_n C dL_law_1754 3 rfl rfl ?_
    refine j_aload_n C dL_law_1755 1 rfl rfl ?_
    refine j_iload C dL_law_1756 6 rfl ?_
    refine j_iconst C dL_law_1758 (v := nI 1) kc_i_1 ?_
    refine j_iadd C dL_law_1759 (v := nI (i + 1)) (nI_add i 1) ?_
    refine j_sld C rw_ hL (nI_in (by omega) (by omega)) dL_law_1760 ?_
    rw [nI_clamp (show i + 1 < 2 ^ 31 by omega)]
    obtain ⟨fs8, hm8⟩ := MW.mem W8
    refine j_callVMp C rw_ (nA := 1) (As := [.int (sc (i + 1))]) (wc := w8) (n_X8_parkingCell (xl X) (xT X) (sc (i + 1)) W8 O) gL_law_X8_parkingCell rfl (by decide +kernel) rfl (by decide) ⟨by show k + 2 + 0 ≤ 601024; omega, by show n + 12 + 0 ≤ 7293034; omega⟩ (lwp_8 _ _ _ _ _ _ _) hm8 (ci := 8) rfl (rest := []) rfl (Nat.le_of_ble_eq_true rfl) dL_law_1761 (fun v w1 h => ?_)
    obtain ⟨k10, r2, rfl, hk10, hc10⟩ := h
    refine j_istore C (i := 7) dL_law_1764 (by decide) rfl ?_
    refine j_permP C (lwp_8 _ w72 w1 out outD f2 g).symm ?_
    have ek : k10 = k9 := hk10.trans hk9.symm
    rcases hc10 with ⟨hz10, hr2, hM⟩ | ⟨hz10, hM⟩
    · refine j_aload_n C dL_law_1766 4 rfl rfl ?_
      refine j_thrown C hM (lwp_8 _ _ _ _ _ _ _) (by decide) (by show k + 2 + 0 ≤ 601024; omega) (by show n + 12 + 0 ≤ 7293034; omega) dL_law_1767 ?_
      refine j_iload C dL_law_1770 1 rfl ?_
      refine j_icmp_eq C dL_law_1772 (tgt := 1777) (by decide) (fun _ => ?_) (fun e => absurd (congrArg nI (hz10.symm.trans ek)) e)
      refine j_iload C dL_law_1777 1 rfl ?_
      have er := ru_parkingCell hr hr2
      subst er
      refine j_if_ne C dL_law_1779 (tgt := 1794) (by decide) (fun e => absurd (by rw [hz9]; rfl) e) (fun _ => ?_)
      refine j_permP C (lwp_7 _ _ _ _ _ _ _) ?_
      refine j_aload_n C dL_law_1782 5 rfl rfl ?_
      refine j_iconst C dL_law_1783 (v := nI 0) kc_i_0 ?_
      refine j_laloadN C 0 rfl 0 rfl (by decide) (by decide) dL_law_1784 ?_
      refine j_iload C dL_law_1785 0 rfl ?_
      refine j_i2l C dL_law_1787 rfl ?_
      refine j_lcmp C dL_law_1788 ?_
      refine j_if_eq C dL_law_1789 (tgt := 1794) (by decide) (fun _ => ?_) (fun e => absurd (by rw [hf2]; exact cmp_self _) e)
      refine j_goto C dL_law_1794 (tgt := 2209) (by decide) ?_
      refine j_permP C (lwp_7 _ _ _ _ _ _ _).symm ?_
      refine j_lv [2, 3, 4, 5, 6, 7] rfl ?_
      exact kk _ w72 w1 f2 g _ _ 0 (by show k + 2 + 0 ≤ k + 9; omega) (by show n + 12 + 0 ≤ n + 75; omega) hP hM O
    · exact absurd (ek.trans hz9) hz10
  · refine j_permP C (lwp_7 _ w72 w8 out outD f g).symm ?_
    refine j_aload_n C dL_law_1754 3 rfl rfl ?_
    refine j_aload_n C dL_law_1755 1 rfl rfl ?_
    refine j_iload C dL_law_1756 6 rfl ?_
    refine j_iconst C dL_law_1758 (v := nI 1) kc_i_1 ?_
    refine j_iadd C dL_law_1759 (v := nI (i + 1)) (nI_add i 1) ?_
    refine j_sld C rw_ hL (nI_in (by omega) (by omega)) dL_law_1760 ?_
    rw [nI_clamp (show i + 1 < 2 ^ 31 by omega)]
    obtain ⟨fs8, hm8⟩ := MW.mem W8
    refine j_callVMp C rw_ (nA := 1) (As := [.int (sc (i + 1))]) (wc := w8) (n_X8_parkingCell (xl X) (xT X) (sc (i + 1)) W8 O) gL_law_X8_parkingCell rfl (by decide +kernel) rfl (by decide) ⟨by show k + 2 + 0 ≤ 601024; omega, by show n + 12 + 0 ≤ 7293034; omega⟩ (lwp_8 _ _ _ _ _ _ _) hm8 (ci := 8) rfl (rest := []) rfl (Nat.le_of_ble_eq_true rfl) dL_law_1761 (fun v w1 h => ?_)
    obtain ⟨k10, r2, rfl, hk10, hc10⟩ := h
    refine j_istore C (i := 7) dL_law_1764 (by decide) rfl ?_
    refine j_permP C (lwp_8 _ w72 w1 out outD f g).symm ?_
    have ek : k10 = k9 := hk10.trans hk9.symm
    rcases hc10 with ⟨hz10, hr2, hM⟩ | ⟨hz10, hM⟩
    · exact absurd (ek ▸ hz10) hz9
    · refine j_aload_n C dL_law_1766 4 rfl rfl ?_
      refine j_thrown C hM (lwp_8 _ _ _ _ _ _ _) (by decide) (by show k + 2 + 0 ≤ 601024; omega) (by show n + 12 + 0 ≤ 7293034; omega) dL_law_1767 ?_
      refine j_iload C dL_law_1770 1 rfl ?_
      refine j_icmp_eq C dL_law_1772 (tgt := 1777) (by decide) (fun _ => ?_) (fun e => absurd (congrArg nI ek) e)
      refine j_iload C dL_law_1777 1 rfl ?_
      have hb : k9 ≤ 3 := by rw [hk9]; unfold kf_parkingCell; (repeat' split) <;> omega
      refine j_if_ne C dL_law_1779 (tgt := 1794) (by decide) (fun _ => ?_) (fun e => absurd ((nI_eq (show k9 < 2 ^ 31 by omega) (show 0 < 2 ^ 31 by decide)).mp e) hz9)
      refine j_goto C dL_law_1794 (tgt := 2209) (by decide) ?_
      refine j_lv [2, 3, 4, 5, 6, 7] rfl ?_
      exact kk _ w72 w1 f g _ _ k10 (by show k + 2 + 0 ≤ k + 9; omega) (by show n + 12 + 0 ≤ n + 75; omega) hP hM O
set_option maxHeartbeats 4000000 in
theorem law_c_parkingSteps {X : jj_X} (C : jj_C X cL_law RL wsL_law room_1 9 ret) (rw_ : jj_RW X) (hlS : (xl X).stackTraces = false) (hZ : jZ (xA X) (xs X) (xs X).heap) {b L : Nat} {sc : Nat → Int32} (hL : jj_L X b L sc) (hLL : L ≤ 2560) {h7 h8 out outD i k n k8 : Nat} {s : sT} {w7 w8 : va_W} {f : Nat → Int64} {g : Nat → UInt64} (hi : i + 5 ≤ L) (hk : k + 9 ≤ 601024) (hn : n + 75 ≤ 7293034) (W7 : PW (xT X) h7 s w7) (W8 : MW (xT X) h8 k8 s w8) (O : okS s) (kk : ∀ (s2 : sT) (w72 w82 : va_W) (f2 : Nat → Int64) (g2 : Nat → UInt64) (k2 n2 k82 : Nat), k2 ≤ k + 9 → n2 ≤ n + 75 → PW (xT X) h7 s2 w72 → MW (xT X) h8 k82 s2 w82 → okS s2 → jj X k2 n2 2209 (lvL b h7 h8 out outD i) [] (lwW (xT X) w72 w82 out outD f2 g2)) : jj X k n 1797 (lvL b h7 h8 out outD i) [] (lwW (xT X) w7 w8 out outD f g) := by
  obtain ⟨⟨ac, ap, ash, an, aob, arq⟩, cn, M, S⟩ := s
  refine j_aload_n C dL_law_1797 1 rfl rfl ?_
  refine j_aload_n C dL_law_1798 0 rfl rfl ?_
  refine j_iload C dL_law_1799 5 rfl ?_
  refine j_iconst C dL_law_1801 (v := nI 1) kc_i_1 ?_
  refine j_iadd C dL_law_1802 (v := nI (i + 1)) (nI_add i 1) ?_
  refine j_sld C rw_ hL (nI_in (by omega) (by omega)) dL_law_1803 ?_
  rw [nI_clamp (show i + 1 < 2 ^ 31 by omega)]
  refine j_aload_n C dL_law_1804 3 rfl rfl ?_
  refine j_callSWp C rw_ hZ (nA := 3) (As := [.ref h7, .int (sc (i + 1)), .ref out]) (c_L_parkingSteps (xl X) (xT X) hlS (out := out) (f := f) (sc (i + 1)) W7 O) gL_law_L_parkingSteps rfl (by decide +kernel) rfl (by decide) ⟨by show k + 2 ≤ 601024; omega, by show n + 12 ≤ 7293034; omega⟩ (lwp_7 _ _ _ _ _ _ _) (rest := []) rfl (Nat.le_of_ble_eq_true rfl) dL_law_1805 (fun v w1 h => ?_)
  obtain ⟨k9, rfl, hk9, hc9⟩ := h
  refine j_istore C (i := 6) dL_law_1808 (by decide) rfl ?_
  rcases hc9 with ⟨hz9, r, w72, f2, hr, hP, hf2, rfl⟩ | ⟨hz9, w72, hP, rfl⟩
  · refine j_permP C (lwp_7 _ w72 w8 out outD f2 g).symm ?_
    refine j_aload_n C dL_law_1810 3 rfl rfl ?_
    refine j_aload_n C dL_law_1811 1 rfl rfl ?_
    refine j_iload C dL_law_1812 6 rfl ?_
    refine j_iconst C dL_law_1814 (v := nI 1) kc_i_1 ?_
    refine j_iadd C dL_law_1815 (v := nI (i + 1)) (nI_add i 1) ?_
    refine j_sld C rw_ hL (nI_in (by omega) (by omega)) dL_law_1816 ?_
    rw [nI_clamp (show i + 1 < 2 ^ 31 by omega)]
    obtain ⟨fs8, hm8⟩ := MW.mem W8
    refine j_callVMp C rw_ (nA := 1) (As := [.int (sc (i + 1))]) (wc := w8) (n_X8_parkingSteps (xl X) (xT X) (sc (i + 1)) W8 O) gL_law_X8_parkingSteps rfl (by decide +kernel) rfl (by decide) ⟨by show k + 2 + 0 ≤ 601024; omega, by show n + 12 + 0 ≤ 7293034; omega⟩ (lwp_8 _ _ _ _ _ _ _) hm8 (ci := 8) rfl (rest := []) rfl (Nat.le_of_ble_eq_true rfl) dL_law_1817 (fun v w1 h => ?_)
    obtain ⟨k10, r2, rfl, hk10, hc10⟩ := h
    refine j_istore C (i := 7) dL_law_1820 (by decide) rfl ?_
    refine j_permP C (lwp_8 _ w72 w1 out outD f2 g).symm ?_
    have ek : k10 = k9 := hk10.trans hk9.symm
    rcases hc10 with ⟨hz10, hr2, hM⟩ | ⟨hz10, hM⟩
    · refine j_aload_n C dL_law_1822 4 rfl rfl ?_
      refine j_thrown C hM (lwp_8 _ _ _ _ _ _ _) (by decide) (by show k + 2 + 0 ≤ 601024; omega) (by show n + 12 + 0 ≤ 7293034; omega) dL_law_1823 ?_
      refine j_iload C dL_law_1826 1 rfl ?_
      refine j_icmp_eq C dL_law_1828 (tgt := 1833) (by decide) (fun _ => ?_) (fun e => absurd (congrArg nI (hz10.symm.trans ek)) e)
      refine j_iload C dL_law_1833 1 rfl ?_
      have er := ru_parkingSteps hr hr2
      subst er
      refine j_if_ne C dL_law_1835 (tgt := 1850) (by decide) (fun e => absurd (by rw [hz9]; rfl) e) (fun _ => ?_)
      refine j_permP C (lwp_7 _ _ _ _ _ _ _) ?_
      refine j_aload_n C dL_law_1838 5 rfl rfl ?_
      refine j_iconst C dL_law_1839 (v := nI 0) kc_i_0 ?_
      refine j_laloadN C 0 rfl 0 rfl (by decide) (by decide) dL_law_1840 ?_
      refine j_iload C dL_law_1841 0 rfl ?_
      refine j_i2l C dL_law_1843 rfl ?_
      refine j_lcmp C dL_law_1844 ?_
      refine j_if_eq C dL_law_1845 (tgt := 1850) (by decide) (fun _ => ?_) (fun e => absurd (by rw [hf2]; exact cmp_self _) e)
      refine j_goto C dL_law_1850 (tgt := 2209) (by decide) ?_
      refine j_permP C (lwp_7 _ _ _ _ _ _ _).symm ?_
      refine j_lv [2, 3, 4, 5, 6, 7] rfl ?_
      exact kk _ w72 w1 f2 g _ _ 0 (by show k + 2 + 0 ≤ k + 9; omega) (by show n + 12 + 0 ≤ n + 75; omega) hP hM O
    · exact absurd (ek.trans hz9) hz10
  · refine j_permP C (lwp_7 _ w72 w8 out outD f g).symm ?_
    refine j_aload_n C dL_law_1810 3 rfl rfl ?_
    refine j_aload_n C dL_law_1811 1 rfl rfl ?_
    refine j_iload C dL_law_1812 6 rfl ?_
    refine j_iconst C dL_law_1814 (v := nI 1) kc_i_1 ?_
    refine j_iadd C dL_law_1815 (v := nI (i + 1)) (nI_add i 1) ?_
    refine j_sld C rw_ hL (nI_in (by omega) (by omega)) dL_law_1816 ?_
    rw [nI_clamp (show i + 1 < 2 ^ 31 by omega)]
    obtain ⟨fs8, hm8⟩ := MW.mem W8
    refine j_callVMp C rw_ (nA := 1) (As := [.int (sc (i + 1))]) (wc := w8) (n_X8_parkingSteps (xl X) (xT X) (sc (i + 1)) W8 O) gL_law_X8_parkingSteps rfl (by decide +kernel) rfl (by decide) ⟨by show k + 2 + 0 ≤ 601024; omega, by show n + 12 + 0 ≤ 7293034; omega⟩ (lwp_8 _ _ _ _ _ _ _) hm8 (ci := 8) rfl (rest := []) rfl (Nat.le_of_ble_eq_true rfl) dL_law_1817 (fun v w1 h => ?_)
    obtain ⟨k10, r2, rfl, hk10, hc10⟩ := h
    refine j_istore C (i := 7) dL_law_1820 (by decide) rfl ?_
    refine j_permP C (lwp_8 _ w72 w1 out outD f g).symm ?_
    have ek : k10 = k9 := hk10.trans hk9.symm
    rcases hc10 with ⟨hz10, hr2, hM⟩ | ⟨hz10, hM⟩
    · exact absurd (ek ▸ hz10) hz9
    · refine j_aload_n C dL_law_1822 4 rfl rfl ?_
      refine j_thrown C hM (lwp_8 _ _ _ _ _ _ _) (by decide) (by show k + 2 + 0 ≤ 601024; omega) (by show n + 12 + 0 ≤ 7293034; omega) dL_law_1823 ?_
      refine j_iload C dL_law_1826 1 rfl ?_
      refine j_icmp_eq C dL_law_1828 (tgt := 1833) (by decide) (fun _ => ?_) (fun e => absurd (congrArg nI ek) e)
      refine j_iload C dL_law_1833 1 rfl ?_
      have hb : k9 ≤ 3 := by rw [hk9]; unfold kf_parkingSteps; (repeat' split) <;> omega
      refine j_if_ne C dL_law_1835 (tgt := 1850) (by decide) (fun _ => ?_) (fun e => absurd ((nI_eq (show k9 < 2 ^ 31 by omega) (show 0 < 2 ^ 31 by decide)).mp e) hz9)
      refine j_goto C dL_law_1850 (tgt := 2209) (by decide) ?_
      refine j_lv [2, 3, 4, 5, 6, 7] rfl ?_
      exact kk _ w72 w1 f g _ _ k10 (by show k + 2 + 0 ≤ k + 9; omega) (by show n + 12 + 0 ≤ n + 75; omega) hP hM O
set_option maxHeartbeats 4000000 in
theorem law_c_requestFinish {X : jj_X} (C : jj_C X cL_law RL wsL_law room_1 9 ret) (rw_ : jj_RW X) (hlS : (xl X).stackTraces = false) (hZ : jZ (xA X) (xs X) (xs X).heap) {b L : Nat} {sc : Nat → Int32} (hL : jj_L X b L sc) (hLL : L ≤ 2560) {h7 h8 out outD i k n k8 : Nat} {s : sT} {w7 w8 : va_W} {f : Nat → Int64} {g : Nat → UInt64} (hi : i + 5 ≤ L) (hk : k + 9 ≤ 601024) (hn : n + 75 ≤ 7293034) (W7 : PW (xT X) h7 s w7) (W8 : MW (xT X) h8 k8 s w8) (O : okS s) (kk : ∀ (s2 : sT) (w72 w82 : va_W) (f2 : Nat → Int64) (g2 : Nat → UInt64) (k2 n2 k82 : Nat), k2 ≤ k + 9 → n2 ≤ n + 75 → PW (xT X) h7 s2 w72 → MW (xT X) h8 k82 s2 w82 → okS s2 → jj X k2 n2 2209 (lvL b h7 h8 out outD i) [] (lwW (xT X) w72 w82 out outD f2 g2)) : jj X k n 1853 (lvL b h7 h8 out outD i) [] (lwW (xT X) w7 w8 out outD f g) := by
  obtain ⟨⟨ac, ap, ash, an, aob, arq⟩, cn, M, S⟩ := s
  refine j_aload_n C dL_law_1853 1 rfl rfl ?_
  refine j_aload_n C dL_law_1854 0 rfl rfl ?_
  refine j_iload C dL_law_1855 5 rfl ?_
  refine j_iconst C dL_law_1857 (v := nI 1) kc_i_1 ?_
  refine j_iadd C dL_law_1858 (v := nI (i + 1)) (nI_add i 1) ?_
  refine j_sld C rw_ hL (nI_in (by omega) (by omega)) dL_law_1859 ?_
  rw [nI_clamp (show i + 1 < 2 ^ 31 by omega)]
  refine j_aload_n C dL_law_1860 3 rfl rfl ?_
  refine j_callSWp C rw_ hZ (nA := 3) (As := [.ref h7, .int (sc (i + 1)), .ref out]) (c_L_requestFinish (xl X) (xT X) hlS (out := out) (f := f) (sc (i + 1)) W7 O) gL_law_L_requestFinish rfl (by decide +kernel) rfl (by decide) ⟨by show k + 2 ≤ 601024; omega, by show n + 12 ≤ 7293034; omega⟩ (lwp_7 _ _ _ _ _ _ _) (rest := []) rfl (Nat.le_of_ble_eq_true rfl) dL_law_1861 (fun v w1 h => ?_)
  obtain ⟨k9, rfl, hk9, hc9⟩ := h
  refine j_istore C (i := 6) dL_law_1864 (by decide) rfl ?_
  rcases hc9 with ⟨hz9, r, w72, f2, hr, hP, hf2, rfl⟩ | ⟨hz9, w72, hP, rfl⟩
  · refine j_permP C (lwp_7 _ w72 w8 out outD f2 g).symm ?_
    refine j_aload_n C dL_law_1866 3 rfl rfl ?_
    refine j_aload_n C dL_law_1867 1 rfl rfl ?_
    refine j_iload C dL_law_1868 6 rfl ?_
    refine j_iconst C dL_law_1870 (v := nI 1) kc_i_1 ?_
    refine j_iadd C dL_law_1871 (v := nI (i + 1)) (nI_add i 1) ?_
    refine j_sld C rw_ hL (nI_in (by omega) (by omega)) dL_law_1872 ?_
    rw [nI_clamp (show i + 1 < 2 ^ 31 by omega)]
    obtain ⟨fs8, hm8⟩ := MW.mem W8
    refine j_callVMp C rw_ (nA := 1) (As := [.int (sc (i + 1))]) (wc := w8) (n_X8_requestFinish (xl X) (xT X) (sc (i + 1)) W8 O) gL_law_X8_requestFinish rfl (by decide +kernel) rfl (by decide) ⟨by show k + 2 + 0 ≤ 601024; omega, by show n + 12 + 0 ≤ 7293034; omega⟩ (lwp_8 _ _ _ _ _ _ _) hm8 (ci := 8) rfl (rest := []) rfl (Nat.le_of_ble_eq_true rfl) dL_law_1873 (fun v w1 h => ?_)
    obtain ⟨k10, r2, rfl, hk10, hc10⟩ := h
    refine j_istore C (i := 7) dL_law_1876 (by decide) rfl ?_
    refine j_permP C (lwp_8 _ w72 w1 out outD f2 g).symm ?_
    have ek : k10 = k9 := hk10.trans hk9.symm
    rcases hc10 with ⟨hz10, hr2, hM⟩ | ⟨hz10, hM⟩
    · refine j_aload_n C dL_law_1878 4 rfl rfl ?_
      refine j_thrown C hM (lwp_8 _ _ _ _ _ _ _) (by decide) (by show k + 2 + 0 ≤ 601024; omega) (by show n + 12 + 0 ≤ 7293034; omega) dL_law_1879 ?_
      refine j_iload C dL_law_1882 1 rfl ?_
      refine j_icmp_eq C dL_law_1884 (tgt := 1889) (by decide) (fun _ => ?_) (fun e => absurd (congrArg nI (hz10.symm.trans ek)) e)
      refine j_iload C dL_law_1889 1 rfl ?_
      have er := ru_requestFinish hr hr2
      subst er
      refine j_if_ne C dL_law_1891 (tgt := 1906) (by decide) (fun e => absurd (by rw [hz9]; rfl) e) (fun _ => ?_)
      refine j_permP C (lwp_7 _ _ _ _ _ _ _) ?_
      refine j_aload_n C dL_law_1894 5 rfl rfl ?_
      refine j_iconst C dL_law_1895 (v := nI 0) kc_i_0 ?_
      refine j_laloadN C 0 rfl 0 rfl (by decide) (by decide) dL_law_1896 ?_
      refine j_iload C dL_law_1897 0 rfl ?_
      refine j_i2l C dL_law_1899 rfl ?_
      refine j_lcmp C dL_law_1900 ?_
      refine j_if_eq C dL_law_1901 (tgt := 1906) (by decide) (fun _ => ?_) (fun e => absurd (by rw [hf2]; exact cmp_self _) e)
      refine j_goto C dL_law_1906 (tgt := 2209) (by decide) ?_
      refine j_permP C (lwp_7 _ _ _ _ _ _ _).symm ?_
      refine j_lv [2, 3, 4, 5, 6, 7] rfl ?_
      exact kk _ w72 w1 f2 g _ _ 0 (by show k + 2 + 0 ≤ k + 9; omega) (by show n + 12 + 0 ≤ n + 75; omega) hP hM O
    · exact absurd (ek.trans hz9) hz10
  · refine j_permP C (lwp_7 _ w72 w8 out outD f g).symm ?_
    refine j_aload_n C dL_law_1866 3 rfl rfl ?_
    refine j_aload_n C dL_law_1867 1 rfl rfl ?_
    refine j_iload C dL_law_1868 6 rfl ?_
    refine j_iconst C dL_law_1870 (v := nI 1) kc_i_1 ?_
    refine j_iadd C dL_law_1871 (v := nI (i + 1)) (nI_add i 1) ?_
    refine j_sld C rw_ hL (nI_in (by omega) (by omega)) dL_law_1872 ?_
    rw [nI_clamp (show i + 1 < 2 ^ 31 by omega)]
    obtain ⟨fs8, hm8⟩ := MW.mem W8
    refine j_callVMp C rw_ (nA := 1) (As := [.int (sc (i + 1))]) (wc := w8) (n_X8_requestFinish (xl X) (xT X) (sc (i + 1)) W8 O) gL_law_X8_requestFinish rfl (by decide +kernel) rfl (by decide) ⟨by show k + 2 + 0 ≤ 601024; omega, by show n + 12 + 0 ≤ 7293034; omega⟩ (lwp_8 _ _ _ _ _ _ _) hm8 (ci := 8) rfl (rest := []) rfl (Nat.le_of_ble_eq_true rfl) dL_law_1873 (fun v w1 h => ?_)
    obtain ⟨k10, r2, rfl, hk10, hc10⟩ := h
    refine j_istore C (i := 7) dL_law_1876 (by decide) rfl ?_
    refine j_permP C (lwp_8 _ w72 w1 out outD f g).symm ?_
    have ek : k10 = k9 := hk10.trans hk9.symm
    rcases hc10 with ⟨hz10, hr2, hM⟩ | ⟨hz10, hM⟩
    · exact absurd (ek ▸ hz10) hz9
    · refine j_aload_n C dL_law_1878 4 rfl rfl ?_
      refine j_thrown C hM (lwp_8 _ _ _ _ _ _ _) (by decide) (by show k + 2 + 0 ≤ 601024; omega) (by show n + 12 + 0 ≤ 7293034; omega) dL_law_1879 ?_
      refine j_iload C dL_law_1882 1 rfl ?_
      refine j_icmp_eq C dL_law_1884 (tgt := 1889) (by decide) (fun _ => ?_) (fun e => absurd (congrArg nI ek) e)
      refine j_iload C dL_law_1889 1 rfl ?_
      have hb : k9 ≤ 3 := by rw [hk9]; unfold kf_requestFinish; (repeat' split) <;> omega
      refine j_if_ne C dL_law_1891 (tgt := 1906) (by decide) (fun _ => ?_) (fun e => absurd ((nI_eq (show k9 < 2 ^ 31 by omega) (show 0 < 2 ^ 31 by decide)).mp e) hz9)
      refine j_goto C dL_law_1906 (tgt := 2209) (by decide) ?_
      refine j_lv [2, 3, 4, 5, 6, 7] rfl ?_
      exact kk _ w72 w1 f g _ _ k10 (by show k + 2 + 0 ≤ k + 9; omega) (by show n + 12 + 0 ≤ n + 75; omega) hP hM O
set_option maxHeartbeats 4000000 in
theorem law_c_bestValue {X : jj_X} (C : jj_C X cL_law RL wsL_law room_1 9 ret) (rw_ : jj_RW X) (hlS : (xl X).stackTraces = false) (hZ : jZ (xA X) (xs X) (xs X).heap) {b L : Nat} {sc : Nat → Int32} (hL : jj_L X b L sc) (hLL : L ≤ 2560) {h7 h8 out outD i k n k8 : Nat} {s : sT} {w7 w8 : va_W} {f : Nat → Int64} {g : Nat → UInt64} (hi : i + 5 ≤ L) (hk : k + 9 ≤ 601024) (hn : n + 75 ≤ 7293034) (W7 : PW (xT X) h7 s w7) (W8 : MW (xT X) h8 k8 s w8) (O : okS s) (kk : ∀ (s2 : sT) (w72 w82 : va_W) (f2 : Nat → Int64) (g2 : Nat → UInt64) (k2 n2 k82 : Nat), k2 ≤ k + 9 → n2 ≤ n + 75 → PW (xT X) h7 s2 w72 → MW (xT X) h8 k82 s2 w82 → okS s2 → jj X k2 n2 2209 (lvL b h7 h8 out outD i) [] (lwW (xT X) w72 w82 out outD f2 g2)) : jj X k n 1909 (lvL b h7 h8 out outD i) [] (lwW (xT X) w7 w8 out outD f g) := by
  obtain ⟨⟨ac, ap, ash, an, aob, arq⟩, cn, M, S⟩ := s
  refine j_aload_n C dL_law_1909 1 rfl rfl ?_
  refine j_aload_n C dL_law_1910 3 rfl rfl ?_
  refine j_callSWp C rw_ hZ (nA := 2) (As := [.ref h7, .ref out]) (c_L_bestValue (xl X) (xT X) hlS (out := out) (f := f)  W7 O) gL_law_L_bestValue rfl (by decide +kernel) rfl (by decide) ⟨by show k + 1 ≤ 601024; omega, by show n + 6 ≤ 7293034; omega⟩ (lwp_7 _ _ _ _ _ _ _) (rest := []) rfl (Nat.le_of_ble_eq_true rfl) dL_law_1911 (fun v w1 h => ?_)
  obtain ⟨k9, rfl, hk9, hc9⟩ := h
  refine j_istore C (i := 6) dL_law_1914 (by decide) rfl ?_
  rcases hc9 with ⟨hz9, r, w72, f2, hr, hP, hf2, rfl⟩ | ⟨hz9, w72, hP, rfl⟩
  · refine j_permP C (lwp_7 _ w72 w8 out outD f2 g).symm ?_
    refine j_aload_n C dL_law_1916 3 rfl rfl ?_
    obtain ⟨fs8, hm8⟩ := MW.mem W8
    refine j_callVMp C rw_ (nA := 0) (As := []) (wc := w8) (n_X8_bestValue (xl X) (xT X)  W8 O) gL_law_X8_bestValue rfl (by decide +kernel) rfl (by decide) ⟨by show k + 1 + 0 ≤ 601024; omega, by show n + 6 + 0 ≤ 7293034; omega⟩ (lwp_8 _ _ _ _ _ _ _) hm8 (ci := 8) rfl (rest := []) rfl (Nat.le_of_ble_eq_true rfl) dL_law_1917 (fun v w1 h => ?_)
    obtain ⟨k10, r2, rfl, hk10, hc10⟩ := h
    refine j_istore C (i := 7) dL_law_1920 (by decide) rfl ?_
    refine j_permP C (lwp_8 _ w72 w1 out outD f2 g).symm ?_
    have ek : k10 = k9 := hk10.trans hk9.symm
    rcases hc10 with ⟨hz10, hr2, hM⟩ | ⟨hz10, hM⟩
    · refine j_aload_n C dL_law_1922 4 rfl rfl ?_
      refine j_thrown C hM (lwp_8 _ _ _ _ _ _ _) (by decide) (by show k + 1 + 0 ≤ 601024; omega) (by show n + 6 + 0 ≤ 7293034; omega) dL_law_1923 ?_
      refine j_iload C dL_law_1926 1 rfl ?_
      refine j_icmp_eq C dL_law_1928 (tgt := 1933) (by decide) (fun _ => ?_) (fun e => absurd (congrArg nI (hz10.symm.trans ek)) e)
      refine j_iload C dL_law_1933 1 rfl ?_
      have er := ru_bestValue hr hr2
      subst er
      refine j_if_ne C dL_law_1935 (tgt := 1950) (by decide) (fun e => absurd (by rw [hz9]; rfl) e) (fun _ => ?_)
      refine j_permP C (lwp_7 _ _ _ _ _ _ _) ?_
      refine j_aload_n C dL_law_1938 5 rfl rfl ?_
      refine j_iconst C dL_law_1939 (v := nI 0) kc_i_0 ?_
      refine j_laloadN C 0 rfl 0 rfl (by decide) (by decide) dL_law_1940 ?_
      refine j_iload C dL_law_1941 0 rfl ?_
      refine j_i2l C dL_law_1943 rfl ?_
      refine j_lcmp C dL_law_1944 ?_
      refine j_if_eq C dL_law_1945 (tgt := 1950) (by decide) (fun _ => ?_) (fun e => absurd (by rw [hf2]; exact cmp_self _) e)
      refine j_goto C dL_law_1950 (tgt := 2209) (by decide) ?_
      refine j_permP C (lwp_7 _ _ _ _ _ _ _).symm ?_
      refine j_lv [2, 3, 4, 5, 6, 7] rfl ?_
      exact kk _ w72 w1 f2 g _ _ 0 (by show k + 1 + 0 ≤ k + 9; omega) (by show n + 6 + 0 ≤ n + 75; omega) hP hM O
    · exact absurd (ek.trans hz9) hz10
  · refine j_permP C (lwp_7 _ w72 w8 out outD f g).symm ?_
    refine j_aload_n C dL_law_1916 3 rfl rfl ?_
    obtain ⟨fs8, hm8⟩ := MW.mem W8
    refine j_callVMp C rw_ (nA := 0) (As := []) (wc := w8) (n_X8_bestValue (xl X) (xT X)  W8 O) gL_law_X8_bestValue rfl (by decide +kernel) rfl (by decide) ⟨by show k + 1 + 0 ≤ 601024; omega, by show n + 6 + 0 ≤ 7293034; omega⟩ (lwp_8 _ _ _ _ _ _ _) hm8 (ci := 8) rfl (rest := []) rfl (Nat.le_of_ble_eq_true rfl) dL_law_1917 (fun v w1 h => ?_)
    obtain ⟨k10, r2, rfl, hk10, hc10⟩ := h
    refine j_istore C (i := 7) dL_law_1920 (by decide) rfl ?_
    refine j_permP C (lwp_8 _ w72 w1 out outD f g).symm ?_
    have ek : k10 = k9 := hk10.trans hk9.symm
    rcases hc10 with ⟨hz10, hr2, hM⟩ | ⟨hz10, hM⟩
    · exact absurd (ek ▸ hz10) hz9
    · refine j_aload_n C dL_law_1922 4 rfl rfl ?_
      refine j_thrown C hM (lwp_8 _ _ _ _ _ _ _) (by decide) (by show k + 1 + 0 ≤ 601024; omega) (by show n + 6 + 0 ≤ 7293034; omega) dL_law_1923 ?_
      refine j_iload C dL_law_1926 1 rfl ?_
      refine j_icmp_eq C dL_law_1928 (tgt := 1933) (by decide) (fun _ => ?_) (fun e => absurd (congrArg nI ek) e)
      refine j_iload C dL_law_1933 1 rfl ?_
      have hb : k9 ≤ 3 := by rw [hk9]; unfold kf_bestValue; (repeat' split) <;> omega
      refine j_if_ne C dL_law_1935 (tgt := 1950) (by decide) (fun _ => ?_) (fun e => absurd ((nI_eq (show k9 < 2 ^ 31 by omega) (show 0 < 2 ^ 31 by decide)).mp e) hz9)
      refine j_goto C dL_law_1950 (tgt := 2209) (by decide) ?_
      refine j_lv [2, 3, 4, 5, 6, 7] rfl ?_
      exact kk _ w72 w1 f g _ _ k10 (by show k + 1 + 0 ≤ k + 9; omega) (by show n + 6 + 0 ≤ n + 75; omega) hP hM O
set_option maxHeartbeats 4000000 in
theorem law_c_bestOrder {X : jj_X} (C : jj_C X cL_law RL wsL_law room_1 9 ret) (rw_ : jj_RW X) (hlS : (xl X).stackTraces = false) (hZ : jZ (xA X) (xs X) (xs X).heap) {b L : Nat} {sc : Nat → Int32} (hL : jj_L X b L sc) (hLL : L ≤ 2560) {h7 h8 out outD i k n k8 : Nat} {s : sT} {w7 w8 : va_W} {f : Nat → Int64} {g : Nat → UInt64} (hi : i + 5 ≤ L) (hk : k + 9 ≤ 601024) (hn : n + 75 ≤ 7293034) (W7 : PW (xT X) h7 s w7) (W8 : MW (xT X) h8 k8 s w8) (O : okS s) (kk : ∀ (s2 : sT) (w72 w82 : va_W) (f2 : Nat → Int64) (g2 : Nat → UInt64) (k2 n2 k82 : Nat), k2 ≤ k + 9 → n2 ≤ n + 75 → PW (xT X) h7 s2 w72 → MW (xT X) h8 k82 s2 w82 → okS s2 → jj X k2 n2 2209 (lvL b h7 h8 out outD i) [] (lwW (xT X) w72 w82 out outD f2 g2)) : jj X k n 1953 (lvL b h7 h8 out outD i) [] (lwW (xT X) w7 w8 out outD f g) := by
  obtain ⟨⟨ac, ap, ash, an, aob, arq⟩, cn, M, S⟩ := s
  refine j_aload_n C dL_law_1953 1 rfl rfl ?_
  refine j_aload_n C dL_law_1954 3 rfl rfl ?_
  refine j_callSWp C rw_ hZ (nA := 2) (As := [.ref h7, .ref out]) (c_L_bestOrder (xl X) (xT X) hlS (out := out) (f := f)  W7 O) gL_law_L_bestOrder rfl (by decide +kernel) rfl (by decide) ⟨by show k + 1 ≤ 601024; omega, by show n + 6 ≤ 7293034; omega⟩ (lwp_7 _ _ _ _ _ _ _) (rest := []) rfl (Nat.le_of_ble_eq_true rfl) dL_law_1955 (fun v w1 h => ?_)
  obtain ⟨k9, rfl, hk9, hc9⟩ := h
  refine j_istore C (i := 6) dL_law_1958 (by decide) rfl ?_
  rcases hc9 with ⟨hz9, r, w72, f2, hr, hP, hf2, rfl⟩ | ⟨hz9, w72, hP, rfl⟩
  · refine j_permP C (lwp_7 _ w72 w8 out outD f2 g).symm ?_
    refine j_aload_n C dL_law_1960 3 rfl rfl ?_
    obtain ⟨fs8, hm8⟩ := MW.mem W8
    refine j_callVMp C rw_ (nA := 0) (As := []) (wc := w8) (n_X8_bestOrder (xl X) (xT X)  W8 O) gL_law_X8_bestOrder rfl (by decide +kernel) rfl (by decide) ⟨by show k + 1 + 0 ≤ 601024; omega, by show n + 6 + 0 ≤ 7293034; omega⟩ (lwp_8 _ _ _ _ _ _ _) hm8 (ci := 8) rfl (rest := []) rfl (Nat.le_of_ble_eq_true rfl) dL_law_1961 (fun v w1 h => ?_)
    obtain ⟨k10, r2, rfl, hk10, hc10⟩ := h
    refine j_istore C (i := 7) dL_law_1964 (by decide) rfl ?_
    refine j_permP C (lwp_8 _ w72 w1 out outD f2 g).symm ?_
    have ek : k10 = k9 := hk10.trans hk9.symm
    rcases hc10 with ⟨hz10, hr2, hM⟩ | ⟨hz10, hM⟩
    · refine j_aload_n C dL_law_1966 4 rfl rfl ?_
      refine j_thrown C hM (lwp_8 _ _ _ _ _ _ _) (by decide) (by show k + 1 + 0 ≤ 601024; omega) (by show n + 6 + 0 ≤ 7293034; omega) dL_law_1967 ?_
      refine j_iload C dL_law_1970 1 rfl ?_
      refine j_icmp_eq C dL_law_1972 (tgt := 1977) (by decide) (fun _ => ?_) (fun e => absurd (congrArg nI (hz10.symm.trans ek)) e)
      refine j_iload C dL_law_1977 1 rfl ?_
      have er := ru_bestOrder hr hr2
      subst er
      refine j_if_ne C dL_law_1979 (tgt := 1994) (by decide) (fun e => absurd (by rw [hz9]; rfl) e) (fun _ => ?_)
      refine j_permP C (lwp_7 _ _ _ _ _ _ _) ?_
      refine j_aload_n C dL_law_1982 5 rfl rfl ?_
      refine j_iconst C dL_law_1983 (v := nI 0) kc_i_0 ?_
      refine j_laloadN C 0 rfl 0 rfl (by decide) (by decide) dL_law_1984 ?_
      refine j_iload C dL_law_1985 0 rfl ?_
      refine j_i2l C dL_law_1987 rfl ?_
      refine j_lcmp C dL_law_1988 ?_
      refine j_if_eq C dL_law_1989 (tgt := 1994) (by decide) (fun _ => ?_) (fun e => absurd (by rw [hf2]; exact cmp_self _) e)
      refine j_goto C dL_law_1994 (tgt := 2209) (by decide) ?_
      refine j_permP C (lwp_7 _ _ _ _ _ _ _).symm ?_
      refine j_lv [2, 3, 4, 5, 6, 7] rfl ?_
      exact kk _ w72 w1 f2 g _ _ 0 (by show k + 1 + 0 ≤ k + 9; omega) (by show n + 6 + 0 ≤ n + 75; omega) hP hM O
    · exact absurd (ek.trans hz9) hz10
  · refine j_permP C (lwp_7 _ w72 w8 out outD f g).symm ?_
    refine j_aload_n C dL_law_1960 3 rfl rfl ?_
    obtain ⟨fs8, hm8⟩ := MW.mem W8
    refine j_callVMp C rw_ (nA := 0) (As := []) (wc := w8) (n_X8_bestOrder (xl X) (xT X)  W8 O) gL_law_X8_bestOrder rfl (by decide +kernel) rfl (by decide) ⟨by show k + 1 + 0 ≤ 601024; omega, by show n + 6 + 0 ≤ 7293034; omega⟩ (lwp_8 _ _ _ _ _ _ _) hm8 (ci := 8) rfl (rest := []) rfl (Nat.le_of_ble_eq_true rfl) dL_law_1961 (fun v w1 h => ?_)
    obtain ⟨k10, r2, rfl, hk10, hc10⟩ := h
    refine j_istore C (i := 7) dL_law_1964 (by decide) rfl ?_
    refine j_permP C (lwp_8 _ w72 w1 out outD f g).symm ?_
    have ek : k10 = k9 := hk10.trans hk9.symm
    rcases hc10 with ⟨hz10, hr2, hM⟩ | ⟨hz10, hM⟩
    · exact absurd (ek ▸ hz10) hz9
    · refine j_aload_n C dL_law_1966 4 rfl rfl ?_
      refine j_thrown C hM (lwp_8 _ _ _ _ _ _ _) (by decide) (by show k + 1 + 0 ≤ 601024; omega) (by show n + 6 + 0 ≤ 7293034; omega) dL_law_1967 ?_
      refine j_iload C dL_law_1970 1 rfl ?_
      refine j_icmp_eq C dL_law_1972 (tgt := 1977) (by decide) (fun _ => ?_) (fun e => absurd (congrArg nI ek) e)
      refine j_iload C dL_law_1977 1 rfl ?_
      have hb : k9 ≤ 3 := by rw [hk9]; unfold kf_bestOrder; (repeat' split) <;> omega
      refine j_if_ne C dL_law_1979 (tgt := 1994) (by decide) (fun _ => ?_) (fun e => absurd ((nI_eq (show k9 < 2 ^ 31 by omega) (show 0 < 2 ^ 31 by decide)).mp e) hz9)
      refine j_goto C dL_law_1994 (tgt := 2209) (by decide) ?_
      refine j_lv [2, 3, 4, 5, 6, 7] rfl ?_
      exact kk _ w72 w1 f g _ _ k10 (by show k + 1 + 0 ≤ k + 9; omega) (by show n + 6 + 0 ≤ n + 75; omega) hP hM O
set_option maxHeartbeats 4000000 in
theorem law_c_randomWalk {X : jj_X} (C : jj_C X cL_law RL wsL_law room_1 9 ret) (rw_ : jj_RW X) (hlS : (xl X).stackTraces = false) (hZ : jZ (xA X) (xs X) (xs X).heap) {b L : Nat} {sc : Nat → Int32} (hL : jj_L X b L sc) (hLL : L ≤ 2560) {h7 h8 out outD i k n k8 : Nat} {s : sT} {w7 w8 : va_W} {f : Nat → Int64} {g : Nat → UInt64} (hi : i + 5 ≤ L) (hk : k + 9 ≤ 601024) (hn : n + 75 ≤ 7293034) (W7 : PW (xT X) h7 s w7) (W8 : MW (xT X) h8 k8 s w8) (O : okS s) (kk : ∀ (s2 : sT) (w72 w82 : va_W) (f2 : Nat → Int64) (g2 : Nat → UInt64) (k2 n2 k82 : Nat), k2 ≤ k + 9 → n2 ≤ n + 75 → PW (xT X) h7 s2 w72 → MW (xT X) h8 k82 s2 w82 → okS s2 → jj X k2 n2 2209 (lvL b h7 h8 out outD i) [] (lwW (xT X) w72 w82 out outD f2 g2)) : jj X k n 1997 (lvL b h7 h8 out outD i) [] (lwW (xT X) w7 w8 out outD f g) := by
  obtain ⟨⟨ac, ap, ash, an, aob, arq⟩, cn, M, S⟩ := s
  obtain ⟨sd, hsd⟩ : ∃ sd : Int64, ((sc (i + 1)).toInt64 <<< ((nI 32).toInt64 &&& 63)) ||| ((sc (i + 2)).toInt64 &&& 4294967295) = sd := ⟨_, rfl⟩
  refine j_aload_n C dL_law_1997 1 rfl rfl ?_
  refine j_aload_n C dL_law_1998 0 rfl rfl ?_
  refine j_iload C dL_law_1999 5 rfl ?_
  refine j_iconst C dL_law_2001 (v := nI 1) kc_i_1 ?_
  refine j_iadd C dL_law_2002 (v := nI (i + 1)) (nI_add i 1) ?_
  refine j_sld C rw_ hL (nI_in (by omega) (by omega)) dL_law_2003 ?_
  rw [nI_clamp (show i + 1 < 2 ^ 31 by omega)]
  refine j_i2l C dL_law_2004 rfl ?_
  refine j_bipush C dL_law_2005 (v := nI 32) kc_b_32 ?_
  refine j_lshl C dL_law_2007 rfl ?_
  refine j_aload_n C dL_law_2008 0 rfl rfl ?_
  refine j_iload C dL_law_2009 5 rfl ?_
  refine j_iconst C dL_law_2011 (v := nI 2) kc_i_2 ?_
  refine j_iadd C dL_law_2012 (v := nI (i + 2)) (nI_add i 2) ?_
  refine j_sld C rw_ hL (nI_in (by omega) (by omega)) dL_law_2013 ?_
  rw [nI_clamp (show i + 2 < 2 ^ 31 by omega)]
  refine j_i2l C dL_law_2014 rfl ?_
  refine j_ldc2l C dL_law_2015 (v := 4294967295) (by decide +kernel) ?_
  refine j_land C dL_law_2018 rfl ?_
  refine j_lor C dL_law_2019 (v := sd) hsd ?_
  refine j_aload_n C dL_law_2020 0 rfl rfl ?_
  refine j_iload C dL_law_2021 5 rfl ?_
  refine j_iconst C dL_law_2023 (v := nI 3) kc_i_3 ?_
  refine j_iadd C dL_law_2024 (v := nI (i + 3)) (nI_add i 3) ?_
  refine j_sld C rw_ hL (nI_in (by omega) (by omega)) dL_law_2025 ?_
  rw [nI_clamp (show i + 3 < 2 ^ 31 by omega)]
  refine j_aload_n C dL_law_2026 3 rfl rfl ?_
  refine j_callSWp C rw_ hZ (nA := 4) (As := [.ref h7, .long sd, .int (sc (i + 3)), .ref out]) (c_L_randomWalk (xl X) (xT X) hlS (out := out) (f := f) sd (sc (i + 3)) W7 O) gL_law_L_randomWalk rfl (by decide +kernel) rfl (by decide) ⟨by show k + 2 ≤ 601024; omega, by show n + 12 ≤ 7293034; omega⟩ (lwp_7 _ _ _ _ _ _ _) (rest := []) rfl (Nat.le_of_ble_eq_true rfl) dL_law_2027 (fun v w1 h => ?_)
  obtain ⟨k9, rfl, hk9, hc9⟩ := h
  refine j_istore C (i := 6) dL_law_2030 (by decide) rfl ?_
  rcases hc9 with ⟨hz9, r, w72, f2, hr, hP, hf2, rfl⟩ | ⟨hz9, w72, hP, rfl⟩
  · refine j_permP C (lwp_7 _ w72 w8 out outD f2 g).symm ?_
    refine j_aload_n C dL_law_2032 3 rfl rfl ?_
    refine j_aload_n C dL_law_2033 1 rfl rfl ?_
    refine j_iload C dL_law_2034 6 rfl ?_
    refine j_iconst C dL_law_2036 (v := nI 1) kc_i_1 ?_
    refine j_iadd C dL_law_2037 (v := nI (i + 1)) (nI_add i 1) ?_
    refine j_sld C rw_ hL (nI_in (by omega) (by omega)) dL_law_2038 ?_
    rw [nI_clamp (show i + 1 < 2 ^ 31 by omega)]
    refine j_i2l C dL_law_2039 rfl ?_
    refine j_bipush C dL_law_2040 (v := nI 32) kc_b_32 ?_
    refine j_lshl C dL_law_2042 rfl ?_
    refine j_aload_n C dL_law_2043 1 rfl rfl ?_
    refine j_iload C dL_law_2044 6 rfl ?_
    refine j_iconst C dL_law_2046 (v := nI 2) kc_i_2 ?_
    refine j_iadd C dL_law_2047 (v := nI (i + 2)) (nI_add i 2) ?_
    refine j_sld C rw_ hL (nI_in (by omega) (by omega)) dL_law_2048 ?_
    rw [nI_clamp (show i + 2 < 2 ^ 31 by omega)]
    refine j_i2l C dL_law_2049 rfl ?_
    refine j_ldc2l C dL_law_2050 (v := 4294967295) (by decide +kernel) ?_
    refine j_land C dL_law_2053 rfl ?_
    refine j_lor C dL_law_2054 (v := sd) hsd ?_
    refine j_aload_n C dL_law_2055 1 rfl rfl ?_
    refine j_iload C dL_law_2056 6 rfl ?_
    refine j_iconst C dL_law_2058 (v := nI 3) kc_i_3 ?_
    refine j_iadd C dL_law_2059 (v := nI (i + 3)) (nI_add i 3) ?_
    refine j_sld C rw_ hL (nI_in (by omega) (by omega)) dL_law_2060 ?_
    rw [nI_clamp (show i + 3 < 2 ^ 31 by omega)]
    obtain ⟨fs8, hm8⟩ := MW.mem W8
    refine j_callVMp C rw_ (nA := 2) (As := [.long sd, .int (sc (i + 3))]) (wc := w8) (n_X8_randomWalk (xl X) (xT X) sd (sc (i + 3)) W8 O) gL_law_X8_randomWalk rfl (by decide +kernel) rfl (by decide) ⟨by show k + 2 + 0 ≤ 601024; omega, by show n + 12 + 0 ≤ 7293034; omega⟩ (lwp_8 _ _ _ _ _ _ _) hm8 (ci := 8) rfl (rest := []) rfl (Nat.le_of_ble_eq_true rfl) dL_law_2061 (fun v w1 h => ?_)
    obtain ⟨k10, r2, rfl, hk10, hc10⟩ := h
    refine j_istore C (i := 7) dL_law_2064 (by decide) rfl ?_
    refine j_permP C (lwp_8 _ w72 w1 out outD f2 g).symm ?_
    have ek : k10 = k9 := hk10.trans hk9.symm
    rcases hc10 with ⟨hz10, hr2, hM⟩ | ⟨hz10, hM⟩
    · refine j_aload_n C dL_law_2066 4 rfl rfl ?_
      refine j_thrown C hM (lwp_8 _ _ _ _ _ _ _) (by decide) (by show k + 2 + 0 ≤ 601024; omega) (by show n + 12 + 0 ≤ 7293034; omega) dL_law_2067 ?_
      refine j_iload C dL_law_2070 1 rfl ?_
      refine j_icmp_eq C dL_law_2072 (tgt := 2077) (by decide) (fun _ => ?_) (fun e => absurd (congrArg nI (hz10.symm.trans ek)) e)
      refine j_iload C dL_law_2077 1 rfl ?_
      have er := ru_randomWalk hr hr2
      subst er
      refine j_if_ne C dL_law_2079 (tgt := 2094) (by decide) (fun e => absurd (by rw [hz9]; rfl) e) (fun _ => ?_)
      refine j_permP C (lwp_7 _ _ _ _ _ _ _) ?_
      refine j_aload_n C dL_law_2082 5 rfl rfl ?_
      refine j_iconst C dL_law_2083 (v := nI 0) kc_i_0 ?_
      refine j_laloadN C 0 rfl 0 rfl (by decide) (by decide) dL_law_2084 ?_
      refine j_iload C dL_law_2085 0 rfl ?_
      refine j_i2l C dL_law_2087 rfl ?_
      refine j_lcmp C dL_law_2088 ?_
      refine j_if_eq C dL_law_2089 (tgt := 2094) (by decide) (fun _ => ?_) (fun e => absurd (by rw [hf2]; exact cmp_self _) e)
      refine j_goto C dL_law_2094 (tgt := 2209) (by decide) ?_
      refine j_permP C (lwp_7 _ _ _ _ _ _ _).symm ?_
      refine j_lv [2, 3, 4, 5, 6, 7] rfl ?_
      exact kk _ w72 w1 f2 g _ _ 0 (by show k + 2 + 0 ≤ k + 9; omega) (by show n + 12 + 0 ≤ n + 75; omega) hP hM O
    · exact absurd (ek.trans hz9) hz10
  · refine j_permP C (lwp_7 _ w72 w8 out outD f g).symm ?_
    refine j_aload_n C dL_law_2032 3 rfl rfl ?_
    refine j_aload_n C dL_law_2033 1 rfl rfl ?_
    refine j_iload C dL_law_2034 6 rfl ?_
    refine j_iconst C dL_law_2036 (v := nI 1) kc_i_1 ?_
    refine j_iadd C dL_law_2037 (v := nI (i + 1)) (nI_add i 1) ?_
    refine j_sld C rw_ hL (nI_in (by omega) (by omega)) dL_law_2038 ?_
    rw [nI_clamp (show i + 1 < 2 ^ 31 by omega)]
    refine j_i2l C dL_law_2039 rfl ?_
    refine j_bipush C dL_law_2040 (v := nI 32) kc_b_32 ?_
    refine j_lshl C dL_law_2042 rfl ?_
    refine j_aload_n C dL_law_2043 1 rfl rfl ?_
    refine j_iload C dL_law_2044 6 rfl ?_
    refine j_iconst C dL_law_2046 (v := nI 2) kc_i_2 ?_
    refine j_iadd C dL_law_2047 (v := nI (i + 2)) (nI_add i 2) ?_
    refine j_sld C rw_ hL (nI_in (by omega) (by omega)) dL_law_2048 ?_
    rw [nI_clamp (show i + 2 < 2 ^ 31 by omega)]
    refine j_i2l C dL_law_2049 rfl ?_
    refine j_ldc2l C dL_law_2050 (v := 4294967295) (by decide +kernel) ?_
    refine j_land C dL_law_2053 rfl ?_
    refine j_lor C dL_law_2054 (v := sd) hsd ?_
    refine j_aload_n C dL_law_2055 1 rfl rfl ?_
    refine j_iload C dL_law_2056 6 rfl ?_
    refine j_iconst C dL_law_2058 (v := nI 3) kc_i_3 ?_
    refine j_iadd C dL_law_2059 (v := nI (i + 3)) (nI_add i 3) ?_
    refine j_sld C rw_ hL (nI_in (by omega) (by omega)) dL_law_2060 ?_
    rw [nI_clamp (show i + 3 < 2 ^ 31 by omega)]
    obtain ⟨fs8, hm8⟩ := MW.mem W8
    refine j_callVMp C rw_ (nA := 2) (As := [.long sd, .int (sc (i + 3))]) (wc := w8) (n_X8_randomWalk (xl X) (xT X) sd (sc (i + 3)) W8 O) gL_law_X8_randomWalk rfl (by decide +kernel) rfl (by decide) ⟨by show k + 2 + 0 ≤ 601024; omega, by show n + 12 + 0 ≤ 7293034; omega⟩ (lwp_8 _ _ _ _ _ _ _) hm8 (ci := 8) rfl (rest := []) rfl (Nat.le_of_ble_eq_true rfl) dL_law_2061 (fun v w1 h => ?_)
    obtain ⟨k10, r2, rfl, hk10, hc10⟩ := h
    refine j_istore C (i := 7) dL_law_2064 (by decide) rfl ?_
    refine j_permP C (lwp_8 _ w72 w1 out outD f g).symm ?_
    have ek : k10 = k9 := hk10.trans hk9.symm
    rcases hc10 with ⟨hz10, hr2, hM⟩ | ⟨hz10, hM⟩
    · exact absurd (ek ▸ hz10) hz9
    · refine j_aload_n C dL_law_2066 4 rfl rfl ?_
      refine j_thrown C hM (lwp_8 _ _ _ _ _ _ _) (by decide) (by show k + 2 + 0 ≤ 601024; omega) (by show n + 12 + 0 ≤ 7293034; omega) dL_law_2067 ?_
      refine j_iload C dL_law_2070 1 rfl ?_
      refine j_icmp_eq C dL_law_2072 (tgt := 2077) (by decide) (fun _ => ?_) (fun e => absurd (congrArg nI ek) e)
      refine j_iload C dL_law_2077 1 rfl ?_
      have hb : k9 ≤ 3 := by rw [hk9]; unfold kf_randomWalk; (repeat' split) <;> omega
      refine j_if_ne C dL_law_2079 (tgt := 2094) (by decide) (fun _ => ?_) (fun e => absurd ((nI_eq (show k9 < 2 ^ 31 by omega) (show 0 < 2 ^ 31 by decide)).mp e) hz9)
      refine j_goto C dL_law_2094 (tgt := 2209) (by decide) ?_
      refine j_lv [2, 3, 4, 5, 6, 7] rfl ?_
      exact kk _ w72 w1 f g _ _ k10 (by show k + 2 + 0 ≤ k + 9; omega) (by show n + 12 + 0 ≤ n + 75; omega) hP hM O
set_option maxHeartbeats 4000000 in
theorem law_c_save {X : jj_X} (C : jj_C X cL_law RL wsL_law room_1 9 ret) (rw_ : jj_RW X) (hlS : (xl X).stackTraces = false) (hZ : jZ (xA X) (xs X) (xs X).heap) {b L : Nat} {sc : Nat → Int32} (hL : jj_L X b L sc) (hLL : L ≤ 2560) {h7 h8 out outD i k n k8 : Nat} {s : sT} {w7 w8 : va_W} {f : Nat → Int64} {g : Nat → UInt64} (hi : i + 5 ≤ L) (hk : k + 9 ≤ 601024) (hn : n + 75 ≤ 7293034) (W7 : PW (xT X) h7 s w7) (W8 : MW (xT X) h8 k8 s w8) (O : okS s) (kk : ∀ (s2 : sT) (w72 w82 : va_W) (f2 : Nat → Int64) (g2 : Nat → UInt64) (k2 n2 k82 : Nat), k2 ≤ k + 9 → n2 ≤ n + 75 → PW (xT X) h7 s2 w72 → MW (xT X) h8 k82 s2 w82 → okS s2 → jj X k2 n2 2209 (lvL b h7 h8 out outD i) [] (lwW (xT X) w72 w82 out outD f2 g2)) : jj X k n 2097 (lvL b h7 h8 out outD i) [] (lwW (xT X) w7 w8 out outD f g) := by
  obtain ⟨⟨ac, ap, ash, an, aob, arq⟩, cn, M, S⟩ := s
  refine j_aload_n C dL_law_2097 1 rfl rfl ?_
  refine j_aload_n C dL_law_2098 0 rfl rfl ?_
  refine j_iload C dL_law_2099 5 rfl ?_
  refine j_iconst C dL_law_2101 (v := nI 1) kc_i_1 ?_
  refine j_iadd C dL_law_2102 (v := nI (i + 1)) (nI_add i 1) ?_
  refine j_sld C rw_ hL (nI_in (by omega) (by omega)) dL_law_2103 ?_
  rw [nI_clamp (show i + 1 < 2 ^ 31 by omega)]
  refine j_aload_n C dL_law_2104 3 rfl rfl ?_
  refine j_callSWp C rw_ hZ (nA := 3) (As := [.ref h7, .int (sc (i + 1)), .ref out]) (c_L_save (xl X) (xT X) hlS (out := out) (f := f) (sc (i + 1)) W7 O) gL_law_L_save rfl (by decide +kernel) rfl (by decide) ⟨by show k + 5 ≤ 601024; omega, by show n + 50 ≤ 7293034; omega⟩ (lwp_7 _ _ _ _ _ _ _) (rest := []) rfl (Nat.le_of_ble_eq_true rfl) dL_law_2105 (fun v w1 h => ?_)
  obtain ⟨k9, rfl, hk9, hc9⟩ := h
  refine j_istore C (i := 6) dL_law_2108 (by decide) rfl ?_
  rcases hc9 with ⟨hz9, r, w72, f2, hr, hP, hf2, rfl⟩ | ⟨hz9, w72, hP, rfl⟩
  · refine j_permP C (lwp_7 _ w72 w8 out outD f2 g).symm ?_
    refine j_aload_n C dL_law_2110 3 rfl rfl ?_
    refine j_aload_n C dL_law_2111 1 rfl rfl ?_
    refine j_iload C dL_law_2112 6 rfl ?_
    refine j_iconst C dL_law_2114 (v := nI 1) kc_i_1 ?_
    refine j_iadd C dL_law_2115 (v := nI (i + 1)) (nI_add i 1) ?_
    refine j_sld C rw_ hL (nI_in (by omega) (by omega)) dL_law_2116 ?_
    rw [nI_clamp (show i + 1 < 2 ^ 31 by omega)]
    obtain ⟨fs8, hm8⟩ := MW.mem W8
    refine j_callVMp C rw_ (nA := 1) (As := [.int (sc (i + 1))]) (wc := w8) (n_X8_save (xl X) (xT X) (sc (i + 1)) W8 O) gL_law_X8_save rfl (by decide +kernel) rfl (by decide) ⟨by show k + 5 + 0 ≤ 601024; omega, by show n + 50 + 0 ≤ 7293034; omega⟩ (lwp_8 _ _ _ _ _ _ _) hm8 (ci := 8) rfl (rest := []) rfl (Nat.le_of_ble_eq_true rfl) dL_law_2117 (fun v w1 h => ?_)
    obtain ⟨k10, r2, rfl, hk10, hc10⟩ := h
    refine j_istore C (i := 7) dL_law_2120 (by decide) rfl ?_
    refine j_permP C (lwp_8 _ w72 w1 out outD f2 g).symm ?_
    have ek : k10 = k9 := hk10.trans hk9.symm
    rcases hc10 with ⟨hz10, hr2, hM⟩ | ⟨hz10, hM⟩
    · refine j_aload_n C dL_law_2122 4 rfl rfl ?_
      refine j_thrown C hM (lwp_8 _ _ _ _ _ _ _) (by decide) (by show k + 5 + 0 ≤ 601024; omega) (by show n + 50 + 0 ≤ 7293034; omega) dL_law_2123 ?_
      refine j_iload C dL_law_2126 1 rfl ?_
      refine j_icmp_eq C dL_law_2128 (tgt := 2133) (by decide) (fun _ => ?_) (fun e => absurd (congrArg nI (hz10.symm.trans ek)) e)
      refine j_iload C dL_law_2133 1 rfl ?_
      have er := ru_save hr hr2
      subst er
      refine j_if_ne C dL_law_2135 (tgt := 2150) (by decide) (fun e => absurd (by rw [hz9]; rfl) e) (fun _ => ?_)
      refine j_permP C (lwp_7 _ _ _ _ _ _ _) ?_
      refine j_aload_n C dL_law_2138 5 rfl rfl ?_
      refine j_iconst C dL_law_2139 (v := nI 0) kc_i_0 ?_
      refine j_laloadN C 0 rfl 0 rfl (by decide) (by decide) dL_law_2140 ?_
      refine j_iload C dL_law_2141 0 rfl ?_
      refine j_i2l C dL_law_2143 rfl ?_
      refine j_lcmp C dL_law_2144 ?_
      refine j_if_eq C dL_law_2145 (tgt := 2150) (by decide) (fun _ => ?_) (fun e => absurd (by rw [hf2]; exact cmp_self _) e)
      refine j_goto C dL_law_2150 (tgt := 2209) (by decide) ?_
      refine j_permP C (lwp_7 _ _ _ _ _ _ _).symm ?_
      refine j_lv [2, 3, 4, 5, 6, 7] rfl ?_
      exact kk _ w72 w1 f2 g _ _ 0 (by show k + 5 + 0 ≤ k + 9; omega) (by show n + 50 + 0 ≤ n + 75; omega) hP hM (po_save (PW.cn W7) O (hk9.symm.trans hz9) hr)
    · exact absurd (ek.trans hz9) hz10
  · refine j_permP C (lwp_7 _ w72 w8 out outD f g).symm ?_
    refine j_aload_n C dL_law_2110 3 rfl rfl ?_
    refine j_aload_n C dL_law_2111 1 rfl rfl ?_
    refine j_iload C dL_law_2112 6 rfl ?_
    refine j_iconst C dL_law_2114 (v := nI 1) kc_i_1 ?_
    refine j_iadd C dL_law_2115 (v := nI (i + 1)) (nI_add i 1) ?_
    refine j_sld C rw_ hL (nI_in (by omega) (by omega)) dL_law_2116 ?_
    rw [nI_clamp (show i + 1 < 2 ^ 31 by omega)]
    obtain ⟨fs8, hm8⟩ := MW.mem W8
    refine j_callVMp C rw_ (nA := 1) (As := [.int (sc (i + 1))]) (wc := w8) (n_X8_save (xl X) (xT X) (sc (i + 1)) W8 O) gL_law_X8_save rfl (by decide +kernel) rfl (by decide) ⟨by show k + 5 + 0 ≤ 601024; omega, by show n + 50 + 0 ≤ 7293034; omega⟩ (lwp_8 _ _ _ _ _ _ _) hm8 (ci := 8) rfl (rest := []) rfl (Nat.le_of_ble_eq_true rfl) dL_law_2117 (fun v w1 h => ?_)
    obtain ⟨k10, r2, rfl, hk10, hc10⟩ := h
    refine j_istore C (i := 7) dL_law_2120 (by decide) rfl ?_
    refine j_permP C (lwp_8 _ w72 w1 out outD f g).symm ?_
    have ek : k10 = k9 := hk10.trans hk9.symm
    rcases hc10 with ⟨hz10, hr2, hM⟩ | ⟨hz10, hM⟩
    · exact absurd (ek ▸ hz10) hz9
    · refine j_aload_n C dL_law_2122 4 rfl rfl ?_
      refine j_thrown C hM (lwp_8 _ _ _ _ _ _ _) (by decide) (by show k + 5 + 0 ≤ 601024; omega) (by show n + 50 + 0 ≤ 7293034; omega) dL_law_2123 ?_
      refine j_iload C dL_law_2126 1 rfl ?_
      refine j_icmp_eq C dL_law_2128 (tgt := 2133) (by decide) (fun _ => ?_) (fun e => absurd (congrArg nI ek) e)
      refine j_iload C dL_law_2133 1 rfl ?_
      have hb : k9 ≤ 3 := by rw [hk9]; unfold kf_save; (repeat' split) <;> omega
      refine j_if_ne C dL_law_2135 (tgt := 2150) (by decide) (fun _ => ?_) (fun e => absurd ((nI_eq (show k9 < 2 ^ 31 by omega) (show 0 < 2 ^ 31 by decide)).mp e) hz9)
      refine j_goto C dL_law_2150 (tgt := 2209) (by decide) ?_
      refine j_lv [2, 3, 4, 5, 6, 7] rfl ?_
      exact kk _ w72 w1 f g _ _ k10 (by show k + 5 + 0 ≤ k + 9; omega) (by show n + 50 + 0 ≤ n + 75; omega) hP hM O
set_option maxHeartbeats 4000000 in
theorem law_c_restore {X : jj_X} (C : jj_C X cL_law RL wsL_law room_1 9 ret) (rw_ : jj_RW X) (hlS : (xl X).stackTraces = false) (hZ : jZ (xA X) (xs X) (xs X).heap) {b L : Nat} {sc : Nat → Int32} (hL : jj_L X b L sc) (hLL : L ≤ 2560) {h7 h8 out outD i k n k8 : Nat} {s : sT} {w7 w8 : va_W} {f : Nat → Int64} {g : Nat → UInt64} (hi : i + 5 ≤ L) (hk : k + 9 ≤ 601024) (hn : n + 75 ≤ 7293034) (W7 : PW (xT X) h7 s w7) (W8 : MW (xT X) h8 k8 s w8) (O : okS s) (kk : ∀ (s2 : sT) (w72 w82 : va_W) (f2 : Nat → Int64) (g2 : Nat → UInt64) (k2 n2 k82 : Nat), k2 ≤ k + 9 → n2 ≤ n + 75 → PW (xT X) h7 s2 w72 → MW (xT X) h8 k82 s2 w82 → okS s2 → jj X k2 n2 2209 (lvL b h7 h8 out outD i) [] (lwW (xT X) w72 w82 out outD f2 g2)) : jj X k n 2153 (lvL b h7 h8 out outD i) [] (lwW (xT X) w7 w8 out outD f g) := by
  obtain ⟨⟨ac, ap, ash, an, aob, arq⟩, cn, M, S⟩ := s
  refine j_aload_n C dL_law_2153 1 rfl rfl ?_
  refine j_aload_n C dL_law_2154 0 rfl rfl ?_
  refine j_iload C dL_law_2155 5 rfl ?_
  refine j_iconst C dL_law_2157 (v := nI 1) kc_i_1 ?_
  refine j_iadd C dL_law_2158 (v := nI (i + 1)) (nI_add i 1) ?_
  refine j_sld C rw_ hL (nI_in (by omega) (by omega)) dL_law_2159 ?_
  rw [nI_clamp (show i + 1 < 2 ^ 31 by omega)]
  refine j_aload_n C dL_law_2160 3 rfl rfl ?_
  refine j_callSWp C rw_ hZ (nA := 3) (As := [.ref h7, .int (sc (i + 1)), .ref out]) (c_L_restore (xl X) (xT X) hlS (out := out) (f := f) (sc (i + 1)) W7 O) gL_law_L_restore rfl (by decide +kernel) rfl (by decide) ⟨by show k + 5 ≤ 601024; omega, by show n + 50 ≤ 7293034; omega⟩ (lwp_7 _ _ _ _ _ _ _) (rest := []) rfl (Nat.le_of_ble_eq_true rfl) dL_law_2161 (fun v w1 h => ?_)
  obtain ⟨k9, rfl, hk9, hc9⟩ := h
  refine j_istore C (i := 6) dL_law_2164 (by decide) rfl ?_
  rcases hc9 with ⟨hz9, r, w72, f2, hr, hP, hf2, rfl⟩ | ⟨hz9, w72, hP, rfl⟩
  · refine j_permP C (lwp_7 _ w72 w8 out outD f2 g).symm ?_
    refine j_aload_n C dL_law_2166 3 rfl rfl ?_
    refine j_aload_n C dL_law_2167 1 rfl rfl ?_
    refine j_iload C dL_law_2168 6 rfl ?_
    refine j_iconst C dL_law_2170 (v := nI 1) kc_i_1 ?_
    refine j_iadd C dL_law_2171 (v := nI (i + 1)) (nI_add i 1) ?_
    refine j_sld C rw_ hL (nI_in (by omega) (by omega)) dL_law_2172 ?_
    rw [nI_clamp (show i + 1 < 2 ^ 31 by omega)]
    obtain ⟨fs8, hm8⟩ := MW.mem W8
    refine j_callVMp C rw_ (nA := 1) (As := [.int (sc (i + 1))]) (wc := w8) (n_X8_restore (xl X) (xT X) (sc (i + 1)) W8 O) gL_law_X8_restore rfl (by decide +kernel) rfl (by decide) ⟨by show k + 5 + 0 ≤ 601024; omega, by show n + 50 + 0 ≤ 7293034; omega⟩ (lwp_8 _ _ _ _ _ _ _) hm8 (ci := 8) rfl (rest := []) rfl (Nat.le_of_ble_eq_true rfl) dL_law_2173 (fun v w1 h => ?_)
    obtain ⟨k10, r2, rfl, hk10, hc10⟩ := h
    refine j_istore C (i := 7) dL_law_2176 (by decide) rfl ?_
    refine j_permP C (lwp_8 _ w72 w1 out outD f2 g).symm ?_
    have ek : k10 = k9 := hk10.trans hk9.symm
    rcases hc10 with ⟨hz10, hr2, hM⟩ | ⟨hz10, hM⟩
    · refine j_aload_n C dL_law_2178 4 rfl rfl ?_
      refine j_thrown C hM (lwp_8 _ _ _ _ _ _ _) (by decide) (by show k + 5 + 0 ≤ 601024; omega) (by show n + 50 + 0 ≤ 7293034; omega) dL_law_2179 ?_
      refine j_iload C dL_law_2182 1 rfl ?_
      refine j_icmp_eq C dL_law_2184 (tgt := 2189) (by decide) (fun _ => ?_) (fun e => absurd (congrArg nI (hz10.symm.trans ek)) e)
      refine j_iload C dL_law_2189 1 rfl ?_
      have er := ru_restore hr hr2
      subst er
      refine j_if_ne C dL_law_2191 (tgt := 2206) (by decide) (fun e => absurd (by rw [hz9]; rfl) e) (fun _ => ?_)
      refine j_permP C (lwp_7 _ _ _ _ _ _ _) ?_
      refine j_aload_n C dL_law_2194 5 rfl rfl ?_
      refine j_iconst C dL_law_2195 (v := nI 0) kc_i_0 ?_
      refine j_laloadN C 0 rfl 0 rfl (by decide) (by decide) dL_law_2196 ?_
      refine j_iload C dL_law_2197 0 rfl ?_
      refine j_i2l C dL_law_2199 rfl ?_
      refine j_lcmp C dL_law_2200 ?_
      refine j_if_eq C dL_law_2201 (tgt := 2206) (by decide) (fun _ => ?_) (fun e => absurd (by rw [hf2]; exact cmp_self _) e)
      refine j_goto C dL_law_2206 (tgt := 2209) (by decide) ?_
      refine j_permP C (lwp_7 _ _ _ _ _ _ _).symm ?_
      refine j_lv [2, 3, 4, 5, 6, 7] rfl ?_
      exact kk _ w72 w1 f2 g _ _ 0 (by show k + 5 + 0 ≤ k + 9; omega) (by show n + 50 + 0 ≤ n + 75; omega) hP hM (po_restore (PW.cn W7) O (hk9.symm.trans hz9) hr)
    · exact absurd (ek.trans hz9) hz10
  · refine j_permP C (lwp_7 _ w72 w8 out outD f g).symm ?_
    refine j_aload_n C dL_law_2166 3 rfl rfl ?_
    refine j_aload_n C dL_law_2167 1 rfl rfl ?_
    refine j_iload C dL_law_2168 6 rfl ?_
    refine j_iconst C dL_law_2170 (v := nI 1) kc_i_1 ?_
    refine j_iadd C dL_law_2171 (v := nI (i + 1)) (nI_add i 1) ?_
    refine j_sld C rw_ hL (nI_in (by omega) (by omega)) dL_law_2172 ?_
    rw [nI_clamp (show i + 1 < 2 ^ 31 by omega)]
    obtain ⟨fs8, hm8⟩ := MW.mem W8
    refine j_callVMp C rw_ (nA := 1) (As := [.int (sc (i + 1))]) (wc := w8) (n_X8_restore (xl X) (xT X) (sc (i + 1)) W8 O) gL_law_X8_restore rfl (by decide +kernel) rfl (by decide) ⟨by show k + 5 + 0 ≤ 601024; omega, by show n + 50 + 0 ≤ 7293034; omega⟩ (lwp_8 _ _ _ _ _ _ _) hm8 (ci := 8) rfl (rest := []) rfl (Nat.le_of_ble_eq_true rfl) dL_law_2173 (fun v w1 h => ?_)
    obtain ⟨k10, r2, rfl, hk10, hc10⟩ := h
    refine j_istore C (i := 7) dL_law_2176 (by decide) rfl ?_
    refine j_permP C (lwp_8 _ w72 w1 out outD f g).symm ?_
    have ek : k10 = k9 := hk10.trans hk9.symm
    rcases hc10 with ⟨hz10, hr2, hM⟩ | ⟨hz10, hM⟩
    · exact absurd (ek ▸ hz10) hz9
    · refine j_aload_n C dL_law_2178 4 rfl rfl ?_
      refine j_thrown C hM (lwp_8 _ _ _ _ _ _ _) (by decide) (by show k + 5 + 0 ≤ 601024; omega) (by show n + 50 + 0 ≤ 7293034; omega) dL_law_2179 ?_
      refine j_iload C dL_law_2182 1 rfl ?_
      refine j_icmp_eq C dL_law_2184 (tgt := 2189) (by decide) (fun _ => ?_) (fun e => absurd (congrArg nI ek) e)
      refine j_iload C dL_law_2189 1 rfl ?_
      have hb : k9 ≤ 3 := by rw [hk9]; unfold kf_restore; (repeat' split) <;> omega
      refine j_if_ne C dL_law_2191 (tgt := 2206) (by decide) (fun _ => ?_) (fun e => absurd ((nI_eq (show k9 < 2 ^ 31 by omega) (show 0 < 2 ^ 31 by decide)).mp e) hz9)
      refine j_goto C dL_law_2206 (tgt := 2209) (by decide) ?_
      refine j_lv [2, 3, 4, 5, 6, 7] rfl ?_
      exact kk _ w72 w1 f g _ _ k10 (by show k + 5 + 0 ≤ k + 9; omega) (by show n + 50 + 0 ≤ n + 75; omega) hP hM O
