/-! THE LAW (5): its loop -/
theorem lw_gt {i L : Nat} (hi : i ≤ 2570) (hL : L ≤ 2560) : nI L - nI 5 < nI i ↔ L < i + 5 := by
  have e1 := nI_toInt (show L < 2 ^ 31 by omega)
  have e2 := nI_toInt (show i < 2 ^ 31 by omega)
  have e3 := nI_toInt (show 5 < 2 ^ 31 by omega)
  have e4 : (nI L - nI 5).toInt = (nI L).toInt - (nI 5).toInt := fb_subI (by omega) (by omega)
  rw [Int32.lt_iff_toInt_lt, e4, e1, e2, e3]
  omega
theorem law_head {X : jj_X} (C : jj_C X cL_law RL wsL_law room_1 9 ret) (rw_ : jj_RW X) {b L : Nat} {sc : Nat → Int32} (hL : jj_L X b L sc) (hLL : L ≤ 2560) {h7 h8 out outD i k n : Nat} {w : va_W} (hi : i ≤ 2570) (kt : L < i + 5 → jj X k n 2215 (lvL b h7 h8 out outD i) [] w) (kf : i + 5 ≤ L → jj X k n 37 (lvL b h7 h8 out outD i) [] w) : jj X k n 28 (lvL b h7 h8 out outD i) [] w := by
  refine j_iload C dL_law_28 5 rfl ?_
  refine j_aload_n C dL_law_30 0 rfl rfl ?_
  refine j_slen C rw_ hL dL_law_31 ?_
  refine j_iconst C dL_law_32 (v := nI 5) kc_i_5 ?_
  refine j_isub C dL_law_33 rfl ?_
  refine j_icmp_gt C dL_law_34 (tgt := 2215) (by decide) (fun h => kt ((lw_gt hi hLL).mp h)) (fun h => kf (Nat.le_of_not_lt (fun h2 => h ((lw_gt hi hLL).mpr h2))))
theorem law_exit {X : jj_X} (C : jj_C X cL_law RL wsL_law room_1 9 ret) {b L : Nat} {sc : Nat → Int32} (hL : jj_L X b L sc) {k n : Nat} {lv : List (Nat × Value)} {w : va_W} (hk : k ≤ 601024) (hn : n ≤ 7293034) : jj X k n 2215 lv [] w := by
  refine j_iconst C dL_law_2215 (v := 1) (by decide) ?_
  exact hL.2.2.2 k n 2216 _ _ hk hn dL_law_2216
theorem law_next {X : jj_X} (C : jj_C X cL_law RL wsL_law room_1 9 ret) {b h7 h8 out outD i k n : Nat} {w : va_W} (kk : jj X k n 28 (lvL b h7 h8 out outD (i + 5)) [] w) : jj X k n 2209 (lvL b h7 h8 out outD i) [] w := by
  refine j_iinc C (q := 5) (v := nI (i + 5)) dL_law_2209 rfl (by rw [kc_inck_5]; exact nI_add i 5) (by decide) (lv' := [(5, .int (nI (i + 5))), (0, .ref b), (1, .ref h7), (2, .ref h8), (3, .ref out), (4, .ref outD)]) rfl ?_
  refine j_goto C dL_law_2212 (tgt := 28) (by decide) ?_
  exact j_lv [1, 2, 3, 4, 5, 0] rfl kk
set_option maxHeartbeats 4000000 in
theorem law_disp {X : jj_X} (C : jj_C X cL_law RL wsL_law room_1 9 ret) (rw_ : jj_RW X) (hlS : (xl X).stackTraces = false) (hZ : jZ (xA X) (xs X) (xs X).heap) {b L : Nat} {sc : Nat → Int32} (hL : jj_L X b L sc) (hLL : L ≤ 2560) {h7 h8 out outD i k n k8 : Nat} {s : sT} {w7 w8 : va_W} {f : Nat → Int64} {g : Nat → UInt64} (hi : i + 5 ≤ L) (hk : k + 9 ≤ 601024) (hn : n + 75 ≤ 7293034) (W7 : PW (xT X) h7 s w7) (W8 : MW (xT X) h8 k8 s w8) (O : okS s) (kk : ∀ (s2 : sT) (w72 w82 : va_W) (f2 : Nat → Int64) (g2 : Nat → UInt64) (k2 n2 k82 : Nat), k2 ≤ k + 9 → n2 ≤ n + 75 → PW (xT X) h7 s2 w72 → MW (xT X) h8 k82 s2 w82 → okS s2 → jj X k2 n2 2209 (lvL b h7 h8 out outD i) [] (lwW (xT X) w72 w82 out outD f2 g2)) : jj X k n 37 (lvL b h7 h8 out outD i) [] (lwW (xT X) w7 w8 out outD f g) := by
  refine j_aload_n C dL_law_37 0 rfl rfl ?_
  refine j_iload C dL_law_38 5 rfl ?_
  refine j_sld C rw_ hL (nI_in (by omega) (by omega)) dL_law_40 ?_
  rw [nI_clamp (show i < 2 ^ 31 by omega)]
  refine j_bipush C dL_law_41 (v := nI 63) kc_b_63 ?_
  obtain ⟨x, hx⟩ : ∃ x : Int32, sc i &&& nI 63 = x := ⟨_, rfl⟩
  refine j_iand C dL_law_43 hx ?_
  have kd : jj X k n 2209 (lvL b h7 h8 out outD i) [] (lwW (xT X) w7 w8 out outD f g) := kk s w7 w8 f g k n k8 (by omega) (by omega) W7 W8 O
  by_cases h1 : x.toInt < 0
  · exact j_tabOut C dL_law_44 (tgt := 2209) (Or.inl h1) (by decide) kd
  by_cases h2 : 34 < x.toInt
  · exact j_tabOut C dL_law_44 (tgt := 2209) (Or.inr h2) (by decide) kd
  obtain ⟨q, hq⟩ := Int.eq_ofNat_of_zero_le (Int.not_lt.mp h1)
  have hq34 : q ≤ 34 := by omega
  match q, hq, hq34 with
  | 0, hq, _ => exact j_tabIn C dL_law_44 (off := 156) (tgt := 200) h1 h2 (by rw [hq] <;> rfl) (by decide) (law_c_coordinate C rw_ hlS hZ hL hLL hi hk hn W7 W8 O kk)
  | 1, hq, _ => exact j_tabIn C dL_law_44 (off := 224) (tgt := 268) h1 h2 (by rw [hq] <;> rfl) (by decide) (law_c_cellOf C rw_ hlS hZ hL hLL hi hk hn W7 W8 O kk)
  | 2, hq, _ => exact j_tabIn C dL_law_44 (off := 273) (tgt := 317) h1 h2 (by rw [hq] <;> rfl) (by decide) (law_c_neighbour C rw_ hlS hZ hL hLL hi hk hn W7 W8 O kk)
  | 3, hq, _ => exact j_tabIn C dL_law_44 (off := 341) (tgt := 385) h1 h2 (by rw [hq] <;> rfl) (by decide) (law_c_direction C rw_ hlS hZ hL hLL hi hk hn W7 W8 O kk)
  | 4, hq, _ => exact j_tabIn C dL_law_44 (off := 421) (tgt := 465) h1 h2 (by rw [hq] <;> rfl) (by decide) (law_c_cone C rw_ hlS hZ hL hLL hi hk hn W7 W8 O kk)
  | 5, hq, _ => exact j_tabIn C dL_law_44 (off := 477) (tgt := 521) h1 h2 (by rw [hq] <;> rfl) (by decide) (law_c_cosine C rw_ hlS hZ hL hLL hi hk hn W7 W8 O kk)
  | 6, hq, _ => exact j_tabIn C dL_law_44 (off := 578) (tgt := 622) h1 h2 (by rw [hq] <;> rfl) (by decide) (law_c_isBright C rw_ hlS hZ hL hLL hi hk hn W7 W8 O kk)
  | 7, hq, _ => exact j_tabIn C dL_law_44 (off := 653) (tgt := 697) h1 h2 (by rw [hq] <;> rfl) (by decide) (law_c_brightCells C rw_ hlS hZ hL hLL hi hk hn W7 W8 O kk)
  | 8, hq, _ => exact j_tabIn C dL_law_44 (off := 709) (tgt := 753) h1 h2 (by rw [hq] <;> rfl) (by decide) (law_c_firstBright C rw_ hlS hZ hL hLL hi hk hn W7 W8 O kk)
  | 9, hq, _ => exact j_tabIn C dL_law_44 (off := 777) (tgt := 821) h1 h2 (by rw [hq] <;> rfl) (by decide) (law_c_clock C rw_ hlS hZ hL hLL hi hk hn W7 W8 O kk)
  | 10, hq, _ => exact j_tabIn C dL_law_44 (off := 790) (tgt := 834) h1 h2 (by rw [hq] <;> rfl) (by decide) (law_c_position C rw_ hlS hZ hL hLL hi hk hn W7 W8 O kk)
  | 11, hq, _ => exact j_tabIn C dL_law_44 (off := 803) (tgt := 847) h1 h2 (by rw [hq] <;> rfl) (by decide) (law_c_isClosed C rw_ hlS hZ hL hLL hi hk hn W7 W8 O kk)
  | 12, hq, _ => exact j_tabIn C dL_law_44 (off := 816) (tgt := 860) h1 h2 (by rw [hq] <;> rfl) (by decide) (law_c_requestCount C rw_ hlS hZ hL hLL hi hk hn W7 W8 O kk)
  | 13, hq, _ => exact j_tabIn C dL_law_44 (off := 829) (tgt := 873) h1 h2 (by rw [hq] <;> rfl) (by decide) (law_c_setAxis C rw_ hlS hZ hL hLL hi hk hn W7 W8 O kk)
  | 14, hq, _ => exact j_tabIn C dL_law_44 (off := 921) (tgt := 965) h1 h2 (by rw [hq] <;> rfl) (by decide) (law_c_setDrift C rw_ hlS hZ hL hLL hi hk hn W7 W8 O kk)
  | 15, hq, _ => exact j_tabIn C dL_law_44 (off := 1013) (tgt := 1057) h1 h2 (by rw [hq] <;> rfl) (by decide) (law_c_setCone C rw_ hlS hZ hL hLL hi hk hn W7 W8 O kk)
  | 16, hq, _ => exact j_tabIn C dL_law_44 (off := 1081) (tgt := 1125) h1 h2 (by rw [hq] <;> rfl) (by decide) (law_c_step C rw_ hlS hZ hL hLL hi hk hn W7 W8 O kk)
  | 17, hq, _ => exact j_tabIn C dL_law_44 (off := 1137) (tgt := 1181) h1 h2 (by rw [hq] <;> rfl) (by decide) (law_c_slew C rw_ hlS hZ hL hLL hi hk hn W7 W8 O kk)
  | 18, hq, _ => exact j_tabIn C dL_law_44 (off := 1193) (tgt := 1237) h1 h2 (by rw [hq] <;> rfl) (by decide) (law_c_close C rw_ hlS hZ hL hLL hi hk hn W7 W8 O kk)
  | 19, hq, _ => exact j_tabIn C dL_law_44 (off := 1237) (tgt := 1281) h1 h2 (by rw [hq] <;> rfl) (by decide) (law_c_open C rw_ hlS hZ hL hLL hi hk hn W7 W8 O kk)
  | 20, hq, _ => exact j_tabIn C dL_law_44 (off := 1281) (tgt := 1325) h1 h2 (by rw [hq] <;> rfl) (by decide) (law_c_pass C rw_ hlS hZ hL hLL hi hk hn W7 W8 O kk)
  | 21, hq, _ => exact j_tabIn C dL_law_44 (off := 1337) (tgt := 1381) h1 h2 (by rw [hq] <;> rfl) (by decide) (law_c_addRequest C rw_ hlS hZ hL hLL hi hk hn W7 W8 O kk)
  | 22, hq, _ => exact j_tabIn C dL_law_44 (off := 1417) (tgt := 1461) h1 h2 (by rw [hq] <;> rfl) (by decide) (law_c_removeRequest C rw_ hlS hZ hL hLL hi hk hn W7 W8 O kk)
  | 23, hq, _ => exact j_tabIn C dL_law_44 (off := 1473) (tgt := 1517) h1 h2 (by rw [hq] <;> rfl) (by decide) (law_c_undo C rw_ hlS hZ hL hLL hi hk hn W7 W8 O kk)
  | 24, hq, _ => exact j_tabIn C dL_law_44 (off := 1517) (tgt := 1561) h1 h2 (by rw [hq] <;> rfl) (by decide) (law_c_arrival C rw_ hlS hZ hL hLL hi hk hn W7 W8 O kk)
  | 25, hq, _ => exact j_tabIn C dL_law_44 (off := 1573) (tgt := 1617) h1 h2 (by rw [hq] <;> rfl) (by decide) (law_c_planCell C rw_ hlS hZ hL hLL hi hk hn W7 W8 O kk)
  | 26, hq, _ => exact j_tabIn C dL_law_44 (off := 1641) (tgt := 1685) h1 h2 (by rw [hq] <;> rfl) (by decide) (law_c_reachableCells C rw_ hlS hZ hL hLL hi hk hn W7 W8 O kk)
  | 27, hq, _ => exact j_tabIn C dL_law_44 (off := 1697) (tgt := 1741) h1 h2 (by rw [hq] <;> rfl) (by decide) (law_c_parkingCell C rw_ hlS hZ hL hLL hi hk hn W7 W8 O kk)
  | 28, hq, _ => exact j_tabIn C dL_law_44 (off := 1753) (tgt := 1797) h1 h2 (by rw [hq] <;> rfl) (by decide) (law_c_parkingSteps C rw_ hlS hZ hL hLL hi hk hn W7 W8 O kk)
  | 29, hq, _ => exact j_tabIn C dL_law_44 (off := 1809) (tgt := 1853) h1 h2 (by rw [hq] <;> rfl) (by decide) (law_c_requestFinish C rw_ hlS hZ hL hLL hi hk hn W7 W8 O kk)
  | 30, hq, _ => exact j_tabIn C dL_law_44 (off := 1865) (tgt := 1909) h1 h2 (by rw [hq] <;> rfl) (by decide) (law_c_bestValue C rw_ hlS hZ hL hLL hi hk hn W7 W8 O kk)
  | 31, hq, _ => exact j_tabIn C dL_law_44 (off := 1909) (tgt := 1953) h1 h2 (by rw [hq] <;> rfl) (by decide) (law_c_bestOrder C rw_ hlS hZ hL hLL hi hk hn W7 W8 O kk)
  | 32, hq, _ => exact j_tabIn C dL_law_44 (off := 1953) (tgt := 1997) h1 h2 (by rw [hq] <;> rfl) (by decide) (law_c_randomWalk C rw_ hlS hZ hL hLL hi hk hn W7 W8 O kk)
  | 33, hq, _ => exact j_tabIn C dL_law_44 (off := 2053) (tgt := 2097) h1 h2 (by rw [hq] <;> rfl) (by decide) (law_c_save C rw_ hlS hZ hL hLL hi hk hn W7 W8 O kk)
  | 34, hq, _ => exact j_tabIn C dL_law_44 (off := 2109) (tgt := 2153) h1 h2 (by rw [hq] <;> rfl) (by decide) (law_c_restore C rw_ hlS hZ hL hLL hi hk hn W7 W8 O kk)
  | q + 35, _, h => exact absurd h (by omega)
set_option maxHeartbeats 4000000 in
theorem law_loop {X : jj_X} (C : jj_C X cL_law RL wsL_law room_1 9 ret) (rw_ : jj_RW X) (hlS : (xl X).stackTraces = false) (hZ : jZ (xA X) (xs X) (xs X).heap) {b L : Nat} {sc : Nat → Int32} (hL : jj_L X b L sc) (hLL : L ≤ 2560) {h7 h8 out outD : Nat} : ∀ (d : Nat) {i k n k8 : Nat} {s : sT} {w7 w8 : va_W} {f : Nat → Int64} {g : Nat → UInt64}, L ≤ i + 5 * d → i ≤ 2565 → k + 9 * d ≤ 601024 → n + 75 * d ≤ 7293034 → PW (xT X) h7 s w7 → MW (xT X) h8 k8 s w8 → okS s → jj X k n 28 (lvL b h7 h8 out outD i) [] (lwW (xT X) w7 w8 out outD f g) := by
  intro d
  induction d with
  | zero =>
    intro i k n k8 s w7 w8 f g hd hi hk hn W7 W8 O
    exact law_head C rw_ hL hLL (by omega) (fun _ => law_exit C hL (by omega) (by omega)) (fun h => absurd h (by omega))
  | succ d ih =>
    intro i k n k8 s w7 w8 f g hd hi hk hn W7 W8 O
    refine law_head C rw_ hL hLL (by omega) (fun _ => law_exit C hL (by omega) (by omega)) (fun h => ?_)
    refine law_disp C rw_ hlS hZ hL hLL h (by omega) (by omega) W7 W8 O (fun s2 w72 w82 f2 g2 k2 n2 k82 hk2 hn2 W72 W82 O2 => ?_)
    exact law_next C (ih (by omega) (by omega) (by omega) (by omega) W72 W82 O2)
