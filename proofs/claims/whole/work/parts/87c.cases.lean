/-! THE LAW (4): the cases -/
set_option maxHeartbeats 4000000 in
theorem law_c_close {X : jj_X} (C : jj_C X cL_law RL wsL_law room_1 9 ret) (rw_ : jj_RW X) (hlS : (xl X).stackTraces = false) (hZ : jZ (xA X) (xs X) (xs X).heap) {b L : Nat} {sc : Nat → Int32} (hL : jj_L X b L sc) (hLL : L ≤ 2560) {h7 h8 out outD i k n k8 : Nat} {s : sT} {w7 w8 : va_W} {f : Nat → Int64} {g : Nat → UInt64} (hi : i + 5 ≤ L) (hk : k + 9 ≤ 601024) (hn : n + 75 ≤ 7293034) (W7 : PW (xT X) h7 s w7) (W8 : MW (xT X) h8 k8 s w8) (O : okS s) (kk : ∀ (s2 : sT) (w72 w82 : va_W) (f2 : Nat → Int64) (g2 : Nat → UInt64) (k2 n2 k82 : Nat), k2 ≤ k + 9 → n2 ≤ n + 75 → PW (xT X) h7 s2 w72 → MW (xT X) h8 k82 s2 w82 → okS s2 → jj X k2 n2 2209 (lvL b h7 h8 out outD i) [] (lwW (xT X) w72 w82 out outD f2 g2)) : jj X k n 1237 (lvL b h7 h8 out outD i) [] (lwW (xT X) w7 w8 out outD f g) := by
  obtain ⟨⟨ac, ap, ash, an, aob, arq⟩, cn, M, S⟩ := s
  refine j_aload_n C dL_law_1237 1 rfl rfl ?_
  refine j_aload_n C dL_law_1238 3 rfl rfl ?_
  refine j_callSWp C rw_ hZ (nA := 2) (As := [.ref h7, .ref out]) (c_L_close (xl X) (xT X) hlS (out := out) (f := f)  W7 O) gL_law_L_close rfl (by decide +kernel) rfl (by decide) ⟨by show k + 5 ≤ 601024; omega, by show n + 51 ≤ 7293034; omega⟩ (lwp_7 _ _ _ _ _ _ _) (rest := []) rfl (Nat.le_of_ble_eq_true rfl) dL_law_1239 (fun v w1 h => ?_)
  obtain ⟨k9, rfl, hk9, hc9⟩ := h
  refine j_istore C (i := 6) dL_law_1242 (by decide) rfl ?_
  rcases hc9 with ⟨hz9, r, w72, f2, hr, hP, hf2, rfl⟩ | ⟨hz9, w72, hP, rfl⟩
  · refine j_permP C (lwp_7 _ w72 w8 out outD f2 g).symm ?_
    refine j_aload_n C dL_law_1244 3 rfl rfl ?_
    obtain ⟨fs8, hm8⟩ := MW.mem W8
    refine j_callVMp C rw_ (nA := 0) (As := []) (wc := w8) (n_X8_close (xl X) (xT X)  W8 O) gL_law_X8_close rfl (by decide +kernel) rfl (by decide) ⟨by show k + 5 + 0 ≤ 601024; omega, by show n + 51 + 0 ≤ 7293034; omega⟩ (lwp_8 _ _ _ _ _ _ _) hm8 (ci := 8) rfl (rest := []) rfl (Nat.le_of_ble_eq_true rfl) dL_law_1245 (fun v w1 h => ?_)
    obtain ⟨k10, r2, rfl, hk10, hc10⟩ := h
    refine j_istore C (i := 7) dL_law_1248 (by decide) rfl ?_
    refine j_permP C (lwp_8 _ w72 w1 out outD f2 g).symm ?_
    have ek : k10 = k9 := hk10.trans hk9.symm
    rcases hc10 with ⟨hz10, hr2, hM⟩ | ⟨hz10, hM⟩
    · refine j_aload_n C dL_law_1250 4 rfl rfl ?_
      refine j_thrown C hM (lwp_8 _ _ _ _ _ _ _) (by decide) (by show k + 5 + 0 ≤ 601024; omega) (by show n + 51 + 0 ≤ 7293034; omega) dL_law_1251 ?_
      refine j_iload C dL_law_1254 1 rfl ?_
      refine j_icmp_eq C dL_law_1256 (tgt := 1261) (by decide) (fun _ => ?_) (fun e => absurd (congrArg nI (hz10.symm.trans ek)) e)
      refine j_iload C dL_law_1261 1 rfl ?_
      have er := ru_close hr hr2
      subst er
      refine j_if_ne C dL_law_1263 (tgt := 1278) (by decide) (fun e => absurd (by rw [hz9]; rfl) e) (fun _ => ?_)
      refine j_permP C (lwp_7 _ _ _ _ _ _ _) ?_
      refine j_aload_n C dL_law_1266 5 rfl rfl ?_
      refine j_iconst C dL_law_1267 (v := nI 0) kc_i_0 ?_
      refine j_laloadN C 0 rfl 0 rfl (by decide) (by decide) dL_law_1268 ?_
      refine j_iload C dL_law_1269 0 rfl ?_
      refine j_i2l C dL_law_1271 rfl ?_
      refine j_lcmp C dL_law_1272 ?_
      refine j_if_eq C dL_law_1273 (tgt := 1278) (by decide) (fun _ => ?_) (fun e => absurd (by rw [hf2]; exact cmp_self _) e)
      refine j_goto C dL_law_1278 (tgt := 2209) (by decide) ?_
      refine j_permP C (lwp_7 _ _ _ _ _ _ _).symm ?_
      refine j_lv [2, 3, 4, 5, 6, 7] rfl ?_
      exact kk _ w72 w1 f2 g _ _ 0 (by show k + 5 + 0 ≤ k + 9; omega) (by show n + 51 + 0 ≤ n + 75; omega) hP hM (po_close (PW.cn W7) O (hk9.symm.trans hz9) hr)
    · exact absurd (ek.trans hz9) hz10
  · refine j_permP C (lwp_7 _ w72 w8 out outD f g).symm ?_
    refine j_aload_n C dL_law_1244 3 rfl rfl ?_
    obtain ⟨fs8, hm8⟩ := MW.mem W8
    refine j_callVMp C rw_ (nA := 0) (As := []) (wc := w8) (n_X8_close (xl X) (xT X)  W8 O) gL_law_X8_close rfl (by decide +kernel) rfl (by decide) ⟨by show k + 5 + 0 ≤ 601024; omega, by show n + 51 + 0 ≤ 7293034; omega⟩ (lwp_8 _ _ _ _ _ _ _) hm8 (ci := 8) rfl (rest := []) rfl (Nat.le_of_ble_eq_true rfl) dL_law_1245 (fun v w1 h => ?_)
    obtain ⟨k10, r2, rfl, hk10, hc10⟩ := h
    refine j_istore C (i := 7) dL_law_1248 (by decide) rfl ?_
    refine j_permP C (lwp_8 _ w72 w1 out outD f g).symm ?_
    have ek : k10 = k9 := hk10.trans hk9.symm
    rcases hc10 with ⟨hz10, hr2, hM⟩ | ⟨hz10, hM⟩
    · exact absurd (ek ▸ hz10) hz9
    · refine j_aload_n C dL_law_1250 4 rfl rfl ?_
      refine j_thrown C hM (lwp_8 _ _ _ _ _ _ _) (by decide) (by show k + 5 + 0 ≤ 601024; omega) (by show n + 51 + 0 ≤ 7293034; omega) dL_law_1251 ?_
      refine j_iload C dL_law_1254 1 rfl ?_
      refine j_icmp_eq C dL_law_1256 (tgt := 1261) (by decide) (fun _ => ?_) (fun e => absurd (congrArg nI ek) e)
      refine j_iload C dL_law_1261 1 rfl ?_
      have hb : k9 ≤ 3 := by rw [hk9]; unfold kf_close; (repeat' split) <;> omega
      refine j_if_ne C dL_law_1263 (tgt := 1278) (by decide) (fun _ => ?_) (fun e => absurd ((nI_eq (show k9 < 2 ^ 31 by omega) (show 0 < 2 ^ 31 by decide)).mp e) hz9)
      refine j_goto C dL_law_1278 (tgt := 2209) (by decide) ?_
      refine j_lv [2, 3, 4, 5, 6, 7] rfl ?_
      exact kk _ w72 w1 f g _ _ k10 (by show k + 5 + 0 ≤ k + 9; omega) (by show n + 51 + 0 ≤ n + 75; omega) hP hM O
set_option maxHeartbeats 4000000 in
theorem law_c_open {X : jj_X} (C : jj_C X cL_law RL wsL_law room_1 9 ret) (rw_ : jj_RW X) (hlS : (xl X).stackTraces = false) (hZ : jZ (xA X) (xs X) (xs X).heap) {b L : Nat} {sc : Nat → Int32} (hL : jj_L X b L sc) (hLL : L ≤ 2560) {h7 h8 out outD i k n k8 : Nat} {s : sT} {w7 w8 : va_W} {f : Nat → Int64} {g : Nat → UInt64} (hi : i + 5 ≤ L) (hk : k + 9 ≤ 601024) (hn : n + 75 ≤ 7293034) (W7 : PW (xT X) h7 s w7) (W8 : MW (xT X) h8 k8 s w8) (O : okS s) (kk : ∀ (s2 : sT) (w72 w82 : va_W) (f2 : Nat → Int64) (g2 : Nat → UInt64) (k2 n2 k82 : Nat), k2 ≤ k + 9 → n2 ≤ n + 75 → PW (xT X) h7 s2 w72 → MW (xT X) h8 k82 s2 w82 → okS s2 → jj X k2 n2 2209 (lvL b h7 h8 out outD i) [] (lwW (xT X) w72 w82 out outD f2 g2)) : jj X k n 1281 (lvL b h7 h8 out outD i) [] (lwW (xT X) w7 w8 out outD f g) := by
  obtain ⟨⟨ac, ap, ash, an, aob, arq⟩, cn, M, S⟩ := s
  refine j_aload_n C dL_law_1281 1 rfl rfl ?_
  refine j_aload_n C dL_law_1282 3 rfl rfl ?_
  refine j_callSWp C rw_ hZ (nA := 2) (As := [.ref h7, .ref out]) (c_L_open (xl X) (xT X) hlS (out := out) (f := f)  W7 O) gL_law_L_open rfl (by decide +kernel) rfl (by decide) ⟨by show k + 5 ≤ 601024; omega, by show n + 51 ≤ 7293034; omega⟩ (lwp_7 _ _ _ _ _ _ _) (rest := []) rfl (Nat.le_of_ble_eq_true rfl) dL_law_1283 (fun v w1 h => ?_)
  obtain ⟨k9, rfl, hk9, hc9⟩ := h
  refine j_istore C (i := 6) dL_law_1286 (by decide) rfl ?_
  rcases hc9 with ⟨hz9, r, w72, f2, hr, hP, hf2, rfl⟩ | ⟨hz9, w72, hP, rfl⟩
  · refine j_permP C (lwp_7 _ w72 w8 out outD f2 g).symm ?_
    refine j_aload_n C dL_law_1288 3 rfl rfl ?_
    obtain ⟨fs8, hm8⟩ := MW.mem W8
    refine j_callVMp C rw_ (nA := 0) (As := []) (wc := w8) (n_X8_open (xl X) (xT X)  W8 O) gL_law_X8_open rfl (by decide +kernel) rfl (by decide) ⟨by show k + 5 + 0 ≤ 601024; omega, by show n + 51 + 0 ≤ 7293034; omega⟩ (lwp_8 _ _ _ _ _ _ _) hm8 (ci := 8) rfl (rest := []) rfl (Nat.le_of_ble_eq_true rfl) dL_law_1289 (fun v w1 h => ?_)
    obtain ⟨k10, r2, rfl, hk10, hc10⟩ := h
    refine j_istore C (i := 7) dL_law_1292 (by decide) rfl ?_
    refine j_permP C (lwp_8 _ w72 w1 out outD f2 g).symm ?_
    have ek : k10 = k9 := hk10.trans hk9.symm
    rcases hc10 with ⟨hz10, hr2, hM⟩ | ⟨hz10, hM⟩
    · refine j_aload_n C dL_law_1294 4 rfl rfl ?_
      refine j_thrown C hM (lwp_8 _ _ _ _ _ _ _) (by decide) (by show k + 5 + 0 ≤ 601024; omega) (by show n + 51 + 0 ≤ 7293034; omega) dL_law_1295 ?_
      refine j_iload C dL_law_1298 1 rfl ?_
      refine j_icmp_eq C dL_law_1300 (tgt := 1305) (by decide) (fun _ => ?_) (fun e => absurd (congrArg nI (hz10.symm.trans ek)) e)
      refine j_iload C dL_law_1305 1 rfl ?_
      have er := ru_open hr hr2
      subst er
      refine j_if_ne C dL_law_1307 (tgt := 1322) (by decide) (fun e => absurd (by rw [hz9]; rfl) e) (fun _ => ?_)
      refine j_permP C (lwp_7 _ _ _ _ _ _ _) ?_
      refine j_aload_n C dL_law_1310 5 rfl rfl ?_
      refine j_iconst C dL_law_1311 (v := nI 0) kc_i_0 ?_
      refine j_laloadN C 0 rfl 0 rfl (by decide) (by decide) dL_law_1312 ?_
      refine j_iload C dL_law_1313 0 rfl ?_
      refine j_i2l C dL_law_1315 rfl ?_
      refine j_lcmp C dL_law_1316 ?_
      refine j_if_eq C dL_law_1317 (tgt := 1322) (by decide) (fun _ => ?_) (fun e => absurd (by rw [hf2]; exact cmp_self _) e)
      refine j_goto C dL_law_1322 (tgt := 2209) (by decide) ?_
      refine j_permP C (lwp_7 _ _ _ _ _ _ _).symm ?_
      refine j_lv [2, 3, 4, 5, 6, 7] rfl ?_
      exact kk _ w72 w1 f2 g _ _ 0 (by show k + 5 + 0 ≤ k + 9; omega) (by show n + 51 + 0 ≤ n + 75; omega) hP hM (po_open (PW.cn W7) O (hk9.symm.trans hz9) hr)
    · exact absurd (ek.trans hz9) hz10
  · refine j_permP C (lwp_7 _ w72 w8 out outD f g).symm ?_
    refine j_aload_n C dL_law_1288 3 rfl rfl ?_
    obtain ⟨fs8, hm8⟩ := MW.mem W8
    refine j_callVMp C rw_ (nA := 0) (As := []) (wc := w8) (n_X8_open (xl X) (xT X)  W8 O) gL_law_X8_open rfl (by decide +kernel) rfl (by decide) ⟨by show k + 5 + 0 ≤ 601024; omega, by show n + 51 + 0 ≤ 7293034; omega⟩ (lwp_8 _ _ _ _ _ _ _) hm8 (ci := 8) rfl (rest := []) rfl (Nat.le_of_ble_eq_true rfl) dL_law_1289 (fun v w1 h => ?_)
    obtain ⟨k10, r2, rfl, hk10, hc10⟩ := h
    refine j_istore C (i := 7) dL_law_1292 (by decide) rfl ?_
    refine j_permP C (lwp_8 _ w72 w1 out outD f g).symm ?_
    have ek : k10 = k9 := hk10.trans hk9.symm
    rcases hc10 with ⟨hz10, hr2, hM⟩ | ⟨hz10, hM⟩
    · exact absurd (ek ▸ hz10) hz9
    · refine j_aload_n C dL_law_1294 4 rfl rfl ?_
      refine j_thrown C hM (lwp_8 _ _ _ _ _ _ _) (by decide) (by show k + 5 + 0 ≤ 601024; omega) (by show n + 51 + 0 ≤ 7293034; omega) dL_law_1295 ?_
      refine j_iload C dL_law_1298 1 rfl ?_
      refine j_icmp_eq C dL_law_1300 (tgt := 1305) (by decide) (fun _ => ?_) (fun e => absurd (congrArg nI ek) e)
      refine j_iload C dL_law_1305 1 rfl ?_
      have hb : k9 ≤ 3 := by rw [hk9]; unfold kf_open; (repeat' split) <;> omega
      refine j_if_ne C dL_law_1307 (tgt := 1322) (by decide) (fun _ => ?_) (fun e => absurd ((nI_eq (show k9 < 2 ^ 31 by omega) (show 0 < 2 ^ 31 by decide)).mp e) hz9)
      refine j_goto C dL_law_1322 (tgt := 2209) (by decide) ?_
      refine j_lv [2, 3, 4, 5, 6, 7] rfl ?_
      exact kk _ w72 w1 f g _ _ k10 (by show k + 5 + 0 ≤ k + 9; omega) (by show n + 51 + 0 ≤ n + 75; omega) hP hM O
set_option maxHeartbeats 4000000 in
theorem law_c_pass {X : jj_X} (C : jj_C X cL_law RL wsL_law room_1 9 ret) (rw_ : jj_RW X) (hlS : (xl X).stackTraces = false) (hZ : jZ (xA X) (xs X) (xs X).heap) {b L : Nat} {sc : Nat → Int32} (hL : jj_L X b L sc) (hLL : L ≤ 2560) {h7 h8 out outD i k n k8 : Nat} {s : sT} {w7 w8 : va_W} {f : Nat → Int64} {g : Nat → UInt64} (hi : i + 5 ≤ L) (hk : k + 9 ≤ 601024) (hn : n + 75 ≤ 7293034) (W7 : PW (xT X) h7 s w7) (W8 : MW (xT X) h8 k8 s w8) (O : okS s) (kk : ∀ (s2 : sT) (w72 w82 : va_W) (f2 : Nat → Int64) (g2 : Nat → UInt64) (k2 n2 k82 : Nat), k2 ≤ k + 9 → n2 ≤ n + 75 → PW (xT X) h7 s2 w72 → MW (xT X) h8 k82 s2 w82 → okS s2 → jj X k2 n2 2209 (lvL b h7 h8 out outD i) [] (lwW (xT X) w72 w82 out outD f2 g2)) : jj X k n 1325 (lvL b h7 h8 out outD i) [] (lwW (xT X) w7 w8 out outD f g) := by
  obtain ⟨⟨ac, ap, ash, an, aob, arq⟩, cn, M, S⟩ := s
  refine j_aload_n C dL_law_1325 1 rfl rfl ?_
  refine j_aload_n C dL_law_1326 0 rfl rfl ?_
  refine j_iload C dL_law_1327 5 rfl ?_
  refine j_iconst C dL_law_1329 (v := nI 1) kc_i_1 ?_
  refine j_iadd C dL_law_1330 (v := nI (i + 1)) (nI_add i 1) ?_
  refine j_sld C rw_ hL (nI_in (by omega) (by omega)) dL_law_1331 ?_
  rw [nI_clamp (show i + 1 < 2 ^ 31 by omega)]
  refine j_aload_n C dL_law_1332 3 rfl rfl ?_
  refine j_callSWp C rw_ hZ (nA := 3) (As := [.ref h7, .int (sc (i + 1)), .ref out]) (c_L_pass (xl X) (xT X) hlS (out := out) (f := f) (sc (i + 1)) W7 O) gL_law_L_pass rfl (by decide +kernel) rfl (by decide) ⟨by show k + 6 ≤ 601024; omega, by show n + 57 ≤ 7293034; omega⟩ (lwp_7 _ _ _ _ _ _ _) (rest := []) rfl (Nat.le_of_ble_eq_true rfl) dL_law_1333 (fun v w1 h => ?_)
  obtain ⟨k9, rfl, hk9, hc9⟩ := h
  refine j_istore C (i := 6) dL_law_1336 (by decide) rfl ?_
  rcases hc9 with ⟨hz9, r, w72, f2, hr, hP, hf2, rfl⟩ | ⟨hz9, w72, hP, rfl⟩
  · refine j_permP C (lwp_7 _ w72 w8 out outD f2 g).symm ?_
    refine j_aload_n C dL_law_1338 3 rfl rfl ?_
    refine j_aload_n C dL_law_1339 1 rfl rfl ?_
    refine j_iload C dL_law_1340 6 rfl ?_
    refine j_iconst C dL_law_1342 (v := nI 1) kc_i_1 ?_
    refine j_iadd C dL_law_1343 (v := nI (i + 1)) (nI_add i 1) ?_
    refine j_sld C rw_ hL (nI_in (by omega) (by omega)) dL_law_1344 ?_
    rw [nI_clamp (show i + 1 < 2 ^ 31 by omega)]
    obtain ⟨fs8, hm8⟩ := MW.mem W8
    refine j_callVMp C rw_ (nA := 1) (As := [.int (sc (i + 1))]) (wc := w8) (n_X8_pass (xl X) (xT X) (sc (i + 1)) W8 O) gL_law_X8_pass rfl (by decide +kernel) rfl (by decide) ⟨by show k + 6 + 0 ≤ 601024; omega, by show n + 57 + 0 ≤ 7293034; omega⟩ (lwp_8 _ _ _ _ _ _ _) hm8 (ci := 8) rfl (rest := []) rfl (Nat.le_of_ble_eq_true rfl) dL_law_1345 (fun v w1 h => ?_)
    obtain ⟨k10, r2, rfl, hk10, hc10⟩ := h
    refine j_istore C (i := 7) dL_law_1348 (by decide) rfl ?_
    refine j_permP C (lwp_8 _ w72 w1 out outD f2 g).symm ?_
    have ek : k10 = k9 := hk10.trans hk9.symm
    rcases hc10 with ⟨hz10, hr2, hM⟩ | ⟨hz10, hM⟩
    · refine j_aload_n C dL_law_1350 4 rfl rfl ?_
      refine j_thrown C hM (lwp_8 _ _ _ _ _ _ _) (by decide) (by show k + 6 + 0 ≤ 601024; omega) (by show n + 57 + 0 ≤ 7293034; omega) dL_law_1351 ?_
      refine j_iload C dL_law_1354 1 rfl ?_
      refine j_icmp_eq C dL_law_1356 (tgt := 1361) (by decide) (fun _ => ?_) (fun e => absurd (congrArg nI (hz10.symm.trans ek)) e)
      refine j_iload C dL_law_1361 1 rfl ?_
      have er := ru_pass hr hr2
      subst er
      refine j_if_ne C dL_law_1363 (tgt := 1378) (by decide) (fun e => absurd (by rw [hz9]; rfl) e) (fun _ => ?_)
      refine j_permP C (lwp_7 _ _ _ _ _ _ _) ?_
      refine j_aload_n C dL_law_1366 5 rfl rfl ?_
      refine j_iconst C dL_law_1367 (v := nI 0) kc_i_0 ?_
      refine j_laloadN C 0 rfl 0 rfl (by decide) (by decide) dL_law_1368 ?_
      refine j_iload C dL_law_1369 0 rfl ?_
      refine j_i2l C dL_law_1371 rfl ?_
      refine j_lcmp C dL_law_1372 ?_
      refine j_if_eq C dL_law_1373 (tgt := 1378) (by decide) (fun _ => ?_) (fun e => absurd (by rw [hf2]; exact cmp_self _) e)
      refine j_goto C dL_law_1378 (tgt := 2209) (by decide) ?_
      refine j_permP C (lwp_7 _ _ _ _ _ _ _).symm ?_
      refine j_lv [2, 3, 4, 5, 6, 7] rfl ?_
      exact kk _ w72 w1 f2 g _ _ 0 (by show k + 6 + 0 ≤ k + 9; omega) (by show n + 57 + 0 ≤ n + 75; omega) hP hM (po_pass (PW.cn W7) O (hk9.symm.trans hz9) hr)
    · exact absurd (ek.trans hz9) hz10
  · refine j_permP C (lwp_7 _ w72 w8 out outD f g).symm ?_
    refine j_aload_n C dL_law_1338 3 rfl rfl ?_
    refine j_aload_n C dL_law_1339 1 rfl rfl ?_
    refine j_iload C dL_law_1340 6 rfl ?_
    refine j_iconst C dL_law_1342 (v := nI 1) kc_i_1 ?_
    refine j_iadd C dL_law_1343 (v := nI (i + 1)) (nI_add i 1) ?_
    refine j_sld C rw_ hL (nI_in (by omega) (by omega)) dL_law_1344 ?_
    rw [nI_clamp (show i + 1 < 2 ^ 31 by omega)]
    obtain ⟨fs8, hm8⟩ := MW.mem W8
    refine j_callVMp C rw_ (nA := 1) (As := [.int (sc (i + 1))]) (wc := w8) (n_X8_pass (xl X) (xT X) (sc (i + 1)) W8 O) gL_law_X8_pass rfl (by decide +kernel) rfl (by decide) ⟨by show k + 6 + 0 ≤ 601024; omega, by show n + 57 + 0 ≤ 7293034; omega⟩ (lwp_8 _ _ _ _ _ _ _) hm8 (ci := 8) rfl (rest := []) rfl (Nat.le_of_ble_eq_true rfl) dL_law_1345 (fun v w1 h => ?_)
    obtain ⟨k10, r2, rfl, hk10, hc10⟩ := h
    refine j_istore C (i := 7) dL_law_1348 (by decide) rfl ?_
    refine j_permP C (lwp_8 _ w72 w1 out outD f g).symm ?_
    have ek : k10 = k9 := hk10.trans hk9.symm
    rcases hc10 with ⟨hz10, hr2, hM⟩ | ⟨hz10, hM⟩
    · exact absurd (ek ▸ hz10) hz9
    · refine j_aload_n C dL_law_1350 4 rfl rfl ?_
      refine j_thrown C hM (lwp_8 _ _ _ _ _ _ _) (by decide) (by show k + 6 + 0 ≤ 601024; omega) (by show n + 57 + 0 ≤ 7293034; omega) dL_law_1351 ?_
      refine j_iload C dL_law_1354 1 rfl ?_
      refine j_icmp_eq C dL_law_1356 (tgt := 1361) (by decide) (fun _ => ?_) (fun e => absurd (congrArg nI ek) e)
      refine j_iload C dL_law_1361 1 rfl ?_
      have hb : k9 ≤ 3 := by rw [hk9]; unfold kf_pass; (repeat' split) <;> omega
      refine j_if_ne C dL_law_1363 (tgt := 1378) (by decide) (fun _ => ?_) (fun e => absurd ((nI_eq (show k9 < 2 ^ 31 by omega) (show 0 < 2 ^ 31 by decide)).mp e) hz9)
      refine j_goto C dL_law_1378 (tgt := 2209) (by decide) ?_
      refine j_lv [2, 3, 4, 5, 6, 7] rfl ?_
      exact kk _ w72 w1 f g _ _ k10 (by show k + 6 + 0 ≤ k + 9; omega) (by show n + 57 + 0 ≤ n + 75; omega) hP hM O
set_option maxHeartbeats 4000000 in
theorem law_c_addRequest {X : jj_X} (C : jj_C X cL_law RL wsL_law room_1 9 ret) (rw_ : jj_RW X) (hlS : (xl X).stackTraces = false) (hZ : jZ (xA X) (xs X) (xs X).heap) {b L : Nat} {sc : Nat → Int32} (hL : jj_L X b L sc) (hLL : L ≤ 2560) {h7 h8 out outD i k n k8 : Nat} {s : sT} {w7 w8 : va_W} {f : Nat → Int64} {g : Nat → UInt64} (hi : i + 5 ≤ L) (hk : k + 9 ≤ 601024) (hn : n + 75 ≤ 7293034) (W7 : PW (xT X) h7 s w7) (W8 : MW (xT X) h8 k8 s w8) (O : okS s) (kk : ∀ (s2 : sT) (w72 w82 : va_W) (f2 : Nat → Int64) (g2 : Nat → UInt64) (k2 n2 k82 : Nat), k2 ≤ k + 9 → n2 ≤ n + 75 → PW (xT X) h7 s2 w72 → MW (xT X) h8 k82 s2 w82 → okS s2 → jj X k2 n2 2209 (lvL b h7 h8 out outD i) [] (lwW (xT X) w72 w82 out outD f2 g2)) : jj X k n 1381 (lvL b h7 h8 out outD i) [] (lwW (xT X) w7 w8 out outD f g) := by
  obtain ⟨⟨ac, ap, ash, an, aob, arq⟩, cn, M, S⟩ := s
  refine j_aload_n C dL_law_1381 1 rfl rfl ?_
  refine j_aload_n C dL_law_1382 0 rfl rfl ?_
  refine j_iload C dL_law_1383 5 rfl ?_
  refine j_iconst C dL_law_1385 (v := nI 1) kc_i_1 ?_
  refine j_iadd C dL_law_1386 (v := nI (i + 1)) (nI_add i 1) ?_
  refine j_sld C rw_ hL (nI_in (by omega) (by omega)) dL_law_1387 ?_
  rw [nI_clamp (show i + 1 < 2 ^ 31 by omega)]
  refine j_aload_n C dL_law_1388 0 rfl rfl ?_
  refine j_iload C dL_law_1389 5 rfl ?_
  refine j_iconst C dL_law_1391 (v := nI 2) kc_i_2 ?_
  refine j_iadd C dL_law_1392 (v := nI (i + 2)) (nI_add i 2) ?_
  refine j_sld C rw_ hL (nI_in (by omega) (by omega)) dL_law_1393 ?_
  rw [nI_clamp (show i + 2 < 2 ^ 31 by omega)]
  refine j_aload_n C dL_law_1394 0 rfl rfl ?_
  refine j_iload C dL_law_1395 5 rfl ?_
  refine j_iconst C dL_law_1397 (v := nI 3) kc_i_3 ?_
  refine j_iadd C dL_law_1398 (v := nI (i + 3)) (nI_add i 3) ?_
  refine j_sld C rw_ hL (nI_in (by omega) (by omega)) dL_law_1399 ?_
  rw [nI_clamp (show i + 3 < 2 ^ 31 by omega)]
  refine j_aload_n C dL_law_1400 3 rfl rfl ?_
  refine j_callSWp C rw_ hZ (nA := 5) (As := [.ref h7, .int (sc (i + 1)), .int (sc (i + 2)), .int (sc (i + 3)), .ref out]) (c_L_addRequest (xl X) (xT X) hlS (out := out) (f := f) (sc (i + 1)) (sc (i + 2)) (sc (i + 3)) W7 O) gL_law_L_addRequest rfl (by decide +kernel) rfl (by decide) ⟨by show k + 7 ≤ 601024; omega, by show n + 63 ≤ 7293034; omega⟩ (lwp_7 _ _ _ _ _ _ _) (rest := []) rfl (Nat.le_of_ble_eq_true rfl) dL_law_1401 (fun v w1 h => ?_)
  obtain ⟨k9, rfl, hk9, hc9⟩ := h
  refine j_istore C (i := 6) dL_law_1404 (by decide) rfl ?_
  rcases hc9 with ⟨hz9, r, w72, f2, hr, hP, hf2, rfl⟩ | ⟨hz9, w72, hP, rfl⟩
  · refine j_permP C (lwp_7 _ w72 w8 out outD f2 g).symm ?_
    refine j_aload_n C dL_law_1406 3 rfl rfl ?_
    refine j_aload_n C dL_law_1407 1 rfl rfl ?_
    refine j_iload C dL_law_1408 6 rfl ?_
    refine j_iconst C dL_law_1410 (v := nI 1) kc_i_1 ?_
    refine j_iadd C dL_law_1411 (v := nI (i + 1)) (nI_add i 1) ?_
    refine j_sld C rw_ hL (nI_in (by omega) (by omega)) dL_law_1412 ?_
    rw [nI_clamp (show i + 1 < 2 ^ 31 by omega)]
    refine j_aload_n C dL_law_1413 1 rfl rfl ?_
    refine j_iload C dL_law_1414 6 rfl ?_
    refine j_iconst C dL_law_1416 (v := nI 2) kc_i_2 ?_
    refine j_iadd C dL_law_1417 (v := nI (i + 2)) (nI_add i 2) ?_
    refine j_sld C rw_ hL (nI_in (by omega) (by omega)) dL_law_1418 ?_
    rw [nI_clamp (show i + 2 < 2 ^ 31 by omega)]
    refine j_aload_n C dL_law_1419 1 rfl rfl ?_
    refine j_iload C dL_law_1420 6 rfl ?_
    refine j_iconst C dL_law_1422 (v := nI 3) kc_i_3 ?_
    refine j_iadd C dL_law_1423 (v := nI (i + 3)) (nI_add i 3) ?_
    refine j_sld C rw_ hL (nI_in (by omega) (by omega)) dL_law_1424 ?_
    rw [nI_clamp (show i + 3 < 2 ^ 31 by omega)]
    obtain ⟨fs8, hm8⟩ := MW.mem W8
    refine j_callVMp C rw_ (nA := 3) (As := [.int (sc (i + 1)), .int (sc (i + 2)), .int (sc (i + 3))]) (wc := w8) (n_X8_addRequest (xl X) (xT X) (sc (i + 1)) (sc (i + 2)) (sc (i + 3)) W8 O) gL_law_X8_addRequest rfl (by decide +kernel) rfl (by decide) ⟨by show k + 7 + 0 ≤ 601024; omega, by show n + 63 + 0 ≤ 7293034; omega⟩ (lwp_8 _ _ _ _ _ _ _) hm8 (ci := 8) rfl (rest := []) rfl (Nat.le_of_ble_eq_true rfl) dL_law_1425 (fun v w1 h => ?_)
    obtain ⟨k10, r2, rfl, hk10, hc10⟩ := h
    refine j_istore C (i := 7) dL_law_1428 (by decide) rfl ?_
    refine j_permP C (lwp_8 _ w72 w1 out outD f2 g).symm ?_
    have ek : k10 = k9 := hk10.trans hk9.symm
    rcases hc10 with ⟨hz10, hr2, hM⟩ | ⟨hz10, hM⟩
    · refine j_aload_n C dL_law_1430 4 rfl rfl ?_
      refine j_thrown C hM (lwp_8 _ _ _ _ _ _ _) (by decide) (by show k + 7 + 0 ≤ 601024; omega) (by show n + 63 + 0 ≤ 7293034; omega) dL_law_1431 ?_
      refine j_iload C dL_law_1434 1 rfl ?_
      refine j_icmp_eq C dL_law_1436 (tgt := 1441) (by decide) (fun _ => ?_) (fun e => absurd (congrArg nI (hz10.symm.trans ek)) e)
      refine j_iload C dL_law_1441 1 rfl ?_
      have er := ru_addRequest hr hr2
      subst er
      refine j_if_ne C dL_law_1443 (tgt := 1458) (by decide) (fun e => absurd (by rw [hz9]; rfl) e) (fun _ => ?_)
      refine j_permP C (lwp_7 _ _ _ _ _ _ _) ?_
      refine j_aload_n C dL_law_1446 5 rfl rfl ?_
      refine j_iconst C dL_law_1447 (v := nI 0) kc_i_0 ?_
      refine j_laloadN C 0 rfl 0 rfl (by decide) (by decide) dL_law_1448 ?_
      refine j_iload C dL_law_1449 0 rfl ?_
      refine j_i2l C dL_law_1451 rfl ?_
      refine j_lcmp C dL_law_1452 ?_
      refine j_if_eq C dL_law_1453 (tgt := 1458) (by decide) (fun _ => ?_) (fun e => absurd (by rw [hf2]; exact cmp_self _) e)
      refine j_goto C dL_law_1458 (tgt := 2209) (by decide) ?_
      refine j_permP C (lwp_7 _ _ _ _ _ _ _).symm ?_
      refine j_lv [2, 3, 4, 5, 6, 7] rfl ?_
      exact kk _ w72 w1 f2 g _ _ 0 (by show k + 7 + 0 ≤ k + 9; omega) (by show n + 63 + 0 ≤ n + 75; omega) hP hM (po_addRequest (PW.cn W7) O (hk9.symm.trans hz9) hr)
    · exact absurd (ek.trans hz9) hz10
  · refine j_permP C (lwp_7 _ w72 w8 out outD f g).symm ?_
    refine j_aload_n C dL_law_1406 3 rfl rfl ?_
    refine j_aload_n C dL_law_1407 1 rfl rfl ?_
    refine j_iload C dL_law_1408 6 rfl ?_
    refine j_iconst C dL_law_1410 (v := nI 1) kc_i_1 ?_
    refine j_iadd C dL_law_1411 (v := nI (i + 1)) (nI_add i 1) ?_
    refine j_sld C rw_ hL (nI_in (by omega) (by omega)) dL_law_1412 ?_
    rw [nI_clamp (show i + 1 < 2 ^ 31 by omega)]
    refine j_aload_n C dL_law_1413 1 rfl rfl ?_
    refine j_iload C dL_law_1414 6 rfl ?_
    refine j_iconst C dL_law_1416 (v := nI 2) kc_i_2 ?_
    refine j_iadd C dL_law_1417 (v := nI (i + 2)) (nI_add i 2) ?_
    refine j_sld C rw_ hL (nI_in (by omega) (by omega)) dL_law_1418 ?_
    rw [nI_clamp (show i + 2 < 2 ^ 31 by omega)]
    refine j_aload_n C dL_law_1419 1 rfl rfl ?_
    refine j_iload C dL_law_1420 6 rfl ?_
    refine j_iconst C dL_law_1422 (v := nI 3) kc_i_3 ?_
    refine j_iadd C dL_law_1423 (v := nI (i + 3)) (nI_add i 3) ?_
    refine j_sld C rw_ hL (nI_in (by omega) (by omega)) dL_law_1424 ?_
    rw [nI_clamp (show i + 3 < 2 ^ 31 by omega)]
    obtain ⟨fs8, hm8⟩ := MW.mem W8
    refine j_callVMp C rw_ (nA := 3) (As := [.int (sc (i + 1)), .int (sc (i + 2)), .int (sc (i + 3))]) (wc := w8) (n_X8_addRequest (xl X) (xT X) (sc (i + 1)) (sc (i + 2)) (sc (i + 3)) W8 O) gL_law_X8_addRequest rfl (by decide +kernel) rfl (by decide) ⟨by show k + 7 + 0 ≤ 601024; omega, by show n + 63 + 0 ≤ 7293034; omega⟩ (lwp_8 _ _ _ _ _ _ _) hm8 (ci := 8) rfl (rest := []) rfl (Nat.le_of_ble_eq_true rfl) dL_law_1425 (fun v w1 h => ?_)
    obtain ⟨k10, r2, rfl, hk10, hc10⟩ := h
    refine j_istore C (i := 7) dL_law_1428 (by decide) rfl ?_
    refine j_permP C (lwp_8 _ w72 w1 out outD f g).symm ?_
    have ek : k10 = k9 := hk10.trans hk9.symm
    rcases hc10 with ⟨hz10, hr2, hM⟩ | ⟨hz10, hM⟩
    · exact absurd (ek ▸ hz10) hz9
    · refine j_aload_n C dL_law_1430 4 rfl rfl ?_
      refine j_thrown C hM (lwp_8 _ _ _ _ _ _ _) (by decide) (by show k + 7 + 0 ≤ 601024; omega) (by show n + 63 + 0 ≤ 7293034; omega) dL_law_1431 ?_
      refine j_iload C dL_law_1434 1 rfl ?_
      refine j_icmp_eq C dL_law_1436 (tgt := 1441) (by decide) (fun _ => ?_) (fun e => absurd (congrArg nI ek) e)
      refine j_iload C dL_law_1441 1 rfl ?_
      have hb : k9 ≤ 3 := by rw [hk9]; unfold kf_addRequest; (repeat' split) <;> omega
      refine j_if_ne C dL_law_1443 (tgt := 1458) (by decide) (fun _ => ?_) (fun e => absurd ((nI_eq (show k9 < 2 ^ 31 by omega) (show 0 < 2 ^ 31 by decide)).mp e) hz9)
      refine j_goto C dL_law_1458 (tgt := 2209) (by decide) ?_
      refine j_lv [2, 3, 4, 5, 6, 7] rfl ?_
      exact kk _ w72 w1 f g _ _ k10 (by show k + 7 + 0 ≤ k + 9; omega) (by show n + 63 + 0 ≤ n + 75; omega) hP hM O
set_option maxHeartbeats 4000000 in
theorem law_c_removeRequest {X : jj_X} (C : jj_C X cL_law RL wsL_law room_1 9 ret) (rw_ : jj_RW X) (hlS : (xl X).stackTraces = false) (hZ : jZ (xA X) (xs X) (xs X).heap) {b L : Nat} {sc : Nat → Int32} (hL : jj_L X b L sc) (hLL : L ≤ 2560) {h7 h8 out outD i k n k8 : Nat} {s : sT} {w7 w8 : va_W} {f : Nat → Int64} {g : Nat → UInt64} (hi : i + 5 ≤ L) (hk : k + 9 ≤ 601024) (hn : n + 75 ≤ 7293034) (W7 : PW (xT X) h7 s w7) (W8 : MW (xT X) h8 k8 s w8) (O : okS s) (kk : ∀ (s2 : sT) (w72 w82 : va_W) (f2 : Nat → Int64) (g2 : Nat → UInt64) (k2 n2 k82 : Nat), k2 ≤ k + 9 → n2 ≤ n + 75 → PW (xT X) h7 s2 w72 → MW (xT X) h8 k82 s2 w82 → okS s2 → jj X k2 n2 2209 (lvL b h7 h8 out outD i) [] (lwW (xT X) w72 w82 out outD f2 g2)) : jj X k n 1461 (lvL b h7 h8 out outD i) [] (lwW (xT X) w7 w8 out outD f g) := by
  obtain ⟨⟨ac, ap, ash, an, aob, arq⟩, cn, M, S⟩ := s
  refine j_aload_n C dL_law_1461 1 rfl rfl ?_
  refine j_aload_n C dL_law_1462 0 rfl rfl ?_
  refine j_iload C dL_law_1463 5 rfl ?_
  refine j_iconst C dL_law_1465 (v := nI 1) kc_i_1 ?_
  refine j_iadd C dL_law_1466 (v := nI (i + 1)) (nI_add i 1) ?_
  refine j_sld C rw_ hL (nI_in (by omega) (by omega)) dL_law_1467 ?_
  rw [nI_clamp (show i + 1 < 2 ^ 31 by omega)]
  refine j_aload_n C dL_law_1468 3 rfl rfl ?_
  refine j_callSWp C rw_ hZ (nA := 3) (As := [.ref h7, .int (sc (i + 1)), .ref out]) (c_L_removeRequest (xl X) (xT X) hlS (out := out) (f := f) (sc (i + 1)) W7 O) gL_law_L_removeRequest rfl (by decide +kernel) rfl (by decide) ⟨by show k + 4 ≤ 601024; omega, by show n + 45 ≤ 7293034; omega⟩ (lwp_7 _ _ _ _ _ _ _) (rest := []) rfl (Nat.le_of_ble_eq_true rfl) dL_law_1469 (fun v w1 h => ?_)
  obtain ⟨k9, rfl, hk9, hc9⟩ := h
  refine j_istore C (i := 6) dL_law_1472 (by decide) rfl ?_
  rcases hc9 with ⟨hz9, r, w72, f2, hr, hP, hf2, rfl⟩ | ⟨hz9, w72, hP, rfl⟩
  · refine j_permP C (lwp_7 _ w72 w8 out outD f2 g).symm ?_
    refine j_aload_n C dL_law_1474 3 rfl rfl ?_
    refine j_aload_n C dL_law_1475 1 rfl rfl ?_
    refine j_iload C dL_law_1476 6 rfl ?_
    refine j_iconst C dL_law_1478 (v := nI 1) kc_i_1 ?_
    refine j_iadd C dL_law_1479 (v := nI (i + 1)) (nI_add i 1) ?_
    refine j_sld C rw_ hL (nI_in (by omega) (by omega)) dL_law_1480 ?_
    rw [nI_clamp (show i + 1 < 2 ^ 31 by omega)]
    obtain ⟨fs8, hm8⟩ := MW.mem W8
    refine j_callVMp C rw_ (nA := 1) (As := [.int (sc (i + 1))]) (wc := w8) (n_X8_removeRequest (xl X) (xT X) (sc (i + 1)) W8 O) gL_law_X8_removeRequest rfl (by decide +kernel) rfl (by decide) ⟨by show k + 4 + 0 ≤ 601024; omega, by show n + 45 + 0 ≤ 7293034; omega⟩ (lwp_8 _ _ _ _ _ _ _) hm8 (ci := 8) rfl (rest := []) rfl (Nat.le_of_ble_eq_true rfl) dL_law_1481 (fun v w1 h => ?_)
    obtain ⟨k10, r2, rfl, hk10, hc10⟩ := h
    refine j_istore C (i := 7) dL_law_1484 (by decide) rfl ?_
    refine j_permP C (lwp_8 _ w72 w1 out outD f2 g).symm ?_
    have ek : k10 = k9 := hk10.trans hk9.symm
    rcases hc10 with ⟨hz10, hr2, hM⟩ | ⟨hz10, hM⟩
    · refine j_aload_n C dL_law_1486 4 rfl rfl ?_
      refine j_thrown C hM (lwp_8 _ _ _ _ _ _ _) (by decide) (by show k + 4 + 0 ≤ 601024; omega) (by show n + 45 + 0 ≤ 7293034; omega) dL_law_1487 ?_
      refine j_iload C dL_law_1490 1 rfl ?_
      refine j_icmp_eq C dL_law_1492 (tgt := 1497) (by decide) (fun _ => ?_) (fun e => absurd (congrArg nI (hz10.symm.trans ek)) e)
      refine j_iload C dL_law_1497 1 rfl ?_
      have er := ru_removeRequest hr hr2
      subst er
      refine j_if_ne C dL_law_1499 (tgt := 1514) (by decide) (fun e => absurd (by rw [hz9]; rfl) e) (fun _ => ?_)
      refine j_permP C (lwp_7 _ _ _ _ _ _ _) ?_
      refine j_aload_n C dL_law_1502 5 rfl rfl ?_
      refine j_iconst C dL_law_1503 (v := nI 0) kc_i_0 ?_
      refine j_laloadN C 0 rfl 0 rfl (by decide) (by decide) dL_law_1504 ?_
      refine j_iload C dL_law_1505 0 rfl ?_
      refine j_i2l C dL_law_1507 rfl ?_
      refine j_lcmp C dL_law_1508 ?_
      refine j_if_eq C dL_law_1509 (tgt := 1514) (by decide) (fun _ => ?_) (fun e => absurd (by rw [hf2]; exact cmp_self _) e)
      refine j_goto C dL_law_1514 (tgt := 2209) (by decide) ?_
      refine j_permP C (lwp_7 _ _ _ _ _ _ _).symm ?_
      refine j_lv [2, 3, 4, 5, 6, 7] rfl ?_
      exact kk _ w72 w1 f2 g _ _ 0 (by show k + 4 + 0 ≤ k + 9; omega) (by show n + 45 + 0 ≤ n + 75; omega) hP hM (po_removeRequest (PW.cn W7) O (hk9.symm.trans hz9) hr)
    · exact absurd (ek.trans hz9) hz10
  · refine j_permP C (lwp_7 _ w72 w8 out outD f g).symm ?_
    refine j_aload_n C dL_law_1474 3 rfl rfl ?_
    refine j_aload_n C dL_law_1475 1 rfl rfl ?_
    refine j_iload C dL_law_1476 6 rfl ?_
    refine j_iconst C dL_law_1478 (v := nI 1) kc_i_1 ?_
    refine j_iadd C dL_law_1479 (v := nI (i + 1)) (nI_add i 1) ?_
    refine j_sld C rw_ hL (nI_in (by omega) (by omega)) dL_law_1480 ?_
    rw [nI_clamp (show i + 1 < 2 ^ 31 by omega)]
    obtain ⟨fs8, hm8⟩ := MW.mem W8
    refine j_callVMp C rw_ (nA := 1) (As := [.int (sc (i + 1))]) (wc := w8) (n_X8_removeRequest (xl X) (xT X) (sc (i + 1)) W8 O) gL_law_X8_removeRequest rfl (by decide +kernel) rfl (by decide) ⟨by show k + 4 + 0 ≤ 601024; omega, by show n + 45 + 0 ≤ 7293034; omega⟩ (lwp_8 _ _ _ _ _ _ _) hm8 (ci := 8) rfl (rest := []) rfl (Nat.le_of_ble_eq_true rfl) dL_law_1481 (fun v w1 h => ?_)
    obtain ⟨k10, r2, rfl, hk10, hc10⟩ := h
    refine j_istore C (i := 7) dL_law_1484 (by decide) rfl ?_
    refine j_permP C (lwp_8 _ w72 w1 out outD f g).symm ?_
    have ek : k10 = k9 := hk10.trans hk9.symm
    rcases hc10 with ⟨hz10, hr2, hM⟩ | ⟨hz10, hM⟩
    · exact absurd (ek ▸ hz10) hz9
    · refine j_aload_n C dL_law_1486 4 rfl rfl ?_
      refine j_thrown C hM (lwp_8 _ _ _ _ _ _ _) (by decide) (by show k + 4 + 0 ≤ 601024; omega) (by show n + 45 + 0 ≤ 7293034; omega) dL_law_1487 ?_
      refine j_iload C dL_law_1490 1 rfl ?_
      refine j_icmp_eq C dL_law_1492 (tgt := 1497) (by decide) (fun _ => ?_) (fun e => absurd (congrArg nI ek) e)
      refine j_iload C dL_law_1497 1 rfl ?_
      have hb : k9 ≤ 3 := by rw [hk9]; unfold kf_removeRequest; (repeat' split) <;> omega
      refine j_if_ne C dL_law_1499 (tgt := 1514) (by decide) (fun _ => ?_) (fun e => absurd ((nI_eq (show k9 < 2 ^ 31 by omega) (show 0 < 2 ^ 31 by decide)).mp e) hz9)
      refine j_goto C dL_law_1514 (tgt := 2209) (by decide) ?_
      refine j_lv [2, 3, 4, 5, 6, 7] rfl ?_
      exact kk _ w72 w1 f g _ _ k10 (by show k + 4 + 0 ≤ k + 9; omega) (by show n + 45 + 0 ≤ n + 75; omega) hP hM O
set_option maxHeartbeats 4000000 in
theorem law_c_undo {X : jj_X} (C : jj_C X cL_law RL wsL_law room_1 9 ret) (rw_ : jj_RW X) (hlS : (xl X).stackTraces = false) (hZ : jZ (xA X) (xs X) (xs X).heap) {b L : Nat} {sc : Nat → Int32} (hL : jj_L X b L sc) (hLL : L ≤ 2560) {h7 h8 out outD i k n k8 : Nat} {s : sT} {w7 w8 : va_W} {f : Nat → Int64} {g : Nat → UInt64} (hi : i + 5 ≤ L) (hk : k + 9 ≤ 601024) (hn : n + 75 ≤ 7293034) (W7 : PW (xT X) h7 s w7) (W8 : MW (xT X) h8 k8 s w8) (O : okS s) (kk : ∀ (s2 : sT) (w72 w82 : va_W) (f2 : Nat → Int64) (g2 : Nat → UInt64) (k2 n2 k82 : Nat), k2 ≤ k + 9 → n2 ≤ n + 75 → PW (xT X) h7 s2 w72 → MW (xT X) h8 k82 s2 w82 → okS s2 → jj X k2 n2 2209 (lvL b h7 h8 out outD i) [] (lwW (xT X) w72 w82 out outD f2 g2)) : jj X k n 1517 (lvL b h7 h8 out outD i) [] (lwW (xT X) w7 w8 out outD f g) := by
  obtain ⟨⟨ac, ap, ash, an, aob, arq⟩, cn, M, S⟩ := s
  refine j_aload_n C dL_law_1517 1 rfl rfl ?_
  refine j_aload_n C dL_law_1518 3 rfl rfl ?_
  refine j_callSWp C rw_ hZ (nA := 2) (As := [.ref h7, .ref out]) (c_L_undo (xl X) (xT X) hlS (out := out) (f := f)  W7 O) gL_law_L_undo rfl (by decide +kernel) rfl (by decide) ⟨by show k + 1 ≤ 601024; omega, by show n + 6 ≤ 7293034; omega⟩ (lwp_7 _ _ _ _ _ _ _) (rest := []) rfl (Nat.le_of_ble_eq_true rfl) dL_law_1519 (fun v w1 h => ?_)
  obtain ⟨k9, rfl, hk9, hc9⟩ := h
  refine j_istore C (i := 6) dL_law_1522 (by decide) rfl ?_
  rcases hc9 with ⟨hz9, r, w72, f2, hr, hP, hf2, rfl⟩ | ⟨hz9, w72, hP, rfl⟩
  · refine j_permP C (lwp_7 _ w72 w8 out outD f2 g).symm ?_
    refine j_aload_n C dL_law_1524 3 rfl rfl ?_
    obtain ⟨fs8, hm8⟩ := MW.mem W8
    refine j_callVMp C rw_ (nA := 0) (As := []) (wc := w8) (n_X8_undo (xl X) (xT X)  W8 O) gL_law_X8_undo rfl (by decide +kernel) rfl (by decide) ⟨by show k + 1 + 0 ≤ 601024; omega, by show n + 6 + 0 ≤ 7293034; omega⟩ (lwp_8 _ _ _ _ _ _ _) hm8 (ci := 8) rfl (rest := []) rfl (Nat.le_of_ble_eq_true rfl) dL_law_1525 (fun v w1 h => ?_)
    obtain ⟨k10, r2, rfl, hk10, hc10⟩ := h
    refine j_istore C (i := 7) dL_law_1528 (by decide) rfl ?_
    refine j_permP C (lwp_8 _ w72 w1 out outD f2 g).symm ?_
    have ek : k10 = k9 := hk10.trans hk9.symm
    rcases hc10 with ⟨hz10, hr2, hM⟩ | ⟨hz10, hM⟩
    · refine j_aload_n C dL_law_1530 4 rfl rfl ?_
      refine j_thrown C hM (lwp_8 _ _ _ _ _ _ _) (by decide) (by show k + 1 + 0 ≤ 601024; omega) (by show n + 6 + 0 ≤ 7293034; omega) dL_law_1531 ?_
      refine j_iload C dL_law_1534 1 rfl ?_
      refine j_icmp_eq C dL_law_1536 (tgt := 1541) (by decide) (fun _ => ?_) (fun e => absurd (congrArg nI (hz10.symm.trans ek)) e)
      refine j_iload C dL_law_1541 1 rfl ?_
      have er := ru_undo hr hr2
      subst er
      refine j_if_ne C dL_law_1543 (tgt := 1558) (by decide) (fun e => absurd (by rw [hz9]; rfl) e) (fun _ => ?_)
      refine j_permP C (lwp_7 _ _ _ _ _ _ _) ?_
      refine j_aload_n C dL_law_1546 5 rfl rfl ?_
      refine j_iconst C dL_law_1547 (v := nI 0) kc_i_0 ?_
      refine j_laloadN C 0 rfl 0 rfl (by decide) (by decide) dL_law_1548 ?_
      refine j_iload C dL_law_1549 0 rfl ?_
      refine j_i2l C dL_law_1551 rfl ?_
      refine j_lcmp C dL_law_1552 ?_
      refine j_if_eq C dL_law_1553 (tgt := 1558) (by decide) (fun _ => ?_) (fun e => absurd (by rw [hf2]; exact cmp_self _) e)
      refine j_goto C dL_law_1558 (tgt := 2209) (by decide) ?_
      refine j_permP C (lwp_7 _ _ _ _ _ _ _).symm ?_
      refine j_lv [2, 3, 4, 5, 6, 7] rfl ?_
      exact kk _ w72 w1 f2 g _ _ 0 (by show k + 1 + 0 ≤ k + 9; omega) (by show n + 6 + 0 ≤ n + 75; omega) hP hM (po_undo (PW.cn W7) O (hk9.symm.trans hz9) hr)
    · exact absurd (ek.trans hz9) hz10
  · refine j_permP C (lwp_7 _ w72 w8 out outD f g).symm ?_
    refine j_aload_n C dL_law_1524 3 rfl rfl ?_
    obtain ⟨fs8, hm8⟩ := MW.mem W8
    refine j_callVMp C rw_ (nA := 0) (As := []) (wc := w8) (n_X8_undo (xl X) (xT X)  W8 O) gL_law_X8_undo rfl (by decide +kernel) rfl (by decide) ⟨by show k + 1 + 0 ≤ 601024; omega, by show n + 6 + 0 ≤ 7293034; omega⟩ (lwp_8 _ _ _ _ _ _ _) hm8 (ci := 8) rfl (rest := []) rfl (Nat.le_of_ble_eq_true rfl) dL_law_1525 (fun v w1 h => ?_)
    obtain ⟨k10, r2, rfl, hk10, hc10⟩ := h
    refine j_istore C (i := 7) dL_law_1528 (by decide) rfl ?_
    refine j_permP C (lwp_8 _ w72 w1 out outD f g).symm ?_
    have ek : k10 = k9 := hk10.trans hk9.symm
    rcases hc10 with ⟨hz10, hr2, hM⟩ | ⟨hz10, hM⟩
    · exact absurd (ek ▸ hz10) hz9
    · refine j_aload_n C dL_law_1530 4 rfl rfl ?_
      refine j_thrown C hM (lwp_8 _ _ _ _ _ _ _) (by decide) (by show k + 1 + 0 ≤ 601024; omega) (by show n + 6 + 0 ≤ 7293034; omega) dL_law_1531 ?_
      refine j_iload C dL_law_1534 1 rfl ?_
      refine j_icmp_eq C dL_law_1536 (tgt := 1541) (by decide) (fun _ => ?_) (fun e => absurd (congrArg nI ek) e)
      refine j_iload C dL_law_1541 1 rfl ?_
      have hb : k9 ≤ 3 := by rw [hk9]; unfold kf_undo; (repeat' split) <;> omega
      refine j_if_ne C dL_law_1543 (tgt := 1558) (by decide) (fun _ => ?_) (fun e => absurd ((nI_eq (show k9 < 2 ^ 31 by omega) (show 0 < 2 ^ 31 by decide)).mp e) hz9)
      refine j_goto C dL_law_1558 (tgt := 2209) (by decide) ?_
      refine j_lv [2, 3, 4, 5, 6, 7] rfl ?_
      exact kk _ w72 w1 f g _ _ k10 (by show k + 1 + 0 ≤ k + 9; omega) (by show n + 6 + 0 ≤ n + 75; omega) hP hM O
set_option maxHeartbeats 4000000 in
theorem law_c_arrival {X : jj_X} (C : jj_C X cL_law RL wsL_law room_1 9 ret) (rw_ : jj_RW X) (hlS : (xl X).stackTraces = false) (hZ : jZ (xA X) (xs X) (xs X).heap) {b L : Nat} {sc : Nat → Int32} (hL : jj_L X b L sc) (hLL : L ≤ 2560) {h7 h8 out outD i k n k8 : Nat} {s : sT} {w7 w8 : va_W} {f : Nat → Int64} {g : Nat → UInt64} (hi : i + 5 ≤ L) (hk : k + 9 ≤ 601024) (hn : n + 75 ≤ 7293034) (W7 : PW (xT X) h7 s w7) (W8 : MW (xT X) h8 k8 s w8) (O : okS s) (kk : ∀ (s2 : sT) (w72 w82 : va_W) (f2 : Nat → Int64) (g2 : Nat → UInt64) (k2 n2 k82 : Nat), k2 ≤ k + 9 → n2 ≤ n + 75 → PW (xT X) h7 s2 w72 → MW (xT X) h8 k82 s2 w82 → okS s2 → jj X k2 n2 2209 (lvL b h7 h8 out outD i) [] (lwW (xT X) w72 w82 out outD f2 g2)) : jj X k n 1561 (lvL b h7 h8 out outD i) [] (lwW (xT X) w7 w8 out outD f g) := by
  obtain ⟨⟨ac, ap, ash, an, aob, arq⟩, cn, M, S⟩ := s
  refine j_aload_n C dL_law_1561 1 rfl rfl ?_
  refine j_aload_n C dL_law_1562 0 rfl rfl ?_
  refine j_iload C dL_law_1563 5 rfl ?_
  refine j_iconst C dL_law_1565 (v := nI 1) kc_i_1 ?_
  refine j_iadd C dL_law_1566 (v := nI (i + 1)) (nI_add i 1) ?_
  refine j_sld C rw_ hL (nI_in (by omega) (by omega)) dL_law_1567 ?_
  rw [nI_clamp (show i + 1 < 2 ^ 31 by omega)]
  refine j_aload_n C dL_law_1568 3 rfl rfl ?_
  refine j_callSWp C rw_ hZ (nA := 3) (As := [.ref h7, .int (sc (i + 1)), .ref out]) (c_L_arrival (xl X) (xT X) hlS (out := out) (f := f) (sc (i + 1)) W7 O) gL_law_L_arrival rfl (by decide +kernel) rfl (by decide) ⟨by show k + 2 ≤ 601024; omega, by show n + 12 ≤ 7293034; omega⟩ (lwp_7 _ _ _ _ _ _ _) (rest := []) rfl (Nat.le_of_ble_eq_true rfl) dL_law_1569 (fun v w1 h => ?_)
  obtain ⟨k9, rfl, hk9, hc9⟩ := h
  refine j_istore C (i := 6) dL_law_1572 (by decide) rfl ?_
  rcases hc9 with ⟨hz9, r, w72, f2, hr, hP, hf2, rfl⟩ | ⟨hz9, w72, hP, rfl⟩
  · refine j_permP C (lwp_7 _ w72 w8 out outD f2 g).symm ?_
    refine j_aload_n C dL_law_1574 3 rfl rfl ?_
    refine j_aload_n C dL_law_1575 1 rfl rfl ?_
    refine j_iload C dL_law_1576 6 rfl ?_
    refine j_iconst C dL_law_1578 (v := nI 1) kc_i_1 ?_
    refine j_iadd C dL_law_1579 (v := nI (i + 1)) (nI_add i 1) ?_
    refine j_sld C rw_ hL (nI_in (by omega) (by omega)) dL_law_1580 ?_
    rw [nI_clamp (show i + 1 < 2 ^ 31 by omega)]
    obtain ⟨fs8, hm8⟩ := MW.mem W8
    refine j_callVMp C rw_ (nA := 1) (As := [.int (sc (i + 1))]) (wc := w8) (n_X8_arrival (xl X) (xT X) (sc (i + 1)) W8 O) gL_law_X8_arrival rfl (by decide +kernel) rfl (by decide) ⟨by show k + 2 + 0 ≤ 601024; omega, by show n + 12 + 0 ≤ 7293034; omega⟩ (lwp_8 _ _ _ _ _ _ _) hm8 (ci := 8) rfl (rest := []) rfl (Nat.le_of_ble_eq_true rfl) dL_law_1581 (fun v w1 h => ?_)
    obtain ⟨k10, r2, rfl, hk10, hc10⟩ := h
    refine j_istore C (i := 7) dL_law_1584 (by decide) rfl ?_
    refine j_permP C (lwp_8 _ w72 w1 out outD f2 g).symm ?_
    have ek : k10 = k9 := hk10.trans hk9.symm
    rcases hc10 with ⟨hz10, hr2, hM⟩ | ⟨hz10, hM⟩
    · refine j_aload_n C dL_law_1586 4 rfl rfl ?_
      refine j_thrown C hM (lwp_8 _ _ _ _ _ _ _) (by decide) (by show k + 2 + 0 ≤ 601024; omega) (by show n + 12 + 0 ≤ 7293034; omega) dL_law_1587 ?_
      refine j_iload C dL_law_1590 1 rfl ?_
      refine j_icmp_eq C dL_law_1592 (tgt := 1597) (by decide) (fun _ => ?_) (fun e => absurd (congrArg nI (hz10.symm.trans ek)) e)
      refine j_iload C dL_law_1597 1 rfl ?_
      have er := ru_arrival hr hr2
      subst er
      refine j_if_ne C dL_law_1599 (tgt := 1614) (by decide) (fun e => absurd (by rw [hz9]; rfl) e) (fun _ => ?_)
      refine j_permP C (lwp_7 _ _ _ _ _ _ _) ?_
      refine j_aload_n C dL_law_1602 5 rfl rfl ?_
      refine j_iconst C dL_law_1603 (v := nI 0) kc_i_0 ?_
      refine j_laloadN C 0 rfl 0 rfl (by decide) (by decide) dL_law_1604 ?_
      refine j_iload C dL_law_1605 0 rfl ?_
      refine j_i2l C dL_law_1607 rfl ?_
      refine j_lcmp C dL_law_1608 ?_
      refine j_if_eq C dL_law_1609 (tgt := 1614) (by decide) (fun _ => ?_) (fun e => absurd (by rw [hf2]; exact cmp_self _) e)
      refine j_goto C dL_law_1614 (tgt := 2209) (by decide) ?_
      refine j_permP C (lwp_7 _ _ _ _ _ _ _).symm ?_
      refine j_lv [2, 3, 4, 5, 6, 7] rfl ?_
      exact kk _ w72 w1 f2 g _ _ 0 (by show k + 2 + 0 ≤ k + 9; omega) (by show n + 12 + 0 ≤ n + 75; omega) hP hM O
    · exact absurd (ek.trans hz9) hz10
  · refine j_permP C (lwp_7 _ w72 w8 out outD f g).symm ?_
    refine j_aload_n C dL_law_1574 3 rfl rfl ?_
    refine j_aload_n C dL_law_1575 1 rfl rfl ?_
    refine j_iload C dL_law_1576 6 rfl ?_
    refine j_iconst C dL_law_1578 (v := nI 1) kc_i_1 ?_
    refine j_iadd C dL_law_1579 (v := nI (i + 1)) (nI_add i 1) ?_
    refine j_sld C rw_ hL (nI_in (by omega) (by omega)) dL_law_1580 ?_
    rw [nI_clamp (show i + 1 < 2 ^ 31 by omega)]
    obtain ⟨fs8, hm8⟩ := MW.mem W8
    refine j_callVMp C rw_ (nA := 1) (As := [.int (sc (i + 1))]) (wc := w8) (n_X8_arrival (xl X) (xT X) (sc (i + 1)) W8 O) gL_law_X8_arrival rfl (by decide +kernel) rfl (by decide) ⟨by show k + 2 + 0 ≤ 601024; omega, by show n + 12 + 0 ≤ 7293034; omega⟩ (lwp_8 _ _ _ _ _ _ _) hm8 (ci := 8) rfl (rest := []) rfl (Nat.le_of_ble_eq_true rfl) dL_law_1581 (fun v w1 h => ?_)
    obtain ⟨k10, r2, rfl, hk10, hc10⟩ := h
    refine j_istore C (i := 7) dL_law_1584 (by decide) rfl ?_
    refine j_permP C (lwp_8 _ w72 w1 out outD f g).symm ?_
    have ek : k10 = k9 := hk10.trans hk9.symm
    rcases hc10 with ⟨hz10, hr2, hM⟩ | ⟨hz10, hM⟩
    · exact absurd (ek ▸ hz10) hz9
    · refine j_aload_n C dL_law_1586 4 rfl rfl ?_
      refine j_thrown C hM (lwp_8 _ _ _ _ _ _ _) (by decide) (by show k + 2 + 0 ≤ 601024; omega) (by show n + 12 + 0 ≤ 7293034; omega) dL_law_1587 ?_
      refine j_iload C dL_law_1590 1 rfl ?_
      refine j_icmp_eq C dL_law_1592 (tgt := 1597) (by decide) (fun _ => ?_) (fun e => absurd (congrArg nI ek) e)
      refine j_iload C dL_law_1597 1 rfl ?_
      have hb : k9 ≤ 3 := by rw [hk9]; unfold kf_arrival; (repeat' split) <;> omega
      refine j_if_ne C dL_law_1599 (tgt := 1614) (by decide) (fun _ => ?_) (fun e => absurd ((nI_eq (show k9 < 2 ^ 31 by omega) (show 0 < 2 ^ 31 by decide)).mp e) hz9)
      refine j_goto C dL_law_1614 (tgt := 2209) (by decide) ?_
      refine j_lv [2, 3, 4, 5, 6, 7] rfl ?_
      exact kk _ w72 w1 f g _ _ k10 (by show k + 2 + 0 ≤ k + 9; omega) (by show n + 12 + 0 ≤ n + 75; omega) hP hM O
set_option maxHeartbeats 4000000 in
theorem law_c_planCell {X : jj_X} (C : jj_C X cL_law RL wsL_law room_1 9 ret) (rw_ : jj_RW X) (hlS : (xl X).stackTraces = false) (hZ : jZ (xA X) (xs X) (xs X).heap) {b L : Nat} {sc : Nat → Int32} (hL : jj_L X b L sc) (hLL : L ≤ 2560) {h7 h8 out outD i k n k8 : Nat} {s : sT} {w7 w8 : va_W} {f : Nat → Int64} {g : Nat → UInt64} (hi : i + 5 ≤ L) (hk : k + 9 ≤ 601024) (hn : n + 75 ≤ 7293034) (W7 : PW (xT X) h7 s w7) (W8 : MW (xT X) h8 k8 s w8) (O : okS s) (kk : ∀ (s2 : sT) (w72 w82 : va_W) (f2 : Nat → Int64) (g2 : Nat → UInt64) (k2 n2 k82 : Nat), k2 ≤ k + 9 → n2 ≤ n + 75 → PW (xT X) h7 s2 w72 → MW (xT X) h8 k82 s2 w82 → okS s2 → jj X k2 n2 2209 (lvL b h7 h8 out outD i) [] (lwW (xT X) w72 w82 out outD f2 g2)) : jj X k n 1617 (lvL b h7 h8 out outD i) [] (lwW (xT X) w7 w8 out outD f g) := by
  obtain ⟨⟨ac, ap, ash, an, aob, arq⟩, cn, M, S⟩ := s
  refine j_aload_n C dL_law_1617 1 rfl rfl ?_
  refine j_aload_n C dL_law_1618 0 rfl rfl ?_
  refine j_iload C dL_law_1619 5 rfl ?_
  refine j_iconst C dL_law_1621 (v := nI 1) kc_i_1 ?_
  refine j_iadd C dL_law_1622 (v := nI (i + 1)) (nI_add i 1) ?_
  refine j_sld C rw_ hL (nI_in (by omega) (by omega)) dL_law_1623 ?_
  rw [nI_clamp (show i + 1 < 2 ^ 31 by omega)]
  refine j_aload_n C dL_law_1624 0 rfl rfl ?_
  refine j_iload C dL_law_1625 5 rfl ?_
  refine j_iconst C dL_law_1627 (v := nI 2) kc_i_2 ?_
  refine j_iadd C dL_law_1628 (v := nI (i + 2)) (nI_add i 2) ?_
  refine j_sld C rw_ hL (nI_in (by omega) (by omega)) dL_law_1629 ?_
  rw [nI_clamp (show i + 2 < 2 ^ 31 by omega)]
  refine j_aload_n C dL_law_1630 3 rfl rfl ?_
  refine j_callSWp C rw_ hZ (nA := 4) (As := [.ref h7, .int (sc (i + 1)), .int (sc (i + 2)), .ref out]) (c_L_planCell (xl X) (xT X) hlS (out := out) (f := f) (sc (i + 1)) (sc (i + 2)) W7 O) gL_law_L_planCell rfl (by decide +kernel) rfl (by decide) ⟨by show k + 3 ≤ 601024; omega, by show n + 18 ≤ 7293034; omega⟩ (lwp_7 _ _ _ _ _ _ _) (rest := []) rfl (Nat.le_of_ble_eq_true rfl) dL_law_1631 (fun v w1 h => ?_)
  obtain ⟨k9, rfl, hk9, hc9⟩ := h
  refine j_istore C (i := 6) dL_law_1634 (by decide) rfl ?_
  rcases hc9 with ⟨hz9, r, w72, f2, hr, hP, hf2, rfl⟩ | ⟨hz9, w72, hP, rfl⟩
  · refine j_permP C (lwp_7 _ w72 w8 out outD f2 g).symm ?_
    refine j_aload_n C dL_law_1636 3 rfl rfl ?_
    refine j_aload_n C dL_law_1637 1 rfl rfl ?_
    refine j_iload C dL_law_1638 6 rfl ?_
    refine j_iconst C dL_law_1640 (v := nI 1) kc_i_1 ?_
    refine j_iadd C dL_law_1641 (v := nI (i + 1)) (nI_add i 1) ?_
    refine j_sld C rw_ hL (nI_in (by omega) (by omega)) dL_law_1642 ?_
    rw [nI_clamp (show i + 1 < 2 ^ 31 by omega)]
    refine j_aload_n C dL_law_1643 1 rfl rfl ?_
    refine j_iload C dL_law_1644 6 rfl ?_
    refine j_iconst C dL_law_1646 (v := nI 2) kc_i_2 ?_
    refine j_iadd C dL_law_1647 (v := nI (i + 2)) (nI_add i 2) ?_
    refine j_sld C rw_ hL (nI_in (by omega) (by omega)) dL_law_1648 ?_
    rw [nI_clamp (show i + 2 < 2 ^ 31 by omega)]
    obtain ⟨fs8, hm8⟩ := MW.mem W8
    refine j_callVMp C rw_ (nA := 2) (As := [.int (sc (i + 1)), .int (sc (i + 2))]) (wc := w8) (n_X8_planCell (xl X) (xT X) (sc (i + 1)) (sc (i + 2)) W8 O) gL_law_X8_planCell rfl (by decide +kernel) rfl (by decide) ⟨by show k + 3 + 0 ≤ 601024; omega, by show n + 18 + 0 ≤ 7293034; omega⟩ (lwp_8 _ _ _ _ _ _ _) hm8 (ci := 8) rfl (rest := []) rfl (Nat.le_of_ble_eq_true rfl) dL_law_1649 (fun v w1 h => ?_)
    obtain ⟨k10, r2, rfl, hk10, hc10⟩ := h
    refine j_istore C (i := 7) dL_law_1652 (by decide) rfl ?_
    refine j_permP C (lwp_8 _ w72 w1 out outD f2 g).symm ?_
    have ek : k10 = k9 := hk10.trans hk9.symm
    rcases hc10 with ⟨hz10, hr2, hM⟩ | ⟨hz10, hM⟩
    · refine j_aload_n C dL_law_1654 4 rfl rfl ?_
      refine j_thrown C hM (lwp_8 _ _ _ _ _ _ _) (by decide) (by show k + 3 + 0 ≤ 601024; omega) (by show n + 18 + 0 ≤ 7293034; omega) dL_law_1655 ?_
      refine j_iload C dL_law_1658 1 rfl ?_
      refine j_icmp_eq C dL_law_1660 (tgt := 1665) (by decide) (fun _ => ?_) (fun e => absurd (congrArg nI (hz10.symm.trans ek)) e)
      refine j_iload C dL_law_1665 1 rfl ?_
      have er := ru_planCell hr hr2
      subst er
      refine j_if_ne C dL_law_1667 (tgt := 1682) (by decide) (fun e => absurd (by rw [hz9]; rfl) e) (fun _ => ?_)
      refine j_permP C (lwp_7 _ _ _ _ _ _ _) ?_
      refine j_aload_n C dL_law_1670 5 rfl rfl ?_
      refine j_iconst C dL_law_1671 (v := nI 0) kc_i_0 ?_
      refine j_laloadN C 0 rfl 0 rfl (by decide) (by decide) dL_law_1672 ?_
      refine j_iload C dL_law_1673 0 rfl ?_
      refine j_i2l C dL_law_1675 rfl ?_
      refine j_lcmp C dL_law_1676 ?_
      refine j_if_eq C dL_law_1677 (tgt := 1682) (by decide) (fun _ => ?_) (fun e => absurd (by rw [hf2]; exact cmp_self _) e)
      refine j_goto C dL_law_1682 (tgt := 2209) (by decide) ?_
      refine j_permP C (lwp_7 _ _ _ _ _ _ _).symm ?_
      refine j_lv [2, 3, 4, 5, 6, 7] rfl ?_
      exact kk _ w72 w1 f2 g _ _ 0 (by show k + 3 + 0 ≤ k + 9; omega) (by show n + 18 + 0 ≤ n + 75; omega) hP hM O
    · exact absurd (ek.trans hz9) hz10
  · refine j_permP C (lwp_7 _ w72 w8 out outD f g).symm ?_
    refine j_aload_n C dL_law_1636 3 rfl rfl ?_
    refine j_aload_n C dL_law_1637 1 rfl rfl ?_
    refine j_iload C dL_law_1638 6 rfl ?_
    refine j_iconst C dL_law_1640 (v := nI 1) kc_i_1 ?_
    refine j_iadd C dL_law_1641 (v := nI (i + 1)) (nI_add i 1) ?_
    refine j_sld C rw_ hL (nI_in (by omega) (by omega)) dL_law_1642 ?_
    rw [nI_clamp (show i + 1 < 2 ^ 31 by omega)]
    refine j_aload_n C dL_law_1643 1 rfl rfl ?_
    refine j_iload C dL_law_1644 6 rfl ?_
    refine j_iconst C dL_law_1646 (v := nI 2) kc_i_2 ?_
    refine j_iadd C dL_law_1647 (v := nI (i + 2)) (nI_add i 2) ?_
    refine j_sld C rw_ hL (nI_in (by omega) (by omega)) dL_law_1648 ?_
    rw [nI_clamp (show i + 2 < 2 ^ 31 by omega)]
    obtain ⟨fs8, hm8⟩ := MW.mem W8
    refine j_callVMp C rw_ (nA := 2) (As := [.int (sc (i + 1)), .int (sc (i + 2))]) (wc := w8) (n_X8_planCell (xl X) (xT X) (sc (i + 1)) (sc (i + 2)) W8 O) gL_law_X8_planCell rfl (by decide +kernel) rfl (by decide) ⟨by show k + 3 + 0 ≤ 601024; omega, by show n + 18 + 0 ≤ 7293034; omega⟩ (lwp_8 _ _ _ _ _ _ _) hm8 (ci := 8) rfl (rest := []) rfl (Nat.le_of_ble_eq_true rfl) dL_law_1649 (fun v w1 h => ?_)
    obtain ⟨k10, r2, rfl, hk10, hc10⟩ := h
    refine j_istore C (i := 7) dL_law_1652 (by decide) rfl ?_
    refine j_permP C (lwp_8 _ w72 w1 out outD f g).symm ?_
    have ek : k10 = k9 := hk10.trans hk9.symm
    rcases hc10 with ⟨hz10, hr2, hM⟩ | ⟨hz10, hM⟩
    · exact absurd (ek ▸ hz10) hz9
    · refine j_aload_n C dL_law_1654 4 rfl rfl ?_
      refine j_thrown C hM (lwp_8 _ _ _ _ _ _ _) (by decide) (by show k + 3 + 0 ≤ 601024; omega) (by show n + 18 + 0 ≤ 7293034; omega) dL_law_1655 ?_
      refine j_iload C dL_law_1658 1 rfl ?_
      refine j_icmp_eq C dL_law_1660 (tgt := 1665) (by decide) (fun _ => ?_) (fun e => absurd (congrArg nI ek) e)
      refine j_iload C dL_law_1665 1 rfl ?_
      have hb : k9 ≤ 3 := by rw [hk9]; unfold kf_planCell; (repeat' split) <;> omega
      refine j_if_ne C dL_law_1667 (tgt := 1682) (by decide) (fun _ => ?_) (fun e => absurd ((nI_eq (show k9 < 2 ^ 31 by omega) (show 0 < 2 ^ 31 by decide)).mp e) hz9)
      refine j_goto C dL_law_1682 (tgt := 2209) (by decide) ?_
      refine j_lv [2, 3, 4, 5, 6, 7] rfl ?_
      exact kk _ w72 w1 f g _ _ k10 (by show k + 3 + 0 ≤ k + 9; omega) (by show n + 18 + 0 ≤ n + 75; omega) hP hM O
