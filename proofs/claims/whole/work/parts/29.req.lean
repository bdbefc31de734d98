/-! SLEWPLANNER: the checks -/

/-! remember, whatever lies at its place of the ring -/
theorem c_X1_remember (l : Launch) (T : jj_T) (h1 hst cn ol : Nat) (sf : Nat → Option Nat) (g0 go gr c p t : Nat) (s : Bool) (ob rq : Nat → Int32) (kp : Option oR) (hcn : cn ≤ 14) (hol : ol < 14) (hsf : sf ((ol + cn) % 14) = oA kp) : jM l T yX1_remember wsX1_remember { frames := 3, cells := 3, slots := 39, locals := 102 } [.ref h1, .ref g0] ([(h1, cO 1 [.int (nI cn), .ref hst, .int (nI ol)]), (hst, cS T 14 sf), (g0, cO 6 [.int (nI c), .int (nI p), .int (bI s), .int (nI t), .ref go, .ref gr]), (go, cI T 21 ob), (gr, cI T 12 rq)] ++ oW T kp) (fun v w1 => ∃ k0 ko kr : Nat, v = none ∧ w1 = [(h1, cO 1 [.int (nI (if cn < 14 then cn + 1 else cn)), .ref hst, .int (nI (if cn < 14 then ol else (ol + 1) % 14))]), (hst, cS T 14 (va_up sf ((ol + cn) % 14) (some k0))), (g0, cO 6 [.int (nI c), .int (nI p), .int (bI s), .int (nI t), .ref go, .ref gr]), (go, cI T 21 ob), (gr, cI T 12 rq)] ++ oW T (some (k0, ko, kr, c, p, s, t, ob, rq))) := by
  cases kp with
  | none => exact c_X1_remember_n l T h1 hst cn ol sf g0 go gr c p t s ob rq hcn hol hsf
  | some k =>
    obtain ⟨k0, ko, kr, kc, kp, ks, kt, kob, krq⟩ := k
    have e : va_up sf ((ol + cn) % 14) (some k0) = sf := by
      funext j; unfold va_up
      by_cases h : j = ((ol + cn) % 14)
      · rw [if_pos h, h, hsf]; rfl
      · rw [if_neg h]
    refine (c_X1_remember_s l T h1 hst cn ol sf g0 go gr c p t s ob rq k0 ko kr kc kp kt ks kob krq hcn hol hsf).mono (fun v w1 h => ⟨_, ⟨k0, ko, kr, h.1, rfl⟩, ?_⟩)
    rw [h.2, e]
    exact List.Perm.refl _

theorem rq_t {x : Int32} {m : Int32} {b : Int} (h1 : ¬ x < 0) (h2 : x < m) (e : m.toInt = b + 1) : 0 ≤ x.toInt ∧ x.toInt ≤ b := by
  rw [Int32.lt_iff_toInt_lt] at h1 h2
  have e0 : (0 : Int32).toInt = 0 := by decide +kernel
  omega
theorem rq_f {x : Int32} {m : Int32} {b : Int} (h : x < 0 ∨ ¬ x < m) (e : m.toInt = b + 1) : ¬ (0 ≤ x.toInt ∧ x.toInt ≤ b) := by
  rw [Int32.lt_iff_toInt_lt, Int32.lt_iff_toInt_lt] at h
  have e0 : (0 : Int32).toInt = 0 := by decide +kernel
  omega
theorem bm_neg {m : Nat} (h : m ≤ 99) : (-(m : Int)).bmod (2 ^ 32) = -(m : Int) := by
  rw [Int.bmod_eq_of_le]
  all_goals omega
set_option maxHeartbeats 4000000 in
set_option maxRecDepth 100000 in
/-- requireCell(cell) -/
theorem c_X7_requireCell (l : Launch) (T : jj_T) (hlS : l.stackTraces = false) (x : Int32) : jX l T yX7_requireCell wsX7_requireCell { frames := 6, cells := 1, slots := 6, locals := 82 } [.int x] [] (fun v w1 => v = none ∧ w1 = [] ∧ (inR x 0 149 = true)) (fun E w1 => w1 = [] ∧ E = jE1 ∧ inR x 0 149 = false) := by
  refine jX.of (cc := cX7_requireCell) (maxL := 1) (ret := none) (by decide) rfl (Nat.le_of_ble_eq_true rfl) ?_
  intro X C rw_ hl hT hQ hNT hZ
  subst hl; subst hT
  show jj X 0 0 0 [(0, .int x)] [] []
  have hc11 : (x < 0 ∨ ¬ x < nI 150) → jj X 0 0 11 [] [] [] := by
    intro hbad
    refine j_throwSW C rw_ hQ hNT hZ hlS (E := jE1) (text := "there is no such cell") (by decide) jj_ng1 (by decide +kernel) (by decide +kernel) (by decide +kernel) (by decide +kernel) (by decide +kernel) (by decide) (by decide) (by decide) (by decide) (by decide) dX7_requireCell_11 dX7_requireCell_14 dX7_requireCell_15 dX7_requireCell_18 dX7_requireCell_21 ?_
    exact ⟨rfl, rfl, inR_f.mpr (rq_f hbad (by decide +kernel))⟩
  refine j_iload_n C dX7_requireCell_0 0 rfl rfl ?_
  refine j_if_lt C dX7_requireCell_1 (tgt := 11) (by decide) (fun q1 => ?_) (fun q1 => ?_)
  · skip
    refine j_lv [] rfl ?_
    refine hc11  ?_
    · exact Or.inl q1
  · skip
    refine j_iload_n C dX7_requireCell_4 0 rfl rfl ?_
    refine j_sipush C dX7_requireCell_5 (v := (nI 150)) kc_s_150 ?_
    refine j_icmp_lt C dX7_requireCell_8 (tgt := 22) (by decide) (fun q8 => ?_) (fun q8 => ?_)
    · skip
      refine j_vretX C rw_ hQ (by decide) (by decide) ?_ dX7_requireCell_22
      exact ⟨rfl, rfl, inR_iff.mpr (rq_t q1 q8 (by decide +kernel))⟩
    · skip
      refine j_lv [] rfl ?_
      refine hc11  ?_
      · exact Or.inr q8

set_option maxHeartbeats 4000000 in
set_option maxRecDepth 100000 in
/-- requireCoordinate(coordinate) -/
theorem c_X7_requireCoordinate (l : Launch) (T : jj_T) (hlS : l.stackTraces = false) (x : Int32) : jX l T yX7_requireCoordinate wsX7_requireCoordinate { frames := 6, cells := 1, slots := 6, locals := 82 } [.int x] [] (fun v w1 => v = none ∧ w1 = [] ∧ (inR x 0 2 = true)) (fun E w1 => w1 = [] ∧ E = jE1 ∧ inR x 0 2 = false) := by
  refine jX.of (cc := cX7_requireCoordinate) (maxL := 1) (ret := none) (by decide) rfl (Nat.le_of_ble_eq_true rfl) ?_
  intro X C rw_ hl hT hQ hNT hZ
  subst hl; subst hT
  show jj X 0 0 0 [(0, .int x)] [] []
  have hc9 : (x < 0 ∨ ¬ x < nI 3) → jj X 0 0 9 [] [] [] := by
    intro hbad
    refine j_throwSW C rw_ hQ hNT hZ hlS (E := jE1) (text := "there is no such coordinate") (by decide) jj_ng1 (by decide +kernel) (by decide +kernel) (by decide +kernel) (by decide +kernel) (by decide +kernel) (by decide) (by decide) (by decide) (by decide) (by decide) dX7_requireCoordinate_9 dX7_requireCoordinate_12 dX7_requireCoordinate_13 dX7_requireCoordinate_16 dX7_requireCoordinate_19 ?_
    exact ⟨rfl, rfl, inR_f.mpr (rq_f hbad (by decide +kernel))⟩
  refine j_iload_n C dX7_requireCoordinate_0 0 rfl rfl ?_
  refine j_if_lt C dX7_requireCoordinate_1 (tgt := 9) (by decide) (fun q1 => ?_) (fun q1 => ?_)
  · skip
    refine j_lv [] rfl ?_
    refine hc9  ?_
    · exact Or.inl q1
  · skip
    refine j_iload_n C dX7_requireCoordinate_4 0 rfl rfl ?_
    refine j_iconst C dX7_requireCoordinate_5 (v := (nI 3)) kc_i_3 ?_
    refine j_icmp_lt C dX7_requireCoordinate_6 (tgt := 20) (by decide) (fun q6 => ?_) (fun q6 => ?_)
    · skip
      refine j_vretX C rw_ hQ (by decide) (by decide) ?_ dX7_requireCoordinate_20
      exact ⟨rfl, rfl, inR_iff.mpr (rq_t q1 q6 (by decide +kernel))⟩
    · skip
      refine j_lv [] rfl ?_
      refine hc9  ?_
      · exact Or.inr q6

set_option maxHeartbeats 4000000 in
set_option maxRecDepth 100000 in
/-- requireObject(object) -/
theorem c_X7_requireObject (l : Launch) (T : jj_T) (hlS : l.stackTraces = false) (x : Int32) : jX l T yX7_requireObject wsX7_requireObject { frames := 6, cells := 1, slots := 6, locals := 82 } [.int x] [] (fun v w1 => v = none ∧ w1 = [] ∧ (inR x 0 2 = true)) (fun E w1 => w1 = [] ∧ E = jE1 ∧ inR x 0 2 = false) := by
  refine jX.of (cc := cX7_requireObject) (maxL := 1) (ret := none) (by decide) rfl (Nat.le_of_ble_eq_true rfl) ?_
  intro X C rw_ hl hT hQ hNT hZ
  subst hl; subst hT
  show jj X 0 0 0 [(0, .int x)] [] []
  have hc9 : (x < 0 ∨ ¬ x < nI 3) → jj X 0 0 9 [] [] [] := by
    intro hbad
    refine j_throwSW C rw_ hQ hNT hZ hlS (E := jE1) (text := "there is no such object") (by decide) jj_ng1 (by decide +kernel) (by decide +kernel) (by decide +kernel) (by decide +kernel) (by decide +kernel) (by decide) (by decide) (by decide) (by decide) (by decide) dX7_requireObject_9 dX7_requireObject_12 dX7_requireObject_13 dX7_requireObject_16 dX7_requireObject_19 ?_
    exact ⟨rfl, rfl, inR_f.mpr (rq_f hbad (by decide +kernel))⟩
  refine j_iload_n C dX7_requireObject_0 0 rfl rfl ?_
  refine j_if_lt C dX7_requireObject_1 (tgt := 9) (by decide) (fun q1 => ?_) (fun q1 => ?_)
  · skip
    refine j_lv [] rfl ?_
    refine hc9  ?_
    · exact Or.inl q1
  · skip
    refine j_iload_n C dX7_requireObject_4 0 rfl rfl ?_
    refine j_iconst C dX7_requireObject_5 (v := (nI 3)) kc_i_3 ?_
    refine j_icmp_lt C dX7_requireObject_6 (tgt := 20) (by decide) (fun q6 => ?_) (fun q6 => ?_)
    · skip
      refine j_vretX C rw_ hQ (by decide) (by decide) ?_ dX7_requireObject_20
      exact ⟨rfl, rfl, inR_iff.mpr (rq_t q1 q6 (by decide +kernel))⟩
    · skip
      refine j_lv [] rfl ?_
      refine hc9  ?_
      · exact Or.inr q6

set_option maxHeartbeats 4000000 in
set_option maxRecDepth 100000 in
/-- requireSlot(slot) -/
theorem c_X7_requireSlot (l : Launch) (T : jj_T) (hlS : l.stackTraces = false) (x : Int32) : jX l T yX7_requireSlot wsX7_requireSlot { frames := 6, cells := 1, slots := 6, locals := 82 } [.int x] [] (fun v w1 => v = none ∧ w1 = [] ∧ (inR x 0 1 = true)) (fun E w1 => w1 = [] ∧ E = jE1 ∧ inR x 0 1 = false) := by
  refine jX.of (cc := cX7_requireSlot) (maxL := 1) (ret := none) (by decide) rfl (Nat.le_of_ble_eq_true rfl) ?_
  intro X C rw_ hl hT hQ hNT hZ
  subst hl; subst hT
  show jj X 0 0 0 [(0, .int x)] [] []
  have hc9 : (x < 0 ∨ ¬ x < nI 2) → jj X 0 0 9 [] [] [] := by
    intro hbad
    refine j_throwSW C rw_ hQ hNT hZ hlS (E := jE1) (text := "there is no such slot") (by decide) jj_ng1 (by decide +kernel) (by decide +kernel) (by decide +kernel) (by decide +kernel) (by decide +kernel) (by decide) (by decide) (by decide) (by decide) (by decide) dX7_requireSlot_9 dX7_requireSlot_12 dX7_requireSlot_13 dX7_requireSlot_16 dX7_requireSlot_19 ?_
    exact ⟨rfl, rfl, inR_f.mpr (rq_f hbad (by decide +kernel))⟩
  refine j_iload_n C dX7_requireSlot_0 0 rfl rfl ?_
  refine j_if_lt C dX7_requireSlot_1 (tgt := 9) (by decide) (fun q1 => ?_) (fun q1 => ?_)
  · skip
    refine j_lv [] rfl ?_
    refine hc9  ?_
    · exact Or.inl q1
  · skip
    refine j_iload_n C dX7_requireSlot_4 0 rfl rfl ?_
    refine j_iconst C dX7_requireSlot_5 (v := (nI 2)) kc_i_2 ?_
    refine j_icmp_lt C dX7_requireSlot_6 (tgt := 20) (by decide) (fun q6 => ?_) (fun q6 => ?_)
    · skip
      refine j_vretX C rw_ hQ (by decide) (by decide) ?_ dX7_requireSlot_20
      exact ⟨rfl, rfl, inR_iff.mpr (rq_t q1 q6 (by decide +kernel))⟩
    · skip
      refine j_lv [] rfl ?_
      refine hc9  ?_
      · exact Or.inr q6

set_option maxHeartbeats 4000000 in
set_option maxRecDepth 100000 in
/-- requireRange(number, least, most) -/
theorem c_X7_requireRange (l : Launch) (T : jj_T) (hlS : l.stackTraces = false) (x y z : Int32) (a b : Int) (hy : y.toInt = a) (hz : z.toInt = b) : jX l T yX7_requireRange wsX7_requireRange { frames := 6, cells := 1, slots := 6, locals := 82 } [.int x, .int y, .int z] [] (fun v w1 => v = none ∧ w1 = [] ∧ (inR x a b = true)) (fun E w1 => w1 = [] ∧ E = jE2 ∧ inR x a b = false) := by
  refine jX.of (cc := cX7_requireRange) (maxL := 3) (ret := none) (by decide) rfl (Nat.le_of_ble_eq_true rfl) ?_
  intro X C rw_ hl hT hQ hNT hZ
  subst hl; subst hT
  show jj X 0 0 0 [(0, .int x), (1, .int y), (2, .int z)] [] []
  have hc10 : (x < y ∨ ¬ x ≤ z) → jj X 0 0 10 [] [] [] := by
    intro hbad
    refine j_throwSW C rw_ hQ hNT hZ hlS (E := jE2) (text := "an argument is out of its range") (by decide) jj_ng2 (by decide +kernel) (by decide +kernel) (by decide +kernel) (by decide +kernel) (by decide +kernel) (by decide) (by decide) (by decide) (by decide) (by decide) dX7_requireRange_10 dX7_requireRange_13 dX7_requireRange_14 dX7_requireRange_17 dX7_requireRange_20 ?_
    refine ⟨rfl, rfl, inR_f.mpr ?_⟩
    rw [Int32.lt_iff_toInt_lt, Int32.le_iff_toInt_le] at hbad; omega
  refine j_iload_n C dX7_requireRange_0 0 rfl rfl ?_
  refine j_iload_n C dX7_requireRange_1 1 rfl rfl ?_
  refine j_icmp_lt C dX7_requireRange_2 (tgt := 10) (by decide) (fun q2 => ?_) (fun q2 => ?_)
  · skip
    refine j_lv [] rfl ?_
    refine hc10  ?_
    · exact Or.inl q2
  · skip
    refine j_iload_n C dX7_requireRange_5 0 rfl rfl ?_
    refine j_iload_n C dX7_requireRange_6 2 rfl rfl ?_
    refine j_icmp_le C dX7_requireRange_7 (tgt := 21) (by decide) (fun q7 => ?_) (fun q7 => ?_)
    · skip
      refine j_vretX C rw_ hQ (by decide) (by decide) ?_ dX7_requireRange_21
      refine ⟨rfl, rfl, inR_iff.mpr ?_⟩
      rw [Int32.lt_iff_toInt_lt] at q2; rw [Int32.le_iff_toInt_le] at q7; omega
    · skip
      refine j_lv [] rfl ?_
      refine hc10  ?_
      · exact Or.inr q7

set_option maxHeartbeats 4000000 in
set_option maxRecDepth 100000 in
/-- requireTime(time) -/
theorem c_X7_requireTime (l : Launch) (T : jj_T) (hlS : l.stackTraces = false) (x : Int32) : jX l T yX7_requireTime wsX7_requireTime { frames := 7, cells := 1, slots := 6, locals := 104 } [.int x] [] (fun v w1 => v = none ∧ w1 = [] ∧ (inR x 0 300 = true)) (fun E w1 => w1 = [] ∧ E = jE2 ∧ inR x 0 300 = false) := by
  refine jX.of (cc := cX7_requireTime) (maxL := 1) (ret := none) (by decide) rfl (Nat.le_of_ble_eq_true rfl) ?_
  intro X C rw_ hl hT hQ hNT hZ
  subst hl; subst hT
  show jj X 0 0 0 [(0, .int x)] [] []
  refine j_iload_n C dX7_requireTime_0 0 rfl rfl ?_
  refine j_iconst C dX7_requireTime_1 (v := (nI 0)) kc_i_0 ?_
  refine j_sipush C dX7_requireTime_2 (v := (nI 300)) kc_s_300 ?_
  refine j_callSXp C rw_ hZ (nA := 3) (As := [.int x, .int (nI 0), .int (nI 300)]) (wc := []) (wr := []) (c_X7_requireRange (xl X) (xT X) hlS x (nI 0) (nI 300) (0) (300) (by decide +kernel) (by decide +kernel)) gX7_requireTime_X7_requireRange rfl (by decide +kernel) rfl (by decide) (by decide) (pm_lit2 (l := []) (l' := [] ++ []) [] 0 rfl rfl (by decide)) (rest := []) rfl (Nat.le_of_ble_eq_true rfl) dX7_requireTime_5 (fun E9 w9 hx9 => ?_) ?_
  · obtain ⟨rfl, hx9⟩ := hx9
    show jjT X 1 6 5 [(0, .int x)] [] _
    refine jT_out C rw_ hQ hNT (by decide) (by decide) ?_
    exact ⟨rfl, hx9⟩
  · skip
    rintro _ _ ⟨rfl, rfl, hin⟩
    show jj X 1 6 8 [(0, .int x)] [] []
    refine j_vretX C rw_ hQ (by decide) (by decide) ?_ dX7_requireTime_8
    exact ⟨rfl, rfl, hin⟩

set_option maxHeartbeats 4000000 in
set_option maxRecDepth 100000 in
/-- requireVector(x, y, z, most) -/
theorem c_X7_requireVector (l : Launch) (T : jj_T) (hlS : l.stackTraces = false) (x y z : Int32) (m : Nat) (hm : m ≤ 99) : jX l T yX7_requireVector wsX7_requireVector { frames := 7, cells := 3, slots := 18, locals := 104 } [.int x, .int y, .int z, .int (nI m)] [] (fun v w1 => v = none ∧ w1 = [] ∧ ((inR x (-(m : Int)) m && (inR y (-(m : Int)) m && inR z (-(m : Int)) m)) = true)) (fun E w1 => w1 = [] ∧ E = jE2 ∧ (inR x (-(m : Int)) m && (inR y (-(m : Int)) m && inR z (-(m : Int)) m)) = false) := by
  refine jX.of (cc := cX7_requireVector) (maxL := 4) (ret := none) (by decide) rfl (Nat.le_of_ble_eq_true rfl) ?_
  intro X C rw_ hl hT hQ hNT hZ
  subst hl; subst hT
  show jj X 0 0 0 [(0, .int x), (1, .int y), (2, .int z), (3, .int (nI m))] [] []
  refine j_iload_n C dX7_requireVector_0 0 rfl rfl ?_
  refine j_iload_n C dX7_requireVector_1 3 rfl rfl ?_
  refine j_ineg C dX7_requireVector_2 (v := (-(nI m))) rfl ?_
  refine j_iload_n C dX7_requireVector_3 3 rfl rfl ?_
  refine j_callSXp C rw_ hZ (nA := 3) (As := [.int x, .int (-(nI m)), .int (nI m)]) (wc := []) (wr := []) (c_X7_requireRange (xl X) (xT X) hlS x (-(nI m)) (nI m) (-(m : Int)) (m : Int) (by rw [Int32.toInt_neg, nI_toInt (by omega)]; exact bm_neg (by omega)) (by exact nI_toInt (by omega))) gX7_requireVector_X7_requireRange rfl (by decide +kernel) rfl (by decide) (by decide) (pm_lit2 (l := []) (l' := [] ++ []) [] 0 rfl rfl (by decide)) (rest := []) rfl (Nat.le_of_ble_eq_true rfl) dX7_requireVector_4 (fun E9 w9 hx9 => ?_) ?_
  · obtain ⟨rfl, hx9⟩ := hx9
    show jjT X 1 6 4 [(0, .int x), (1, .int y), (2, .int z), (3, .int (nI m))] [] _
    refine jT_out C rw_ hQ hNT (by decide) (by decide) ?_
    exact ⟨rfl, hx9.1, by rw [hx9.2]; rfl⟩
  · skip
    rintro _ _ ⟨rfl, rfl, h1⟩
    show jj X 1 6 7 [(0, .int x), (1, .int y), (2, .int z), (3, .int (nI m))] [] []
    refine j_iload_n C dX7_requireVector_7 1 rfl rfl ?_
    refine j_iload_n C dX7_requireVector_8 3 rfl rfl ?_
    refine j_ineg C dX7_requireVector_9 (v := (-(nI m))) rfl ?_
    refine j_iload_n C dX7_requireVector_10 3 rfl rfl ?_
    refine j_callSXp C rw_ hZ (nA := 3) (As := [.int y, .int (-(nI m)), .int (nI m)]) (wc := []) (wr := []) (c_X7_requireRange (xl X) (xT X) hlS y (-(nI m)) (nI m) (-(m : Int)) (m : Int) (by rw [Int32.toInt_neg, nI_toInt (by omega)]; exact bm_neg (by omega)) (by exact nI_toInt (by omega))) gX7_requireVector_X7_requireRange rfl (by decide +kernel) rfl (by decide) (by decide) (pm_lit2 (l := []) (l' := [] ++ []) [] 0 rfl rfl (by decide)) (rest := []) rfl (Nat.le_of_ble_eq_true rfl) dX7_requireVector_11 (fun E9 w9 hx9 => ?_) ?_
    · obtain ⟨rfl, hx9⟩ := hx9
      show jjT X 2 12 11 [(0, .int x), (1, .int y), (2, .int z), (3, .int (nI m))] [] _
      refine jT_out C rw_ hQ hNT (by decide) (by decide) ?_
      exact ⟨rfl, hx9.1, by rw [hx9.2, h1]; rfl⟩
    · skip
      rintro _ _ ⟨rfl, rfl, h2⟩
      show jj X 2 12 14 [(0, .int x), (1, .int y), (2, .int z), (3, .int (nI m))] [] []
      refine j_iload_n C dX7_requireVector_14 2 rfl rfl ?_
      refine j_iload_n C dX7_requireVector_15 3 rfl rfl ?_
      refine j_ineg C dX7_requireVector_16 (v := (-(nI m))) rfl ?_
      refine j_iload_n C dX7_requireVector_17 3 rfl rfl ?_
      refine j_callSXp C rw_ hZ (nA := 3) (As := [.int z, .int (-(nI m)), .int (nI m)]) (wc := []) (wr := []) (c_X7_requireRange (xl X) (xT X) hlS z (-(nI m)) (nI m) (-(m : Int)) (m : Int) (by rw [Int32.toInt_neg, nI_toInt (by omega)]; exact bm_neg (by omega)) (by exact nI_toInt (by omega))) gX7_requireVector_X7_requireRange rfl (by decide +kernel) rfl (by decide) (by decide) (pm_lit2 (l := []) (l' := [] ++ []) [] 0 rfl rfl (by decide)) (rest := []) rfl (Nat.le_of_ble_eq_true rfl) dX7_requireVector_18 (fun E9 w9 hx9 => ?_) ?_
      · obtain ⟨rfl, hx9⟩ := hx9
        show jjT X 3 18 18 [(0, .int x), (1, .int y), (2, .int z), (3, .int (nI m))] [] _
        refine jT_out C rw_ hQ hNT (by decide) (by decide) ?_
        exact ⟨rfl, hx9.1, by rw [hx9.2, h1, h2]; rfl⟩
      · skip
        rintro _ _ ⟨rfl, rfl, h3⟩
        show jj X 3 18 21 [(0, .int x), (1, .int y), (2, .int z), (3, .int (nI m))] [] []
        refine j_vretX C rw_ hQ (by decide) (by decide) ?_ dX7_requireVector_21
        exact ⟨rfl, rfl, by rw [h1, h2, h3]; rfl⟩

set_option maxHeartbeats 4000000 in
set_option maxRecDepth 100000 in
/-- requireOpen() -/
theorem c_X7_requireOpen (l : Launch) (T : jj_T) (hlS : l.stackTraces = false) (h7 hS d0 h1 hsl h4 h3 h2 : Nat) (a0 ao ar ac ap an : Nat) (ash : Bool)  : jX l T yX7_requireOpen wsX7_requireOpen { frames := 6, cells := 1, slots := 6, locals := 82 } [.ref h7] [(h7, cO 7 [.ref hS, .ref a0, .ref d0, .ref h1, .ref hsl, .ref h4, .ref h3, .ref h2]), (a0, cO 6 [.int (nI ac), .int (nI ap), .int (bI ash), .int (nI an), .ref ao, .ref ar])] (fun v w1 => v = none ∧ w1 = [(h7, cO 7 [.ref hS, .ref a0, .ref d0, .ref h1, .ref hsl, .ref h4, .ref h3, .ref h2]), (a0, cO 6 [.int (nI ac), .int (nI ap), .int (bI ash), .int (nI an), .ref ao, .ref ar])] ∧ (ash = false)) (fun E w1 => w1 = [(h7, cO 7 [.ref hS, .ref a0, .ref d0, .ref h1, .ref hsl, .ref h4, .ref h3, .ref h2]), (a0, cO 6 [.int (nI ac), .int (nI ap), .int (bI ash), .int (nI an), .ref ao, .ref ar])] ∧ E = jE3 ∧ ash = true) := by
  refine jX.of (cc := cX7_requireOpen) (maxL := 1) (ret := none) (by decide) rfl (Nat.le_of_ble_eq_true rfl) ?_
  intro X C rw_ hl hT hQ hNT hZ
  subst hl; subst hT
  have hin6 : ∀ w ∈ u_ws RX6 TX6 6, w ∈ wsX7_requireOpen := by decide +kernel
  have hin7 : ∀ w ∈ u_ws RX7 TX7 8, w ∈ wsX7_requireOpen := by decide +kernel
  have hl19 : Cond.fieldLink RX7 19 (TX7 1).1 (TX7 1).2.1 (TX7 1).2.2.1 ∈ wsX7_requireOpen := by decide +kernel
  have hl135 : Cond.fieldLink RX7 135 (TX6 2).1 (TX6 2).2.1 (TX6 2).2.2.1 ∈ wsX7_requireOpen := by decide +kernel
  show jj X 0 0 0 [(0, .ref h7)] [] [(h7, cO 7 [.ref hS, .ref a0, .ref d0, .ref h1, .ref hsl, .ref h4, .ref h3, .ref h2]), (a0, cO 6 [.int (nI ac), .int (nI ap), .int (bI ash), .int (nI an), .ref ao, .ref ar])]
  refine j_aload_n C dX7_requireOpen_0 0 rfl rfl ?_
  refine j_get C (hin7) (ci := 7) rfl 1 (by decide) (hl19) 0 rfl (v := .ref a0) rfl dX7_requireOpen_1 ?_
  refine j_get C (hin6) (ci := 6) rfl 2 (by decide) (hl135) 1 rfl (v := .int (bI ash)) rfl dX7_requireOpen_4 ?_
  refine j_if_eq C dX7_requireOpen_7 (tgt := 21) (by decide) (fun q7 => ?_) (fun q7 => ?_)
  · skip
    have q7 := (kb_eq).mp q7
    refine j_vretX C rw_ hQ (by decide) (by decide) ?_ dX7_requireOpen_21
    exact ⟨rfl, rfl, by simpa using q7⟩
  · skip
    have q7 := (kb_neq).mp q7
    refine j_throwSW C rw_ hQ hNT hZ hlS (E := jE3) (text := "the shutter is closed") (by decide) jj_ng3 (by decide +kernel) (by decide +kernel) (by decide +kernel) (by decide +kernel) (by decide +kernel) (by decide) (by decide) (by decide) (by decide) (by decide) dX7_requireOpen_10 dX7_requireOpen_13 dX7_requireOpen_14 dX7_requireOpen_17 dX7_requireOpen_20 ?_
    exact ⟨rfl, rfl, by simpa using q7⟩

set_option maxHeartbeats 4000000 in
set_option maxRecDepth 100000 in
/-- requireShut() -/
theorem c_X7_requireShut (l : Launch) (T : jj_T) (hlS : l.stackTraces = false) (h7 hS d0 h1 hsl h4 h3 h2 : Nat) (a0 ao ar ac ap an : Nat) (ash : Bool)  : jX l T yX7_requireShut wsX7_requireShut { frames := 6, cells := 1, slots := 6, locals := 82 } [.ref h7] [(h7, cO 7 [.ref hS, .ref a0, .ref d0, .ref h1, .ref hsl, .ref h4, .ref h3, .ref h2]), (a0, cO 6 [.int (nI ac), .int (nI ap), .int (bI ash), .int (nI an), .ref ao, .ref ar])] (fun v w1 => v = none ∧ w1 = [(h7, cO 7 [.ref hS, .ref a0, .ref d0, .ref h1, .ref hsl, .ref h4, .ref h3, .ref h2]), (a0, cO 6 [.int (nI ac), .int (nI ap), .int (bI ash), .int (nI an), .ref ao, .ref ar])] ∧ (ash = true)) (fun E w1 => w1 = [(h7, cO 7 [.ref hS, .ref a0, .ref d0, .ref h1, .ref hsl, .ref h4, .ref h3, .ref h2]), (a0, cO 6 [.int (nI ac), .int (nI ap), .int (bI ash), .int (nI an), .ref ao, .ref ar])] ∧ E = jE3 ∧ ash = false) := by
  refine jX.of (cc := cX7_requireShut) (maxL := 1) (ret := none) (by decide) rfl (Nat.le_of_ble_eq_true rfl) ?_
  intro X C rw_ hl hT hQ hNT hZ
  subst hl; subst hT
  have hin6 : ∀ w ∈ u_ws RX6 TX6 6, w ∈ wsX7_requireShut := by decide +kernel
  have hin7 : ∀ w ∈ u_ws RX7 TX7 8, w ∈ wsX7_requireShut := by decide +kernel
  have hl19 : Cond.fieldLink RX7 19 (TX7 1).1 (TX7 1).2.1 (TX7 1).2.2.1 ∈ wsX7_requireShut := by decide +kernel
  have hl135 : Cond.fieldLink RX7 135 (TX6 2).1 (TX6 2).2.1 (TX6 2).2.2.1 ∈ wsX7_requireShut := by decide +kernel
  show jj X 0 0 0 [(0, .ref h7)] [] [(h7, cO 7 [.ref hS, .ref a0, .ref d0, .ref h1, .ref hsl, .ref h4, .ref h3, .ref h2]), (a0, cO 6 [.int (nI ac), .int (nI ap), .int (bI ash), .int (nI an), .ref ao, .ref ar])]
  refine j_aload_n C dX7_requireShut_0 0 rfl rfl ?_
  refine j_get C (hin7) (ci := 7) rfl 1 (by decide) (hl19) 0 rfl (v := .ref a0) rfl dX7_requireShut_1 ?_
  refine j_get C (hin6) (ci := 6) rfl 2 (by decide) (hl135) 1 rfl (v := .int (bI ash)) rfl dX7_requireShut_4 ?_
  refine j_if_ne C dX7_requireShut_7 (tgt := 21) (by decide) (fun q7 => ?_) (fun q7 => ?_)
  · skip
    have q7 := (kb_ne).mp q7
    refine j_vretX C rw_ hQ (by decide) (by decide) ?_ dX7_requireShut_21
    exact ⟨rfl, rfl, by simpa using q7⟩
  · skip
    have q7 := (kb_nne).mp q7
    refine j_throwSW C rw_ hQ hNT hZ hlS (E := jE3) (text := "the shutter is open") (by decide) jj_ng3 (by decide +kernel) (by decide +kernel) (by decide +kernel) (by decide +kernel) (by decide +kernel) (by decide) (by decide) (by decide) (by decide) (by decide) dX7_requireShut_10 dX7_requireShut_13 dX7_requireShut_14 dX7_requireShut_17 dX7_requireShut_20 ?_
    exact ⟨rfl, rfl, by simpa using q7⟩

set_option maxHeartbeats 4000000 in
set_option maxRecDepth 100000 in
/-- requireRequest(i) -/
theorem c_X7_requireRequest (l : Launch) (T : jj_T) (hlS : l.stackTraces = false) (h7 hS d0 h1 hsl h4 h3 h2 : Nat) (a0 ao ar ac ap an : Nat) (ash : Bool) (x : Int32) (han : an ≤ 4) : jX l T yX7_requireRequest wsX7_requireRequest { frames := 6, cells := 1, slots := 6, locals := 82 } [.ref h7, .int x] [(h7, cO 7 [.ref hS, .ref a0, .ref d0, .ref h1, .ref hsl, .ref h4, .ref h3, .ref h2]), (a0, cO 6 [.int (nI ac), .int (nI ap), .int (bI ash), .int (nI an), .ref ao, .ref ar])] (fun v w1 => v = none ∧ w1 = [(h7, cO 7 [.ref hS, .ref a0, .ref d0, .ref h1, .ref hsl, .ref h4, .ref h3, .ref h2]), (a0, cO 6 [.int (nI ac), .int (nI ap), .int (bI ash), .int (nI an), .ref ao, .ref ar])] ∧ (inR x 0 ((an : Int) - 1) = true)) (fun E w1 => w1 = [(h7, cO 7 [.ref hS, .ref a0, .ref d0, .ref h1, .ref hsl, .ref h4, .ref h3, .ref h2]), (a0, cO 6 [.int (nI ac), .int (nI ap), .int (bI ash), .int (nI an), .ref ao, .ref ar])] ∧ E = jE1 ∧ inR x 0 ((an : Int) - 1) = false) := by
  refine jX.of (cc := cX7_requireRequest) (maxL := 2) (ret := none) (by decide) rfl (Nat.le_of_ble_eq_true rfl) ?_
  intro X C rw_ hl hT hQ hNT hZ
  subst hl; subst hT
  have hin6 : ∀ w ∈ u_ws RX6 TX6 6, w ∈ wsX7_requireRequest := by decide +kernel
  have hin7 : ∀ w ∈ u_ws RX7 TX7 8, w ∈ wsX7_requireRequest := by decide +kernel
  have hl19 : Cond.fieldLink RX7 19 (TX7 1).1 (TX7 1).2.1 (TX7 1).2.2.1 ∈ wsX7_requireRequest := by decide +kernel
  have hl139 : Cond.fieldLink RX7 139 (TX6 3).1 (TX6 3).2.1 (TX6 3).2.2.1 ∈ wsX7_requireRequest := by decide +kernel
  show jj X 0 0 0 [(0, .ref h7), (1, .int x)] [] [(h7, cO 7 [.ref hS, .ref a0, .ref d0, .ref h1, .ref hsl, .ref h4, .ref h3, .ref h2]), (a0, cO 6 [.int (nI ac), .int (nI ap), .int (bI ash), .int (nI an), .ref ao, .ref ar])]
  have hc15 : (x < 0 ∨ ¬ x < nI an) → jj X 0 0 15 [] [] [(h7, cO 7 [.ref hS, .ref a0, .ref d0, .ref h1, .ref hsl, .ref h4, .ref h3, .ref h2]), (a0, cO 6 [.int (nI ac), .int (nI ap), .int (bI ash), .int (nI an), .ref ao, .ref ar])] := by
    intro hbad
    refine j_throwSW C rw_ hQ hNT hZ hlS (E := jE1) (text := "there is no such request") (by decide) jj_ng1 (by decide +kernel) (by decide +kernel) (by decide +kernel) (by decide +kernel) (by decide +kernel) (by decide) (by decide) (by decide) (by decide) (by decide) dX7_requireRequest_15 dX7_requireRequest_18 dX7_requireRequest_19 dX7_requireRequest_22 dX7_requireRequest_25 ?_
    exact ⟨rfl, rfl, inR_f.mpr (rq_f hbad (by rw [nI_toInt (by omega)]; omega))⟩
  refine j_iload_n C dX7_requireRequest_0 1 rfl rfl ?_
  refine j_if_lt C dX7_requireRequest_1 (tgt := 15) (by decide) (fun q1 => ?_) (fun q1 => ?_)
  · skip
    refine j_lv [] rfl ?_
    refine hc15  ?_
    · exact Or.inl q1
  · skip
    refine j_iload_n C dX7_requireRequest_4 1 rfl rfl ?_
    refine j_aload_n C dX7_requireRequest_5 0 rfl rfl ?_
    refine j_get C (hin7) (ci := 7) rfl 1 (by decide) (hl19) 0 rfl (v := .ref a0) rfl dX7_requireRequest_6 ?_
    refine j_get C (hin6) (ci := 6) rfl 3 (by decide) (hl139) 1 rfl (v := .int (nI an)) rfl dX7_requireRequest_9 ?_
    refine j_icmp_lt C dX7_requireRequest_12 (tgt := 26) (by decide) (fun q12 => ?_) (fun q12 => ?_)
    · skip
      refine j_vretX C rw_ hQ (by decide) (by decide) ?_ dX7_requireRequest_26
      exact ⟨rfl, rfl, inR_iff.mpr (rq_t q1 q12 (by rw [nI_toInt (by omega)]; omega))⟩
    · skip
      refine j_lv [] rfl ?_
      refine hc15  ?_
      · exact Or.inr q12
