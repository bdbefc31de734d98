/-! THE WRAPPERS, all of them -/
set_option maxHeartbeats 4000000 in
set_option maxRecDepth 100000 in
theorem c_L_coordinate (l : Launch) (T : jj_T) (hlS : l.stackTraces = false) {h7 out : Nat} {ac ap : Nat} {ash : Bool} {an : Nat} {aob arq : Nat → Int32} {cn : Nat} {M : Nat → aS} {S : Nat → Option aS} {w : va_W} {f : Nat → Int64} (x : Int32) (y : Int32) (W0 : PW T h7 ((ac, ap, ash, an, aob, arq), cn, M, S) w) (O : okS ((ac, ap, ash, an, aob, arq), cn, M, S)) : jW l T yL_coordinate wsL_coordinate { frames := 8, cells := 2, slots := 12, locals := 124 } [.ref h7, .int x, .int y, .ref out] ((out, cJ T 1 f) :: w) (fun v w1 => ∃ k : Nat, v = some (.int (nI k)) ∧ k = kf_coordinate ac ap ash an aob arq cn M S x y ∧ ((k = 0 ∧ ∃ (r : Int32) (w2 : va_W) (f2 : Nat → Int64), rs_coordinate ac ap ash an aob arq cn M S x y r ∧ PW T h7 (nx_coordinate ac ap ash an aob arq cn M S x y r) w2 ∧ f2 0 = r.toInt64 ∧ w1 = (out, cJ T 1 f2) :: w2) ∨ (k ≠ 0 ∧ ∃ w2 : va_W, PW T h7 ((ac, ap, ash, an, aob, arq), cn, M, S) w2 ∧ w1 = (out, cJ T 1 f) :: w2))) := by
  refine jW.of (cc := cL_coordinate) (maxL := 5) (ret := some .int) (hh := [(0, 10, 13, 13)]) (by decide) rfl (Nat.le_of_ble_eq_true rfl) ?_
  intro X C rw_ hl hT hQ hTab hZ
  subst hl; subst hT
  obtain ⟨fs, hm⟩ := PW.mem W0
  show jj X 0 0 0 [(0, .ref h7), (1, .int x), (2, .int y), (3, .ref out)] [] ((out, cJ (xT X) 1 f) :: w)
  refine j_aload_n C dL_coordinate_0 3 rfl rfl ?_
  refine j_iconst C dL_coordinate_1 (v := nI 0) kc_i_0 ?_
  refine j_aload_n C dL_coordinate_2 0 rfl rfl ?_
  refine j_iload_n C dL_coordinate_3 1 rfl rfl ?_
  refine j_iload_n C dL_coordinate_4 2 rfl rfl ?_
  refine j_callVXp C rw_ hZ (nA := 2) (As := [.int x, .int y]) (wc := w) (wr := [(out, cJ (xT X) 1 f)]) (k_X7_coordinate (xl X) (xT X) hlS x y W0 O) gL_coordinate_X7_coordinate rfl (by decide +kernel) rfl (by decide) (by decide) (List.perm_append_comm (l₁ := [(out, cJ (xT X) 1 f)]) (l₂ := w)) hm (ci := 7) rfl (rest := [.int (nI 0), .ref out]) rfl (Nat.le_of_ble_eq_true rfl) dL_coordinate_5 (fun Ex w1 h => ?_) (fun v w1 h => ?_)
  · obtain ⟨i, hi, hk, hP⟩ := h
    refine jjT_permP C List.perm_append_comm ?_
    rcases i with _ | i
    · cases hi
      refine jT_catch C [] (⟨0, 10, 13, 13⟩ : ExceptionTableEntry) [] hTab (by decide) (fun z hz => absurd hz List.not_mem_nil) (by decide) (by decide) (by decide +kernel) (fun q => ?_)
      refine j_astore C dL_coordinate_13 (by decide) rfl ?_
      refine j_iconst C dL_coordinate_15 (v := nI 1) kc_i_1 ?_
      exact j_iretM C rw_ hQ (by decide) (by decide) (by decide +kernel) ⟨1, rfl, hk.symm, Or.inr ⟨by decide, w1, hP, rfl⟩⟩ dL_coordinate_16
    · cases hi
  · obtain ⟨hk, r, rfl, hr, hP⟩ := h
    refine j_permP C List.perm_append_comm ?_
    refine j_i2l C dL_coordinate_8 rfl ?_
    refine j_lastore C rw_ (i := nI 0) (x := r.toInt64) 0 rfl (nI_in (by decide) (by decide)) (w' := (out, cJ (xT X) 1 (vp_updL f (nI 0).toNatClampNeg r.toInt64)) :: w1) rfl dL_coordinate_9 ?_
    refine j_goto C dL_coordinate_10 (tgt := 17) (by decide) ?_
    refine j_iconst C dL_coordinate_17 (v := nI 0) kc_i_0 ?_
    exact j_iretM C rw_ hQ (by decide) (by decide) (by decide +kernel) ⟨0, rfl, hk.symm, Or.inl ⟨rfl, r, w1, _, hr, hP, rfl, rfl⟩⟩ dL_coordinate_18
set_option maxHeartbeats 4000000 in
set_option maxRecDepth 100000 in
theorem c_L_neighbour (l : Launch) (T : jj_T) (hlS : l.stackTraces = false) {h7 out : Nat} {ac ap : Nat} {ash : Bool} {an : Nat} {aob arq : Nat → Int32} {cn : Nat} {M : Nat → aS} {S : Nat → Option aS} {w : va_W} {f : Nat → Int64} (x : Int32) (y : Int32) (W0 : PW T h7 ((ac, ap, ash, an, aob, arq), cn, M, S) w) (O : okS ((ac, ap, ash, an, aob, arq), cn, M, S)) : jW l T yL_neighbour wsL_neighbour { frames := 8, cells := 2, slots := 12, locals := 126 } [.ref h7, .int x, .int y, .ref out] ((out, cJ T 1 f) :: w) (fun v w1 => ∃ k : Nat, v = some (.int (nI k)) ∧ k = kf_neighbour ac ap ash an aob arq cn M S x y ∧ ((k = 0 ∧ ∃ (r : Int32) (w2 : va_W) (f2 : Nat → Int64), rs_neighbour ac ap ash an aob arq cn M S x y r ∧ PW T h7 (nx_neighbour ac ap ash an aob arq cn M S x y r) w2 ∧ f2 0 = r.toInt64 ∧ w1 = (out, cJ T 1 f2) :: w2) ∨ (k ≠ 0 ∧ ∃ w2 : va_W, PW T h7 ((ac, ap, ash, an, aob, arq), cn, M, S) w2 ∧ w1 = (out, cJ T 1 f) :: w2))) := by
  refine jW.of (cc := cL_neighbour) (maxL := 5) (ret := some .int) (hh := [(0, 10, 13, 13), (0, 10, 17, 18)]) (by decide) rfl (Nat.le_of_ble_eq_true rfl) ?_
  intro X C rw_ hl hT hQ hTab hZ
  subst hl; subst hT
  obtain ⟨fs, hm⟩ := PW.mem W0
  show jj X 0 0 0 [(0, .ref h7), (1, .int x), (2, .int y), (3, .ref out)] [] ((out, cJ (xT X) 1 f) :: w)
  refine j_aload_n C dL_neighbour_0 3 rfl rfl ?_
  refine j_iconst C dL_neighbour_1 (v := nI 0) kc_i_0 ?_
  refine j_aload_n C dL_neighbour_2 0 rfl rfl ?_
  refine j_iload_n C dL_neighbour_3 1 rfl rfl ?_
  refine j_iload_n C dL_neighbour_4 2 rfl rfl ?_
  refine j_callVXp C rw_ hZ (nA := 2) (As := [.int x, .int y]) (wc := w) (wr := [(out, cJ (xT X) 1 f)]) (k_X7_neighbour (xl X) (xT X) hlS x y W0 O) gL_neighbour_X7_neighbour rfl (by decide +kernel) rfl (by decide) (by decide) (List.perm_append_comm (l₁ := [(out, cJ (xT X) 1 f)]) (l₂ := w)) hm (ci := 7) rfl (rest := [.int (nI 0), .ref out]) rfl (Nat.le_of_ble_eq_true rfl) dL_neighbour_5 (fun Ex w1 h => ?_) (fun v w1 h => ?_)
  · obtain ⟨i, hi, hk, hP⟩ := h
    refine jjT_permP C List.perm_append_comm ?_
    rcases i with _ | i
    · cases hi
      refine jT_catch C [] (⟨0, 10, 13, 13⟩ : ExceptionTableEntry) [(⟨0, 10, 17, 18⟩ : ExceptionTableEntry)] hTab (by decide) (fun z hz => absurd hz List.not_mem_nil) (by decide) (by decide) (by decide +kernel) (fun q => ?_)
      refine j_astore C dL_neighbour_13 (by decide) rfl ?_
      refine j_iconst C dL_neighbour_15 (v := nI 1) kc_i_1 ?_
      exact j_iretM C rw_ hQ (by decide) (by decide) (by decide +kernel) ⟨1, rfl, hk.symm, Or.inr ⟨by decide, w1, hP, rfl⟩⟩ dL_neighbour_16
    rcases i with _ | i
    · cases hi
      refine jT_catch C [(⟨0, 10, 13, 13⟩ : ExceptionTableEntry)] (⟨0, 10, 17, 18⟩ : ExceptionTableEntry) [] hTab (by decide) (List.forall_mem_cons.mpr ⟨⟨by decide, jE1, by decide, by decide, by decide +kernel⟩, (fun z hz => absurd hz List.not_mem_nil)⟩) (by decide) (by decide) (by decide +kernel) (fun q => ?_)
      refine j_astore C dL_neighbour_17 (by decide) rfl ?_
      refine j_iconst C dL_neighbour_19 (v := nI 2) kc_i_2 ?_
      exact j_iretM C rw_ hQ (by decide) (by decide) (by decide +kernel) ⟨2, rfl, hk.symm, Or.inr ⟨by decide, w1, hP, rfl⟩⟩ dL_neighbour_20
    · cases hi
  · obtain ⟨hk, r, rfl, hr, hP⟩ := h
    refine j_permP C List.perm_append_comm ?_
    refine j_i2l C dL_neighbour_8 rfl ?_
    refine j_lastore C rw_ (i := nI 0) (x := r.toInt64) 0 rfl (nI_in (by decide) (by decide)) (w' := (out, cJ (xT X) 1 (vp_updL f (nI 0).toNatClampNeg r.toInt64)) :: w1) rfl dL_neighbour_9 ?_
    refine j_goto C dL_neighbour_10 (tgt := 21) (by decide) ?_
    refine j_iconst C dL_neighbour_21 (v := nI 0) kc_i_0 ?_
    exact j_iretM C rw_ hQ (by decide) (by decide) (by decide +kernel) ⟨0, rfl, hk.symm, Or.inl ⟨rfl, r, w1, _, hr, hP, rfl, rfl⟩⟩ dL_neighbour_22
set_option maxHeartbeats 4000000 in
set_option maxRecDepth 100000 in
theorem c_L_direction (l : Launch) (T : jj_T) (hlS : l.stackTraces = false) {h7 out : Nat} {ac ap : Nat} {ash : Bool} {an : Nat} {aob arq : Nat → Int32} {cn : Nat} {M : Nat → aS} {S : Nat → Option aS} {w : va_W} {f : Nat → Int64} (x : Int32) (y : Int32) (z : Int32) (W0 : PW T h7 ((ac, ap, ash, an, aob, arq), cn, M, S) w) (O : okS ((ac, ap, ash, an, aob, arq), cn, M, S)) : jW l T yL_direction wsL_direction { frames := 9, cells := 3, slots := 18, locals := 147 } [.ref h7, .int x, .int y, .int z, .ref out] ((out, cJ T 1 f) :: w) (fun v w1 => ∃ k : Nat, v = some (.int (nI k)) ∧ k = kf_direction ac ap ash an aob arq cn M S x y z ∧ ((k = 0 ∧ ∃ (r : Int32) (w2 : va_W) (f2 : Nat → Int64), rs_direction ac ap ash an aob arq cn M S x y z r ∧ PW T h7 (nx_direction ac ap ash an aob arq cn M S x y z r) w2 ∧ f2 0 = r.toInt64 ∧ w1 = (out, cJ T 1 f2) :: w2) ∨ (k ≠ 0 ∧ ∃ w2 : va_W, PW T h7 ((ac, ap, ash, an, aob, arq), cn, M, S) w2 ∧ w1 = (out, cJ T 1 f) :: w2))) := by
  refine jW.of (cc := cL_direction) (maxL := 6) (ret := some .int) (hh := [(0, 12, 15, 13), (0, 12, 19, 18)]) (by decide) rfl (Nat.le_of_ble_eq_true rfl) ?_
  intro X C rw_ hl hT hQ hTab hZ
  subst hl; subst hT
  obtain ⟨fs, hm⟩ := PW.mem W0
  show jj X 0 0 0 [(0, .ref h7), (1, .int x), (2, .int y), (3, .int z), (4, .ref out)] [] ((out, cJ (xT X) 1 f) :: w)
  refine j_aload C dL_direction_0 4 rfl ?_
  refine j_iconst C dL_direction_2 (v := nI 0) kc_i_0 ?_
  refine j_aload_n C dL_direction_3 0 rfl rfl ?_
  refine j_iload_n C dL_direction_4 1 rfl rfl ?_
  refine j_iload_n C dL_direction_5 2 rfl rfl ?_
  refine j_iload_n C dL_direction_6 3 rfl rfl ?_
  refine j_callVXp C rw_ hZ (nA := 3) (As := [.int x, .int y, .int z]) (wc := w) (wr := [(out, cJ (xT X) 1 f)]) (k_X7_direction (xl X) (xT X) hlS x y z W0 O) gL_direction_X7_direction rfl (by decide +kernel) rfl (by decide) (by decide) (List.perm_append_comm (l₁ := [(out, cJ (xT X) 1 f)]) (l₂ := w)) hm (ci := 7) rfl (rest := [.int (nI 0), .ref out]) rfl (Nat.le_of_ble_eq_true rfl) dL_direction_7 (fun Ex w1 h => ?_) (fun v w1 h => ?_)
  · obtain ⟨i, hi, hk, hP⟩ := h
    refine jjT_permP C List.perm_append_comm ?_
    rcases i with _ | i
    · cases hi
      refine jT_catch C [] (⟨0, 12, 15, 13⟩ : ExceptionTableEntry) [(⟨0, 12, 19, 18⟩ : ExceptionTableEntry)] hTab (by decide) (fun z hz => absurd hz List.not_mem_nil) (by decide) (by decide) (by decide +kernel) (fun q => ?_)
      refine j_astore C dL_direction_15 (by decide) rfl ?_
      refine j_iconst C dL_direction_17 (v := nI 1) kc_i_1 ?_
      exact j_iretM C rw_ hQ (by decide) (by decide) (by decide +kernel) ⟨1, rfl, hk.symm, Or.inr ⟨by decide, w1, hP, rfl⟩⟩ dL_direction_18
    rcases i with _ | i
    · cases hi
      refine jT_catch C [(⟨0, 12, 15, 13⟩ : ExceptionTableEntry)] (⟨0, 12, 19, 18⟩ : ExceptionTableEntry) [] hTab (by decide) (List.forall_mem_cons.mpr ⟨⟨by decide, jE1, by decide, by decide, by decide +kernel⟩, (fun z hz => absurd hz List.not_mem_nil)⟩) (by decide) (by decide) (by decide +kernel) (fun q => ?_)
      refine j_astore C dL_direction_19 (by decide) rfl ?_
      refine j_iconst C dL_direction_21 (v := nI 2) kc_i_2 ?_
      exact j_iretM C rw_ hQ (by decide) (by decide) (by decide +kernel) ⟨2, rfl, hk.symm, Or.inr ⟨by decide, w1, hP, rfl⟩⟩ dL_direction_22
    · cases hi
  · obtain ⟨hk, r, rfl, hr, hP⟩ := h
    refine j_permP C List.perm_append_comm ?_
    refine j_i2l C dL_direction_10 rfl ?_
    refine j_lastore C rw_ (i := nI 0) (x := r.toInt64) 0 rfl (nI_in (by decide) (by decide)) (w' := (out, cJ (xT X) 1 (vp_updL f (nI 0).toNatClampNeg r.toInt64)) :: w1) rfl dL_direction_11 ?_
    refine j_goto C dL_direction_12 (tgt := 23) (by decide) ?_
    refine j_iconst C dL_direction_23 (v := nI 0) kc_i_0 ?_
    exact j_iretM C rw_ hQ (by decide) (by decide) (by decide +kernel) ⟨0, rfl, hk.symm, Or.inl ⟨rfl, r, w1, _, hr, hP, rfl, rfl⟩⟩ dL_direction_24
set_option maxHeartbeats 4000000 in
set_option maxRecDepth 100000 in
theorem c_L_cone (l : Launch) (T : jj_T) (hlS : l.stackTraces = false) {h7 out : Nat} {ac ap : Nat} {ash : Bool} {an : Nat} {aob arq : Nat → Int32} {cn : Nat} {M : Nat → aS} {S : Nat → Option aS} {w : va_W} {f : Nat → Int64} (x : Int32) (W0 : PW T h7 ((ac, ap, ash, an, aob, arq), cn, M, S) w) (O : okS ((ac, ap, ash, an, aob, arq), cn, M, S)) : jW l T yL_cone wsL_cone { frames := 8, cells := 1, slots := 6, locals := 123 } [.ref h7, .int x, .ref out] ((out, cJ T 1 f) :: w) (fun v w1 => ∃ k : Nat, v = some (.int (nI k)) ∧ k = kf_cone ac ap ash an aob arq cn M S x ∧ ((k = 0 ∧ ∃ (r : Int32) (w2 : va_W) (f2 : Nat → Int64), rs_cone ac ap ash an aob arq cn M S x r ∧ PW T h7 (nx_cone ac ap ash an aob arq cn M S x r) w2 ∧ f2 0 = r.toInt64 ∧ w1 = (out, cJ T 1 f2) :: w2) ∨ (k ≠ 0 ∧ ∃ w2 : va_W, PW T h7 ((ac, ap, ash, an, aob, arq), cn, M, S) w2 ∧ w1 = (out, cJ T 1 f) :: w2))) := by
  refine jW.of (cc := cL_cone) (maxL := 4) (ret := some .int) (hh := [(0, 9, 12, 13)]) (by decide) rfl (Nat.le_of_ble_eq_true rfl) ?_
  intro X C rw_ hl hT hQ hTab hZ
  subst hl; subst hT
  obtain ⟨fs, hm⟩ := PW.mem W0
  show jj X 0 0 0 [(0, .ref h7), (1, .int x), (2, .ref out)] [] ((out, cJ (xT X) 1 f) :: w)
  refine j_aload_n C dL_cone_0 2 rfl rfl ?_
  refine j_iconst C dL_cone_1 (v := nI 0) kc_i_0 ?_
  refine j_aload_n C dL_cone_2 0 rfl rfl ?_
  refine j_iload_n C dL_cone_3 1 rfl rfl ?_
  refine j_callVXp C rw_ hZ (nA := 1) (As := [.int x]) (wc := w) (wr := [(out, cJ (xT X) 1 f)]) (k_X7_cone (xl X) (xT X) hlS x W0 O) gL_cone_X7_cone rfl (by decide +kernel) rfl (by decide) (by decide) (List.perm_append_comm (l₁ := [(out, cJ (xT X) 1 f)]) (l₂ := w)) hm (ci := 7) rfl (rest := [.int (nI 0), .ref out]) rfl (Nat.le_of_ble_eq_true rfl) dL_cone_4 (fun Ex w1 h => ?_) (fun v w1 h => ?_)
  · obtain ⟨i, hi, hk, hP⟩ := h
    refine jjT_permP C List.perm_append_comm ?_
    rcases i with _ | i
    · cases hi
      refine jT_catch C [] (⟨0, 9, 12, 13⟩ : ExceptionTableEntry) [] hTab (by decide) (fun z hz => absurd hz List.not_mem_nil) (by decide) (by decide) (by decide +kernel) (fun q => ?_)
      refine j_astore_n C dL_cone_12 rfl (by decide) rfl ?_
      refine j_iconst C dL_cone_13 (v := nI 1) kc_i_1 ?_
      exact j_iretM C rw_ hQ (by decide) (by decide) (by decide +kernel) ⟨1, rfl, hk.symm, Or.inr ⟨by decide, w1, hP, rfl⟩⟩ dL_cone_14
    · cases hi
  · obtain ⟨hk, r, rfl, hr, hP⟩ := h
    refine j_permP C List.perm_append_comm ?_
    refine j_i2l C dL_cone_7 rfl ?_
    refine j_lastore C rw_ (i := nI 0) (x := r.toInt64) 0 rfl (nI_in (by decide) (by decide)) (w' := (out, cJ (xT X) 1 (vp_updL f (nI 0).toNatClampNeg r.toInt64)) :: w1) rfl dL_cone_8 ?_
    refine j_goto C dL_cone_9 (tgt := 15) (by decide) ?_
    refine j_iconst C dL_cone_15 (v := nI 0) kc_i_0 ?_
    exact j_iretM C rw_ hQ (by decide) (by decide) (by decide +kernel) ⟨0, rfl, hk.symm, Or.inl ⟨rfl, r, w1, _, hr, hP, rfl, rfl⟩⟩ dL_cone_16
set_option maxHeartbeats 4000000 in
set_option maxRecDepth 100000 in
theorem c_L_cosine (l : Launch) (T : jj_T) (hlS : l.stackTraces = false) {h7 out : Nat} {ac ap : Nat} {ash : Bool} {an : Nat} {aob arq : Nat → Int32} {cn : Nat} {M : Nat → aS} {S : Nat → Option aS} {w : va_W} {f : Nat → UInt64} (x : Int32) (y : Int32) (z : Int32) (W0 : PW T h7 ((ac, ap, ash, an, aob, arq), cn, M, S) w) (O : okS ((ac, ap, ash, an, aob, arq), cn, M, S)) : jW l T yL_cosine wsL_cosine { frames := 9, cells := 3, slots := 18, locals := 153 } [.ref h7, .int x, .int y, .int z, .ref out] ((out, cD T 1 f) :: w) (fun v w1 => ∃ k : Nat, v = some (.int (nI k)) ∧ k = kf_cosine ac ap ash an aob arq cn M S x y z ∧ ((k = 0 ∧ ∃ (r : UInt64) (w2 : va_W) (f2 : Nat → UInt64), rs_cosine ac ap ash an aob arq cn M S x y z r ∧ PW T h7 (nx_cosine ac ap ash an aob arq cn M S x y z r) w2 ∧ f2 0 = r ∧ w1 = (out, cD T 1 f2) :: w2) ∨ (k ≠ 0 ∧ ∃ w2 : va_W, PW T h7 ((ac, ap, ash, an, aob, arq), cn, M, S) w2 ∧ w1 = (out, cD T 1 f) :: w2))) := by
  refine jW.of (cc := cL_cosine) (maxL := 6) (ret := some .int) (hh := [(0, 11, 14, 13), (0, 11, 18, 18)]) (by decide) rfl (Nat.le_of_ble_eq_true rfl) ?_
  intro X C rw_ hl hT hQ hTab hZ
  subst hl; subst hT
  obtain ⟨fs, hm⟩ := PW.mem W0
  show jj X 0 0 0 [(0, .ref h7), (1, .int x), (2, .int y), (3, .int z), (4, .ref out)] [] ((out, cD (xT X) 1 f) :: w)
  refine j_aload C dL_cosine_0 4 rfl ?_
  refine j_iconst C dL_cosine_2 (v := nI 0) kc_i_0 ?_
  refine j_aload_n C dL_cosine_3 0 rfl rfl ?_
  refine j_iload_n C dL_cosine_4 1 rfl rfl ?_
  refine j_iload_n C dL_cosine_5 2 rfl rfl ?_
  refine j_iload_n C dL_cosine_6 3 rfl rfl ?_
  refine j_callVXp C rw_ hZ (nA := 3) (As := [.int x, .int y, .int z]) (wc := w) (wr := [(out, cD (xT X) 1 f)]) (k_X7_cosine (xl X) (xT X) hlS x y z W0 O) gL_cosine_X7_cosine rfl (by decide +kernel) rfl (by decide) (by decide) (List.perm_append_comm (l₁ := [(out, cD (xT X) 1 f)]) (l₂ := w)) hm (ci := 7) rfl (rest := [.int (nI 0), .ref out]) rfl (Nat.le_of_ble_eq_true rfl) dL_cosine_7 (fun Ex w1 h => ?_) (fun v w1 h => ?_)
  · obtain ⟨i, hi, hk, hP⟩ := h
    refine jjT_permP C List.perm_append_comm ?_
    rcases i with _ | i
    · cases hi
      refine jT_catch C [] (⟨0, 11, 14, 13⟩ : ExceptionTableEntry) [(⟨0, 11, 18, 18⟩ : ExceptionTableEntry)] hTab (by decide) (fun z hz => absurd hz List.not_mem_nil) (by decide) (by decide) (by decide +kernel) (fun q => ?_)
      refine j_astore C dL_cosine_14 (by decide) rfl ?_
      refine j_iconst C dL_cosine_16 (v := nI 1) kc_i_1 ?_
      exact j_iretM C rw_ hQ (by decide) (by decide) (by decide +kernel) ⟨1, rfl, hk.symm, Or.inr ⟨by decide, w1, hP, rfl⟩⟩ dL_cosine_17
    rcases i with _ | i
    · cases hi
      refine jT_catch C [(⟨0, 11, 14, 13⟩ : ExceptionTableEntry)] (⟨0, 11, 18, 18⟩ : ExceptionTableEntry) [] hTab (by decide) (List.forall_mem_cons.mpr ⟨⟨by decide, jE1, by decide, by decide, by decide +kernel⟩, (fun z hz => absurd hz List.not_mem_nil)⟩) (by decide) (by decide) (by decide +kernel) (fun q => ?_)
      refine j_astore C dL_cosine_18 (by decide) rfl ?_
      refine j_iconst C dL_cosine_20 (v := nI 2) kc_i_2 ?_
      exact j_iretM C rw_ hQ (by decide) (by decide) (by decide +kernel) ⟨2, rfl, hk.symm, Or.inr ⟨by decide, w1, hP, rfl⟩⟩ dL_cosine_21
    · cases hi
  · obtain ⟨hk, r, rfl, hr, hP⟩ := h
    refine j_permP C List.perm_append_comm ?_
    refine j_dastore C rw_ (i := nI 0) (x := r) 0 rfl (nI_in (by decide) (by decide)) (w' := (out, cD (xT X) 1 (vf_upd f (nI 0).toNatClampNeg r)) :: w1) rfl dL_cosine_10 ?_
    refine j_goto C dL_cosine_11 (tgt := 22) (by decide) ?_
    refine j_iconst C dL_cosine_22 (v := nI 0) kc_i_0 ?_
    exact j_iretM C rw_ hQ (by decide) (by decide) (by decide +kernel) ⟨0, rfl, hk.symm, Or.inl ⟨rfl, r, w1, _, hr, hP, rfl, rfl⟩⟩ dL_cosine_23
set_option maxHeartbeats 4000000 in
set_option maxRecDepth 100000 in
theorem c_L_isBright (l : Launch) (T : jj_T) (hlS : l.stackTraces = false) {h7 out : Nat} {ac ap : Nat} {ash : Bool} {an : Nat} {aob arq : Nat → Int32} {cn : Nat} {M : Nat → aS} {S : Nat → Option aS} {w : va_W} {f : Nat → Int64} (x : Int32) (y : Int32) (W0 : PW T h7 ((ac, ap, ash, an, aob, arq), cn, M, S) w) (O : okS ((ac, ap, ash, an, aob, arq), cn, M, S)) : jW l T yL_isBright wsL_isBright { frames := 9, cells := 2, slots := 12, locals := 146 } [.ref h7, .int x, .int y, .ref out] ((out, cJ T 1 f) :: w) (fun v w1 => ∃ k : Nat, v = some (.int (nI k)) ∧ k = kf_isBright ac ap ash an aob arq cn M S x y ∧ ((k = 0 ∧ ∃ (r : Int32) (w2 : va_W) (f2 : Nat → Int64), rs_isBright ac ap ash an aob arq cn M S x y r ∧ PW T h7 (nx_isBright ac ap ash an aob arq cn M S x y r) w2 ∧ f2 0 = r.toInt64 ∧ w1 = (out, cJ T 1 f2) :: w2) ∨ (k ≠ 0 ∧ ∃ w2 : va_W, PW T h7 ((ac, ap, ash, an, aob, arq), cn, M, S) w2 ∧ w1 = (out, cJ T 1 f) :: w2))) := by
  refine jW.of (cc := cL_isBright) (maxL := 5) (ret := some .int) (hh := [(0, 17, 20, 13), (0, 17, 24, 18)]) (by decide) rfl (Nat.le_of_ble_eq_true rfl) ?_
  intro X C rw_ hl hT hQ hTab hZ
  subst hl; subst hT
  obtain ⟨fs, hm⟩ := PW.mem W0
  show jj X 0 0 0 [(0, .ref h7), (1, .int x), (2, .int y), (3, .ref out)] [] ((out, cJ (xT X) 1 f) :: w)
  refine j_aload_n C dL_isBright_0 3 rfl rfl ?_
  refine j_iconst C dL_isBright_1 (v := nI 0) kc_i_0 ?_
  refine j_aload_n C dL_isBright_2 0 rfl rfl ?_
  refine j_iload_n C dL_isBright_3 1 rfl rfl ?_
  refine j_iload_n C dL_isBright_4 2 rfl rfl ?_
  refine j_callVXp C rw_ hZ (nA := 2) (As := [.int x, .int y]) (wc := w) (wr := [(out, cJ (xT X) 1 f)]) (k_X7_isBright (xl X) (xT X) hlS x y W0 O) gL_isBright_X7_isBright rfl (by decide +kernel) rfl (by decide) (by decide) (List.perm_append_comm (l₁ := [(out, cJ (xT X) 1 f)]) (l₂ := w)) hm (ci := 7) rfl (rest := [.int (nI 0), .ref out]) rfl (Nat.le_of_ble_eq_true rfl) dL_isBright_5 (fun Ex w1 h => ?_) (fun v w1 h => ?_)
  · obtain ⟨i, hi, hk, hP⟩ := h
    refine jjT_permP C List.perm_append_comm ?_
    rcases i with _ | i
    · cases hi
      refine jT_catch C [] (⟨0, 17, 20, 13⟩ : ExceptionTableEntry) [(⟨0, 17, 24, 18⟩ : ExceptionTableEntry)] hTab (by decide) (fun z hz => absurd hz List.not_mem_nil) (by decide) (by decide) (by decide +kernel) (fun q => ?_)
      refine j_astore C dL_isBright_20 (by decide) rfl ?_
      refine j_iconst C dL_isBright_22 (v := nI 1) kc_i_1 ?_
      exact j_iretM C rw_ hQ (by decide) (by decide) (by decide +kernel) ⟨1, rfl, hk.symm, Or.inr ⟨by decide, w1, hP, rfl⟩⟩ dL_isBright_23
    rcases i with _ | i
    · cases hi
      refine jT_catch C [(⟨0, 17, 20, 13⟩ : ExceptionTableEntry)] (⟨0, 17, 24, 18⟩ : ExceptionTableEntry) [] hTab (by decide) (List.forall_mem_cons.mpr ⟨⟨by decide, jE1, by decide, by decide, by decide +kernel⟩, (fun z hz => absurd hz List.not_mem_nil)⟩) (by decide) (by decide) (by decide +kernel) (fun q => ?_)
      refine j_astore C dL_isBright_24 (by decide) rfl ?_
      refine j_iconst C dL_isBright_26 (v := nI 2) kc_i_2 ?_
      exact j_iretM C rw_ hQ (by decide) (by decide) (by decide +kernel) ⟨2, rfl, hk.symm, Or.inr ⟨by decide, w1, hP, rfl⟩⟩ dL_isBright_27
    · cases hi
  · obtain ⟨hk, r, rfl, hr, hP⟩ := h
    refine j_permP C List.perm_append_comm ?_
    have e9 : r = bI (br aob (xN x) (xN y)) := hr
    cases z9 : br aob (xN x) (xN y) with
    | false =>
      have e8 : r = 0 := by rw [e9, z9]; rfl
      refine j_if_eq C dL_isBright_8 (tgt := 15) (by decide) (fun q => ?_) (fun q => ?_)
      · refine j_lconst C dL_isBright_15 (v := 0) rfl ?_
        refine j_lastore C rw_ (i := nI 0) (x := 0) 0 rfl (nI_in (by decide) (by decide)) (w' := (out, cJ (xT X) 1 (vp_updL f (nI 0).toNatClampNeg 0)) :: w1) rfl dL_isBright_16 ?_
        refine j_goto C dL_isBright_17 (tgt := 28) (by decide) ?_
        refine j_iconst C dL_isBright_28 (v := nI 0) kc_i_0 ?_
        exact j_iretM C rw_ hQ (by decide) (by decide) (by decide +kernel) ⟨0, rfl, hk.symm, Or.inl ⟨rfl, r, w1, _, hr, hP, (by rw [e8]; rfl), rfl⟩⟩ dL_isBright_29
      · exact absurd e8 q
    | true =>
      have e8 : r = 1 := by rw [e9, z9]; rfl
      refine j_if_eq C dL_isBright_8 (tgt := 15) (by decide) (fun q => ?_) (fun q => ?_)
      · exact absurd (e8.symm.trans q) (by decide)
      · refine j_lconst C dL_isBright_11 (v := 1) rfl ?_
        refine j_goto C dL_isBright_12 (tgt := 16) (by decide) ?_
        refine j_lastore C rw_ (i := nI 0) (x := 1) 0 rfl (nI_in (by decide) (by decide)) (w' := (out, cJ (xT X) 1 (vp_updL f (nI 0).toNatClampNeg 1)) :: w1) rfl dL_isBright_16 ?_
        refine j_goto C dL_isBright_17 (tgt := 28) (by decide) ?_
        refine j_iconst C dL_isBright_28 (v := nI 0) kc_i_0 ?_
        exact j_iretM C rw_ hQ (by decide) (by decide) (by decide +kernel) ⟨0, rfl, hk.symm, Or.inl ⟨rfl, r, w1, _, hr, hP, (by rw [e8]; rfl), rfl⟩⟩ dL_isBright_29
set_option maxHeartbeats 4000000 in
set_option maxRecDepth 100000 in
theorem c_L_brightCells (l : Launch) (T : jj_T) (hlS : l.stackTraces = false) {h7 out : Nat} {ac ap : Nat} {ash : Bool} {an : Nat} {aob arq : Nat → Int32} {cn : Nat} {M : Nat → aS} {S : Nat → Option aS} {w : va_W} {f : Nat → Int64} (x : Int32) (W0 : PW T h7 ((ac, ap, ash, an, aob, arq), cn, M, S) w) (O : okS ((ac, ap, ash, an, aob, arq), cn, M, S)) : jW l T yL_brightCells wsL_brightCells { frames := 9, cells := 1, slots := 6, locals := 145 } [.ref h7, .int x, .ref out] ((out, cJ T 1 f) :: w) (fun v w1 => ∃ k : Nat, v = some (.int (nI k)) ∧ k = kf_brightCells ac ap ash an aob arq cn M S x ∧ ((k = 0 ∧ ∃ (r : Int32) (w2 : va_W) (f2 : Nat → Int64), rs_brightCells ac ap ash an aob arq cn M S x r ∧ PW T h7 (nx_brightCells ac ap ash an aob arq cn M S x r) w2 ∧ f2 0 = r.toInt64 ∧ w1 = (out, cJ T 1 f2) :: w2) ∨ (k ≠ 0 ∧ ∃ w2 : va_W, PW T h7 ((ac, ap, ash, an, aob, arq), cn, M, S) w2 ∧ w1 = (out, cJ T 1 f) :: w2))) := by
  refine jW.of (cc := cL_brightCells) (maxL := 4) (ret := some .int) (hh := [(0, 9, 12, 18)]) (by decide) rfl (Nat.le_of_ble_eq_true rfl) ?_
  intro X C rw_ hl hT hQ hTab hZ
  subst hl; subst hT
  obtain ⟨fs, hm⟩ := PW.mem W0
  show jj X 0 0 0 [(0, .ref h7), (1, .int x), (2, .ref out)] [] ((out, cJ (xT X) 1 f) :: w)
  refine j_aload_n C dL_brightCells_0 2 rfl rfl ?_
  refine j_iconst C dL_brightCells_1 (v := nI 0) kc_i_0 ?_
  refine j_aload_n C dL_brightCells_2 0 rfl rfl ?_
  refine j_iload_n C dL_brightCells_3 1 rfl rfl ?_
  refine j_callVXp C rw_ hZ (nA := 1) (As := [.int x]) (wc := w) (wr := [(out, cJ (xT X) 1 f)]) (k_X7_brightCells (xl X) (xT X) hlS x W0 O) gL_brightCells_X7_brightCells rfl (by decide +kernel) rfl (by decide) (by decide) (List.perm_append_comm (l₁ := [(out, cJ (xT X) 1 f)]) (l₂ := w)) hm (ci := 7) rfl (rest := [.int (nI 0), .ref out]) rfl (Nat.le_of_ble_eq_true rfl) dL_brightCells_4 (fun Ex w1 h => ?_) (fun v w1 h => ?_)
  · obtain ⟨i, hi, hk, hP⟩ := h
    refine jjT_permP C List.perm_append_comm ?_
    rcases i with _ | i
    · cases hi
      refine jT_catch C [] (⟨0, 9, 12, 18⟩ : ExceptionTableEntry) [] hTab (by decide) (fun z hz => absurd hz List.not_mem_nil) (by decide) (by decide) (by decide +kernel) (fun q => ?_)
      refine j_astore_n C dL_brightCells_12 rfl (by decide) rfl ?_
      refine j_iconst C dL_brightCells_13 (v := nI 1) kc_i_1 ?_
      exact j_iretM C rw_ hQ (by decide) (by decide) (by decide +kernel) ⟨1, rfl, hk.symm, Or.inr ⟨by decide, w1, hP, rfl⟩⟩ dL_brightCells_14
    · cases hi
  · obtain ⟨hk, r, rfl, hr, hP⟩ := h
    refine j_permP C List.perm_append_comm ?_
    refine j_i2l C dL_brightCells_7 rfl ?_
    refine j_lastore C rw_ (i := nI 0) (x := r.toInt64) 0 rfl (nI_in (by decide) (by decide)) (w' := (out, cJ (xT X) 1 (vp_updL f (nI 0).toNatClampNeg r.toInt64)) :: w1) rfl dL_brightCells_8 ?_
    refine j_goto C dL_brightCells_9 (tgt := 15) (by decide) ?_
    refine j_iconst C dL_brightCells_15 (v := nI 0) kc_i_0 ?_
    exact j_iretM C rw_ hQ (by decide) (by decide) (by decide +kernel) ⟨0, rfl, hk.symm, Or.inl ⟨rfl, r, w1, _, hr, hP, rfl, rfl⟩⟩ dL_brightCells_16
set_option maxHeartbeats 4000000 in
set_option maxRecDepth 100000 in
theorem c_L_firstBright (l : Launch) (T : jj_T) (hlS : l.stackTraces = false) {h7 out : Nat} {ac ap : Nat} {ash : Bool} {an : Nat} {aob arq : Nat → Int32} {cn : Nat} {M : Nat → aS} {S : Nat → Option aS} {w : va_W} {f : Nat → Int64} (x : Int32) (y : Int32) (W0 : PW T h7 ((ac, ap, ash, an, aob, arq), cn, M, S) w) (O : okS ((ac, ap, ash, an, aob, arq), cn, M, S)) : jW l T yL_firstBright wsL_firstBright { frames := 9, cells := 2, slots := 12, locals := 146 } [.ref h7, .int x, .int y, .ref out] ((out, cJ T 1 f) :: w) (fun v w1 => ∃ k : Nat, v = some (.int (nI k)) ∧ k = kf_firstBright ac ap ash an aob arq cn M S x y ∧ ((k = 0 ∧ ∃ (r : Int32) (w2 : va_W) (f2 : Nat → Int64), rs_firstBright ac ap ash an aob arq cn M S x y r ∧ PW T h7 (nx_firstBright ac ap ash an aob arq cn M S x y r) w2 ∧ f2 0 = r.toInt64 ∧ w1 = (out, cJ T 1 f2) :: w2) ∨ (k ≠ 0 ∧ ∃ w2 : va_W, PW T h7 ((ac, ap, ash, an, aob, arq), cn, M, S) w2 ∧ w1 = (out, cJ T 1 f) :: w2))) := by
  refine jW.of (cc := cL_firstBright) (maxL := 5) (ret := some .int) (hh := [(0, 10, 13, 13), (0, 10, 17, 18)]) (by decide) rfl (Nat.le_of_ble_eq_true rfl) ?_
  intro X C rw_ hl hT hQ hTab hZ
  subst hl; subst hT
  obtain ⟨fs, hm⟩ := PW.mem W0
  show jj X 0 0 0 [(0, .ref h7), (1, .int x), (2, .int y), (3, .ref out)] [] ((out, cJ (xT X) 1 f) :: w)
  refine j_aload_n C dL_firstBright_0 3 rfl rfl ?_
  refine j_iconst C dL_firstBright_1 (v := nI 0) kc_i_0 ?_
  refine j_aload_n C dL_firstBright_2 0 rfl rfl ?_
  refine j_iload_n C dL_firstBright_3 1 rfl rfl ?_
  refine j_iload_n C dL_firstBright_4 2 rfl rfl ?_
  refine j_callVXp C rw_ hZ (nA := 2) (As := [.int x, .int y]) (wc := w) (wr := [(out, cJ (xT X) 1 f)]) (k_X7_firstBright (xl X) (xT X) hlS x y W0 O) gL_firstBright_X7_firstBright rfl (by decide +kernel) rfl (by decide) (by decide) (List.perm_append_comm (l₁ := [(out, cJ (xT X) 1 f)]) (l₂ := w)) hm (ci := 7) rfl (rest := [.int (nI 0), .ref out]) rfl (Nat.le_of_ble_eq_true rfl) dL_firstBright_5 (fun Ex w1 h => ?_) (fun v w1 h => ?_)
  · obtain ⟨i, hi, hk, hP⟩ := h
    refine jjT_permP C List.perm_append_comm ?_
    rcases i with _ | i
    · cases hi
      refine jT_catch C [] (⟨0, 10, 13, 13⟩ : ExceptionTableEntry) [(⟨0, 10, 17, 18⟩ : ExceptionTableEntry)] hTab (by decide) (fun z hz => absurd hz List.not_mem_nil) (by decide) (by decide) (by decide +kernel) (fun q => ?_)
      refine j_astore C dL_firstBright_13 (by decide) rfl ?_
      refine j_iconst C dL_firstBright_15 (v := nI 1) kc_i_1 ?_
      exact j_iretM C rw_ hQ (by decide) (by decide) (by decide +kernel) ⟨1, rfl, hk.symm, Or.inr ⟨by decide, w1, hP, rfl⟩⟩ dL_firstBright_16
    rcases i with _ | i
    · cases hi
      refine jT_catch C [(⟨0, 10, 13, 13⟩ : ExceptionTableEntry)] (⟨0, 10, 17, 18⟩ : ExceptionTableEntry) [] hTab (by decide) (List.forall_mem_cons.mpr ⟨⟨by decide, jE1, by decide, by decide, by decide +kernel⟩, (fun z hz => absurd hz List.not_mem_nil)⟩) (by decide) (by decide) (by decide +kernel) (fun q => ?_)
      refine j_astore C dL_firstBright_17 (by decide) rfl ?_
      refine j_iconst C dL_firstBright_19 (v := nI 2) kc_i_2 ?_
      exact j_iretM C rw_ hQ (by decide) (by decide) (by decide +kernel) ⟨2, rfl, hk.symm, Or.inr ⟨by decide, w1, hP, rfl⟩⟩ dL_firstBright_20
    · cases hi
  · obtain ⟨hk, r, rfl, hr, hP⟩ := h
    refine j_permP C List.perm_append_comm ?_
    refine j_i2l C dL_firstBright_8 rfl ?_
    refine j_lastore C rw_ (i := nI 0) (x := r.toInt64) 0 rfl (nI_in (by decide) (by decide)) (w' := (out, cJ (xT X) 1 (vp_updL f (nI 0).toNatClampNeg r.toInt64)) :: w1) rfl dL_firstBright_9 ?_
    refine j_goto C dL_firstBright_10 (tgt := 21) (by decide) ?_
    refine j_iconst C dL_firstBright_21 (v := nI 0) kc_i_0 ?_
    exact j_iretM C rw_ hQ (by decide) (by decide) (by decide +kernel) ⟨0, rfl, hk.symm, Or.inl ⟨rfl, r, w1, _, hr, hP, rfl, rfl⟩⟩ dL_firstBright_22
set_option maxHeartbeats 4000000 in
set_option maxRecDepth 100000 in
theorem c_L_setAxis (l : Launch) (T : jj_T) (hlS : l.stackTraces = false) {h7 out : Nat} {ac ap : Nat} {ash : Bool} {an : Nat} {aob arq : Nat → Int32} {cn : Nat} {M : Nat → aS} {S : Nat → Option aS} {w : va_W} {f : Nat → Int64} (x : Int32) (y : Int32) (z : Int32) (u : Int32) (W0 : PW T h7 ((ac, ap, ash, an, aob, arq), cn, M, S) w) (O : okS ((ac, ap, ash, an, aob, arq), cn, M, S)) : jW l T yL_setAxis wsL_setAxis { frames := 9, cells := 9, slots := 75, locals := 169 } [.ref h7, .int x, .int y, .int z, .int u, .ref out] ((out, cJ T 1 f) :: w) (fun v w1 => ∃ k : Nat, v = some (.int (nI k)) ∧ k = kf_setAxis ac ap ash an aob arq cn M S x y z u ∧ ((k = 0 ∧ ∃ (r : Int32) (w2 : va_W) (f2 : Nat → Int64), rs_setAxis ac ap ash an aob arq cn M S x y z u r ∧ PW T h7 (nx_setAxis ac ap ash an aob arq cn M S x y z u r) w2 ∧ f2 0 = r.toInt64 ∧ w1 = (out, cJ T 1 f2) :: w2) ∨ (k ≠ 0 ∧ ∃ w2 : va_W, PW T h7 ((ac, ap, ash, an, aob, arq), cn, M, S) w2 ∧ w1 = (out, cJ T 1 f) :: w2))) := by
  refine jW.of (cc := cL_setAxis) (maxL := 7) (ret := some .int) (hh := [(0, 14, 17, 13), (0, 14, 21, 18), (0, 14, 25, 46)]) (by decide) rfl (Nat.le_of_ble_eq_true rfl) ?_
  intro X C rw_ hl hT hQ hTab hZ
  subst hl; subst hT
  obtain ⟨fs, hm⟩ := PW.mem W0
  show jj X 0 0 0 [(0, .ref h7), (1, .int x), (2, .int y), (3, .int z), (4, .int u), (5, .ref out)] [] ((out, cJ (xT X) 1 f) :: w)
  refine j_aload C dL_setAxis_0 5 rfl ?_
  refine j_iconst C dL_setAxis_2 (v := nI 0) kc_i_0 ?_
  refine j_aload_n C dL_setAxis_3 0 rfl rfl ?_
  refine j_iload_n C dL_setAxis_4 1 rfl rfl ?_
  refine j_iload_n C dL_setAxis_5 2 rfl rfl ?_
  refine j_iload_n C dL_setAxis_6 3 rfl rfl ?_
  refine j_iload C dL_setAxis_7 4 rfl ?_
  refine j_callVXp C rw_ hZ (nA := 4) (As := [.int x, .int y, .int z, .int u]) (wc := w) (wr := [(out, cJ (xT X) 1 f)]) (k_X7_setAxis (xl X) (xT X) hlS x y z u W0 O) gL_setAxis_X7_setAxis rfl (by decide +kernel) rfl (by decide) (by decide) (List.perm_append_comm (l₁ := [(out, cJ (xT X) 1 f)]) (l₂ := w)) hm (ci := 7) rfl (rest := [.int (nI 0), .ref out]) rfl (Nat.le_of_ble_eq_true rfl) dL_setAxis_9 (fun Ex w1 h => ?_) (fun v w1 h => ?_)
  · obtain ⟨i, hi, hk, hP⟩ := h
    refine jjT_permP C List.perm_append_comm ?_
    rcases i with _ | i
    · cases hi
      refine jT_catch C [] (⟨0, 14, 17, 13⟩ : ExceptionTableEntry) [(⟨0, 14, 21, 18⟩ : ExceptionTableEntry), (⟨0, 14, 25, 46⟩ : ExceptionTableEntry)] hTab (by decide) (fun z hz => absurd hz List.not_mem_nil) (by decide) (by decide) (by decide +kernel) (fun q => ?_)
      refine j_astore C dL_setAxis_17 (by decide) rfl ?_
      refine j_iconst C dL_setAxis_19 (v := nI 1) kc_i_1 ?_
      exact j_iretM C rw_ hQ (by decide) (by decide) (by decide +kernel) ⟨1, rfl, hk.symm, Or.inr ⟨by decide, w1, hP, rfl⟩⟩ dL_setAxis_20
    rcases i with _ | i
    · cases hi
      refine jT_catch C [(⟨0, 14, 17, 13⟩ : ExceptionTableEntry)] (⟨0, 14, 21, 18⟩ : ExceptionTableEntry) [(⟨0, 14, 25, 46⟩ : ExceptionTableEntry)] hTab (by decide) (List.forall_mem_cons.mpr ⟨⟨by decide, jE1, by decide, by decide, by decide +kernel⟩, (fun z hz => absurd hz List.not_mem_nil)⟩) (by decide) (by decide) (by decide +kernel) (fun q => ?_)
      refine j_astore C dL_setAxis_21 (by decide) rfl ?_
      refine j_iconst C dL_setAxis_23 (v := nI 2) kc_i_2 ?_
      exact j_iretM C rw_ hQ (by decide) (by decide) (by decide +kernel) ⟨2, rfl, hk.symm, Or.inr ⟨by decide, w1, hP, rfl⟩⟩ dL_setAxis_24
    rcases i with _ | i
    · cases hi
      refine jT_catch C [(⟨0, 14, 17, 13⟩ : ExceptionTableEntry), (⟨0, 14, 21, 18⟩ : ExceptionTableEntry)] (⟨0, 14, 25, 46⟩ : ExceptionTableEntry) [] hTab (by decide) (List.forall_mem_cons.mpr ⟨⟨by decide, jE1, by decide, by decide, by decide +kernel⟩, (List.forall_mem_cons.mpr ⟨⟨by decide, jE2, by decide, by decide, by decide +kernel⟩, (fun z hz => absurd hz List.not_mem_nil)⟩)⟩) (by decide) (by decide) (by decide +kernel) (fun q => ?_)
      refine j_astore C dL_setAxis_25 (by decide) rfl ?_
      refine j_iconst C dL_setAxis_27 (v := nI 3) kc_i_3 ?_
      exact j_iretM C rw_ hQ (by decide) (by decide) (by decide +kernel) ⟨3, rfl, hk.symm, Or.inr ⟨by decide, w1, hP, rfl⟩⟩ dL_setAxis_28
    · cases hi
  · obtain ⟨hk, r, rfl, hr, hP⟩ := h
    refine j_permP C List.perm_append_comm ?_
    refine j_i2l C dL_setAxis_12 rfl ?_
    refine j_lastore C rw_ (i := nI 0) (x := r.toInt64) 0 rfl (nI_in (by decide) (by decide)) (w' := (out, cJ (xT X) 1 (vp_updL f (nI 0).toNatClampNeg r.toInt64)) :: w1) rfl dL_setAxis_13 ?_
    refine j_goto C dL_setAxis_14 (tgt := 29) (by decide) ?_
    refine j_iconst C dL_setAxis_29 (v := nI 0) kc_i_0 ?_
    exact j_iretM C rw_ hQ (by decide) (by decide) (by decide +kernel) ⟨0, rfl, hk.symm, Or.inl ⟨rfl, r, w1, _, hr, hP, rfl, rfl⟩⟩ dL_setAxis_30
set_option maxHeartbeats 4000000 in
set_option maxRecDepth 100000 in
theorem c_L_setDrift (l : Launch) (T : jj_T) (hlS : l.stackTraces = false) {h7 out : Nat} {ac ap : Nat} {ash : Bool} {an : Nat} {aob arq : Nat → Int32} {cn : Nat} {M : Nat → aS} {S : Nat → Option aS} {w : va_W} {f : Nat → Int64} (x : Int32) (y : Int32) (z : Int32) (u : Int32) (W0 : PW T h7 ((ac, ap, ash, an, aob, arq), cn, M, S) w) (O : okS ((ac, ap, ash, an, aob, arq), cn, M, S)) : jW l T yL_setDrift wsL_setDrift { frames := 9, cells := 8, slots := 69, locals := 169 } [.ref h7, .int x, .int y, .int z, .int u, .ref out] ((out, cJ T 1 f) :: w) (fun v w1 => ∃ k : Nat, v = some (.int (nI k)) ∧ k = kf_setDrift ac ap ash an aob arq cn M S x y z u ∧ ((k = 0 ∧ ∃ (r : Int32) (w2 : va_W) (f2 : Nat → Int64), rs_setDrift ac ap ash an aob arq cn M S x y z u r ∧ PW T h7 (nx_setDrift ac ap ash an aob arq cn M S x y z u r) w2 ∧ f2 0 = r.toInt64 ∧ w1 = (out, cJ T 1 f2) :: w2) ∨ (k ≠ 0 ∧ ∃ w2 : va_W, PW T h7 ((ac, ap, ash, an, aob, arq), cn, M, S) w2 ∧ w1 = (out, cJ T 1 f) :: w2))) := by
  refine jW.of (cc := cL_setDrift) (maxL := 7) (ret := some .int) (hh := [(0, 14, 17, 13), (0, 14, 21, 18), (0, 14, 25, 46)]) (by decide) rfl (Nat.le_of_ble_eq_true rfl) ?_
  intro X C rw_ hl hT hQ hTab hZ
  subst hl; subst hT
  obtain ⟨fs, hm⟩ := PW.mem W0
  show jj X 0 0 0 [(0, .ref h7), (1, .int x), (2, .int y), (3, .int z), (4, .int u), (5, .ref out)] [] ((out, cJ (xT X) 1 f) :: w)
  refine j_aload C dL_setDrift_0 5 rfl ?_
  refine j_iconst C dL_setDrift_2 (v := nI 0) kc_i_0 ?_
  refine j_aload_n C dL_setDrift_3 0 rfl rfl ?_
  refine j_iload_n C dL_setDrift_4 1 rfl rfl ?_
  refine j_iload_n C dL_setDrift_5 2 rfl rfl ?_
  refine j_iload_n C dL_setDrift_6 3 rfl rfl ?_
  refine j_iload C dL_setDrift_7 4 rfl ?_
  refine j_callVXp C rw_ hZ (nA := 4) (As := [.int x, .int y, .int z, .int u]) (wc := w) (wr := [(out, cJ (xT X) 1 f)]) (k_X7_setDrift (xl X) (xT X) hlS x y z u W0 O) gL_setDrift_X7_setDrift rfl (by decide +kernel) rfl (by decide) (by decide) (List.perm_append_comm (l₁ := [(out, cJ (xT X) 1 f)]) (l₂ := w)) hm (ci := 7) rfl (rest := [.int (nI 0), .ref out]) rfl (Nat.le_of_ble_eq_true rfl) dL_setDrift_9 (fun Ex w1 h => ?_) (fun v w1 h => ?_)
  · obtain ⟨i, hi, hk, hP⟩ := h
    refine jjT_permP C List.perm_append_comm ?_
    rcases i with _ | i
    · cases hi
      refine jT_catch C [] (⟨0, 14, 17, 13⟩ : ExceptionTableEntry) [(⟨0, 14, 21, 18⟩ : ExceptionTableEntry), (⟨0, 14, 25, 46⟩ : ExceptionTableEntry)] hTab (by decide) (fun z hz => absurd hz List.not_mem_nil) (by decide) (by decide) (by decide +kernel) (fun q => ?_)
      refine j_astore C dL_setDrift_17 (by decide) rfl ?_
      refine j_iconst C dL_setDrift_19 (v := nI 1) kc_i_1 ?_
      exact j_iretM C rw_ hQ (by decide) (by decide) (by decide +kernel) ⟨1, rfl, hk.symm, Or.inr ⟨by decide, w1, hP, rfl⟩⟩ dL_setDrift_20
    rcases i with _ | i
    · cases hi
      refine jT_catch C [(⟨0, 14, 17, 13⟩ : ExceptionTableEntry)] (⟨0, 14, 21, 18⟩ : ExceptionTableEntry) [(⟨0, 14, 25, 46⟩ : ExceptionTableEntry)] hTab (by decide) (List.forall_mem_cons.mpr ⟨⟨by decide, jE1, by decide, by decide, by decide +kernel⟩, (fun z hz => absurd hz List.not_mem_nil)⟩) (by decide) (by decide) (by decide +kernel) (fun q => ?_)
      refine j_astore C dL_setDrift_21 (by decide) rfl ?_
      refine j_iconst C dL_setDrift_23 (v := nI 2) kc_i_2 ?_
      exact j_iretM C rw_ hQ (by decide) (by decide) (by decide +kernel) ⟨2, rfl, hk.symm, Or.inr ⟨by decide, w1, hP, rfl⟩⟩ dL_setDrift_24
    rcases i with _ | i
    · cases hi
      refine jT_catch C [(⟨0, 14, 17, 13⟩ : ExceptionTableEntry), (⟨0, 14, 21, 18⟩ : ExceptionTableEntry)] (⟨0, 14, 25, 46⟩ : ExceptionTableEntry) [] hTab (by decide) (List.forall_mem_cons.mpr ⟨⟨by decide, jE1, by decide, by decide, by decide +kernel⟩, (List.forall_mem_cons.mpr ⟨⟨by decide, jE2, by decide, by decide, by decide +kernel⟩, (fun z hz => absurd hz List.not_mem_nil)⟩)⟩) (by decide) (by decide) (by decide +kernel) (fun q => ?_)
      refine j_astore C dL_setDrift_25 (by decide) rfl ?_
      refine j_iconst C dL_setDrift_27 (v := nI 3) kc_i_3 ?_
      exact j_iretM C rw_ hQ (by decide) (by decide) (by decide +kernel) ⟨3, rfl, hk.symm, Or.inr ⟨by decide, w1, hP, rfl⟩⟩ dL_setDrift_28
    · cases hi
  · obtain ⟨hk, r, rfl, hr, hP⟩ := h
    refine j_permP C List.perm_append_comm ?_
    refine j_i2l C dL_setDrift_12 rfl ?_
    refine j_lastore C rw_ (i := nI 0) (x := r.toInt64) 0 rfl (nI_in (by decide) (by decide)) (w' := (out, cJ (xT X) 1 (vp_updL f (nI 0).toNatClampNeg r.toInt64)) :: w1) rfl dL_setDrift_13 ?_
    refine j_goto C dL_setDrift_14 (tgt := 29) (by decide) ?_
    refine j_iconst C dL_setDrift_29 (v := nI 0) kc_i_0 ?_
    exact j_iretM C rw_ hQ (by decide) (by decide) (by decide +kernel) ⟨0, rfl, hk.symm, Or.inl ⟨rfl, r, w1, _, hr, hP, rfl, rfl⟩⟩ dL_setDrift_30
set_option maxHeartbeats 4000000 in
set_option maxRecDepth 100000 in
theorem c_L_setCone (l : Launch) (T : jj_T) (hlS : l.stackTraces = false) {h7 out : Nat} {ac ap : Nat} {ash : Bool} {an : Nat} {aob arq : Nat → Int32} {cn : Nat} {M : Nat → aS} {S : Nat → Option aS} {w : va_W} {f : Nat → Int64} (x : Int32) (y : Int32) (W0 : PW T h7 ((ac, ap, ash, an, aob, arq), cn, M, S) w) (O : okS ((ac, ap, ash, an, aob, arq), cn, M, S)) : jW l T yL_setCone wsL_setCone { frames := 8, cells := 6, slots := 57, locals := 167 } [.ref h7, .int x, .int y, .ref out] ((out, cJ T 1 f) :: w) (fun v w1 => ∃ k : Nat, v = some (.int (nI k)) ∧ k = kf_setCone ac ap ash an aob arq cn M S x y ∧ ((k = 0 ∧ ∃ (r : Int32) (w2 : va_W) (f2 : Nat → Int64), rs_setCone ac ap ash an aob arq cn M S x y r ∧ PW T h7 (nx_setCone ac ap ash an aob arq cn M S x y r) w2 ∧ f2 0 = r.toInt64 ∧ w1 = (out, cJ T 1 f2) :: w2) ∨ (k ≠ 0 ∧ ∃ w2 : va_W, PW T h7 ((ac, ap, ash, an, aob, arq), cn, M, S) w2 ∧ w1 = (out, cJ T 1 f) :: w2))) := by
  refine jW.of (cc := cL_setCone) (maxL := 5) (ret := some .int) (hh := [(0, 10, 13, 13), (0, 10, 17, 18), (0, 10, 21, 46)]) (by decide) rfl (Nat.le_of_ble_eq_true rfl) ?_
  intro X C rw_ hl hT hQ hTab hZ
  subst hl; subst hT
  obtain ⟨fs, hm⟩ := PW.mem W0
  show jj X 0 0 0 [(0, .ref h7), (1, .int x), (2, .int y), (3, .ref out)] [] ((out, cJ (xT X) 1 f) :: w)
  refine j_aload_n C dL_setCone_0 3 rfl rfl ?_
  refine j_iconst C dL_setCone_1 (v := nI 0) kc_i_0 ?_
  refine j_aload_n C dL_setCone_2 0 rfl rfl ?_
  refine j_iload_n C dL_setCone_3 1 rfl rfl ?_
  refine j_iload_n C dL_setCone_4 2 rfl rfl ?_
  refine j_callVXp C rw_ hZ (nA := 2) (As := [.int x, .int y]) (wc := w) (wr := [(out, cJ (xT X) 1 f)]) (k_X7_setCone (xl X) (xT X) hlS x y W0 O) gL_setCone_X7_setCone rfl (by decide +kernel) rfl (by decide) (by decide) (List.perm_append_comm (l₁ := [(out, cJ (xT X) 1 f)]) (l₂ := w)) hm (ci := 7) rfl (rest := [.int (nI 0), .ref out]) rfl (Nat.le_of_ble_eq_true rfl) dL_setCone_5 (fun Ex w1 h => ?_) (fun v w1 h => ?_)
  · obtain ⟨i, hi, hk, hP⟩ := h
    refine jjT_permP C List.perm_append_comm ?_
    rcases i with _ | i
    · cases hi
      refine jT_catch C [] (⟨0, 10, 13, 13⟩ : ExceptionTableEntry) [(⟨0, 10, 17, 18⟩ : ExceptionTableEntry), (⟨0, 10, 21, 46⟩ : ExceptionTableEntry)] hTab (by decide) (fun z hz => absurd hz List.not_mem_nil) (by decide) (by decide) (by decide +kernel) (fun q => ?_)
      refine j_astore C dL_setCone_13 (by decide) rfl ?_
      refine j_iconst C dL_setCone_15 (v := nI 1) kc_i_1 ?_
      exact j_iretM C rw_ hQ (by decide) (by decide) (by decide +kernel) ⟨1, rfl, hk.symm, Or.inr ⟨by decide, w1, hP, rfl⟩⟩ dL_setCone_16
    rcases i with _ | i
    · cases hi
      refine jT_catch C [(⟨0, 10, 13, 13⟩ : ExceptionTableEntry)] (⟨0, 10, 17, 18⟩ : ExceptionTableEntry) [(⟨0, 10, 21, 46⟩ : ExceptionTableEntry)] hTab (by decide) (List.forall_mem_cons.mpr ⟨⟨by decide, jE1, by decide, by decide, by decide +kernel⟩, (fun z hz => absurd hz List.not_mem_nil)⟩) (by decide) (by decide) (by decide +kernel) (fun q => ?_)
      refine j_astore C dL_setCone_17 (by decide) rfl ?_
      refine j_iconst C dL_setCone_19 (v := nI 2) kc_i_2 ?_
      exact j_iretM C rw_ hQ (by decide) (by decide) (by decide +kernel) ⟨2, rfl, hk.symm, Or.inr ⟨by decide, w1, hP, rfl⟩⟩ dL_setCone_20
    rcases i with _ | i
    · cases hi
      refine jT_catch C [(⟨0, 10, 13, 13⟩ : ExceptionTableEntry), (⟨0, 10, 17, 18⟩ : ExceptionTableEntry)] (⟨0, 10, 21, 46⟩ : ExceptionTableEntry) [] hTab (by decide) (List.forall_mem_cons.mpr ⟨⟨by decide, jE1, by decide, by decide, by decide +kernel⟩, (List.forall_mem_cons.mpr ⟨⟨by decide, jE2, by decide, by decide, by decide +kernel⟩, (fun z hz => absurd hz List.not_mem_nil)⟩)⟩) (by decide) (by decide) (by decide +kernel) (fun q => ?_)
      refine j_astore C dL_setCone_21 (by decide) rfl ?_
      refine j_iconst C dL_setCone_23 (v := nI 3) kc_i_3 ?_
      exact j_iretM C rw_ hQ (by decide) (by decide) (by decide +kernel) ⟨3, rfl, hk.symm, Or.inr ⟨by decide, w1, hP, rfl⟩⟩ dL_setCone_24
    · cases hi
  · obtain ⟨hk, r, rfl, hr, hP⟩ := h
    refine j_permP C List.perm_append_comm ?_
    refine j_i2l C dL_setCone_8 rfl ?_
    refine j_lastore C rw_ (i := nI 0) (x := r.toInt64) 0 rfl (nI_in (by decide) (by decide)) (w' := (out, cJ (xT X) 1 (vp_updL f (nI 0).toNatClampNeg r.toInt64)) :: w1) rfl dL_setCone_9 ?_
    refine j_goto C dL_setCone_10 (tgt := 25) (by decide) ?_
    refine j_iconst C dL_setCone_25 (v := nI 0) kc_i_0 ?_
    exact j_iretM C rw_ hQ (by decide) (by decide) (by decide +kernel) ⟨0, rfl, hk.symm, Or.inl ⟨rfl, r, w1, _, hr, hP, rfl, rfl⟩⟩ dL_setCone_26
set_option maxHeartbeats 4000000 in
set_option maxRecDepth 100000 in
theorem c_L_step (l : Launch) (T : jj_T) (hlS : l.stackTraces = false) {h7 out : Nat} {ac ap : Nat} {ash : Bool} {an : Nat} {aob arq : Nat → Int32} {cn : Nat} {M : Nat → aS} {S : Nat → Option aS} {w : va_W} {f : Nat → Int64} (x : Int32) (W0 : PW T h7 ((ac, ap, ash, an, aob, arq), cn, M, S) w) (O : okS ((ac, ap, ash, an, aob, arq), cn, M, S)) : jW l T yL_step wsL_step { frames := 8, cells := 6, slots := 57, locals := 146 } [.ref h7, .int x, .ref out] ((out, cJ T 1 f) :: w) (fun v w1 => ∃ k : Nat, v = some (.int (nI k)) ∧ k = kf_step ac ap ash an aob arq cn M S x ∧ ((k = 0 ∧ ∃ (r : Int32) (w2 : va_W) (f2 : Nat → Int64), rs_step ac ap ash an aob arq cn M S x r ∧ PW T h7 (nx_step ac ap ash an aob arq cn M S x r) w2 ∧ f2 0 = r.toInt64 ∧ w1 = (out, cJ T 1 f2) :: w2) ∨ (k ≠ 0 ∧ ∃ w2 : va_W, PW T h7 ((ac, ap, ash, an, aob, arq), cn, M, S) w2 ∧ w1 = (out, cJ T 1 f) :: w2))) := by
  refine jW.of (cc := cL_step) (maxL := 4) (ret := some .int) (hh := [(0, 9, 12, 13), (0, 9, 15, 18), (0, 9, 18, 46)]) (by decide) rfl (Nat.le_of_ble_eq_true rfl) ?_
  intro X C rw_ hl hT hQ hTab hZ
  subst hl; subst hT
  obtain ⟨fs, hm⟩ := PW.mem W0
  show jj X 0 0 0 [(0, .ref h7), (1, .int x), (2, .ref out)] [] ((out, cJ (xT X) 1 f) :: w)
  refine j_aload_n C dL_step_0 2 rfl rfl ?_
  refine j_iconst C dL_step_1 (v := nI 0) kc_i_0 ?_
  refine j_aload_n C dL_step_2 0 rfl rfl ?_
  refine j_iload_n C dL_step_3 1 rfl rfl ?_
  refine j_callVXp C rw_ hZ (nA := 1) (As := [.int x]) (wc := w) (wr := [(out, cJ (xT X) 1 f)]) (k_X7_step (xl X) (xT X) hlS x W0 O) gL_step_X7_step rfl (by decide +kernel) rfl (by decide) (by decide) (List.perm_append_comm (l₁ := [(out, cJ (xT X) 1 f)]) (l₂ := w)) hm (ci := 7) rfl (rest := [.int (nI 0), .ref out]) rfl (Nat.le_of_ble_eq_true rfl) dL_step_4 (fun Ex w1 h => ?_) (fun v w1 h => ?_)
  · obtain ⟨i, hi, hk, hP⟩ := h
    refine jjT_permP C List.perm_append_comm ?_
    rcases i with _ | i
    · cases hi
      refine jT_catch C [] (⟨0, 9, 12, 13⟩ : ExceptionTableEntry) [(⟨0, 9, 15, 18⟩ : ExceptionTableEntry), (⟨0, 9, 18, 46⟩ : ExceptionTableEntry)] hTab (by decide) (fun z hz => absurd hz List.not_mem_nil) (by decide) (by decide) (by decide +kernel) (fun q => ?_)
      refine j_astore_n C dL_step_12 rfl (by decide) rfl ?_
      refine j_iconst C dL_step_13 (v := nI 1) kc_i_1 ?_
      exact j_iretM C rw_ hQ (by decide) (by decide) (by decide +kernel) ⟨1, rfl, hk.symm, Or.inr ⟨by decide, w1, hP, rfl⟩⟩ dL_step_14
    rcases i with _ | i
    · cases hi
      refine jT_catch C [(⟨0, 9, 12, 13⟩ : ExceptionTableEntry)] (⟨0, 9, 15, 18⟩ : ExceptionTableEntry) [(⟨0, 9, 18, 46⟩ : ExceptionTableEntry)] hTab (by decide) (List.forall_mem_cons.mpr ⟨⟨by decide, jE1, by decide, by decide, by decide +kernel⟩, (fun z hz => absurd hz List.not_mem_nil)⟩) (by decide) (by decide) (by decide +kernel) (fun q => ?_)
      refine j_astore_n C dL_step_15 rfl (by decide) rfl ?_
      refine j_iconst C dL_step_16 (v := nI 2) kc_i_2 ?_
      exact j_iretM C rw_ hQ (by decide) (by decide) (by decide +kernel) ⟨2, rfl, hk.symm, Or.inr ⟨by decide, w1, hP, rfl⟩⟩ dL_step_17
    rcases i with _ | i
    · cases hi
      refine jT_catch C [(⟨0, 9, 12, 13⟩ : ExceptionTableEntry), (⟨0, 9, 15, 18⟩ : ExceptionTableEntry)] (⟨0, 9, 18, 46⟩ : ExceptionTableEntry) [] hTab (by decide) (List.forall_mem_cons.mpr ⟨⟨by decide, jE1, by decide, by decide, by decide +kernel⟩, (List.forall_mem_cons.mpr ⟨⟨by decide, jE2, by decide, by decide, by decide +kernel⟩, (fun z hz => absurd hz List.not_mem_nil)⟩)⟩) (by decide) (by decide) (by decide +kernel) (fun q => ?_)
      refine j_astore_n C dL_step_18 rfl (by decide) rfl ?_
      refine j_iconst C dL_step_19 (v := nI 3) kc_i_3 ?_
      exact j_iretM C rw_ hQ (by decide) (by decide) (by decide +kernel) ⟨3, rfl, hk.symm, Or.inr ⟨by decide, w1, hP, rfl⟩⟩ dL_step_20
    · cases hi
  · obtain ⟨hk, r, rfl, hr, hP⟩ := h
    refine j_permP C List.perm_append_comm ?_
    refine j_i2l C dL_step_7 rfl ?_
    refine j_lastore C rw_ (i := nI 0) (x := r.toInt64) 0 rfl (nI_in (by decide) (by decide)) (w' := (out, cJ (xT X) 1 (vp_updL f (nI 0).toNatClampNeg r.toInt64)) :: w1) rfl dL_step_8 ?_
    refine j_goto C dL_step_9 (tgt := 21) (by decide) ?_
    refine j_iconst C dL_step_21 (v := nI 0) kc_i_0 ?_
    exact j_iretM C rw_ hQ (by decide) (by decide) (by decide +kernel) ⟨0, rfl, hk.symm, Or.inl ⟨rfl, r, w1, _, hr, hP, rfl, rfl⟩⟩ dL_step_22
set_option maxHeartbeats 4000000 in
set_option maxRecDepth 100000 in
theorem c_L_slew (l : Launch) (T : jj_T) (hlS : l.stackTraces = false) {h7 out : Nat} {ac ap : Nat} {ash : Bool} {an : Nat} {aob arq : Nat → Int32} {cn : Nat} {M : Nat → aS} {S : Nat → Option aS} {w : va_W} {f : Nat → Int64} (x : Int32) (W0 : PW T h7 ((ac, ap, ash, an, aob, arq), cn, M, S) w) (O : okS ((ac, ap, ash, an, aob, arq), cn, M, S)) : jW l T yL_slew wsL_slew { frames := 8, cells := 6, slots := 57, locals := 147 } [.ref h7, .int x, .ref out] ((out, cJ T 1 f) :: w) (fun v w1 => ∃ k : Nat, v = some (.int (nI k)) ∧ k = kf_slew ac ap ash an aob arq cn M S x ∧ ((k = 0 ∧ ∃ (r : Int32) (w2 : va_W) (f2 : Nat → Int64), rs_slew ac ap ash an aob arq cn M S x r ∧ PW T h7 (nx_slew ac ap ash an aob arq cn M S x r) w2 ∧ f2 0 = r.toInt64 ∧ w1 = (out, cJ T 1 f2) :: w2) ∨ (k ≠ 0 ∧ ∃ w2 : va_W, PW T h7 ((ac, ap, ash, an, aob, arq), cn, M, S) w2 ∧ w1 = (out, cJ T 1 f) :: w2))) := by
  refine jW.of (cc := cL_slew) (maxL := 4) (ret := some .int) (hh := [(0, 9, 12, 13), (0, 9, 15, 46)]) (by decide) rfl (Nat.le_of_ble_eq_true rfl) ?_
  intro X C rw_ hl hT hQ hTab hZ
  subst hl; subst hT
  obtain ⟨fs, hm⟩ := PW.mem W0
  show jj X 0 0 0 [(0, .ref h7), (1, .int x), (2, .ref out)] [] ((out, cJ (xT X) 1 f) :: w)
  refine j_aload_n C dL_slew_0 2 rfl rfl ?_
  refine j_iconst C dL_slew_1 (v := nI 0) kc_i_0 ?_
  refine j_aload_n C dL_slew_2 0 rfl rfl ?_
  refine j_iload_n C dL_slew_3 1 rfl rfl ?_
  refine j_callVXp C rw_ hZ (nA := 1) (As := [.int x]) (wc := w) (wr := [(out, cJ (xT X) 1 f)]) (k_X7_slew (xl X) (xT X) hlS x W0 O) gL_slew_X7_slew rfl (by decide +kernel) rfl (by decide) (by decide) (List.perm_append_comm (l₁ := [(out, cJ (xT X) 1 f)]) (l₂ := w)) hm (ci := 7) rfl (rest := [.int (nI 0), .ref out]) rfl (Nat.le_of_ble_eq_true rfl) dL_slew_4 (fun Ex w1 h => ?_) (fun v w1 h => ?_)
  · obtain ⟨i, hi, hk, hP⟩ := h
    refine jjT_permP C List.perm_append_comm ?_
    rcases i with _ | i
    · cases hi
      refine jT_catch C [] (⟨0, 9, 12, 13⟩ : ExceptionTableEntry) [(⟨0, 9, 15, 46⟩ : ExceptionTableEntry)] hTab (by decide) (fun z hz => absurd hz List.not_mem_nil) (by decide) (by decide) (by decide +kernel) (fun q => ?_)
      refine j_astore_n C dL_slew_12 rfl (by decide) rfl ?_
      refine j_iconst C dL_slew_13 (v := nI 1) kc_i_1 ?_
      exact j_iretM C rw_ hQ (by decide) (by decide) (by decide +kernel) ⟨1, rfl, hk.symm, Or.inr ⟨by decide, w1, hP, rfl⟩⟩ dL_slew_14
    rcases i with _ | i
    · cases hi
      refine jT_catch C [(⟨0, 9, 12, 13⟩ : ExceptionTableEntry)] (⟨0, 9, 15, 46⟩ : ExceptionTableEntry) [] hTab (by decide) (List.forall_mem_cons.mpr ⟨⟨by decide, jE1, by decide, by decide, by decide +kernel⟩, (fun z hz => absurd hz List.not_mem_nil)⟩) (by decide) (by decide) (by decide +kernel) (fun q => ?_)
      refine j_astore_n C dL_slew_15 rfl (by decide) rfl ?_
      refine j_iconst C dL_slew_16 (v := nI 2) kc_i_2 ?_
      exact j_iretM C rw_ hQ (by decide) (by decide) (by decide +kernel) ⟨2, rfl, hk.symm, Or.inr ⟨by decide, w1, hP, rfl⟩⟩ dL_slew_17
    · cases hi
  · obtain ⟨hk, r, rfl, hr, hP⟩ := h
    refine j_permP C List.perm_append_comm ?_
    refine j_i2l C dL_slew_7 rfl ?_
    refine j_lastore C rw_ (i := nI 0) (x := r.toInt64) 0 rfl (nI_in (by decide) (by decide)) (w' := (out, cJ (xT X) 1 (vp_updL f (nI 0).toNatClampNeg r.toInt64)) :: w1) rfl dL_slew_8 ?_
    refine j_goto C dL_slew_9 (tgt := 18) (by decide) ?_
    refine j_iconst C dL_slew_18 (v := nI 0) kc_i_0 ?_
    exact j_iretM C rw_ hQ (by decide) (by decide) (by decide +kernel) ⟨0, rfl, hk.symm, Or.inl ⟨rfl, r, w1, _, hr, hP, rfl, rfl⟩⟩ dL_slew_19
set_option maxHeartbeats 4000000 in
set_option maxRecDepth 100000 in
theorem c_L_close (l : Launch) (T : jj_T) (hlS : l.stackTraces = false) {h7 out : Nat} {ac ap : Nat} {ash : Bool} {an : Nat} {aob arq : Nat → Int32} {cn : Nat} {M : Nat → aS} {S : Nat → Option aS} {w : va_W} {f : Nat → Int64}  (W0 : PW T h7 ((ac, ap, ash, an, aob, arq), cn, M, S) w) (O : okS ((ac, ap, ash, an, aob, arq), cn, M, S)) : jW l T yL_close wsL_close { frames := 8, cells := 5, slots := 51, locals := 145 } [.ref h7, .ref out] ((out, cJ T 1 f) :: w) (fun v w1 => ∃ k : Nat, v = some (.int (nI k)) ∧ k = kf_close ac ap ash an aob arq cn M S ∧ ((k = 0 ∧ ∃ (r : Int32) (w2 : va_W) (f2 : Nat → Int64), rs_close ac ap ash an aob arq cn M S r ∧ PW T h7 (nx_close ac ap ash an aob arq cn M S r) w2 ∧ f2 0 = r.toInt64 ∧ w1 = (out, cJ T 1 f2) :: w2) ∨ (k ≠ 0 ∧ ∃ w2 : va_W, PW T h7 ((ac, ap, ash, an, aob, arq), cn, M, S) w2 ∧ w1 = (out, cJ T 1 f) :: w2))) := by
  refine jW.of (cc := cL_close) (maxL := 3) (ret := some .int) (hh := [(0, 8, 11, 46)]) (by decide) rfl (Nat.le_of_ble_eq_true rfl) ?_
  intro X C rw_ hl hT hQ hTab hZ
  subst hl; subst hT
  obtain ⟨fs, hm⟩ := PW.mem W0
  show jj X 0 0 0 [(0, .ref h7), (1, .ref out)] [] ((out, cJ (xT X) 1 f) :: w)
  refine j_aload_n C dL_close_0 1 rfl rfl ?_
  refine j_iconst C dL_close_1 (v := nI 0) kc_i_0 ?_
  refine j_aload_n C dL_close_2 0 rfl rfl ?_
  refine j_callVXp C rw_ hZ (nA := 0) (As := []) (wc := w) (wr := [(out, cJ (xT X) 1 f)]) (k_X7_close (xl X) (xT X) hlS  W0 O) gL_close_X7_close rfl (by decide +kernel) rfl (by decide) (by decide) (List.perm_append_comm (l₁ := [(out, cJ (xT X) 1 f)]) (l₂ := w)) hm (ci := 7) rfl (rest := [.int (nI 0), .ref out]) rfl (Nat.le_of_ble_eq_true rfl) dL_close_3 (fun Ex w1 h => ?_) (fun v w1 h => ?_)
  · obtain ⟨i, hi, hk, hP⟩ := h
    refine jjT_permP C List.perm_append_comm ?_
    rcases i with _ | i
    · cases hi
      refine jT_catch C [] (⟨0, 8, 11, 46⟩ : ExceptionTableEntry) [] hTab (by decide) (fun z hz => absurd hz List.not_mem_nil) (by decide) (by decide) (by decide +kernel) (fun q => ?_)
      refine j_astore_n C dL_close_11 rfl (by decide) rfl ?_
      refine j_iconst C dL_close_12 (v := nI 1) kc_i_1 ?_
      exact j_iretM C rw_ hQ (by decide) (by decide) (by decide +kernel) ⟨1, rfl, hk.symm, Or.inr ⟨by decide, w1, hP, rfl⟩⟩ dL_close_13
    · cases hi
  · obtain ⟨hk, r, rfl, hr, hP⟩ := h
    refine j_permP C List.perm_append_comm ?_
    refine j_i2l C dL_close_6 rfl ?_
    refine j_lastore C rw_ (i := nI 0) (x := r.toInt64) 0 rfl (nI_in (by decide) (by decide)) (w' := (out, cJ (xT X) 1 (vp_updL f (nI 0).toNatClampNeg r.toInt64)) :: w1) rfl dL_close_7 ?_
    refine j_goto C dL_close_8 (tgt := 14) (by decide) ?_
    refine j_iconst C dL_close_14 (v := nI 0) kc_i_0 ?_
    exact j_iretM C rw_ hQ (by decide) (by decide) (by decide +kernel) ⟨0, rfl, hk.symm, Or.inl ⟨rfl, r, w1, _, hr, hP, rfl, rfl⟩⟩ dL_close_15
set_option maxHeartbeats 4000000 in
set_option maxRecDepth 100000 in
theorem c_L_open (l : Launch) (T : jj_T) (hlS : l.stackTraces = false) {h7 out : Nat} {ac ap : Nat} {ash : Bool} {an : Nat} {aob arq : Nat → Int32} {cn : Nat} {M : Nat → aS} {S : Nat → Option aS} {w : va_W} {f : Nat → Int64}  (W0 : PW T h7 ((ac, ap, ash, an, aob, arq), cn, M, S) w) (O : okS ((ac, ap, ash, an, aob, arq), cn, M, S)) : jW l T yL_open wsL_open { frames := 8, cells := 5, slots := 51, locals := 145 } [.ref h7, .ref out] ((out, cJ T 1 f) :: w) (fun v w1 => ∃ k : Nat, v = some (.int (nI k)) ∧ k = kf_open ac ap ash an aob arq cn M S ∧ ((k = 0 ∧ ∃ (r : Int32) (w2 : va_W) (f2 : Nat → Int64), rs_open ac ap ash an aob arq cn M S r ∧ PW T h7 (nx_open ac ap ash an aob arq cn M S r) w2 ∧ f2 0 = r.toInt64 ∧ w1 = (out, cJ T 1 f2) :: w2) ∨ (k ≠ 0 ∧ ∃ w2 : va_W, PW T h7 ((ac, ap, ash, an, aob, arq), cn, M, S) w2 ∧ w1 = (out, cJ T 1 f) :: w2))) := by
  refine jW.of (cc := cL_open) (maxL := 3) (ret := some .int) (hh := [(0, 8, 11, 46)]) (by decide) rfl (Nat.le_of_ble_eq_true rfl) ?_
  intro X C rw_ hl hT hQ hTab hZ
  subst hl; subst hT
  obtain ⟨fs, hm⟩ := PW.mem W0
  show jj X 0 0 0 [(0, .ref h7), (1, .ref out)] [] ((out, cJ (xT X) 1 f) :: w)
  refine j_aload_n C dL_open_0 1 rfl rfl ?_
  refine j_iconst C dL_open_1 (v := nI 0) kc_i_0 ?_
  refine j_aload_n C dL_open_2 0 rfl rfl ?_
  refine j_callVXp C rw_ hZ (nA := 0) (As := []) (wc := w) (wr := [(out, cJ (xT X) 1 f)]) (k_X7_open (xl X) (xT X) hlS  W0 O) gL_open_X7_open rfl (by decide +kernel) rfl (by decide) (by decide) (List.perm_append_comm (l₁ := [(out, cJ (xT X) 1 f)]) (l₂ := w)) hm (ci := 7) rfl (rest := [.int (nI 0), .ref out]) rfl (Nat.le_of_ble_eq_true rfl) dL_open_3 (fun Ex w1 h => ?_) (fun v w1 h => ?_)
  · obtain ⟨i, hi, hk, hP⟩ := h
    refine jjT_permP C List.perm_append_comm ?_
    rcases i with _ | i
    · cases hi
      refine jT_catch C [] (⟨0, 8, 11, 46⟩ : ExceptionTableEntry) [] hTab (by decide) (fun z hz => absurd hz List.not_mem_nil) (by decide) (by decide) (by decide +kernel) (fun q => ?_)
      refine j_astore_n C dL_open_11 rfl (by decide) rfl ?_
      refine j_iconst C dL_open_12 (v := nI 1) kc_i_1 ?_
      exact j_iretM C rw_ hQ (by decide) (by decide) (by decide +kernel) ⟨1, rfl, hk.symm, Or.inr ⟨by decide, w1, hP, rfl⟩⟩ dL_open_13
    · cases hi
  · obtain ⟨hk, r, rfl, hr, hP⟩ := h
    refine j_permP C List.perm_append_comm ?_
    refine j_i2l C dL_open_6 rfl ?_
    refine j_lastore C rw_ (i := nI 0) (x := r.toInt64) 0 rfl (nI_in (by decide) (by decide)) (w' := (out, cJ (xT X) 1 (vp_updL f (nI 0).toNatClampNeg r.toInt64)) :: w1) rfl dL_open_7 ?_
    refine j_goto C dL_open_8 (tgt := 14) (by decide) ?_
    refine j_iconst C dL_open_14 (v := nI 0) kc_i_0 ?_
    exact j_iretM C rw_ hQ (by decide) (by decide) (by decide +kernel) ⟨0, rfl, hk.symm, Or.inl ⟨rfl, r, w1, _, hr, hP, rfl, rfl⟩⟩ dL_open_15
set_option maxHeartbeats 4000000 in
set_option maxRecDepth 100000 in
theorem c_L_pass (l : Launch) (T : jj_T) (hlS : l.stackTraces = false) {h7 out : Nat} {ac ap : Nat} {ash : Bool} {an : Nat} {aob arq : Nat → Int32} {cn : Nat} {M : Nat → aS} {S : Nat → Option aS} {w : va_W} {f : Nat → Int64} (x : Int32) (W0 : PW T h7 ((ac, ap, ash, an, aob, arq), cn, M, S) w) (O : okS ((ac, ap, ash, an, aob, arq), cn, M, S)) : jW l T yL_pass wsL_pass { frames := 8, cells := 6, slots := 57, locals := 146 } [.ref h7, .int x, .ref out] ((out, cJ T 1 f) :: w) (fun v w1 => ∃ k : Nat, v = some (.int (nI k)) ∧ k = kf_pass ac ap ash an aob arq cn M S x ∧ ((k = 0 ∧ ∃ (r : Int32) (w2 : va_W) (f2 : Nat → Int64), rs_pass ac ap ash an aob arq cn M S x r ∧ PW T h7 (nx_pass ac ap ash an aob arq cn M S x r) w2 ∧ f2 0 = r.toInt64 ∧ w1 = (out, cJ T 1 f2) :: w2) ∨ (k ≠ 0 ∧ ∃ w2 : va_W, PW T h7 ((ac, ap, ash, an, aob, arq), cn, M, S) w2 ∧ w1 = (out, cJ T 1 f) :: w2))) := by
  refine jW.of (cc := cL_pass) (maxL := 4) (ret := some .int) (hh := [(0, 9, 12, 18), (0, 9, 15, 46)]) (by decide) rfl (Nat.le_of_ble_eq_true rfl) ?_
  intro X C rw_ hl hT hQ hTab hZ
  subst hl; subst hT
  obtain ⟨fs, hm⟩ := PW.mem W0
  show jj X 0 0 0 [(0, .ref h7), (1, .int x), (2, .ref out)] [] ((out, cJ (xT X) 1 f) :: w)
  refine j_aload_n C dL_pass_0 2 rfl rfl ?_
  refine j_iconst C dL_pass_1 (v := nI 0) kc_i_0 ?_
  refine j_aload_n C dL_pass_2 0 rfl rfl ?_
  refine j_iload_n C dL_pass_3 1 rfl rfl ?_
  refine j_callVXp C rw_ hZ (nA := 1) (As := [.int x]) (wc := w) (wr := [(out, cJ (xT X) 1 f)]) (k_X7_pass (xl X) (xT X) hlS x W0 O) gL_pass_X7_pass rfl (by decide +kernel) rfl (by decide) (by decide) (List.perm_append_comm (l₁ := [(out, cJ (xT X) 1 f)]) (l₂ := w)) hm (ci := 7) rfl (rest := [.int (nI 0), .ref out]) rfl (Nat.le_of_ble_eq_true rfl) dL_pass_4 (fun Ex w1 h => ?_) (fun v w1 h => ?_)
  · obtain ⟨i, hi, hk, hP⟩ := h
    refine jjT_permP C List.perm_append_comm ?_
    rcases i with _ | i
    · cases hi
      refine jT_catch C [] (⟨0, 9, 12, 18⟩ : ExceptionTableEntry) [(⟨0, 9, 15, 46⟩ : ExceptionTableEntry)] hTab (by decide) (fun z hz => absurd hz List.not_mem_nil) (by decide) (by decide) (by decide +kernel) (fun q => ?_)
      refine j_astore_n C dL_pass_12 rfl (by decide) rfl ?_
      refine j_iconst C dL_pass_13 (v := nI 1) kc_i_1 ?_
      exact j_iretM C rw_ hQ (by decide) (by decide) (by decide +kernel) ⟨1, rfl, hk.symm, Or.inr ⟨by decide, w1, hP, rfl⟩⟩ dL_pass_14
    rcases i with _ | i
    · cases hi
      refine jT_catch C [(⟨0, 9, 12, 18⟩ : ExceptionTableEntry)] (⟨0, 9, 15, 46⟩ : ExceptionTableEntry) [] hTab (by decide) (List.forall_mem_cons.mpr ⟨⟨by decide, jE2, by decide, by decide, by decide +kernel⟩, (fun z hz => absurd hz List.not_mem_nil)⟩) (by decide) (by decide) (by decide +kernel) (fun q => ?_)
      refine j_astore_n C dL_pass_15 rfl (by decide) rfl ?_
      refine j_iconst C dL_pass_16 (v := nI 2) kc_i_2 ?_
      exact j_iretM C rw_ hQ (by decide) (by decide) (by decide +kernel) ⟨2, rfl, hk.symm, Or.inr ⟨by decide, w1, hP, rfl⟩⟩ dL_pass_17
    · cases hi
  · obtain ⟨hk, r, rfl, hr, hP⟩ := h
    refine j_permP C List.perm_append_comm ?_
    refine j_i2l C dL_pass_7 rfl ?_
    refine j_lastore C rw_ (i := nI 0) (x := r.toInt64) 0 rfl (nI_in (by decide) (by decide)) (w' := (out, cJ (xT X) 1 (vp_updL f (nI 0).toNatClampNeg r.toInt64)) :: w1) rfl dL_pass_8 ?_
    refine j_goto C dL_pass_9 (tgt := 18) (by decide) ?_
    refine j_iconst C dL_pass_18 (v := nI 0) kc_i_0 ?_
    exact j_iretM C rw_ hQ (by decide) (by decide) (by decide +kernel) ⟨0, rfl, hk.symm, Or.inl ⟨rfl, r, w1, _, hr, hP, rfl, rfl⟩⟩ dL_pass_19
set_option maxHeartbeats 4000000 in
set_option maxRecDepth 100000 in
theorem c_L_addRequest (l : Launch) (T : jj_T) (hlS : l.stackTraces = false) {h7 out : Nat} {ac ap : Nat} {ash : Bool} {an : Nat} {aob arq : Nat → Int32} {cn : Nat} {M : Nat → aS} {S : Nat → Option aS} {w : va_W} {f : Nat → Int64} (x : Int32) (y : Int32) (z : Int32) (W0 : PW T h7 ((ac, ap, ash, an, aob, arq), cn, M, S) w) (O : okS ((ac, ap, ash, an, aob, arq), cn, M, S)) : jW l T yL_addRequest wsL_addRequest { frames := 8, cells := 7, slots := 63, locals := 148 } [.ref h7, .int x, .int y, .int z, .ref out] ((out, cJ T 1 f) :: w) (fun v w1 => ∃ k : Nat, v = some (.int (nI k)) ∧ k = kf_addRequest ac ap ash an aob arq cn M S x y z ∧ ((k = 0 ∧ ∃ (r : Int32) (w2 : va_W) (f2 : Nat → Int64), rs_addRequest ac ap ash an aob arq cn M S x y z r ∧ PW T h7 (nx_addRequest ac ap ash an aob arq cn M S x y z r) w2 ∧ f2 0 = r.toInt64 ∧ w1 = (out, cJ T 1 f2) :: w2) ∨ (k ≠ 0 ∧ ∃ w2 : va_W, PW T h7 ((ac, ap, ash, an, aob, arq), cn, M, S) w2 ∧ w1 = (out, cJ T 1 f) :: w2))) := by
  refine jW.of (cc := cL_addRequest) (maxL := 6) (ret := some .int) (hh := [(0, 12, 15, 13), (0, 12, 19, 18), (0, 12, 23, 46)]) (by decide) rfl (Nat.le_of_ble_eq_true rfl) ?_
  intro X C rw_ hl hT hQ hTab hZ
  subst hl; subst hT
  obtain ⟨fs, hm⟩ := PW.mem W0
  show jj X 0 0 0 [(0, .ref h7), (1, .int x), (2, .int y), (3, .int z), (4, .ref out)] [] ((out, cJ (xT X) 1 f) :: w)
  refine j_aload C dL_addRequest_0 4 rfl ?_
  refine j_iconst C dL_addRequest_2 (v := nI 0) kc_i_0 ?_
  refine j_aload_n C dL_addRequest_3 0 rfl rfl ?_
  refine j_iload_n C dL_addRequest_4 1 rfl rfl ?_
  refine j_iload_n C dL_addRequest_5 2 rfl rfl ?_
  refine j_iload_n C dL_addRequest_6 3 rfl rfl ?_
  refine j_callVXp C rw_ hZ (nA := 3) (As := [.int x, .int y, .int z]) (wc := w) (wr := [(out, cJ (xT X) 1 f)]) (k_X7_addRequest (xl X) (xT X) hlS x y z W0 O) gL_addRequest_X7_addRequest rfl (by decide +kernel) rfl (by decide) (by decide) (List.perm_append_comm (l₁ := [(out, cJ (xT X) 1 f)]) (l₂ := w)) hm (ci := 7) rfl (rest := [.int (nI 0), .ref out]) rfl (Nat.le_of_ble_eq_true rfl) dL_addRequest_7 (fun Ex w1 h => ?_) (fun v w1 h => ?_)
  · obtain ⟨i, hi, hk, hP⟩ := h
    refine jjT_permP C List.perm_append_comm ?_
    rcases i with _ | i
    · cases hi
      refine jT_catch C [] (⟨0, 12, 15, 13⟩ : ExceptionTableEntry) [(⟨0, 12, 19, 18⟩ : ExceptionTableEntry), (⟨0, 12, 23, 46⟩ : ExceptionTableEntry)] hTab (by decide) (fun z hz => absurd hz List.not_mem_nil) (by decide) (by decide) (by decide +kernel) (fun q => ?_)
      refine j_astore C dL_addRequest_15 (by decide) rfl ?_
      refine j_iconst C dL_addRequest_17 (v := nI 1) kc_i_1 ?_
      exact j_iretM C rw_ hQ (by decide) (by decide) (by decide +kernel) ⟨1, rfl, hk.symm, Or.inr ⟨by decide, w1, hP, rfl⟩⟩ dL_addRequest_18
    rcases i with _ | i
    · cases hi
      refine jT_catch C [(⟨0, 12, 15, 13⟩ : ExceptionTableEntry)] (⟨0, 12, 19, 18⟩ : ExceptionTableEntry) [(⟨0, 12, 23, 46⟩ : ExceptionTableEntry)] hTab (by decide) (List.forall_mem_cons.mpr ⟨⟨by decide, jE1, by decide, by decide, by decide +kernel⟩, (fun z hz => absurd hz List.not_mem_nil)⟩) (by decide) (by decide) (by decide +kernel) (fun q => ?_)
      refine j_astore C dL_addRequest_19 (by decide) rfl ?_
      refine j_iconst C dL_addRequest_21 (v := nI 2) kc_i_2 ?_
      exact j_iretM C rw_ hQ (by decide) (by decide) (by decide +kernel) ⟨2, rfl, hk.symm, Or.inr ⟨by decide, w1, hP, rfl⟩⟩ dL_addRequest_22
    rcases i with _ | i
    · cases hi
      refine jT_catch C [(⟨0, 12, 15, 13⟩ : ExceptionTableEntry), (⟨0, 12, 19, 18⟩ : ExceptionTableEntry)] (⟨0, 12, 23, 46⟩ : ExceptionTableEntry) [] hTab (by decide) (List.forall_mem_cons.mpr ⟨⟨by decide, jE1, by decide, by decide, by decide +kernel⟩, (List.forall_mem_cons.mpr ⟨⟨by decide, jE2, by decide, by decide, by decide +kernel⟩, (fun z hz => absurd hz List.not_mem_nil)⟩)⟩) (by decide) (by decide) (by decide +kernel) (fun q => ?_)
      refine j_astore C dL_addRequest_23 (by decide) rfl ?_
      refine j_iconst C dL_addRequest_25 (v := nI 3) kc_i_3 ?_
      exact j_iretM C rw_ hQ (by decide) (by decide) (by decide +kernel) ⟨3, rfl, hk.symm, Or.inr ⟨by decide, w1, hP, rfl⟩⟩ dL_addRequest_26
    · cases hi
  · obtain ⟨hk, r, rfl, hr, hP⟩ := h
    refine j_permP C List.perm_append_comm ?_
    refine j_i2l C dL_addRequest_10 rfl ?_
    refine j_lastore C rw_ (i := nI 0) (x := r.toInt64) 0 rfl (nI_in (by decide) (by decide)) (w' := (out, cJ (xT X) 1 (vp_updL f (nI 0).toNatClampNeg r.toInt64)) :: w1) rfl dL_addRequest_11 ?_
    refine j_goto C dL_addRequest_12 (tgt := 27) (by decide) ?_
    refine j_iconst C dL_addRequest_27 (v := nI 0) kc_i_0 ?_
    exact j_iretM C rw_ hQ (by decide) (by decide) (by decide +kernel) ⟨0, rfl, hk.symm, Or.inl ⟨rfl, r, w1, _, hr, hP, rfl, rfl⟩⟩ dL_addRequest_28
set_option maxHeartbeats 4000000 in
set_option maxRecDepth 100000 in
theorem c_L_removeRequest (l : Launch) (T : jj_T) (hlS : l.stackTraces = false) {h7 out : Nat} {ac ap : Nat} {ash : Bool} {an : Nat} {aob arq : Nat → Int32} {cn : Nat} {M : Nat → aS} {S : Nat → Option aS} {w : va_W} {f : Nat → Int64} (x : Int32) (W0 : PW T h7 ((ac, ap, ash, an, aob, arq), cn, M, S) w) (O : okS ((ac, ap, ash, an, aob, arq), cn, M, S)) : jW l T yL_removeRequest wsL_removeRequest { frames := 8, cells := 4, slots := 45, locals := 146 } [.ref h7, .int x, .ref out] ((out, cJ T 1 f) :: w) (fun v w1 => ∃ k : Nat, v = some (.int (nI k)) ∧ k = kf_removeRequest ac ap ash an aob arq cn M S x ∧ ((k = 0 ∧ ∃ (r : Int32) (w2 : va_W) (f2 : Nat → Int64), rs_removeRequest ac ap ash an aob arq cn M S x r ∧ PW T h7 (nx_removeRequest ac ap ash an aob arq cn M S x r) w2 ∧ f2 0 = r.toInt64 ∧ w1 = (out, cJ T 1 f2) :: w2) ∨ (k ≠ 0 ∧ ∃ w2 : va_W, PW T h7 ((ac, ap, ash, an, aob, arq), cn, M, S) w2 ∧ w1 = (out, cJ T 1 f) :: w2))) := by
  refine jW.of (cc := cL_removeRequest) (maxL := 4) (ret := some .int) (hh := [(0, 9, 12, 13)]) (by decide) rfl (Nat.le_of_ble_eq_true rfl) ?_
  intro X C rw_ hl hT hQ hTab hZ
  subst hl; subst hT
  obtain ⟨fs, hm⟩ := PW.mem W0
  show jj X 0 0 0 [(0, .ref h7), (1, .int x), (2, .ref out)] [] ((out, cJ (xT X) 1 f) :: w)
  refine j_aload_n C dL_removeRequest_0 2 rfl rfl ?_
  refine j_iconst C dL_removeRequest_1 (v := nI 0) kc_i_0 ?_
  refine j_aload_n C dL_removeRequest_2 0 rfl rfl ?_
  refine j_iload_n C dL_removeRequest_3 1 rfl rfl ?_
  refine j_callVXp C rw_ hZ (nA := 1) (As := [.int x]) (wc := w) (wr := [(out, cJ (xT X) 1 f)]) (k_X7_removeRequest (xl X) (xT X) hlS x W0 O) gL_removeRequest_X7_removeRequest rfl (by decide +kernel) rfl (by decide) (by decide) (List.perm_append_comm (l₁ := [(out, cJ (xT X) 1 f)]) (l₂ := w)) hm (ci := 7) rfl (rest := [.int (nI 0), .ref out]) rfl (Nat.le_of_ble_eq_true rfl) dL_removeRequest_4 (fun Ex w1 h => ?_) (fun v w1 h => ?_)
  · obtain ⟨i, hi, hk, hP⟩ := h
    refine jjT_permP C List.perm_append_comm ?_
    rcases i with _ | i
    · cases hi
      refine jT_catch C [] (⟨0, 9, 12, 13⟩ : ExceptionTableEntry) [] hTab (by decide) (fun z hz => absurd hz List.not_mem_nil) (by decide) (by decide) (by decide +kernel) (fun q => ?_)
      refine j_astore_n C dL_removeRequest_12 rfl (by decide) rfl ?_
      refine j_iconst C dL_removeRequest_13 (v := nI 1) kc_i_1 ?_
      exact j_iretM C rw_ hQ (by decide) (by decide) (by decide +kernel) ⟨1, rfl, hk.symm, Or.inr ⟨by decide, w1, hP, rfl⟩⟩ dL_removeRequest_14
    · cases hi
  · obtain ⟨hk, r, rfl, hr, hP⟩ := h
    refine j_permP C List.perm_append_comm ?_
    refine j_i2l C dL_removeRequest_7 rfl ?_
    refine j_lastore C rw_ (i := nI 0) (x := r.toInt64) 0 rfl (nI_in (by decide) (by decide)) (w' := (out, cJ (xT X) 1 (vp_updL f (nI 0).toNatClampNeg r.toInt64)) :: w1) rfl dL_removeRequest_8 ?_
    refine j_goto C dL_removeRequest_9 (tgt := 15) (by decide) ?_
    refine j_iconst C dL_removeRequest_15 (v := nI 0) kc_i_0 ?_
    exact j_iretM C rw_ hQ (by decide) (by decide) (by decide +kernel) ⟨0, rfl, hk.symm, Or.inl ⟨rfl, r, w1, _, hr, hP, rfl, rfl⟩⟩ dL_removeRequest_16
set_option maxHeartbeats 4000000 in
set_option maxRecDepth 100000 in
theorem c_L_arrival (l : Launch) (T : jj_T) (hlS : l.stackTraces = false) {h7 out : Nat} {ac ap : Nat} {ash : Bool} {an : Nat} {aob arq : Nat → Int32} {cn : Nat} {M : Nat → aS} {S : Nat → Option aS} {w : va_W} {f : Nat → Int64} (x : Int32) (W0 : PW T h7 ((ac, ap, ash, an, aob, arq), cn, M, S) w) (O : okS ((ac, ap, ash, an, aob, arq), cn, M, S)) : jW l T yL_arrival wsL_arrival { frames := 8, cells := 2, slots := 12, locals := 144 } [.ref h7, .int x, .ref out] ((out, cJ T 1 f) :: w) (fun v w1 => ∃ k : Nat, v = some (.int (nI k)) ∧ k = kf_arrival ac ap ash an aob arq cn M S x ∧ ((k = 0 ∧ ∃ (r : Int32) (w2 : va_W) (f2 : Nat → Int64), rs_arrival ac ap ash an aob arq cn M S x r ∧ PW T h7 (nx_arrival ac ap ash an aob arq cn M S x r) w2 ∧ f2 0 = r.toInt64 ∧ w1 = (out, cJ T 1 f2) :: w2) ∨ (k ≠ 0 ∧ ∃ w2 : va_W, PW T h7 ((ac, ap, ash, an, aob, arq), cn, M, S) w2 ∧ w1 = (out, cJ T 1 f) :: w2))) := by
  refine jW.of (cc := cL_arrival) (maxL := 4) (ret := some .int) (hh := [(0, 9, 12, 13), (0, 9, 15, 46)]) (by decide) rfl (Nat.le_of_ble_eq_true rfl) ?_
  intro X C rw_ hl hT hQ hTab hZ
  subst hl; subst hT
  obtain ⟨fs, hm⟩ := PW.mem W0
  show jj X 0 0 0 [(0, .ref h7), (1, .int x), (2, .ref out)] [] ((out, cJ (xT X) 1 f) :: w)
  refine j_aload_n C dL_arrival_0 2 rfl rfl ?_
  refine j_iconst C dL_arrival_1 (v := nI 0) kc_i_0 ?_
  refine j_aload_n C dL_arrival_2 0 rfl rfl ?_
  refine j_iload_n C dL_arrival_3 1 rfl rfl ?_
  refine j_callVXp C rw_ hZ (nA := 1) (As := [.int x]) (wc := w) (wr := [(out, cJ (xT X) 1 f)]) (k_X7_arrival (xl X) (xT X) hlS x W0 O) gL_arrival_X7_arrival rfl (by decide +kernel) rfl (by decide) (by decide) (List.perm_append_comm (l₁ := [(out, cJ (xT X) 1 f)]) (l₂ := w)) hm (ci := 7) rfl (rest := [.int (nI 0), .ref out]) rfl (Nat.le_of_ble_eq_true rfl) dL_arrival_4 (fun Ex w1 h => ?_) (fun v w1 h => ?_)
  · obtain ⟨i, hi, hk, hP⟩ := h
    refine jjT_permP C List.perm_append_comm ?_
    rcases i with _ | i
    · cases hi
      refine jT_catch C [] (⟨0, 9, 12, 13⟩ : ExceptionTableEntry) [(⟨0, 9, 15, 46⟩ : ExceptionTableEntry)] hTab (by decide) (fun z hz => absurd hz List.not_mem_nil) (by decide) (by decide) (by decide +kernel) (fun q => ?_)
      refine j_astore_n C dL_arrival_12 rfl (by decide) rfl ?_
      refine j_iconst C dL_arrival_13 (v := nI 1) kc_i_1 ?_
      exact j_iretM C rw_ hQ (by decide) (by decide) (by decide +kernel) ⟨1, rfl, hk.symm, Or.inr ⟨by decide, w1, hP, rfl⟩⟩ dL_arrival_14
    rcases i with _ | i
    · cases hi
      refine jT_catch C [(⟨0, 9, 12, 13⟩ : ExceptionTableEntry)] (⟨0, 9, 15, 46⟩ : ExceptionTableEntry) [] hTab (by decide) (List.forall_mem_cons.mpr ⟨⟨by decide, jE1, by decide, by decide, by decide +kernel⟩, (fun z hz => absurd hz List.not_mem_nil)⟩) (by decide) (by decide) (by decide +kernel) (fun q => ?_)
      refine j_astore_n C dL_arrival_15 rfl (by decide) rfl ?_
      refine j_iconst C dL_arrival_16 (v := nI 2) kc_i_2 ?_
      exact j_iretM C rw_ hQ (by decide) (by decide) (by decide +kernel) ⟨2, rfl, hk.symm, Or.inr ⟨by decide, w1, hP, rfl⟩⟩ dL_arrival_17
    · cases hi
  · obtain ⟨hk, r, rfl, hr, hP⟩ := h
    refine j_permP C List.perm_append_comm ?_
    refine j_i2l C dL_arrival_7 rfl ?_
    refine j_lastore C rw_ (i := nI 0) (x := r.toInt64) 0 rfl (nI_in (by decide) (by decide)) (w' := (out, cJ (xT X) 1 (vp_updL f (nI 0).toNatClampNeg r.toInt64)) :: w1) rfl dL_arrival_8 ?_
    refine j_goto C dL_arrival_9 (tgt := 18) (by decide) ?_
    refine j_iconst C dL_arrival_18 (v := nI 0) kc_i_0 ?_
    exact j_iretM C rw_ hQ (by decide) (by decide) (by decide +kernel) ⟨0, rfl, hk.symm, Or.inl ⟨rfl, r, w1, _, hr, hP, rfl, rfl⟩⟩ dL_arrival_19
set_option maxHeartbeats 4000000 in
set_option maxRecDepth 100000 in
theorem c_L_planCell (l : Launch) (T : jj_T) (hlS : l.stackTraces = false) {h7 out : Nat} {ac ap : Nat} {ash : Bool} {an : Nat} {aob arq : Nat → Int32} {cn : Nat} {M : Nat → aS} {S : Nat → Option aS} {w : va_W} {f : Nat → Int64} (x : Int32) (y : Int32) (W0 : PW T h7 ((ac, ap, ash, an, aob, arq), cn, M, S) w) (O : okS ((ac, ap, ash, an, aob, arq), cn, M, S)) : jW l T yL_planCell wsL_planCell { frames := 8, cells := 3, slots := 18, locals := 164 } [.ref h7, .int x, .int y, .ref out] ((out, cJ T 1 f) :: w) (fun v w1 => ∃ k : Nat, v = some (.int (nI k)) ∧ k = kf_planCell ac ap ash an aob arq cn M S x y ∧ ((k = 0 ∧ ∃ (r : Int32) (w2 : va_W) (f2 : Nat → Int64), rs_planCell ac ap ash an aob arq cn M S x y r ∧ PW T h7 (nx_planCell ac ap ash an aob arq cn M S x y r) w2 ∧ f2 0 = r.toInt64 ∧ w1 = (out, cJ T 1 f2) :: w2) ∨ (k ≠ 0 ∧ ∃ w2 : va_W, PW T h7 ((ac, ap, ash, an, aob, arq), cn, M, S) w2 ∧ w1 = (out, cJ T 1 f) :: w2))) := by
  refine jW.of (cc := cL_planCell) (maxL := 5) (ret := some .int) (hh := [(0, 10, 13, 13), (0, 10, 17, 18), (0, 10, 21, 46)]) (by decide) rfl (Nat.le_of_ble_eq_true rfl) ?_
  intro X C rw_ hl hT hQ hTab hZ
  subst hl; subst hT
  obtain ⟨fs, hm⟩ := PW.mem W0
  show jj X 0 0 0 [(0, .ref h7), (1, .int x), (2, .int y), (3, .ref out)] [] ((out, cJ (xT X) 1 f) :: w)
  refine j_aload_n C dL_planCell_0 3 rfl rfl ?_
  refine j_iconst C dL_planCell_1 (v := nI 0) kc_i_0 ?_
  refine j_aload_n C dL_planCell_2 0 rfl rfl ?_
  refine j_iload_n C dL_planCell_3 1 rfl rfl ?_
  refine j_iload_n C dL_planCell_4 2 rfl rfl ?_
  refine j_callVXp C rw_ hZ (nA := 2) (As := [.int x, .int y]) (wc := w) (wr := [(out, cJ (xT X) 1 f)]) (k_X7_planCell (xl X) (xT X) hlS x y W0 O) gL_planCell_X7_planCell rfl (by decide +kernel) rfl (by decide) (by decide) (List.perm_append_comm (l₁ := [(out, cJ (xT X) 1 f)]) (l₂ := w)) hm (ci := 7) rfl (rest := [.int (nI 0), .ref out]) rfl (Nat.le_of_ble_eq_true rfl) dL_planCell_5 (fun Ex w1 h => ?_) (fun v w1 h => ?_)
  · obtain ⟨i, hi, hk, hP⟩ := h
    refine jjT_permP C List.perm_append_comm ?_
    rcases i with _ | i
    · cases hi
      refine jT_catch C [] (⟨0, 10, 13, 13⟩ : ExceptionTableEntry) [(⟨0, 10, 17, 18⟩ : ExceptionTableEntry), (⟨0, 10, 21, 46⟩ : ExceptionTableEntry)] hTab (by decide) (fun z hz => absurd hz List.not_mem_nil) (by decide) (by decide) (by decide +kernel) (fun q => ?_)
      refine j_astore C dL_planCell_13 (by decide) rfl ?_
      refine j_iconst C dL_planCell_15 (v := nI 1) kc_i_1 ?_
      exact j_iretM C rw_ hQ (by decide) (by decide) (by decide +kernel) ⟨1, rfl, hk.symm, Or.inr ⟨by decide, w1, hP, rfl⟩⟩ dL_planCell_16
    rcases i with _ | i
    · cases hi
      refine jT_catch C [(⟨0, 10, 13, 13⟩ : ExceptionTableEntry)] (⟨0, 10, 17, 18⟩ : ExceptionTableEntry) [(⟨0, 10, 21, 46⟩ : ExceptionTableEntry)] hTab (by decide) (List.forall_mem_cons.mpr ⟨⟨by decide, jE1, by decide, by decide, by decide +kernel⟩, (fun z hz => absurd hz List.not_mem_nil)⟩) (by decide) (by decide) (by decide +kernel) (fun q => ?_)
      refine j_astore C dL_planCell_17 (by decide) rfl ?_
      refine j_iconst C dL_planCell_19 (v := nI 2) kc_i_2 ?_
      exact j_iretM C rw_ hQ (by decide) (by decide) (by decide +kernel) ⟨2, rfl, hk.symm, Or.inr ⟨by decide, w1, hP, rfl⟩⟩ dL_planCell_20
    rcases i with _ | i
    · cases hi
      refine jT_catch C [(⟨0, 10, 13, 13⟩ : ExceptionTableEntry), (⟨0, 10, 17, 18⟩ : ExceptionTableEntry)] (⟨0, 10, 21, 46⟩ : ExceptionTableEntry) [] hTab (by decide) (List.forall_mem_cons.mpr ⟨⟨by decide, jE1, by decide, by decide, by decide +kernel⟩, (List.forall_mem_cons.mpr ⟨⟨by decide, jE2, by decide, by decide, by decide +kernel⟩, (fun z hz => absurd hz List.not_mem_nil)⟩)⟩) (by decide) (by decide) (by decide +kernel) (fun q => ?_)
      refine j_astore C dL_planCell_21 (by decide) rfl ?_
      refine j_iconst C dL_planCell_23 (v := nI 3) kc_i_3 ?_
      exact j_iretM C rw_ hQ (by decide) (by decide) (by decide +kernel) ⟨3, rfl, hk.symm, Or.inr ⟨by decide, w1, hP, rfl⟩⟩ dL_planCell_24
    · cases hi
  · obtain ⟨hk, r, rfl, hr, hP⟩ := h
    refine j_permP C List.perm_append_comm ?_
    refine j_i2l C dL_planCell_8 rfl ?_
    refine j_lastore C rw_ (i := nI 0) (x := r.toInt64) 0 rfl (nI_in (by decide) (by decide)) (w' := (out, cJ (xT X) 1 (vp_updL f (nI 0).toNatClampNeg r.toInt64)) :: w1) rfl dL_planCell_9 ?_
    refine j_goto C dL_planCell_10 (tgt := 25) (by decide) ?_
    refine j_iconst C dL_planCell_25 (v := nI 0) kc_i_0 ?_
    exact j_iretM C rw_ hQ (by decide) (by decide) (by decide +kernel) ⟨0, rfl, hk.symm, Or.inl ⟨rfl, r, w1, _, hr, hP, rfl, rfl⟩⟩ dL_planCell_26
set_option maxHeartbeats 4000000 in
set_option maxRecDepth 100000 in
theorem c_L_reachableCells (l : Launch) (T : jj_T) (hlS : l.stackTraces = false) {h7 out : Nat} {ac ap : Nat} {ash : Bool} {an : Nat} {aob arq : Nat → Int32} {cn : Nat} {M : Nat → aS} {S : Nat → Option aS} {w : va_W} {f : Nat → Int64} (x : Int32) (W0 : PW T h7 ((ac, ap, ash, an, aob, arq), cn, M, S) w) (O : okS ((ac, ap, ash, an, aob, arq), cn, M, S)) : jW l T yL_reachableCells wsL_reachableCells { frames := 8, cells := 2, slots := 12, locals := 144 } [.ref h7, .int x, .ref out] ((out, cJ T 1 f) :: w) (fun v w1 => ∃ k : Nat, v = some (.int (nI k)) ∧ k = kf_reachableCells ac ap ash an aob arq cn M S x ∧ ((k = 0 ∧ ∃ (r : Int32) (w2 : va_W) (f2 : Nat → Int64), rs_reachableCells ac ap ash an aob arq cn M S x r ∧ PW T h7 (nx_reachableCells ac ap ash an aob arq cn M S x r) w2 ∧ f2 0 = r.toInt64 ∧ w1 = (out, cJ T 1 f2) :: w2) ∨ (k ≠ 0 ∧ ∃ w2 : va_W, PW T h7 ((ac, ap, ash, an, aob, arq), cn, M, S) w2 ∧ w1 = (out, cJ T 1 f) :: w2))) := by
  refine jW.of (cc := cL_reachableCells) (maxL := 4) (ret := some .int) (hh := [(0, 9, 12, 18), (0, 9, 15, 46)]) (by decide) rfl (Nat.le_of_ble_eq_true rfl) ?_
  intro X C rw_ hl hT hQ hTab hZ
  subst hl; subst hT
  obtain ⟨fs, hm⟩ := PW.mem W0
  show jj X 0 0 0 [(0, .ref h7), (1, .int x), (2, .ref out)] [] ((out, cJ (xT X) 1 f) :: w)
  refine j_aload_n C dL_reachableCells_0 2 rfl rfl ?_
  refine j_iconst C dL_reachableCells_1 (v := nI 0) kc_i_0 ?_
  refine j_aload_n C dL_reachableCells_2 0 rfl rfl ?_
  refine j_iload_n C dL_reachableCells_3 1 rfl rfl ?_
  refine j_callVXp C rw_ hZ (nA := 1) (As := [.int x]) (wc := w) (wr := [(out, cJ (xT X) 1 f)]) (k_X7_reachableCells (xl X) (xT X) hlS x W0 O) gL_reachableCells_X7_reachableCells rfl (by decide +kernel) rfl (by decide) (by decide) (List.perm_append_comm (l₁ := [(out, cJ (xT X) 1 f)]) (l₂ := w)) hm (ci := 7) rfl (rest := [.int (nI 0), .ref out]) rfl (Nat.le_of_ble_eq_true rfl) dL_reachableCells_4 (fun Ex w1 h => ?_) (fun v w1 h => ?_)
  · obtain ⟨i, hi, hk, hP⟩ := h
    refine jjT_permP C List.perm_append_comm ?_
    rcases i with _ | i
    · cases hi
      refine jT_catch C [] (⟨0, 9, 12, 18⟩ : ExceptionTableEntry) [(⟨0, 9, 15, 46⟩ : ExceptionTableEntry)] hTab (by decide) (fun z hz => absurd hz List.not_mem_nil) (by decide) (by decide) (by decide +kernel) (fun q => ?_)
      refine j_astore_n C dL_reachableCells_12 rfl (by decide) rfl ?_
      refine j_iconst C dL_reachableCells_13 (v := nI 1) kc_i_1 ?_
      exact j_iretM C rw_ hQ (by decide) (by decide) (by decide +kernel) ⟨1, rfl, hk.symm, Or.inr ⟨by decide, w1, hP, rfl⟩⟩ dL_reachableCells_14
    rcases i with _ | i
    · cases hi
      refine jT_catch C [(⟨0, 9, 12, 18⟩ : ExceptionTableEntry)] (⟨0, 9, 15, 46⟩ : ExceptionTableEntry) [] hTab (by decide) (List.forall_mem_cons.mpr ⟨⟨by decide, jE2, by decide, by decide, by decide +kernel⟩, (fun z hz => absurd hz List.not_mem_nil)⟩) (by decide) (by decide) (by decide +kernel) (fun q => ?_)
      refine j_astore_n C dL_reachableCells_15 rfl (by decide) rfl ?_
      refine j_iconst C dL_reachableCells_16 (v := nI 2) kc_i_2 ?_
      exact j_iretM C rw_ hQ (by decide) (by decide) (by decide +kernel) ⟨2, rfl, hk.symm, Or.inr ⟨by decide, w1, hP, rfl⟩⟩ dL_reachableCells_17
    · cases hi
  · obtain ⟨hk, r, rfl, hr, hP⟩ := h
    refine j_permP C List.perm_append_comm ?_
    refine j_i2l C dL_reachableCells_7 rfl ?_
    refine j_lastore C rw_ (i := nI 0) (x := r.toInt64) 0 rfl (nI_in (by decide) (by decide)) (w' := (out, cJ (xT X) 1 (vp_updL f (nI 0).toNatClampNeg r.toInt64)) :: w1) rfl dL_reachableCells_8 ?_
    refine j_goto C dL_reachableCells_9 (tgt := 18) (by decide) ?_
    refine j_iconst C dL_reachableCells_18 (v := nI 0) kc_i_0 ?_
    exact j_iretM C rw_ hQ (by decide) (by decide) (by decide +kernel) ⟨0, rfl, hk.symm, Or.inl ⟨rfl, r, w1, _, hr, hP, rfl, rfl⟩⟩ dL_reachableCells_19
set_option maxHeartbeats 4000000 in
set_option maxRecDepth 100000 in
theorem c_L_parkingCell (l : Launch) (T : jj_T) (hlS : l.stackTraces = false) {h7 out : Nat} {ac ap : Nat} {ash : Bool} {an : Nat} {aob arq : Nat → Int32} {cn : Nat} {M : Nat → aS} {S : Nat → Option aS} {w : va_W} {f : Nat → Int64} (x : Int32) (W0 : PW T h7 ((ac, ap, ash, an, aob, arq), cn, M, S) w) (O : okS ((ac, ap, ash, an, aob, arq), cn, M, S)) : jW l T yL_parkingCell wsL_parkingCell { frames := 8, cells := 2, slots := 12, locals := 164 } [.ref h7, .int x, .ref out] ((out, cJ T 1 f) :: w) (fun v w1 => ∃ k : Nat, v = some (.int (nI k)) ∧ k = kf_parkingCell ac ap ash an aob arq cn M S x ∧ ((k = 0 ∧ ∃ (r : Int32) (w2 : va_W) (f2 : Nat → Int64), rs_parkingCell ac ap ash an aob arq cn M S x r ∧ PW T h7 (nx_parkingCell ac ap ash an aob arq cn M S x r) w2 ∧ f2 0 = r.toInt64 ∧ w1 = (out, cJ T 1 f2) :: w2) ∨ (k ≠ 0 ∧ ∃ w2 : va_W, PW T h7 ((ac, ap, ash, an, aob, arq), cn, M, S) w2 ∧ w1 = (out, cJ T 1 f) :: w2))) := by
  refine jW.of (cc := cL_parkingCell) (maxL := 4) (ret := some .int) (hh := [(0, 9, 12, 18), (0, 9, 15, 46)]) (by decide) rfl (Nat.le_of_ble_eq_true rfl) ?_
  intro X C rw_ hl hT hQ hTab hZ
  subst hl; subst hT
  obtain ⟨fs, hm⟩ := PW.mem W0
  show jj X 0 0 0 [(0, .ref h7), (1, .int x), (2, .ref out)] [] ((out, cJ (xT X) 1 f) :: w)
  refine j_aload_n C dL_parkingCell_0 2 rfl rfl ?_
  refine j_iconst C dL_parkingCell_1 (v := nI 0) kc_i_0 ?_
  refine j_aload_n C dL_parkingCell_2 0 rfl rfl ?_
  refine j_iload_n C dL_parkingCell_3 1 rfl rfl ?_
  refine j_callVXp C rw_ hZ (nA := 1) (As := [.int x]) (wc := w) (wr := [(out, cJ (xT X) 1 f)]) (k_X7_parkingCell (xl X) (xT X) hlS x W0 O) gL_parkingCell_X7_parkingCell rfl (by decide +kernel) rfl (by decide) (by decide) (List.perm_append_comm (l₁ := [(out, cJ (xT X) 1 f)]) (l₂ := w)) hm (ci := 7) rfl (rest := [.int (nI 0), .ref out]) rfl (Nat.le_of_ble_eq_true rfl) dL_parkingCell_4 (fun Ex w1 h => ?_) (fun v w1 h => ?_)
  · obtain ⟨i, hi, hk, hP⟩ := h
    refine jjT_permP C List.perm_append_comm ?_
    rcases i with _ | i
    · cases hi
      refine jT_catch C [] (⟨0, 9, 12, 18⟩ : ExceptionTableEntry) [(⟨0, 9, 15, 46⟩ : ExceptionTableEntry)] hTab (by decide) (fun z hz => absurd hz List.not_mem_nil) (by decide) (by decide) (by decide +kernel) (fun q => ?_)
      refine j_astore_n C dL_parkingCell_12 rfl (by decide) rfl ?_
      refine j_iconst C dL_parkingCell_13 (v := nI 1) kc_i_1 ?_
      exact j_iretM C rw_ hQ (by decide) (by decide) (by decide +kernel) ⟨1, rfl, hk.symm, Or.inr ⟨by decide, w1, hP, rfl⟩⟩ dL_parkingCell_14
    rcases i with _ | i
    · cases hi
      refine jT_catch C [(⟨0, 9, 12, 18⟩ : ExceptionTableEntry)] (⟨0, 9, 15, 46⟩ : ExceptionTableEntry) [] hTab (by decide) (List.forall_mem_cons.mpr ⟨⟨by decide, jE2, by decide, by decide, by decide +kernel⟩, (fun z hz => absurd hz List.not_mem_nil)⟩) (by decide) (by decide) (by decide +kernel) (fun q => ?_)
      refine j_astore_n C dL_parkingCell_15 rfl (by decide) rfl ?_
      refine j_iconst C dL_parkingCell_16 (v := nI 2) kc_i_2 ?_
      exact j_iretM C rw_ hQ (by decide) (by decide) (by decide +kernel) ⟨2, rfl, hk.symm, Or.inr ⟨by decide, w1, hP, rfl⟩⟩ dL_parkingCell_17
    · cases hi
  · obtain ⟨hk, r, rfl, hr, hP⟩ := h
    refine j_permP C List.perm_append_comm ?_
    refine j_i2l C dL_parkingCell_7 rfl ?_
    refine j_lastore C rw_ (i := nI 0) (x := r.toInt64) 0 rfl (nI_in (by decide) (by decide)) (w' := (out, cJ (xT X) 1 (vp_updL f (nI 0).toNatClampNeg r.toInt64)) :: w1) rfl dL_parkingCell_8 ?_
    refine j_goto C dL_parkingCell_9 (tgt := 18) (by decide) ?_
    refine j_iconst C dL_parkingCell_18 (v := nI 0) kc_i_0 ?_
    exact j_iretM C rw_ hQ (by decide) (by decide) (by decide +kernel) ⟨0, rfl, hk.symm, Or.inl ⟨rfl, r, w1, _, hr, hP, rfl, rfl⟩⟩ dL_parkingCell_19
set_option maxHeartbeats 4000000 in
set_option maxRecDepth 100000 in
theorem c_L_parkingSteps (l : Launch) (T : jj_T) (hlS : l.stackTraces = false) {h7 out : Nat} {ac ap : Nat} {ash : Bool} {an : Nat} {aob arq : Nat → Int32} {cn : Nat} {M : Nat → aS} {S : Nat → Option aS} {w : va_W} {f : Nat → Int64} (x : Int32) (W0 : PW T h7 ((ac, ap, ash, an, aob, arq), cn, M, S) w) (O : okS ((ac, ap, ash, an, aob, arq), cn, M, S)) : jW l T yL_parkingSteps wsL_parkingSteps { frames := 8, cells := 2, slots := 12, locals := 162 } [.ref h7, .int x, .ref out] ((out, cJ T 1 f) :: w) (fun v w1 => ∃ k : Nat, v = some (.int (nI k)) ∧ k = kf_parkingSteps ac ap ash an aob arq cn M S x ∧ ((k = 0 ∧ ∃ (r : Int32) (w2 : va_W) (f2 : Nat → Int64), rs_parkingSteps ac ap ash an aob arq cn M S x r ∧ PW T h7 (nx_parkingSteps ac ap ash an aob arq cn M S x r) w2 ∧ f2 0 = r.toInt64 ∧ w1 = (out, cJ T 1 f2) :: w2) ∨ (k ≠ 0 ∧ ∃ w2 : va_W, PW T h7 ((ac, ap, ash, an, aob, arq), cn, M, S) w2 ∧ w1 = (out, cJ T 1 f) :: w2))) := by
  refine jW.of (cc := cL_parkingSteps) (maxL := 4) (ret := some .int) (hh := [(0, 9, 12, 18), (0, 9, 15, 46)]) (by decide) rfl (Nat.le_of_ble_eq_true rfl) ?_
  intro X C rw_ hl hT hQ hTab hZ
  subst hl; subst hT
  obtain ⟨fs, hm⟩ := PW.mem W0
  show jj X 0 0 0 [(0, .ref h7), (1, .int x), (2, .ref out)] [] ((out, cJ (xT X) 1 f) :: w)
  refine j_aload_n C dL_parkingSteps_0 2 rfl rfl ?_
  refine j_iconst C dL_parkingSteps_1 (v := nI 0) kc_i_0 ?_
  refine j_aload_n C dL_parkingSteps_2 0 rfl rfl ?_
  refine j_iload_n C dL_parkingSteps_3 1 rfl rfl ?_
  refine j_callVXp C rw_ hZ (nA := 1) (As := [.int x]) (wc := w) (wr := [(out, cJ (xT X) 1 f)]) (k_X7_parkingSteps (xl X) (xT X) hlS x W0 O) gL_parkingSteps_X7_parkingSteps rfl (by decide +kernel) rfl (by decide) (by decide) (List.perm_append_comm (l₁ := [(out, cJ (xT X) 1 f)]) (l₂ := w)) hm (ci := 7) rfl (rest := [.int (nI 0), .ref out]) rfl (Nat.le_of_ble_eq_true rfl) dL_parkingSteps_4 (fun Ex w1 h => ?_) (fun v w1 h => ?_)
  · obtain ⟨i, hi, hk, hP⟩ := h
    refine jjT_permP C List.perm_append_comm ?_
    rcases i with _ | i
    · cases hi
      refine jT_catch C [] (⟨0, 9, 12, 18⟩ : ExceptionTableEntry) [(⟨0, 9, 15, 46⟩ : ExceptionTableEntry)] hTab (by decide) (fun z hz => absurd hz List.not_mem_nil) (by decide) (by decide) (by decide +kernel) (fun q => ?_)
      refine j_astore_n C dL_parkingSteps_12 rfl (by decide) rfl ?_
      refine j_iconst C dL_parkingSteps_13 (v := nI 1) kc_i_1 ?_
      exact j_iretM C rw_ hQ (by decide) (by decide) (by decide +kernel) ⟨1, rfl, hk.symm, Or.inr ⟨by decide, w1, hP, rfl⟩⟩ dL_parkingSteps_14
    rcases i with _ | i
    · cases hi
      refine jT_catch C [(⟨0, 9, 12, 18⟩ : ExceptionTableEntry)] (⟨0, 9, 15, 46⟩ : ExceptionTableEntry) [] hTab (by decide) (List.forall_mem_cons.mpr ⟨⟨by decide, jE2, by decide, by decide, by decide +kernel⟩, (fun z hz => absurd hz List.not_mem_nil)⟩) (by decide) (by decide) (by decide +kernel) (fun q => ?_)
      refine j_astore_n C dL_parkingSteps_15 rfl (by decide) rfl ?_
      refine j_iconst C dL_parkingSteps_16 (v := nI 2) kc_i_2 ?_
      exact j_iretM C rw_ hQ (by decide) (by decide) (by decide +kernel) ⟨2, rfl, hk.symm, Or.inr ⟨by decide, w1, hP, rfl⟩⟩ dL_parkingSteps_17
    · cases hi
  · obtain ⟨hk, r, rfl, hr, hP⟩ := h
    refine j_permP C List.perm_append_comm ?_
    refine j_i2l C dL_parkingSteps_7 rfl ?_
    refine j_lastore C rw_ (i := nI 0) (x := r.toInt64) 0 rfl (nI_in (by decide) (by decide)) (w' := (out, cJ (xT X) 1 (vp_updL f (nI 0).toNatClampNeg r.toInt64)) :: w1) rfl dL_parkingSteps_8 ?_
    refine j_goto C dL_parkingSteps_9 (tgt := 18) (by decide) ?_
    refine j_iconst C dL_parkingSteps_18 (v := nI 0) kc_i_0 ?_
    exact j_iretM C rw_ hQ (by decide) (by decide) (by decide +kernel) ⟨0, rfl, hk.symm, Or.inl ⟨rfl, r, w1, _, hr, hP, rfl, rfl⟩⟩ dL_parkingSteps_19
set_option maxHeartbeats 4000000 in
set_option maxRecDepth 100000 in
theorem c_L_requestFinish (l : Launch) (T : jj_T) (hlS : l.stackTraces = false) {h7 out : Nat} {ac ap : Nat} {ash : Bool} {an : Nat} {aob arq : Nat → Int32} {cn : Nat} {M : Nat → aS} {S : Nat → Option aS} {w : va_W} {f : Nat → Int64} (x : Int32) (W0 : PW T h7 ((ac, ap, ash, an, aob, arq), cn, M, S) w) (O : okS ((ac, ap, ash, an, aob, arq), cn, M, S)) : jW l T yL_requestFinish wsL_requestFinish { frames := 8, cells := 2, slots := 12, locals := 146 } [.ref h7, .int x, .ref out] ((out, cJ T 1 f) :: w) (fun v w1 => ∃ k : Nat, v = some (.int (nI k)) ∧ k = kf_requestFinish ac ap ash an aob arq cn M S x ∧ ((k = 0 ∧ ∃ (r : Int32) (w2 : va_W) (f2 : Nat → Int64), rs_requestFinish ac ap ash an aob arq cn M S x r ∧ PW T h7 (nx_requestFinish ac ap ash an aob arq cn M S x r) w2 ∧ f2 0 = r.toInt64 ∧ w1 = (out, cJ T 1 f2) :: w2) ∨ (k ≠ 0 ∧ ∃ w2 : va_W, PW T h7 ((ac, ap, ash, an, aob, arq), cn, M, S) w2 ∧ w1 = (out, cJ T 1 f) :: w2))) := by
  refine jW.of (cc := cL_requestFinish) (maxL := 4) (ret := some .int) (hh := [(0, 9, 12, 13), (0, 9, 15, 46)]) (by decide) rfl (Nat.le_of_ble_eq_true rfl) ?_
  intro X C rw_ hl hT hQ hTab hZ
  subst hl; subst hT
  obtain ⟨fs, hm⟩ := PW.mem W0
  show jj X 0 0 0 [(0, .ref h7), (1, .int x), (2, .ref out)] [] ((out, cJ (xT X) 1 f) :: w)
  refine j_aload_n C dL_requestFinish_0 2 rfl rfl ?_
  refine j_iconst C dL_requestFinish_1 (v := nI 0) kc_i_0 ?_
  refine j_aload_n C dL_requestFinish_2 0 rfl rfl ?_
  refine j_iload_n C dL_requestFinish_3 1 rfl rfl ?_
  refine j_callVXp C rw_ hZ (nA := 1) (As := [.int x]) (wc := w) (wr := [(out, cJ (xT X) 1 f)]) (k_X7_requestFinish (xl X) (xT X) hlS x W0 O) gL_requestFinish_X7_requestFinish rfl (by decide +kernel) rfl (by decide) (by decide) (List.perm_append_comm (l₁ := [(out, cJ (xT X) 1 f)]) (l₂ := w)) hm (ci := 7) rfl (rest := [.int (nI 0), .ref out]) rfl (Nat.le_of_ble_eq_true rfl) dL_requestFinish_4 (fun Ex w1 h => ?_) (fun v w1 h => ?_)
  · obtain ⟨i, hi, hk, hP⟩ := h
    refine jjT_permP C List.perm_append_comm ?_
    rcases i with _ | i
    · cases hi
      refine jT_catch C [] (⟨0, 9, 12, 13⟩ : ExceptionTableEntry) [(⟨0, 9, 15, 46⟩ : ExceptionTableEntry)] hTab (by decide) (fun z hz => absurd hz List.not_mem_nil) (by decide) (by decide) (by decide +kernel) (fun q => ?_)
      refine j_astore_n C dL_requestFinish_12 rfl (by decide) rfl ?_
      refine j_iconst C dL_requestFinish_13 (v := nI 1) kc_i_1 ?_
      exact j_iretM C rw_ hQ (by decide) (by decide) (by decide +kernel) ⟨1, rfl, hk.symm, Or.inr ⟨by decide, w1, hP, rfl⟩⟩ dL_requestFinish_14
    rcases i with _ | i
    · cases hi
      refine jT_catch C [(⟨0, 9, 12, 13⟩ : ExceptionTableEntry)] (⟨0, 9, 15, 46⟩ : ExceptionTableEntry) [] hTab (by decide) (List.forall_mem_cons.mpr ⟨⟨by decide, jE1, by decide, by decide, by decide +kernel⟩, (fun z hz => absurd hz List.not_mem_nil)⟩) (by decide) (by decide) (by decide +kernel) (fun q => ?_)
      refine j_astore_n C dL_requestFinish_15 rfl (by decide) rfl ?_
      refine j_iconst C dL_requestFinish_16 (v := nI 2) kc_i_2 ?_
      exact j_iretM C rw_ hQ (by decide) (by decide) (by decide +kernel) ⟨2, rfl, hk.symm, Or.inr ⟨by decide, w1, hP, rfl⟩⟩ dL_requestFinish_17
    · cases hi
  · obtain ⟨hk, r, rfl, hr, hP⟩ := h
    refine j_permP C List.perm_append_comm ?_
    refine j_i2l C dL_requestFinish_7 rfl ?_
    refine j_lastore C rw_ (i := nI 0) (x := r.toInt64) 0 rfl (nI_in (by decide) (by decide)) (w' := (out, cJ (xT X) 1 (vp_updL f (nI 0).toNatClampNeg r.toInt64)) :: w1) rfl dL_requestFinish_8 ?_
    refine j_goto C dL_requestFinish_9 (tgt := 18) (by decide) ?_
    refine j_iconst C dL_requestFinish_18 (v := nI 0) kc_i_0 ?_
    exact j_iretM C rw_ hQ (by decide) (by decide) (by decide +kernel) ⟨0, rfl, hk.symm, Or.inl ⟨rfl, r, w1, _, hr, hP, rfl, rfl⟩⟩ dL_requestFinish_19
set_option maxHeartbeats 4000000 in
set_option maxRecDepth 100000 in
theorem c_L_bestValue (l : Launch) (T : jj_T) (hlS : l.stackTraces = false) {h7 out : Nat} {ac ap : Nat} {ash : Bool} {an : Nat} {aob arq : Nat → Int32} {cn : Nat} {M : Nat → aS} {S : Nat → Option aS} {w : va_W} {f : Nat → Int64}  (W0 : PW T h7 ((ac, ap, ash, an, aob, arq), cn, M, S) w) (O : okS ((ac, ap, ash, an, aob, arq), cn, M, S)) : jW l T yL_bestValue wsL_bestValue { frames := 19, cells := 1, slots := 6, locals := 674 } [.ref h7, .ref out] ((out, cJ T 1 f) :: w) (fun v w1 => ∃ k : Nat, v = some (.int (nI k)) ∧ k = kf_bestValue ac ap ash an aob arq cn M S ∧ ((k = 0 ∧ ∃ (r : Int32) (w2 : va_W) (f2 : Nat → Int64), rs_bestValue ac ap ash an aob arq cn M S r ∧ PW T h7 (nx_bestValue ac ap ash an aob arq cn M S r) w2 ∧ f2 0 = r.toInt64 ∧ w1 = (out, cJ T 1 f2) :: w2) ∨ (k ≠ 0 ∧ ∃ w2 : va_W, PW T h7 ((ac, ap, ash, an, aob, arq), cn, M, S) w2 ∧ w1 = (out, cJ T 1 f) :: w2))) := by
  refine jW.of (cc := cL_bestValue) (maxL := 3) (ret := some .int) (hh := [(0, 8, 11, 46)]) (by decide) rfl (Nat.le_of_ble_eq_true rfl) ?_
  intro X C rw_ hl hT hQ hTab hZ
  subst hl; subst hT
  obtain ⟨fs, hm⟩ := PW.mem W0
  show jj X 0 0 0 [(0, .ref h7), (1, .ref out)] [] ((out, cJ (xT X) 1 f) :: w)
  refine j_aload_n C dL_bestValue_0 1 rfl rfl ?_
  refine j_iconst C dL_bestValue_1 (v := nI 0) kc_i_0 ?_
  refine j_aload_n C dL_bestValue_2 0 rfl rfl ?_
  refine j_callVXp C rw_ hZ (nA := 0) (As := []) (wc := w) (wr := [(out, cJ (xT X) 1 f)]) (k_X7_bestValue (xl X) (xT X) hlS  W0 O) gL_bestValue_X7_bestValue rfl (by decide +kernel) rfl (by decide) (by decide) (List.perm_append_comm (l₁ := [(out, cJ (xT X) 1 f)]) (l₂ := w)) hm (ci := 7) rfl (rest := [.int (nI 0), .ref out]) rfl (Nat.le_of_ble_eq_true rfl) dL_bestValue_3 (fun Ex w1 h => ?_) (fun v w1 h => ?_)
  · obtain ⟨i, hi, hk, hP⟩ := h
    refine jjT_permP C List.perm_append_comm ?_
    rcases i with _ | i
    · cases hi
      refine jT_catch C [] (⟨0, 8, 11, 46⟩ : ExceptionTableEntry) [] hTab (by decide) (fun z hz => absurd hz List.not_mem_nil) (by decide) (by decide) (by decide +kernel) (fun q => ?_)
      refine j_astore_n C dL_bestValue_11 rfl (by decide) rfl ?_
      refine j_iconst C dL_bestValue_12 (v := nI 1) kc_i_1 ?_
      exact j_iretM C rw_ hQ (by decide) (by decide) (by decide +kernel) ⟨1, rfl, hk.symm, Or.inr ⟨by decide, w1, hP, rfl⟩⟩ dL_bestValue_13
    · cases hi
  · obtain ⟨hk, r, rfl, hr, hP⟩ := h
    refine j_permP C List.perm_append_comm ?_
    refine j_i2l C dL_bestValue_6 rfl ?_
    refine j_lastore C rw_ (i := nI 0) (x := r.toInt64) 0 rfl (nI_in (by decide) (by decide)) (w' := (out, cJ (xT X) 1 (vp_updL f (nI 0).toNatClampNeg r.toInt64)) :: w1) rfl dL_bestValue_7 ?_
    refine j_goto C dL_bestValue_8 (tgt := 14) (by decide) ?_
    refine j_iconst C dL_bestValue_14 (v := nI 0) kc_i_0 ?_
    exact j_iretM C rw_ hQ (by decide) (by decide) (by decide +kernel) ⟨0, rfl, hk.symm, Or.inl ⟨rfl, r, w1, _, hr, hP, rfl, rfl⟩⟩ dL_bestValue_15
set_option maxHeartbeats 4000000 in
set_option maxRecDepth 100000 in
theorem c_L_bestOrder (l : Launch) (T : jj_T) (hlS : l.stackTraces = false) {h7 out : Nat} {ac ap : Nat} {ash : Bool} {an : Nat} {aob arq : Nat → Int32} {cn : Nat} {M : Nat → aS} {S : Nat → Option aS} {w : va_W} {f : Nat → Int64}  (W0 : PW T h7 ((ac, ap, ash, an, aob, arq), cn, M, S) w) (O : okS ((ac, ap, ash, an, aob, arq), cn, M, S)) : jW l T yL_bestOrder wsL_bestOrder { frames := 19, cells := 1, slots := 6, locals := 674 } [.ref h7, .ref out] ((out, cJ T 1 f) :: w) (fun v w1 => ∃ k : Nat, v = some (.int (nI k)) ∧ k = kf_bestOrder ac ap ash an aob arq cn M S ∧ ((k = 0 ∧ ∃ (r : Int32) (w2 : va_W) (f2 : Nat → Int64), rs_bestOrder ac ap ash an aob arq cn M S r ∧ PW T h7 (nx_bestOrder ac ap ash an aob arq cn M S r) w2 ∧ f2 0 = r.toInt64 ∧ w1 = (out, cJ T 1 f2) :: w2) ∨ (k ≠ 0 ∧ ∃ w2 : va_W, PW T h7 ((ac, ap, ash, an, aob, arq), cn, M, S) w2 ∧ w1 = (out, cJ T 1 f) :: w2))) := by
  refine jW.of (cc := cL_bestOrder) (maxL := 3) (ret := some .int) (hh := [(0, 8, 11, 46)]) (by decide) rfl (Nat.le_of_ble_eq_true rfl) ?_
  intro X C rw_ hl hT hQ hTab hZ
  subst hl; subst hT
  obtain ⟨fs, hm⟩ := PW.mem W0
  show jj X 0 0 0 [(0, .ref h7), (1, .ref out)] [] ((out, cJ (xT X) 1 f) :: w)
  refine j_aload_n C dL_bestOrder_0 1 rfl rfl ?_
  refine j_iconst C dL_bestOrder_1 (v := nI 0) kc_i_0 ?_
  refine j_aload_n C dL_bestOrder_2 0 rfl rfl ?_
  refine j_callVXp C rw_ hZ (nA := 0) (As := []) (wc := w) (wr := [(out, cJ (xT X) 1 f)]) (k_X7_bestOrder (xl X) (xT X) hlS  W0 O) gL_bestOrder_X7_bestOrder rfl (by decide +kernel) rfl (by decide) (by decide) (List.perm_append_comm (l₁ := [(out, cJ (xT X) 1 f)]) (l₂ := w)) hm (ci := 7) rfl (rest := [.int (nI 0), .ref out]) rfl (Nat.le_of_ble_eq_true rfl) dL_bestOrder_3 (fun Ex w1 h => ?_) (fun v w1 h => ?_)
  · obtain ⟨i, hi, hk, hP⟩ := h
    refine jjT_permP C List.perm_append_comm ?_
    rcases i with _ | i
    · cases hi
      refine jT_catch C [] (⟨0, 8, 11, 46⟩ : ExceptionTableEntry) [] hTab (by decide) (fun z hz => absurd hz List.not_mem_nil) (by decide) (by decide) (by decide +kernel) (fun q => ?_)
      refine j_astore_n C dL_bestOrder_11 rfl (by decide) rfl ?_
      refine j_iconst C dL_bestOrder_12 (v := nI 1) kc_i_1 ?_
      exact j_iretM C rw_ hQ (by decide) (by decide) (by decide +kernel) ⟨1, rfl, hk.symm, Or.inr ⟨by decide, w1, hP, rfl⟩⟩ dL_bestOrder_13
    · cases hi
  · obtain ⟨hk, r, rfl, hr, hP⟩ := h
    refine j_permP C List.perm_append_comm ?_
    refine j_i2l C dL_bestOrder_6 rfl ?_
    refine j_lastore C rw_ (i := nI 0) (x := r.toInt64) 0 rfl (nI_in (by decide) (by decide)) (w' := (out, cJ (xT X) 1 (vp_updL f (nI 0).toNatClampNeg r.toInt64)) :: w1) rfl dL_bestOrder_7 ?_
    refine j_goto C dL_bestOrder_8 (tgt := 14) (by decide) ?_
    refine j_iconst C dL_bestOrder_14 (v := nI 0) kc_i_0 ?_
    exact j_iretM C rw_ hQ (by decide) (by decide) (by decide +kernel) ⟨0, rfl, hk.symm, Or.inl ⟨rfl, r, w1, _, hr, hP, rfl, rfl⟩⟩ dL_bestOrder_15
set_option maxHeartbeats 4000000 in
set_option maxRecDepth 100000 in
theorem c_L_randomWalk (l : Launch) (T : jj_T) (hlS : l.stackTraces = false) {h7 out : Nat} {ac ap : Nat} {ash : Bool} {an : Nat} {aob arq : Nat → Int32} {cn : Nat} {M : Nat → aS} {S : Nat → Option aS} {w : va_W} {f : Nat → Int64} (sd : Int64) (y : Int32) (W0 : PW T h7 ((ac, ap, ash, an, aob, arq), cn, M, S) w) (O : okS ((ac, ap, ash, an, aob, arq), cn, M, S)) : jW l T yL_randomWalk wsL_randomWalk { frames := 8, cells := 2, slots := 12, locals := 154 } [.ref h7, .long sd, .int y, .ref out] ((out, cJ T 1 f) :: w) (fun v w1 => ∃ k : Nat, v = some (.int (nI k)) ∧ k = kf_randomWalk ac ap ash an aob arq cn M S sd y ∧ ((k = 0 ∧ ∃ (r : Int32) (w2 : va_W) (f2 : Nat → Int64), rs_randomWalk ac ap ash an aob arq cn M S sd y r ∧ PW T h7 (nx_randomWalk ac ap ash an aob arq cn M S sd y r) w2 ∧ f2 0 = r.toInt64 ∧ w1 = (out, cJ T 1 f2) :: w2) ∨ (k ≠ 0 ∧ ∃ w2 : va_W, PW T h7 ((ac, ap, ash, an, aob, arq), cn, M, S) w2 ∧ w1 = (out, cJ T 1 f) :: w2))) := by
  refine jW.of (cc := cL_randomWalk) (maxL := 6) (ret := some .int) (hh := [(0, 11, 14, 18), (0, 11, 18, 46)]) (by decide) rfl (Nat.le_of_ble_eq_true rfl) ?_
  intro X C rw_ hl hT hQ hTab hZ
  subst hl; subst hT
  obtain ⟨fs, hm⟩ := PW.mem W0
  show jj X 0 0 0 [(0, .ref h7), (1, .long sd), (3, .int y), (4, .ref out)] [] ((out, cJ (xT X) 1 f) :: w)
  refine j_aload C dL_randomWalk_0 3 rfl ?_
  refine j_iconst C dL_randomWalk_2 (v := nI 0) kc_i_0 ?_
  refine j_aload_n C dL_randomWalk_3 0 rfl rfl ?_
  refine j_lload_n C dL_randomWalk_4 1 rfl rfl ?_
  refine j_iload_n C dL_randomWalk_5 2 rfl rfl ?_
  refine j_callVXp C rw_ hZ (nA := 2) (As := [.long sd, .int y]) (wc := w) (wr := [(out, cJ (xT X) 1 f)]) (k_X7_randomWalk (xl X) (xT X) hlS sd y W0 O) gL_randomWalk_X7_randomWalk rfl (by decide +kernel) rfl (by decide) (by decide) (List.perm_append_comm (l₁ := [(out, cJ (xT X) 1 f)]) (l₂ := w)) hm (ci := 7) rfl (rest := [.int (nI 0), .ref out]) rfl (Nat.le_of_ble_eq_true rfl) dL_randomWalk_6 (fun Ex w1 h => ?_) (fun v w1 h => ?_)
  · obtain ⟨i, hi, hk, hP⟩ := h
    refine jjT_permP C List.perm_append_comm ?_
    rcases i with _ | i
    · cases hi
      refine jT_catch C [] (⟨0, 11, 14, 18⟩ : ExceptionTableEntry) [(⟨0, 11, 18, 46⟩ : ExceptionTableEntry)] hTab (by decide) (fun z hz => absurd hz List.not_mem_nil) (by decide) (by decide) (by decide +kernel) (fun q => ?_)
      refine j_astore C dL_randomWalk_14 (by decide) rfl ?_
      refine j_iconst C dL_randomWalk_16 (v := nI 1) kc_i_1 ?_
      exact j_iretM C rw_ hQ (by decide) (by decide) (by decide +kernel) ⟨1, rfl, hk.symm, Or.inr ⟨by decide, w1, hP, rfl⟩⟩ dL_randomWalk_17
    rcases i with _ | i
    · cases hi
      refine jT_catch C [(⟨0, 11, 14, 18⟩ : ExceptionTableEntry)] (⟨0, 11, 18, 46⟩ : ExceptionTableEntry) [] hTab (by decide) (List.forall_mem_cons.mpr ⟨⟨by decide, jE2, by decide, by decide, by decide +kernel⟩, (fun z hz => absurd hz List.not_mem_nil)⟩) (by decide) (by decide) (by decide +kernel) (fun q => ?_)
      refine j_astore C dL_randomWalk_18 (by decide) rfl ?_
      refine j_iconst C dL_randomWalk_20 (v := nI 2) kc_i_2 ?_
      exact j_iretM C rw_ hQ (by decide) (by decide) (by decide +kernel) ⟨2, rfl, hk.symm, Or.inr ⟨by decide, w1, hP, rfl⟩⟩ dL_randomWalk_21
    · cases hi
  · obtain ⟨hk, r, rfl, hr, hP⟩ := h
    refine j_permP C List.perm_append_comm ?_
    refine j_i2l C dL_randomWalk_9 rfl ?_
    refine j_lastore C rw_ (i := nI 0) (x := r.toInt64) 0 rfl (nI_in (by decide) (by decide)) (w' := (out, cJ (xT X) 1 (vp_updL f (nI 0).toNatClampNeg r.toInt64)) :: w1) rfl dL_randomWalk_10 ?_
    refine j_goto C dL_randomWalk_11 (tgt := 22) (by decide) ?_
    refine j_iconst C dL_randomWalk_22 (v := nI 0) kc_i_0 ?_
    exact j_iretM C rw_ hQ (by decide) (by decide) (by decide +kernel) ⟨0, rfl, hk.symm, Or.inl ⟨rfl, r, w1, _, hr, hP, rfl, rfl⟩⟩ dL_randomWalk_23
set_option maxHeartbeats 4000000 in
set_option maxRecDepth 100000 in
theorem c_L_undo (l : Launch) (T : jj_T) (hlS : l.stackTraces = false) {h7 out : Nat} {ac ap : Nat} {ash : Bool} {an : Nat} {aob arq : Nat → Int32} {cn : Nat} {M : Nat → aS} {S : Nat → Option aS} {w : va_W} {f : Nat → Int64}  (W0 : PW T h7 ((ac, ap, ash, an, aob, arq), cn, M, S) w) (O : okS ((ac, ap, ash, an, aob, arq), cn, M, S)) : jW l T yL_undo wsL_undo { frames := 7, cells := 1, slots := 6, locals := 123 } [.ref h7, .ref out] ((out, cJ T 1 f) :: w) (fun v w1 => ∃ k : Nat, v = some (.int (nI k)) ∧ k = kf_undo ac ap ash an aob arq cn M S ∧ ((k = 0 ∧ ∃ (r : Int32) (w2 : va_W) (f2 : Nat → Int64), rs_undo ac ap ash an aob arq cn M S r ∧ PW T h7 (nx_undo ac ap ash an aob arq cn M S r) w2 ∧ f2 0 = r.toInt64 ∧ w1 = (out, cJ T 1 f2) :: w2) ∨ (k ≠ 0 ∧ ∃ w2 : va_W, PW T h7 ((ac, ap, ash, an, aob, arq), cn, M, S) w2 ∧ w1 = (out, cJ T 1 f) :: w2))) := by
  refine jW.of (cc := cL_undo) (maxL := 3) (ret := some .int) (hh := [(0, 8, 11, 46)]) (by decide) rfl (Nat.le_of_ble_eq_true rfl) ?_
  intro X C rw_ hl hT hQ hTab hZ
  subst hl; subst hT
  obtain ⟨fs, hm⟩ := PW.mem W0
  show jj X 0 0 0 [(0, .ref h7), (1, .ref out)] [] ((out, cJ (xT X) 1 f) :: w)
  refine j_aload_n C dL_undo_0 1 rfl rfl ?_
  refine j_iconst C dL_undo_1 (v := nI 0) kc_i_0 ?_
  refine j_aload_n C dL_undo_2 0 rfl rfl ?_
  refine j_callVXp C rw_ hZ (nA := 0) (As := []) (wc := w) (wr := [(out, cJ (xT X) 1 f)]) (k_X7_undo (xl X) (xT X) hlS  W0 O) gL_undo_X7_undo rfl (by decide +kernel) rfl (by decide) (by decide) (List.perm_append_comm (l₁ := [(out, cJ (xT X) 1 f)]) (l₂ := w)) hm (ci := 7) rfl (rest := [.int (nI 0), .ref out]) rfl (Nat.le_of_ble_eq_true rfl) dL_undo_3 (fun Ex w1 h => ?_) (fun v w1 h => ?_)
  · obtain ⟨i, hi, hk, hP⟩ := h
    refine jjT_permP C List.perm_append_comm ?_
    rcases i with _ | i
    · cases hi
      refine jT_catch C [] (⟨0, 8, 11, 46⟩ : ExceptionTableEntry) [] hTab (by decide) (fun z hz => absurd hz List.not_mem_nil) (by decide) (by decide) (by decide +kernel) (fun q => ?_)
      refine j_astore_n C dL_undo_11 rfl (by decide) rfl ?_
      refine j_iconst C dL_undo_12 (v := nI 1) kc_i_1 ?_
      exact j_iretM C rw_ hQ (by decide) (by decide) (by decide +kernel) ⟨1, rfl, hk.symm, Or.inr ⟨by decide, w1, hP, rfl⟩⟩ dL_undo_13
    · cases hi
  · obtain ⟨hk, r, rfl, hr, hP⟩ := h
    refine j_permP C List.perm_append_comm ?_
    refine j_i2l C dL_undo_6 rfl ?_
    refine j_lastore C rw_ (i := nI 0) (x := r.toInt64) 0 rfl (nI_in (by decide) (by decide)) (w' := (out, cJ (xT X) 1 (vp_updL f (nI 0).toNatClampNeg r.toInt64)) :: w1) rfl dL_undo_7 ?_
    refine j_goto C dL_undo_8 (tgt := 14) (by decide) ?_
    refine j_iconst C dL_undo_14 (v := nI 0) kc_i_0 ?_
    exact j_iretM C rw_ hQ (by decide) (by decide) (by decide +kernel) ⟨0, rfl, hk.symm, Or.inl ⟨rfl, r, w1, _, hr, hP, rfl, rfl⟩⟩ dL_undo_15
set_option maxHeartbeats 4000000 in
set_option maxRecDepth 100000 in
theorem c_L_save (l : Launch) (T : jj_T) (hlS : l.stackTraces = false) {h7 out : Nat} {ac ap : Nat} {ash : Bool} {an : Nat} {aob arq : Nat → Int32} {cn : Nat} {M : Nat → aS} {S : Nat → Option aS} {w : va_W} {f : Nat → Int64} (x : Int32) (W0 : PW T h7 ((ac, ap, ash, an, aob, arq), cn, M, S) w) (O : okS ((ac, ap, ash, an, aob, arq), cn, M, S)) : jW l T yL_save wsL_save { frames := 8, cells := 5, slots := 50, locals := 124 } [.ref h7, .int x, .ref out] ((out, cJ T 1 f) :: w) (fun v w1 => ∃ k : Nat, v = some (.int (nI k)) ∧ k = kf_save ac ap ash an aob arq cn M S x ∧ ((k = 0 ∧ ∃ (r : Int32) (w2 : va_W) (f2 : Nat → Int64), rs_save ac ap ash an aob arq cn M S x r ∧ PW T h7 (nx_save ac ap ash an aob arq cn M S x r) w2 ∧ f2 0 = r.toInt64 ∧ w1 = (out, cJ T 1 f2) :: w2) ∨ (k ≠ 0 ∧ ∃ w2 : va_W, PW T h7 ((ac, ap, ash, an, aob, arq), cn, M, S) w2 ∧ w1 = (out, cJ T 1 f) :: w2))) := by
  refine jW.of (cc := cL_save) (maxL := 4) (ret := some .int) (hh := [(0, 9, 12, 13)]) (by decide) rfl (Nat.le_of_ble_eq_true rfl) ?_
  intro X C rw_ hl hT hQ hTab hZ
  subst hl; subst hT
  obtain ⟨fs, hm⟩ := PW.mem W0
  show jj X 0 0 0 [(0, .ref h7), (1, .int x), (2, .ref out)] [] ((out, cJ (xT X) 1 f) :: w)
  refine j_aload_n C dL_save_0 2 rfl rfl ?_
  refine j_iconst C dL_save_1 (v := nI 0) kc_i_0 ?_
  refine j_aload_n C dL_save_2 0 rfl rfl ?_
  refine j_iload_n C dL_save_3 1 rfl rfl ?_
  refine j_callVXp C rw_ hZ (nA := 1) (As := [.int x]) (wc := w) (wr := [(out, cJ (xT X) 1 f)]) (k_X7_save (xl X) (xT X) hlS x W0 O) gL_save_X7_save rfl (by decide +kernel) rfl (by decide) (by decide) (List.perm_append_comm (l₁ := [(out, cJ (xT X) 1 f)]) (l₂ := w)) hm (ci := 7) rfl (rest := [.int (nI 0), .ref out]) rfl (Nat.le_of_ble_eq_true rfl) dL_save_4 (fun Ex w1 h => ?_) (fun v w1 h => ?_)
  · obtain ⟨i, hi, hk, hP⟩ := h
    refine jjT_permP C List.perm_append_comm ?_
    rcases i with _ | i
    · cases hi
      refine jT_catch C [] (⟨0, 9, 12, 13⟩ : ExceptionTableEntry) [] hTab (by decide) (fun z hz => absurd hz List.not_mem_nil) (by decide) (by decide) (by decide +kernel) (fun q => ?_)
      refine j_astore_n C dL_save_12 rfl (by decide) rfl ?_
      refine j_iconst C dL_save_13 (v := nI 1) kc_i_1 ?_
      exact j_iretM C rw_ hQ (by decide) (by decide) (by decide +kernel) ⟨1, rfl, hk.symm, Or.inr ⟨by decide, w1, hP, rfl⟩⟩ dL_save_14
    · cases hi
  · obtain ⟨hk, r, rfl, hr, hP⟩ := h
    refine j_permP C List.perm_append_comm ?_
    refine j_i2l C dL_save_7 rfl ?_
    refine j_lastore C rw_ (i := nI 0) (x := r.toInt64) 0 rfl (nI_in (by decide) (by decide)) (w' := (out, cJ (xT X) 1 (vp_updL f (nI 0).toNatClampNeg r.toInt64)) :: w1) rfl dL_save_8 ?_
    refine j_goto C dL_save_9 (tgt := 15) (by decide) ?_
    refine j_iconst C dL_save_15 (v := nI 0) kc_i_0 ?_
    exact j_iretM C rw_ hQ (by decide) (by decide) (by decide +kernel) ⟨0, rfl, hk.symm, Or.inl ⟨rfl, r, w1, _, hr, hP, rfl, rfl⟩⟩ dL_save_16
set_option maxHeartbeats 4000000 in
set_option maxRecDepth 100000 in
theorem c_L_restore (l : Launch) (T : jj_T) (hlS : l.stackTraces = false) {h7 out : Nat} {ac ap : Nat} {ash : Bool} {an : Nat} {aob arq : Nat → Int32} {cn : Nat} {M : Nat → aS} {S : Nat → Option aS} {w : va_W} {f : Nat → Int64} (x : Int32) (W0 : PW T h7 ((ac, ap, ash, an, aob, arq), cn, M, S) w) (O : okS ((ac, ap, ash, an, aob, arq), cn, M, S)) : jW l T yL_restore wsL_restore { frames := 8, cells := 5, slots := 50, locals := 124 } [.ref h7, .int x, .ref out] ((out, cJ T 1 f) :: w) (fun v w1 => ∃ k : Nat, v = some (.int (nI k)) ∧ k = kf_restore ac ap ash an aob arq cn M S x ∧ ((k = 0 ∧ ∃ (r : Int32) (w2 : va_W) (f2 : Nat → Int64), rs_restore ac ap ash an aob arq cn M S x r ∧ PW T h7 (nx_restore ac ap ash an aob arq cn M S x r) w2 ∧ f2 0 = r.toInt64 ∧ w1 = (out, cJ T 1 f2) :: w2) ∨ (k ≠ 0 ∧ ∃ w2 : va_W, PW T h7 ((ac, ap, ash, an, aob, arq), cn, M, S) w2 ∧ w1 = (out, cJ T 1 f) :: w2))) := by
  refine jW.of (cc := cL_restore) (maxL := 4) (ret := some .int) (hh := [(0, 9, 12, 13), (0, 9, 15, 46)]) (by decide) rfl (Nat.le_of_ble_eq_true rfl) ?_
  intro X C rw_ hl hT hQ hTab hZ
  subst hl; subst hT
  obtain ⟨fs, hm⟩ := PW.mem W0
  show jj X 0 0 0 [(0, .ref h7), (1, .int x), (2, .ref out)] [] ((out, cJ (xT X) 1 f) :: w)
  refine j_aload_n C dL_restore_0 2 rfl rfl ?_
  refine j_iconst C dL_restore_1 (v := nI 0) kc_i_0 ?_
  refine j_aload_n C dL_restore_2 0 rfl rfl ?_
  refine j_iload_n C dL_restore_3 1 rfl rfl ?_
  refine j_callVXp C rw_ hZ (nA := 1) (As := [.int x]) (wc := w) (wr := [(out, cJ (xT X) 1 f)]) (k_X7_restore (xl X) (xT X) hlS x W0 O) gL_restore_X7_restore rfl (by decide +kernel) rfl (by decide) (by decide) (List.perm_append_comm (l₁ := [(out, cJ (xT X) 1 f)]) (l₂ := w)) hm (ci := 7) rfl (rest := [.int (nI 0), .ref out]) rfl (Nat.le_of_ble_eq_true rfl) dL_restore_4 (fun Ex w1 h => ?_) (fun v w1 h => ?_)
  · obtain ⟨i, hi, hk, hP⟩ := h
    refine jjT_permP C List.perm_append_comm ?_
    rcases i with _ | i
    · cases hi
      refine jT_catch C [] (⟨0, 9, 12, 13⟩ : ExceptionTableEntry) [(⟨0, 9, 15, 46⟩ : ExceptionTableEntry)] hTab (by decide) (fun z hz => absurd hz List.not_mem_nil) (by decide) (by decide) (by decide +kernel) (fun q => ?_)
      refine j_astore_n C dL_restore_12 rfl (by decide) rfl ?_
      refine j_iconst C dL_restore_13 (v := nI 1) kc_i_1 ?_
      exact j_iretM C rw_ hQ (by decide) (by decide) (by decide +kernel) ⟨1, rfl, hk.symm, Or.inr ⟨by decide, w1, hP, rfl⟩⟩ dL_restore_14
    rcases i with _ | i
    · cases hi
      refine jT_catch C [(⟨0, 9, 12, 13⟩ : ExceptionTableEntry)] (⟨0, 9, 15, 46⟩ : ExceptionTableEntry) [] hTab (by decide) (List.forall_mem_cons.mpr ⟨⟨by decide, jE1, by decide, by decide, by decide +kernel⟩, (fun z hz => absurd hz List.not_mem_nil)⟩) (by decide) (by decide) (by decide +kernel) (fun q => ?_)
      refine j_astore_n C dL_restore_15 rfl (by decide) rfl ?_
      refine j_iconst C dL_restore_16 (v := nI 2) kc_i_2 ?_
      exact j_iretM C rw_ hQ (by decide) (by decide) (by decide +kernel) ⟨2, rfl, hk.symm, Or.inr ⟨by decide, w1, hP, rfl⟩⟩ dL_restore_17
    · cases hi
  · obtain ⟨hk, r, rfl, hr, hP⟩ := h
    refine j_permP C List.perm_append_comm ?_
    refine j_i2l C dL_restore_7 rfl ?_
    refine j_lastore C rw_ (i := nI 0) (x := r.toInt64) 0 rfl (nI_in (by decide) (by decide)) (w' := (out, cJ (xT X) 1 (vp_updL f (nI 0).toNatClampNeg r.toInt64)) :: w1) rfl dL_restore_8 ?_
    refine j_goto C dL_restore_9 (tgt := 18) (by decide) ?_
    refine j_iconst C dL_restore_18 (v := nI 0) kc_i_0 ?_
    exact j_iretM C rw_ hQ (by decide) (by decide) (by decide +kernel) ⟨0, rfl, hk.symm, Or.inl ⟨rfl, r, w1, _, hr, hP, rfl, rfl⟩⟩ dL_restore_19
