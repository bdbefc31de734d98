/-! THE LAW (1): what stands in the tables at its start -/
theorem law_arr {s : State} {args : Array Value} {ty : FieldType} (h : (Cond.arrayClass ty).before args s = true) : ∃ cA : ClassId, ArrOfT s cA ty ∧ s.vm.findClass ("[" ++ ty.toString) = some cA := by
  obtain ⟨cA, kA, comp, h1, h2, h3⟩ := Cond.arrayClass_spec h
  exact ⟨cA, fun n z => ⟨fun k h => (by cases h), kA, h2, comp, h3⟩, h1⟩
theorem law_arrO {s : State} {args : Array Value} {n : String} (h : (Cond.arrayOver (.object n)).before args s = true) : ∃ cA : ClassId, ArrOfT s cA (.object n) ∧ va_RA s cA (.object n) := by
  obtain ⟨comp, cA, kA, h1, -, h2, h3, h4⟩ := Cond.arrayOver_spec h
  exact ⟨cA, fun n z => ⟨fun k h => (by cases h), kA, h2, comp, h3⟩, kA, comp, h2, h3, h1, h4⟩
theorem law_str {s : State} {args : Array Value} {own : String} {k : Nat} {tx : String} (h1 : (Cond.stringRef own k tx).before args s = true) (h2 : (Cond.exactly (Term.string own k) "java/lang/String").before args s = true) : ∃ a : Nat, vk_R own k tx a s := by
  obtain ⟨a, c, cell, kk, h3, -⟩ := Cond.exactly_spec h2
  exact ⟨a, vk_R.of h1 h3⟩
theorem law_cl {p : Program} {s : State} {m : MethodId} {meth : Method} {c : Code} {b L : Nat} {xs : Nat → Int32} (C0 : lw_At p s m meth c b L xs) : ∃ (dC : Nat → ClassId) (dI : Nat → Nat → Nat), ∀ (k : Nat) (q : vw_C), vwCl[k]? = some q → u_Kn s q.1 q.2.1 q.2.2 (dC k) (dI k) := by
  obtain ⟨-, -, -, -, -, hts, -, -, -, -⟩ := id C0
  obtain ⟨c0, i0, h0⟩ := u_known (C := RX0) (T := TX0) (N := 1) (n := 1) hts (by decide +kernel) (hts (.instantiable RX0 1) (by decide +kernel))
  obtain ⟨c1, i1, h1⟩ := u_known (C := RX1) (T := TX1) (N := 3) (n := 3) hts (by decide +kernel) (hts (.instantiable RX1 3) (by decide +kernel))
  obtain ⟨c2, i2, h2⟩ := u_known (C := RX2) (T := TX2) (N := 4) (n := 4) hts (by decide +kernel) (hts (.instantiable RX2 4) (by decide +kernel))
  obtain ⟨c3, i3, h3⟩ := u_known (C := RX3) (T := TX3) (N := 8) (n := 8) hts (by decide +kernel) (hts (.instantiable RX3 8) (by decide +kernel))
  obtain ⟨c4, i4, h4⟩ := u_known (C := RX4) (T := TX4) (N := 8) (n := 8) hts (by decide +kernel) (hts (.instantiable RX4 8) (by decide +kernel))
  obtain ⟨c5, i5, h5⟩ := u_known (C := RX5) (T := TX5) (N := 4) (n := 4) hts (by decide +kernel) (hts (.instantiable RX5 4) (by decide +kernel))
  obtain ⟨c6, i6, h6⟩ := u_known (C := RX6) (T := TX6) (N := 6) (n := 6) hts (by decide +kernel) (hts (.instantiable RX6 6) (by decide +kernel))
  obtain ⟨c7, i7, h7⟩ := u_known (C := RX7) (T := TX7) (N := 8) (n := 8) hts (by decide +kernel) (hts (.instantiable RX7 8) (by decide +kernel))
  obtain ⟨c8, i8, h8⟩ := u_known (C := RX8) (T := TX8) (N := 19) (n := 19) hts (by decide +kernel) (hts (.instantiable RX8 19) (by decide +kernel))
  refine ⟨fun k => [c0, c1, c2, c3, c4, c5, c6, c7, c8].getD k c0, fun k => [i0, i1, i2, i3, i4, i5, i6, i7, i8].getD k i0, ?_⟩
  intro k q hq
  match k, hq with
  | 0, hq => cases hq; exact h0
  | 1, hq => cases hq; exact h1
  | 2, hq => cases hq; exact h2
  | 3, hq => cases hq; exact h3
  | 4, hq => cases hq; exact h4
  | 5, hq => cases hq; exact h5
  | 6, hq => cases hq; exact h6
  | 7, hq => cases hq; exact h7
  | 8, hq => cases hq; exact h8
  | k + 9, hq => exact absurd hq (by simp [vwCl])
theorem law_K {p : Program} {s : State} {m : MethodId} {meth : Method} {c : Code} {b L : Nat} {xs : Nat → Int32} (C0 : lw_At p s m meth c b L xs) : ∃ T : jj_T, jj_K T s := by
  obtain ⟨-, -, -, -, -, hts, -, -, -, hgv⟩ := id C0
  have hs := flat_of_before _ hgv
  obtain ⟨dC, dI, hK⟩ := law_cl C0
  obtain ⟨aI, a1, a2⟩ := law_arr (hts (.arrayClass .int) (by decide +kernel))
  obtain ⟨aJ, a3, a4⟩ := law_arr (hts (.arrayClass .long) (by decide +kernel))
  obtain ⟨aZ, a5, a6⟩ := law_arr (hts (.arrayClass .boolean) (by decide +kernel))
  obtain ⟨aD, a7, a8⟩ := law_arr (hts (.arrayClass .double) (by decide +kernel))
  have hO := hts (.arrayOver (.object RX6)) (by decide +kernel)
  obtain ⟨aS_, a9, a10⟩ := law_arrO hO
  refine ⟨((dC, dI), (aI, aJ, aZ, aS_, aD)), ⟨hK, ?_⟩, va_AO.of hO, va_Nw.of rfl (hts jj_N28 (by decide +kernel)), va_Nw.of rfl (hts jj_N273 (by decide +kernel)), ?_, ?_, ?_, ?_⟩
  · intro k q hq
    match k, hq with
    | 0, hq => cases hq; exact ⟨a1, a2⟩
    | 1, hq => cases hq; exact ⟨a3, a4⟩
    | 2, hq => cases hq; exact ⟨a5, a6⟩
    | 3, hq => cases hq; exact ⟨a9, a10⟩
    | 4, hq => cases hq; exact ⟨a7, a8⟩
    | k + 5, hq => exact absurd hq (by simp [jj_tys])
  · exact List.forall_mem_cons.mpr ⟨va_Nw.of rfl (hts (.castable jE1 jE1) (by decide +kernel)), List.forall_mem_cons.mpr ⟨va_Nw.of rfl (hts (.castable jE2 jE2) (by decide +kernel)), List.forall_mem_cons.mpr ⟨va_Nw.of rfl (hts (.castable jE3 jE3) (by decide +kernel)), fun _ h => absurd h List.not_mem_nil⟩⟩⟩
  · have n12 := va_Nc.of (hs (.not (.castable jE1 jE2)) (by decide +kernel))
    have n13 := va_Nc.of (hs (.not (.castable jE1 jE3)) (by decide +kernel))
    have n21 := va_Nc.of (hs (.not (.castable jE2 jE1)) (by decide +kernel))
    have n23 := va_Nc.of (hs (.not (.castable jE2 jE3)) (by decide +kernel))
    have n31 := va_Nc.of (hs (.not (.castable jE3 jE1)) (by decide +kernel))
    have n32 := va_Nc.of (hs (.not (.castable jE3 jE2)) (by decide +kernel))
    intro E hE F hF hne
    simp only [List.mem_cons, List.not_mem_nil, or_false] at hE hF
    rcases hE with rfl | rfl | rfl <;> rcases hF with rfl | rfl | rfl
    · exact absurd rfl hne
    · exact n12
    · exact n13
    · exact n21
    · exact absurd rfl hne
    · exact n23
    · exact n31
    · exact n32
    · exact absurd rfl hne
  · exact List.forall_mem_cons.mpr ⟨va_Nw.of rfl (hts (.declares (Bundle.initS "java/lang/RuntimeException")) (by decide +kernel)), List.forall_mem_cons.mpr ⟨va_Nw.of rfl (hts (.declares (Bundle.initS "java/lang/Exception")) (by decide +kernel)), List.forall_mem_cons.mpr ⟨va_Nw.of rfl (hts (.declares (Bundle.initS Bundle.tN)) (by decide +kernel)), fun _ h => absurd h List.not_mem_nil⟩⟩⟩
  · have h1 : ∀ q ∈ jj_str, Cond.stringRef RX7 q.1 q.2 ∈ lw_tbl := by decide +kernel
    have h2 : ∀ q ∈ jj_str, Cond.exactly (Term.string RX7 q.1) "java/lang/String" ∈ flatC (Cond.and given_1 narrow_1) := by decide +kernel
    exact fun q hq => law_str (hts _ (h1 q hq)) (hs _ (h2 q hq))
theorem law_Z {p : Program} {s : State} {m : MethodId} {meth : Method} {c : Code} {b L : Nat} {xs : Nat → Int32} (C0 : lw_At p s m meth c b L xs) : jZ (fun q : Nat => s.heap.size ≤ q) s s.heap := by
  obtain ⟨-, -, -, -, -, hts, -, -, -, hgv⟩ := id C0
  have hs := flat_of_before _ hgv
  have hA : ∀ a : Nat, a < s.heap.size → ¬ (fun q : Nat => s.heap.size ≤ q) a := fun a h => Nat.not_le.mpr h
  exact ⟨vx_Zqof (hts (.laysStatic Bundle.tN "UNASSIGNED_STACK" Bundle.steD) (by decide +kernel)) (hts (.initialized Bundle.tN) (by decide +kernel)) (hs (.isRef (.static Bundle.tN "UNASSIGNED_STACK" Bundle.steD)) (by decide +kernel)) hA,
    vx_Zqof (hts (.laysStatic Bundle.tN "SUPPRESSED_SENTINEL" Bundle.listD) (by decide +kernel)) (hts (.initialized Bundle.tN) (by decide +kernel)) (hs (.isRef (.static Bundle.tN "SUPPRESSED_SENTINEL" Bundle.listD)) (by decide +kernel)) hA⟩
