/-! THE LAW (3): its world, rows of its cases -/
abbrev lwW (T : jj_T) (w7 w8 : va_W) (out outD : Nat) (f : Nat → Int64) (g : Nat → UInt64) : va_W := w7 ++ (w8 ++ [(out, cJ T 1 f), (outD, cD T 1 g)])
abbrev lvL (b h7 h8 out outD i : Nat) : List (Nat × Value) := [(0, .ref b), (1, .ref h7), (2, .ref h8), (3, .ref out), (4, .ref outD), (5, .int (nI i))]
theorem pm_out (a b o d : va_W) : (a ++ (b ++ (o ++ d))).Perm ((o ++ a) ++ (b ++ d)) := by
  have h : (b ++ (o ++ d)).Perm (o ++ (b ++ d)) := by
    rw [← List.append_assoc, ← List.append_assoc]
    exact List.Perm.append_right _ List.perm_append_comm
  refine (List.Perm.append_left a h).trans ?_
  rw [← List.append_assoc]
  exact List.Perm.append_right _ List.perm_append_comm
theorem lwp_7 (T : jj_T) (w7 w8 : va_W) (out outD : Nat) (f : Nat → Int64) (g : Nat → UInt64) : (lwW T w7 w8 out outD f g).Perm (((out, cJ T 1 f) :: w7) ++ (w8 ++ [(outD, cD T 1 g)])) := pm_out w7 w8 [(out, cJ T 1 f)] [(outD, cD T 1 g)]
theorem lwp_D (T : jj_T) (w7 w8 : va_W) (out outD : Nat) (f : Nat → Int64) (g : Nat → UInt64) : (lwW T w7 w8 out outD f g).Perm (((outD, cD T 1 g) :: w7) ++ (w8 ++ [(out, cJ T 1 f)])) :=
  (List.Perm.append_left w7 (List.Perm.append_left w8 (List.Perm.swap _ _ _))).trans (pm_out w7 w8 [(outD, cD T 1 g)] [(out, cJ T 1 f)])
theorem lwp_8 (T : jj_T) (w7 w8 : va_W) (out outD : Nat) (f : Nat → Int64) (g : Nat → UInt64) : (lwW T w7 w8 out outD f g).Perm (w8 ++ (w7 ++ [(out, cJ T 1 f), (outD, cD T 1 g)])) := by
  show (w7 ++ (w8 ++ [(out, cJ T 1 f), (outD, cD T 1 g)])).Perm _
  rw [← List.append_assoc, ← List.append_assoc]
  exact List.Perm.append_right _ List.perm_append_comm
section JLROW
variable {X : jj_X} {k n pc : Nat} {lv : List (Nat × Value)} {rest : List Value} {w : va_W}
/-- thrown(): the number that the model keeps -/
theorem j_thrown (C : jj_C X cL_law RL wsL_law room_1 9 ret) {h8 k8 : Nat} {s : sT} {w8 wr : va_W} (W8 : MW (xT X) h8 k8 s w8) (hp : w.Perm (w8 ++ wr)) (hcat : (rest.map fun v => v.category).sum ≤ 8) (hk : k ≤ 601024) (hn : n ≤ 7293034) (d : decode cL_law pc = .ok (.invokevirtual 123, 3)) (kk : jj X k n (pc + 3) lv (.int (nI k8) :: rest) w) : jj X k n pc lv (.ref h8 :: rest) w := by
  obtain ⟨⟨ac, ap, ash, an, aob, arq⟩, cn, M, S⟩ := s
  refine MW.ex W8 fun rv rn rnw rt rd rk rik rdk rre rle rhe rth rpa ror nx bv bo g9 D K pt oq ik dk re le he th hw hcn hnx hdg hkp => ?_
  refine j_callVRp C (nA := 0) (As := []) (c_X8_thrown (xl X) (xT X) h8 rv rn rnw rt rd rk rik rdk rre rle rhe rth rpa ror cn nx (nI k8) bv bo) gL_law_X8_thrown rfl (by decide +kernel) rfl ⟨rfl, rfl⟩ (by decide) ⟨hk, hn⟩ (hp.trans (hw.append_right wr)) (List.mem_of_getElem? (i := 0) rfl) (ci := 8) rfl (rest := rest) rfl hcat d ?_
  rintro v rfl
  exact j_permP C (hp.trans (hw.append_right wr)).symm kk
end JLROW
