/-! THE COUPLING (1): one state for both worlds -/
abbrev aS : Type := Nat × Nat × Bool × Nat × (Nat → Int32) × (Nat → Int32)
/-- present state; count of remembered states, and they, the oldest first; the slots -/
abbrev sT : Type := aS × Nat × (Nat → aS) × (Nat → Option aS)
def okA (a : aS) : Prop := a.1 ≤ 200 ∧ a.2.1 < 150 ∧ a.2.2.2.1 ≤ 4 ∧ rqI a.2.2.2.2.2 a.2.2.2.1 ∧ coI a.2.2.2.2.1 ∧ obI a.2.2.2.2.1
def okS (s : sT) : Prop := okA s.1 ∧ (∀ j, j < s.2.1 → okA (s.2.2.1 j)) ∧ ∀ i a, s.2.2.2 i = some a → okA a
def rgW (T : jj_T) (P : Nat → Option oR) : Nat → va_W
  | 0 => []
  | n + 1 => oW T (P n) ++ rgW T P n
def rgX (T : jj_T) (P : Nat → Option oR) (i : Nat) : Nat → va_W
  | 0 => []
  | n + 1 => (if n = i then [] else oW T (P n)) ++ rgX T P i n
theorem rgX_ge (T : jj_T) (P : Nat → Option oR) (i : Nat) : ∀ n, n ≤ i → rgX T P i n = rgW T P n := by
  intro n
  induction n with
  | zero => intro _; rfl
  | succ n ih =>
    intro h
    show (if n = i then [] else oW T (P n)) ++ rgX T P i n = oW T (P n) ++ rgW T P n
    rw [if_neg (by omega), ih (by omega)]
theorem rg_split (T : jj_T) (P : Nat → Option oR) (i : Nat) : ∀ n, i < n → (rgW T P n).Perm (oW T (P i) ++ rgX T P i n) := by
  intro n
  induction n with
  | zero => intro h; omega
  | succ n ih =>
    intro h
    show (oW T (P n) ++ rgW T P n).Perm (oW T (P i) ++ ((if n = i then [] else oW T (P n)) ++ rgX T P i n))
    by_cases e : n = i
    · subst e
      rw [if_pos rfl, rgX_ge T P n n (Nat.le_refl n)]
      exact List.Perm.refl _
    · rw [if_neg e]
      refine (List.Perm.append_left (oW T (P n)) (ih (by omega))).trans ?_
      rw [← List.append_assoc, ← List.append_assoc]
      exact List.Perm.append_right _ List.perm_append_comm
theorem rgX_up (T : jj_T) (P : Nat → Option oR) (i : Nat) (q9 : Option oR) : ∀ n, rgX T (va_up P i q9) i n = rgX T P i n := by
  intro n
  induction n with
  | zero => rfl
  | succ n ih =>
    show (if n = i then [] else oW T (va_up P i q9 n)) ++ rgX T (va_up P i q9) i n = (if n = i then [] else oW T (P n)) ++ rgX T P i n
    rw [ih]
    by_cases e : n = i
    · rw [if_pos e, if_pos e]
    · rw [if_neg e, if_neg e, va_up_ne _ _ e]
theorem rg_put (T : jj_T) (P : Nat → Option oR) (i : Nat) (q9 : Option oR) {n : Nat} (h : i < n) : (oW T q9 ++ rgX T P i n).Perm (rgW T (va_up P i q9) n) := by
  have h1 := rg_split T (va_up P i q9) i n h
  rw [va_up_self, rgX_up] at h1
  exact h1.symm
theorem pm_abc (L o rest x tl : va_W) : ((L ++ o) ++ (rest ++ (x ++ tl))).Perm ((L ++ rest) ++ ((o ++ x) ++ tl)) := by
  simp only [List.append_assoc]
  refine List.Perm.append_left L ?_
  rw [← List.append_assoc, ← List.append_assoc rest]
  exact List.Perm.append_right _ List.perm_append_comm
theorem pw_t {T : jj_T} {w F L rest tl : va_W} {P : Nat → Option oR} {i n : Nat} (hw : w.Perm (F ++ (rgW T P n ++ tl))) (hl : F.Perm (L ++ rest)) (hi : i < n) : w.Perm ((L ++ oW T (P i)) ++ (rest ++ (rgX T P i n ++ tl))) :=
  hw.trans ((hl.append ((rg_split T P i n hi).append_right tl)).trans (pm_abc _ _ _ _ _).symm)
theorem pw_tb {T : jj_T} {F L rest tl : va_W} {P : Nat → Option oR} {i n : Nat} (q9 : Option oR) (hl : (L ++ rest).Perm F) (hi : i < n) : ((L ++ oW T q9) ++ (rest ++ (rgX T P i n ++ tl))).Perm (F ++ (rgW T (va_up P i q9) n ++ tl)) :=
  (pm_abc _ _ _ _ _).trans (hl.append ((rg_put T P i q9 hi).append_right tl))
theorem pw_tx {T : jj_T} {F L rest tl : va_W} {P : Nat → Option oR} {i n : Nat} (hl : (L ++ rest).Perm F) (hi : i < n) : ((L ++ oW T (P i)) ++ (rest ++ (rgX T P i n ++ tl))).Perm (F ++ (rgW T P n ++ tl)) :=
  (pm_abc _ _ _ _ _).trans (hl.append ((rg_split T P i n hi).symm.append_right tl))
theorem pw_q {w F L rest tl : va_W} (hw : w.Perm (F ++ tl)) (hl : F.Perm (L ++ rest)) : w.Perm (L ++ (rest ++ tl)) := hw.trans (pm_t1 hl)
theorem pw_qb {F L rest tl : va_W} (hl : (L ++ rest).Perm F) : (L ++ (rest ++ tl)).Perm (F ++ tl) := by
  rw [← List.append_assoc]; exact hl.append_right tl
theorem ex3 {A B : Nat → Prop} {D : Prop} (hD : D) (h : ∃ i, A i ∧ B i) : ∃ i, A i ∧ B i ∧ D := by
  obtain ⟨i, h1, h2⟩ := h
  exact ⟨i, h1, h2, hD⟩
/-- what is remembered lies in the ring from ol on -/
def memI (cn ol : Nat) (sf : Nat → Option Nat) (P : Nat → Option oR) (M : Nat → aS) : Prop := cn ≤ 14 ∧ ol < 14 ∧ (∀ i, i < 14 → sf i = oA (P i)) ∧ ∀ j, j < cn → ∃ k0 ko kr : Nat, P ((ol + j) % 14) = some (k0, ko, kr, M j)
def pushN (cn : Nat) : Nat := if cn < 14 then cn + 1 else cn
def pushM (cn : Nat) (M : Nat → aS) (a : aS) (j : Nat) : aS := if cn < 14 then (if j = cn then a else M j) else (if j = 13 then a else M (j + 1))
theorem mem_push {cn ol : Nat} {sf : Nat → Option Nat} {P : Nat → Option oR} {M : Nat → aS} (h : memI cn ol sf P M) (k0 ko kr : Nat) (a : aS) : memI (pushN cn) (if cn < 14 then ol else (ol + 1) % 14) (va_up sf ((ol + cn) % 14) (some k0)) (va_up P ((ol + cn) % 14) (some (k0, ko, kr, a))) (pushM cn M a) := by
  obtain ⟨h1, h2, h3, h4⟩ := h
  refine ⟨by unfold pushN; split <;> omega, by split <;> omega, fun i hi => ?_, fun j hj => ?_⟩
  · by_cases e : i = (ol + cn) % 14
    · subst e; rw [va_up_self, va_up_self]; rfl
    · rw [va_up_ne _ _ e, va_up_ne _ _ e]; exact h3 i hi
  · unfold pushN at hj
    unfold pushM
    by_cases hc : cn < 14
    · rw [if_pos hc] at hj
      rw [if_pos hc, if_pos hc]
      by_cases e : j = cn
      · subst e; rw [if_pos rfl]; exact ⟨k0, ko, kr, va_up_self _ _ _⟩
      · rw [if_neg e, va_up_ne _ _ (by omega)]; exact h4 j (by omega)
    · rw [if_neg hc] at hj
      rw [if_neg hc, if_neg hc]
      have e14 : cn = 14 := by omega
      subst e14
      by_cases e : j = 13
      · rw [if_pos e, show ((ol + 1) % 14 + j) % 14 = (ol + 14) % 14 by omega]; exact ⟨k0, ko, kr, va_up_self _ _ _⟩
      · rw [if_neg e, va_up_ne _ _ (by omega), show ((ol + 1) % 14 + j) % 14 = (ol + (j + 1)) % 14 by omega]; exact h4 (j + 1) (by omega)
theorem memI.at {cn ol : Nat} {sf : Nat → Option Nat} {P : Nat → Option oR} {M : Nat → aS} (h : memI cn ol sf P M) : sf ((ol + cn) % 14) = oA (P ((ol + cn) % 14)) := h.2.2.1 _ (Nat.mod_lt _ (by decide))
def slI (slf : Nat → Option Nat) (Q : Nat → Option oR) (S : Nat → Option aS) : Prop := ∀ i, i < 2 → slf i = oA (Q i) ∧ ((S i = none ∧ Q i = none) ∨ ∃ (a : aS) (k0 ko kr : Nat), S i = some a ∧ Q i = some (k0, ko, kr, a))
def rwS (a : aS) : Nat → Int32 := rowF a.1 a.2.1 a.2.2.1 a.2.2.2.1 a.2.2.2.2.1 a.2.2.2.2.2
def dgI (cn nx : Nat) (D : Nat → Int32) (M : Nat → aS) : Prop := ∀ j, j < cn → ∀ t, t < 37 → D (37 * ((nx + 14 - cn + j) % 14) + t) = rwS (M j) t
def kpI (ik : Nat → Bool) (K : Nat → Int32) (S : Nat → Option aS) : Prop := ∀ i, i < 2 → ik i = (S i).isSome ∧ ∀ a, S i = some a → ∀ t, t < 37 → K (37 * i + t) = rwS a t
theorem dgN_in {D : Nat → Int32} {i : Nat} {g : Nat → Int32} {t : Nat} (ht : t < 37) : dgN D i g (37 * i + t) = g t := by
  unfold dgN; rw [if_pos (by omega), show 37 * i + t - 37 * i = t by omega]
theorem dgN_out {D : Nat → Int32} {i j : Nat} {g : Nat → Int32} {t : Nat} (ht : t < 37) (h : j ≠ i) : dgN D i g (37 * j + t) = D (37 * j + t) := by
  unfold dgN; rw [if_neg (by omega)]
theorem dg_push {cn nx : Nat} {D : Nat → Int32} {M : Nat → aS} (hc : cn ≤ 14) (hn : nx < 14) (h : dgI cn nx D M) (a : aS) : dgI (pushN cn) ((nx + 1) % 14) (dgN D nx (rwS a)) (pushM cn M a) := by
  intro j hj t ht
  unfold pushN at hj
  unfold pushM pushN
  by_cases hc2 : cn < 14
  · rw [if_pos hc2] at hj
    rw [if_pos hc2, if_pos hc2]
    by_cases e : j = cn
    · rw [if_pos e, show ((nx + 1) % 14 + 14 - (cn + 1) + j) % 14 = nx by omega]; exact dgN_in ht
    · rw [if_neg e, show ((nx + 1) % 14 + 14 - (cn + 1) + j) % 14 = (nx + 14 - cn + j) % 14 by omega, dgN_out ht (by omega)]; exact h j (by omega) t ht
  · rw [if_neg hc2] at hj
    rw [if_neg hc2, if_neg hc2]
    have e14 : cn = 14 := by omega
    subst e14
    by_cases e : j = 13
    · rw [if_pos e, show ((nx + 1) % 14 + 14 - 14 + j) % 14 = nx by omega]; exact dgN_in ht
    · rw [if_neg e, show ((nx + 1) % 14 + 14 - 14 + j) % 14 = (nx + 14 - 14 + (j + 1)) % 14 by omega, dgN_out ht (by omega)]; exact h (j + 1) (by omega) t ht
/-- the Nat of an int -/
def xN (x : Int32) : Nat := x.toInt.toNat
theorem xN_nI {n : Nat} (h : n < 100000) : xN (nI n) = n := by
  unfold xN; rw [nI_toInt (by omega)]; omega
theorem xN_e {x : Int32} {n : Nat} (hx : x = nI n) (h : n < 100000) : xN x = n := by rw [hx]; exact xN_nI h
theorem xRn {x : Int32} {n : Nat} (hx : x = nI n) {a b : Int} (h : n < 100000) (h1 : a ≤ n) (h2 : (n : Int) ≤ b) : inR x a b = true := by rw [hx]; exact inR_nI h h1 h2
def PW (T : jj_T) (h7 : Nat) (s : sT) (w : va_W) : Prop := match s with
  | ((ac, ap, ash, an, aob, arq), cn, M, S) => ∃ (hS a0 ao ar d0 d1 d2 h1 hst hsl h2 ga go gr h3 he hew hy hyw hc hcw h4 hs so sr hl hlw hdr hh hhw hv hq ha ol dc dp dn ck gp gn mk p t0 sc sp st : Nat) (ds gs ss : Bool) (bs bd ax ay az : Int32) (lim : Int64) (dob drq gob grq sob srq : Nat → Int32) (E Y Ch LW hd : Nat → Int64) (dr : Nat → Bool) (sf slf : Nat → Option Nat) (P Q : Nat → Option oR), w.Perm ([(h7, cO 7 [.ref hS, .ref a0, .ref d0, .ref h1, .ref hsl, .ref h4, .ref h3, .ref h2]), (a0, cO 6 [.int (nI ac), .int (nI ap), .int (bI ash), .int (nI an), .ref ao, .ref ar]), (ao, cI T 21 aob), (ar, cI T 12 arq), (d0, cO 6 [.int (nI dc), .int (nI dp), .int (bI ds), .int (nI dn), .ref d1, .ref d2]), (d1, cI T 21 dob), (d2, cI T 12 drq), (h1, cO 1 [.int (nI cn), .ref hst, .int (nI ol)]), (hst, cS T 14 sf), (hsl, cS T 2 slf), (h2, cO 2 [.int bs, .int bd, .ref h3, .ref ga]), (ga, cO 6 [.int (nI ck), .int (nI gp), .int (bI gs), .int (nI gn), .ref go, .ref gr]), (go, cI T 21 gob), (gr, cI T 12 grq), (h3, cO 3 [.ref hS, .ref h4, .ref he, .ref hy, .ref hc, .int (nI mk), .int (nI p), .int (nI t0)]), (he, cO 0 [.ref hew]), (hew, cJ T 183 E), (hy, cO 0 [.ref hyw]), (hyw, cJ T 183 Y), (hc, cO 0 [.ref hcw]), (hcw, cJ T 3 Ch), (h4, cO 4 [.ref hS, .ref hs, .ref hl, .ref hdr, .int ax, .int ay, .int az, .long lim]), (hs, cO 6 [.int (nI sc), .int (nI sp), .int (bI ss), .int (nI st), .ref so, .ref sr]), (so, cI T 21 sob), (sr, cI T 12 srq), (hl, cO 0 [.ref hlw]), (hlw, cJ T 903 LW), (hdr, cZ T 301 (fun j => bI (dr j))), (hS, cO 5 [.ref hh, .ref hv, .ref hq, .ref ha]), (hv, cI T 450 cvec), (hq, cI T 150 csq), (hh, cO 0 [.ref hhw]), (hhw, cJ T 450 hd), (ha, cI T 600 (fun j => nI (near4 j)))] ++ (rgW T P 14 ++ rgW T Q 2)) ∧ memI cn ol sf P M ∧ slI slf Q S ∧ skI sob dr LW ∧ hdI hd
def MW (T : jj_T) (h8 k : Nat) (s : sT) (w : va_W) : Prop := match s with
  | ((ac, ap, ash, an, aob, arq), cn, M, S) => ∃ (rv rn rnw rt rd rk rik rdk rre rle rhe rth rpa ror nx : Nat) (bv bo : Int32) (g9 D K pt oq : Nat → Int32) (ik dk re le he th : Nat → Bool), w.Perm ([(h8, cO 8 [.int (nI k), .ref rv, .ref rn, .ref rnw, .ref rt, .ref rd, .int (nI cn), .int (nI nx), .ref rk, .ref rik, .ref rdk, .ref rre, .ref rle, .ref rhe, .ref rth, .ref rpa, .ref ror, .int bv, .int bo]), (rv, cI T 450 cvec), (rn, cI T 600 (fun j => nI (near4 j))), (rnw, cI T 37 (rowF ac ap ash an aob arq)), (rt, cI T 37 g9), (rd, cI T 518 D), (rk, cI T 74 K), (rik, cZ T 2 (fun j => bI (ik j))), (rdk, cZ T 15300 (fun j => bI (dk j))), (rre, cZ T 9150 (fun j => bI (re j))), (rle, cZ T 9150 (fun j => bI (le j))), (rhe, cZ T 150 (fun j => bI (he j))), (rth, cZ T 150 (fun j => bI (th j))), (rpa, cI T 61 pt), (ror, cI T 4 oq)]) ∧ cn ≤ 14 ∧ nx < 14 ∧ dgI cn nx D M ∧ kpI ik K S
theorem PW.mk {T : jj_T} {h7 : Nat} {ac ap : Nat} {ash : Bool} {an : Nat} {aob arq : Nat → Int32} {cn : Nat} {M : Nat → aS} {S : Nat → Option aS} {w : va_W} {hS a0 ao ar d0 d1 d2 h1 hst hsl h2 ga go gr h3 he hew hy hyw hc hcw h4 hs so sr hl hlw hdr hh hhw hv hq ha ol dc dp dn ck gp gn mk p t0 sc sp st : Nat} {ds gs ss : Bool} {bs bd ax ay az : Int32} {lim : Int64} {dob drq gob grq sob srq : Nat → Int32} {E Y Ch LW hd : Nat → Int64} {dr : Nat → Bool} {sf slf : Nat → Option Nat} {P Q : Nat → Option oR} (hw : w.Perm ([(h7, cO 7 [.ref hS, .ref a0, .ref d0, .ref h1, .ref hsl, .ref h4, .ref h3, .ref h2]), (a0, cO 6 [.int (nI ac), .int (nI ap), .int (bI ash), .int (nI an), .ref ao, .ref ar]), (ao, cI T 21 aob), (ar, cI T 12 arq), (d0, cO 6 [.int (nI dc), .int (nI dp), .int (bI ds), .int (nI dn), .ref d1, .ref d2]), (d1, cI T 21 dob), (d2, cI T 12 drq), (h1, cO 1 [.int (nI cn), .ref hst, .int (nI ol)]), (hst, cS T 14 sf), (hsl, cS T 2 slf), (h2, cO 2 [.int bs, .int bd, .ref h3, .ref ga]), (ga, cO 6 [.int (nI ck), .int (nI gp), .int (bI gs), .int (nI gn), .ref go, .ref gr]), (go, cI T 21 gob), (gr, cI T 12 grq), (h3, cO 3 [.ref hS, .ref h4, .ref he, .ref hy, .ref hc, .int (nI mk), .int (nI p), .int (nI t0)]), (he, cO 0 [.ref hew]), (hew, cJ T 183 E), (hy, cO 0 [.ref hyw]), (hyw, cJ T 183 Y), (hc, cO 0 [.ref hcw]), (hcw, cJ T 3 Ch), (h4, cO 4 [.ref hS, .ref hs, .ref hl, .ref hdr, .int ax, .int ay, .int az, .long lim]), (hs, cO 6 [.int (nI sc), .int (nI sp), .int (bI ss), .int (nI st), .ref so, .ref sr]), (so, cI T 21 sob), (sr, cI T 12 srq), (hl, cO 0 [.ref hlw]), (hlw, cJ T 903 LW), (hdr, cZ T 301 (fun j => bI (dr j))), (hS, cO 5 [.ref hh, .ref hv, .ref hq, .ref ha]), (hv, cI T 450 cvec), (hq, cI T 150 csq), (hh, cO 0 [.ref hhw]), (hhw, cJ T 450 hd), (ha, cI T 600 (fun j => nI (near4 j)))] ++ (rgW T P 14 ++ rgW T Q 2))) (hmI : memI cn ol sf P M) (hqI : slI slf Q S) (hsk : skI sob dr LW) (hhd : hdI hd) : PW T h7 ((ac, ap, ash, an, aob, arq), cn, M, S) w := ⟨hS, a0, ao, ar, d0, d1, d2, h1, hst, hsl, h2, ga, go, gr, h3, he, hew, hy, hyw, hc, hcw, h4, hs, so, sr, hl, hlw, hdr, hh, hhw, hv, hq, ha, ol, dc, dp, dn, ck, gp, gn, mk, p, t0, sc, sp, st, ds, gs, ss, bs, bd, ax, ay, az, lim, dob, drq, gob, grq, sob, srq, E, Y, Ch, LW, hd, dr, sf, slf, P, Q, hw, hmI, hqI, hsk, hhd⟩
theorem PW.of {T : jj_T} {h7 : Nat} {ac ap : Nat} {ash : Bool} {an : Nat} {aob arq : Nat → Int32} {cn : Nat} {M : Nat → aS} {S : Nat → Option aS} {w : va_W} (h : PW T h7 ((ac, ap, ash, an, aob, arq), cn, M, S) w) : ∃ (hS a0 ao ar d0 d1 d2 h1 hst hsl h2 ga go gr h3 he hew hy hyw hc hcw h4 hs so sr hl hlw hdr hh hhw hv hq ha ol dc dp dn ck gp gn mk p t0 sc sp st : Nat) (ds gs ss : Bool) (bs bd ax ay az : Int32) (lim : Int64) (dob drq gob grq sob srq : Nat → Int32) (E Y Ch LW hd : Nat → Int64) (dr : Nat → Bool) (sf slf : Nat → Option Nat) (P Q : Nat → Option oR), w.Perm ([(h7, cO 7 [.ref hS, .ref a0, .ref d0, .ref h1, .ref hsl, .ref h4, .ref h3, .ref h2]), (a0, cO 6 [.int (nI ac), .int (nI ap), .int (bI ash), .int (nI an), .ref ao, .ref ar]), (ao, cI T 21 aob), (ar, cI T 12 arq), (d0, cO 6 [.int (nI dc), .int (nI dp), .int (bI ds), .int (nI dn), .ref d1, .ref d2]), (d1, cI T 21 dob), (d2, cI T 12 drq), (h1, cO 1 [.int (nI cn), .ref hst, .int (nI ol)]), (hst, cS T 14 sf), (hsl, cS T 2 slf), (h2, cO 2 [.int bs, .int bd, .ref h3, .ref ga]), (ga, cO 6 [.int (nI ck), .int (nI gp), .int (bI gs), .int (nI gn), .ref go, .ref gr]), (go, cI T 21 gob), (gr, cI T 12 grq), (h3, cO 3 [.ref hS, .ref h4, .ref he, .ref hy, .ref hc, .int (nI mk), .int (nI p), .int (nI t0)]), (he, cO 0 [.ref hew]), (hew, cJ T 183 E), (hy, cO 0 [.ref hyw]), (hyw, cJ T 183 Y), (hc, cO 0 [.ref hcw]), (hcw, cJ T 3 Ch), (h4, cO 4 [.ref hS, .ref hs, .ref hl, .ref hdr, .int ax, .int ay, .int az, .long lim]), (hs, cO 6 [.int (nI sc), .int (nI sp), .int (bI ss), .int (nI st), .ref so, .ref sr]), (so, cI T 21 sob), (sr, cI T 12 srq), (hl, cO 0 [.ref hlw]), (hlw, cJ T 903 LW), (hdr, cZ T 301 (fun j => bI (dr j))), (hS, cO 5 [.ref hh, .ref hv, .ref hq, .ref ha]), (hv, cI T 450 cvec), (hq, cI T 150 csq), (hh, cO 0 [.ref hhw]), (hhw, cJ T 450 hd), (ha, cI T 600 (fun j => nI (near4 j)))] ++ (rgW T P 14 ++ rgW T Q 2)) ∧ memI cn ol sf P M ∧ slI slf Q S ∧ skI sob dr LW ∧ hdI hd := h
theorem MW.mk {T : jj_T} {h8 k : Nat} {ac ap : Nat} {ash : Bool} {an : Nat} {aob arq : Nat → Int32} {cn : Nat} {M : Nat → aS} {S : Nat → Option aS} {w : va_W} {rv rn rnw rt rd rk rik rdk rre rle rhe rth rpa ror nx : Nat} {bv bo : Int32} {g9 D K pt oq : Nat → Int32} {ik dk re le he th : Nat → Bool} (hw : w.Perm ([(h8, cO 8 [.int (nI k), .ref rv, .ref rn, .ref rnw, .ref rt, .ref rd, .int (nI cn), .int (nI nx), .ref rk, .ref rik, .ref rdk, .ref rre, .ref rle, .ref rhe, .ref rth, .ref rpa, .ref ror, .int bv, .int bo]), (rv, cI T 450 cvec), (rn, cI T 600 (fun j => nI (near4 j))), (rnw, cI T 37 (rowF ac ap ash an aob arq)), (rt, cI T 37 g9), (rd, cI T 518 D), (rk, cI T 74 K), (rik, cZ T 2 (fun j => bI (ik j))), (rdk, cZ T 15300 (fun j => bI (dk j))), (rre, cZ T 9150 (fun j => bI (re j))), (rle, cZ T 9150 (fun j => bI (le j))), (rhe, cZ T 150 (fun j => bI (he j))), (rth, cZ T 150 (fun j => bI (th j))), (rpa, cI T 61 pt), (ror, cI T 4 oq)])) (hcn : cn ≤ 14) (hnx : nx < 14) (hdg : dgI cn nx D M) (hkp : kpI ik K S) : MW T h8 k ((ac, ap, ash, an, aob, arq), cn, M, S) w := ⟨rv, rn, rnw, rt, rd, rk, rik, rdk, rre, rle, rhe, rth, rpa, ror, nx, bv, bo, g9, D, K, pt, oq, ik, dk, re, le, he, th, hw, hcn, hnx, hdg, hkp⟩
theorem MW.of {T : jj_T} {h8 k : Nat} {ac ap : Nat} {ash : Bool} {an : Nat} {aob arq : Nat → Int32} {cn : Nat} {M : Nat → aS} {S : Nat → Option aS} {w : va_W} (h : MW T h8 k ((ac, ap, ash, an, aob, arq), cn, M, S) w) : ∃ (rv rn rnw rt rd rk rik rdk rre rle rhe rth rpa ror nx : Nat) (bv bo : Int32) (g9 D K pt oq : Nat → Int32) (ik dk re le he th : Nat → Bool), w.Perm ([(h8, cO 8 [.int (nI k), .ref rv, .ref rn, .ref rnw, .ref rt, .ref rd, .int (nI cn), .int (nI nx), .ref rk, .ref rik, .ref rdk, .ref rre, .ref rle, .ref rhe, .ref rth, .ref rpa, .ref ror, .int bv, .int bo]), (rv, cI T 450 cvec), (rn, cI T 600 (fun j => nI (near4 j))), (rnw, cI T 37 (rowF ac ap ash an aob arq)), (rt, cI T 37 g9), (rd, cI T 518 D), (rk, cI T 74 K), (rik, cZ T 2 (fun j => bI (ik j))), (rdk, cZ T 15300 (fun j => bI (dk j))), (rre, cZ T 9150 (fun j => bI (re j))), (rle, cZ T 9150 (fun j => bI (le j))), (rhe, cZ T 150 (fun j => bI (he j))), (rth, cZ T 150 (fun j => bI (th j))), (rpa, cI T 61 pt), (ror, cI T 4 oq)]) ∧ cn ≤ 14 ∧ nx < 14 ∧ dgI cn nx D M ∧ kpI ik K S := h
theorem PW.ex {T : jj_T} {h7 : Nat} {ac ap : Nat} {ash : Bool} {an : Nat} {aob arq : Nat → Int32} {cn : Nat} {M : Nat → aS} {S : Nat → Option aS} {w : va_W} {D9 : Prop} (h : PW T h7 ((ac, ap, ash, an, aob, arq), cn, M, S) w) (kk : ∀ (hS a0 ao ar d0 d1 d2 h1 hst hsl h2 ga go gr h3 he hew hy hyw hc hcw h4 hs so sr hl hlw hdr hh hhw hv hq ha ol dc dp dn ck gp gn mk p t0 sc sp st : Nat) (ds gs ss : Bool) (bs bd ax ay az : Int32) (lim : Int64) (dob drq gob grq sob srq : Nat → Int32) (E Y Ch LW hd : Nat → Int64) (dr : Nat → Bool) (sf slf : Nat → Option Nat) (P Q : Nat → Option oR), w.Perm ([(h7, cO 7 [.ref hS, .ref a0, .ref d0, .ref h1, .ref hsl, .ref h4, .ref h3, .ref h2]), (a0, cO 6 [.int (nI ac), .int (nI ap), .int (bI ash), .int (nI an), .ref ao, .ref ar]), (ao, cI T 21 aob), (ar, cI T 12 arq), (d0, cO 6 [.int (nI dc), .int (nI dp), .int (bI ds), .int (nI dn), .ref d1, .ref d2]), (d1, cI T 21 dob), (d2, cI T 12 drq), (h1, cO 1 [.int (nI cn), .ref hst, .int (nI ol)]), (hst, cS T 14 sf), (hsl, cS T 2 slf), (h2, cO 2 [.int bs, .int bd, .ref h3, .ref ga]), (ga, cO 6 [.int (nI ck), .int (nI gp), .int (bI gs), .int (nI gn), .ref go, .ref gr]), (go, cI T 21 gob), (gr, cI T 12 grq), (h3, cO 3 [.ref hS, .ref h4, .ref he, .ref hy, .ref hc, .int (nI mk), .int (nI p), .int (nI t0)]), (he, cO 0 [.ref hew]), (hew, cJ T 183 E), (hy, cO 0 [.ref hyw]), (hyw, cJ T 183 Y), (hc, cO 0 [.ref hcw]), (hcw, cJ T 3 Ch), (h4, cO 4 [.ref hS, .ref hs, .ref hl, .ref hdr, .int ax, .int ay, .int az, .long lim]), (hs, cO 6 [.int (nI sc), .int (nI sp), .int (bI ss), .int (nI st), .ref so, .ref sr]), (so, cI T 21 sob), (sr, cI T 12 srq), (hl, cO 0 [.ref hlw]), (hlw, cJ T 903 LW), (hdr, cZ T 301 (fun j => bI (dr j))), (hS, cO 5 [.ref hh, .ref hv, .ref hq, .ref ha]), (hv, cI T 450 cvec), (hq, cI T 150 csq), (hh, cO 0 [.ref hhw]), (hhw, cJ T 450 hd), (ha, cI T 600 (fun j => nI (near4 j)))] ++ (rgW T P 14 ++ rgW T Q 2)) → memI cn ol sf P M → slI slf Q S → skI sob dr LW → hdI hd → D9) : D9 :=
  h.elim fun hS h =>
  h.elim fun a0 h =>
  h.elim fun ao h =>
  h.elim fun ar h =>
  h.elim fun d0 h =>
  h.elim fun d1 h =>
  h.elim fun d2 h =>
  h.elim fun h1 h =>
  h.elim fun hst h =>
  h.elim fun hsl h =>
  h.elim fun h2 h =>
  h.elim fun ga h =>
  h.elim fun go h =>
  h.elim fun gr h =>
  h.elim fun h3 h =>
  h.elim fun he h =>
  h.elim fun hew h =>
  h.elim fun hy h =>
  h.elim fun hyw h =>
  h.elim fun hc h =>
  h.elim fun hcw h =>
  h.elim fun h4 h =>
  h.elim fun hs h =>
  h.elim fun so h =>
  h.elim fun sr h =>
  h.elim fun hl h =>
  h.elim fun hlw h =>
  h.elim fun hdr h =>
  h.elim fun hh h =>
  h.elim fun hhw h =>
  h.elim fun hv h =>
  h.elim fun hq h =>
  h.elim fun ha h =>
  h.elim fun ol h =>
  h.elim fun dc h =>
  h.elim fun dp h =>
  h.elim fun dn h =>
  h.elim fun ck h =>
  h.elim fun gp h =>
  h.elim fun gn h =>
  h.elim fun mk h =>
  h.elim fun p h =>
  h.elim fun t0 h =>
  h.elim fun sc h =>
  h.elim fun sp h =>
  h.elim fun st h =>
  h.elim fun ds h =>
  h.elim fun gs h =>
  h.elim fun ss h =>
  h.elim fun bs h =>
  h.elim fun bd h =>
  h.elim fun ax h =>
  h.elim fun ay h =>
  h.elim fun az h =>
  h.elim fun lim h =>
  h.elim fun dob h =>
  h.elim fun drq h =>
  h.elim fun gob h =>
  h.elim fun grq h =>
  h.elim fun sob h =>
  h.elim fun srq h =>
  h.elim fun E h =>
  h.elim fun Y h =>
  h.elim fun Ch h =>
  h.elim fun LW h =>
  h.elim fun hd h =>
  h.elim fun dr h =>
  h.elim fun sf h =>
  h.elim fun slf h =>
  h.elim fun P h =>
  h.elim fun Q h =>
  kk hS a0 ao ar d0 d1 d2 h1 hst hsl h2 ga go gr h3 he hew hy hyw hc hcw h4 hs so sr hl hlw hdr hh hhw hv hq ha ol dc dp dn ck gp gn mk p t0 sc sp st ds gs ss bs bd ax ay az lim dob drq gob grq sob srq E Y Ch LW hd dr sf slf P Q h.1 h.2.1 h.2.2.1 h.2.2.2.1 h.2.2.2.2
theorem MW.ex {T : jj_T} {h8 k : Nat} {ac ap : Nat} {ash : Bool} {an : Nat} {aob arq : Nat → Int32} {cn : Nat} {M : Nat → aS} {S : Nat → Option aS} {w : va_W} {D9 : Prop} (h : MW T h8 k ((ac, ap, ash, an, aob, arq), cn, M, S) w) (kk : ∀ (rv rn rnw rt rd rk rik rdk rre rle rhe rth rpa ror nx : Nat) (bv bo : Int32) (g9 D K pt oq : Nat → Int32) (ik dk re le he th : Nat → Bool), w.Perm ([(h8, cO 8 [.int (nI k), .ref rv, .ref rn, .ref rnw, .ref rt, .ref rd, .int (nI cn), .int (nI nx), .ref rk, .ref rik, .ref rdk, .ref rre, .ref rle, .ref rhe, .ref rth, .ref rpa, .ref ror, .int bv, .int bo]), (rv, cI T 450 cvec), (rn, cI T 600 (fun j => nI (near4 j))), (rnw, cI T 37 (rowF ac ap ash an aob arq)), (rt, cI T 37 g9), (rd, cI T 518 D), (rk, cI T 74 K), (rik, cZ T 2 (fun j => bI (ik j))), (rdk, cZ T 15300 (fun j => bI (dk j))), (rre, cZ T 9150 (fun j => bI (re j))), (rle, cZ T 9150 (fun j => bI (le j))), (rhe, cZ T 150 (fun j => bI (he j))), (rth, cZ T 150 (fun j => bI (th j))), (rpa, cI T 61 pt), (ror, cI T 4 oq)]) → cn ≤ 14 → nx < 14 → dgI cn nx D M → kpI ik K S → D9) : D9 :=
  h.elim fun rv h =>
  h.elim fun rn h =>
  h.elim fun rnw h =>
  h.elim fun rt h =>
  h.elim fun rd h =>
  h.elim fun rk h =>
  h.elim fun rik h =>
  h.elim fun rdk h =>
  h.elim fun rre h =>
  h.elim fun rle h =>
  h.elim fun rhe h =>
  h.elim fun rth h =>
  h.elim fun rpa h =>
  h.elim fun ror h =>
  h.elim fun nx h =>
  h.elim fun bv h =>
  h.elim fun bo h =>
  h.elim fun g9 h =>
  h.elim fun D h =>
  h.elim fun K h =>
  h.elim fun pt h =>
  h.elim fun oq h =>
  h.elim fun ik h =>
  h.elim fun dk h =>
  h.elim fun re h =>
  h.elim fun le h =>
  h.elim fun he h =>
  h.elim fun th h =>
  kk rv rn rnw rt rd rk rik rdk rre rle rhe rth rpa ror nx bv bo g9 D K pt oq ik dk re le he th h.1 h.2.1 h.2.2.1 h.2.2.2.1 h.2.2.2.2
