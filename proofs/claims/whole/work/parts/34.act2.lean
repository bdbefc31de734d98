/-! SLEWPLANNER: what acts (2): the slots -/
set_option maxHeartbeats 4000000 in
set_option maxRecDepth 100000 in
/-- save(slot), where there is no such slot -/
theorem c_X7_save_x (l : Launch) (T : jj_T) (hlS : l.stackTraces = false) (h7 hS d0 h1 hsl h4 h3 h2 : Nat) (a0 ao ar ac ap an : Nat) (ash : Bool) (aob arq : Nat → Int32) (slf : Nat → Option Nat) (x : Int32) (hbad : inR x 0 1 = false) : jX l T yX7_save wsX7_save { frames := 7, cells := 5, slots := 50, locals := 102 } [.ref h7, .int x] [(h7, cO 7 [.ref hS, .ref a0, .ref d0, .ref h1, .ref hsl, .ref h4, .ref h3, .ref h2]), (a0, cO 6 [.int (nI ac), .int (nI ap), .int (bI ash), .int (nI an), .ref ao, .ref ar]), (ao, cI T 21 aob), (ar, cI T 12 arq), (hsl, cS T 2 slf)] (fun v w1 => False) (fun Ex w1 => w1 = [(h7, cO 7 [.ref hS, .ref a0, .ref d0, .ref h1, .ref hsl, .ref h4, .ref h3, .ref h2]), (a0, cO 6 [.int (nI ac), .int (nI ap), .int (bI ash), .int (nI an), .ref ao, .ref ar]), (ao, cI T 21 aob), (ar, cI T 12 arq), (hsl, cS T 2 slf)] ∧ ((Ex = jE1 ∧ inR x 0 1 = false))) := by
  refine jX.of (cc := cX7_save) (maxL := 3) (ret := (some .int)) (by decide) rfl (Nat.le_of_ble_eq_true rfl) ?_
  intro X C rw_ hl hT hQ hNT hZ
  subst hl; subst hT
  have hin6 : ∀ w ∈ u_ws RX6 TX6 6, w ∈ wsX7_save := by decide +kernel
  have hin7 : ∀ w ∈ u_ws RX7 TX7 8, w ∈ wsX7_save := by decide +kernel
  have hl19 : Cond.fieldLink RX7 19 (TX7 1).1 (TX7 1).2.1 (TX7 1).2.2.1 ∈ wsX7_save := by decide +kernel
  have hl33 : Cond.fieldLink RX7 33 (TX7 4).1 (TX7 4).2.1 (TX7 4).2.2.1 ∈ wsX7_save := by decide +kernel
  have hl128 : Cond.fieldLink RX7 128 (TX6 0).1 (TX6 0).2.1 (TX6 0).2.2.1 ∈ wsX7_save := by decide +kernel
  show jj X 0 0 0 [(0, .ref h7), (1, .int x)] [] [(h7, cO 7 [.ref hS, .ref a0, .ref d0, .ref h1, .ref hsl, .ref h4, .ref h3, .ref h2]), (a0, cO 6 [.int (nI ac), .int (nI ap), .int (bI ash), .int (nI an), .ref ao, .ref ar]), (ao, cI (xT X) 21 aob), (ar, cI (xT X) 12 arq), (hsl, cS (xT X) 2 slf)]
  refine j_iload_n C dX7_save_0 1 rfl rfl ?_
  refine j_callSXp C rw_ hZ (nA := 1) (As := [.int x]) (wc := []) (wr := [(h7, cO 7 [.ref hS, .ref a0, .ref d0, .ref h1, .ref hsl, .ref h4, .ref h3, .ref h2]), (a0, cO 6 [.int (nI ac), .int (nI ap), .int (bI ash), .int (nI an), .ref ao, .ref ar]), (ao, cI (xT X) 21 aob), (ar, cI (xT X) 12 arq), (hsl, cS (xT X) 2 slf)]) (c_X7_requireSlot (xl X) (xT X) hlS x ) gX7_save_X7_requireSlot rfl (by decide +kernel) rfl (by decide) (by decide) (pm_lit2 (l := [(h7, cO 7 [.ref hS, .ref a0, .ref d0, .ref h1, .ref hsl, .ref h4, .ref h3, .ref h2]), (a0, cO 6 [.int (nI ac), .int (nI ap), .int (bI ash), .int (nI an), .ref ao, .ref ar]), (ao, cI (xT X) 21 aob), (ar, cI (xT X) 12 arq), (hsl, cS (xT X) 2 slf)]) (l' := [] ++ [(h7, cO 7 [.ref hS, .ref a0, .ref d0, .ref h1, .ref hsl, .ref h4, .ref h3, .ref h2]), (a0, cO 6 [.int (nI ac), .int (nI ap), .int (bI ash), .int (nI an), .ref ao, .ref ar]), (ao, cI (xT X) 21 aob), (ar, cI (xT X) 12 arq), (hsl, cS (xT X) 2 slf)]) [0, 1, 2, 3, 4] 5 rfl rfl (by decide)) (rest := []) rfl (Nat.le_of_ble_eq_true rfl) dX7_save_1 (fun E9 w9 hx9 => ?_) ?_
  · obtain ⟨rfl, hx9⟩ := hx9
    show jjT X 1 6 1 [(0, .ref h7), (1, .int x)] [(h7, cO 7 [.ref hS, .ref a0, .ref d0, .ref h1, .ref hsl, .ref h4, .ref h3, .ref h2]), (a0, cO 6 [.int (nI ac), .int (nI ap), .int (bI ash), .int (nI an), .ref ao, .ref ar]), (ao, cI (xT X) 21 aob), (ar, cI (xT X) 12 arq), (hsl, cS (xT X) 2 slf)] _
    refine jT_out C rw_ hQ hNT (by decide) (by decide) ?_
    exact ⟨rfl, ⟨hx9.1, hx9.2⟩⟩
  · skip
    rintro _ _ ⟨rfl, rfl, hi1⟩
    show jj X 1 6 4 [(0, .ref h7), (1, .int x)] [] [(h7, cO 7 [.ref hS, .ref a0, .ref d0, .ref h1, .ref hsl, .ref h4, .ref h3, .ref h2]), (a0, cO 6 [.int (nI ac), .int (nI ap), .int (bI ash), .int (nI an), .ref ao, .ref ar]), (ao, cI (xT X) 21 aob), (ar, cI (xT X) 12 arq), (hsl, cS (xT X) 2 slf)]
    obtain ⟨i, rfl, hb_i⟩ := inR_N (b := 1) hi1
    exact absurd hbad (by rw [hi1]; decide)

set_option maxHeartbeats 4000000 in
set_option maxRecDepth 100000 in
/-- save(slot), again -/
theorem c_X7_save_s (l : Launch) (T : jj_T) (hlS : l.stackTraces = false) (h7 hS d0 h1 hsl h4 h3 h2 : Nat) (a0 ao ar ac ap an : Nat) (ash : Bool) (aob arq : Nat → Int32) (slf : Nat → Option Nat) (i : Nat) (k0 ko kr kc kp kt : Nat) (ks : Bool) (kob krq : Nat → Int32)  (hi : i < 2) (hsf : slf i = some k0) : jX l T yX7_save wsX7_save { frames := 7, cells := 5, slots := 50, locals := 102 } [.ref h7, .int (nI i)] [(h7, cO 7 [.ref hS, .ref a0, .ref d0, .ref h1, .ref hsl, .ref h4, .ref h3, .ref h2]), (a0, cO 6 [.int (nI ac), .int (nI ap), .int (bI ash), .int (nI an), .ref ao, .ref ar]), (ao, cI T 21 aob), (ar, cI T 12 arq), (hsl, cS T 2 slf), (k0, cO 6 [.int (nI kc), .int (nI kp), .int (bI ks), .int (nI kt), .ref ko, .ref kr]), (ko, cI T 21 kob), (kr, cI T 12 krq)] (fun v w1 => v = some (.int (nI ac)) ∧ w1 = [(h7, cO 7 [.ref hS, .ref a0, .ref d0, .ref h1, .ref hsl, .ref h4, .ref h3, .ref h2]), (a0, cO 6 [.int (nI ac), .int (nI ap), .int (bI ash), .int (nI an), .ref ao, .ref ar]), (ao, cI T 21 aob), (ar, cI T 12 arq), (hsl, cS T 2 slf), (k0, cO 6 [.int (nI ac), .int (nI ap), .int (bI ash), .int (nI an), .ref ko, .ref kr]), (ko, cI T 21 aob), (kr, cI T 12 arq)]) (fun E w1 => False) := by
  refine jX.of (cc := cX7_save) (maxL := 3) (ret := (some .int)) (by decide) rfl (Nat.le_of_ble_eq_true rfl) ?_
  intro X C rw_ hl hT hQ hNT hZ
  subst hl; subst hT
  have hin6 : ∀ w ∈ u_ws RX6 TX6 6, w ∈ wsX7_save := by decide +kernel
  have hin7 : ∀ w ∈ u_ws RX7 TX7 8, w ∈ wsX7_save := by decide +kernel
  have hl19 : Cond.fieldLink RX7 19 (TX7 1).1 (TX7 1).2.1 (TX7 1).2.2.1 ∈ wsX7_save := by decide +kernel
  have hl33 : Cond.fieldLink RX7 33 (TX7 4).1 (TX7 4).2.1 (TX7 4).2.2.1 ∈ wsX7_save := by decide +kernel
  have hl128 : Cond.fieldLink RX7 128 (TX6 0).1 (TX6 0).2.1 (TX6 0).2.2.1 ∈ wsX7_save := by decide +kernel
  show jj X 0 0 0 [(0, .ref h7), (1, .int (nI i))] [] [(h7, cO 7 [.ref hS, .ref a0, .ref d0, .ref h1, .ref hsl, .ref h4, .ref h3, .ref h2]), (a0, cO 6 [.int (nI ac), .int (nI ap), .int (bI ash), .int (nI an), .ref ao, .ref ar]), (ao, cI (xT X) 21 aob), (ar, cI (xT X) 12 arq), (hsl, cS (xT X) 2 slf), (k0, cO 6 [.int (nI kc), .int (nI kp), .int (bI ks), .int (nI kt), .ref ko, .ref kr]), (ko, cI (xT X) 21 kob), (kr, cI (xT X) 12 krq)]
  refine j_iload_n C dX7_save_0 1 rfl rfl ?_
  refine j_callSXp C rw_ hZ (nA := 1) (As := [.int (nI i)]) (wc := []) (wr := [(h7, cO 7 [.ref hS, .ref a0, .ref d0, .ref h1, .ref hsl, .ref h4, .ref h3, .ref h2]), (a0, cO 6 [.int (nI ac), .int (nI ap), .int (bI ash), .int (nI an), .ref ao, .ref ar]), (ao, cI (xT X) 21 aob), (ar, cI (xT X) 12 arq), (hsl, cS (xT X) 2 slf), (k0, cO 6 [.int (nI kc), .int (nI kp), .int (bI ks), .int (nI kt), .ref ko, .ref kr]), (ko, cI (xT X) 21 kob), (kr, cI (xT X) 12 krq)]) (c_X7_requireSlot (xl X) (xT X) hlS (nI i) ) gX7_save_X7_requireSlot rfl (by decide +kernel) rfl (by decide) (by decide) (pm_lit2 (l := [(h7, cO 7 [.ref hS, .ref a0, .ref d0, .ref h1, .ref hsl, .ref h4, .ref h3, .ref h2]), (a0, cO 6 [.int (nI ac), .int (nI ap), .int (bI ash), .int (nI an), .ref ao, .ref ar]), (ao, cI (xT X) 21 aob), (ar, cI (xT X) 12 arq), (hsl, cS (xT X) 2 slf), (k0, cO 6 [.int (nI kc), .int (nI kp), .int (bI ks), .int (nI kt), .ref ko, .ref kr]), (ko, cI (xT X) 21 kob), (kr, cI (xT X) 12 krq)]) (l' := [] ++ [(h7, cO 7 [.ref hS, .ref a0, .ref d0, .ref h1, .ref hsl, .ref h4, .ref h3, .ref h2]), (a0, cO 6 [.int (nI ac), .int (nI ap), .int (bI ash), .int (nI an), .ref ao, .ref ar]), (ao, cI (xT X) 21 aob), (ar, cI (xT X) 12 arq), (hsl, cS (xT X) 2 slf), (k0, cO 6 [.int (nI kc), .int (nI kp), .int (bI ks), .int (nI kt), .ref ko, .ref kr]), (ko, cI (xT X) 21 kob), (kr, cI (xT X) 12 krq)]) [0, 1, 2, 3, 4, 5, 6, 7] 8 rfl rfl (by decide)) (rest := []) rfl (Nat.le_of_ble_eq_true rfl) dX7_save_1 (fun E9 w9 hx9 => ?_) ?_
  · obtain ⟨rfl, hx9⟩ := hx9
    show jjT X 1 6 1 [(0, .ref h7), (1, .int (nI i))] [(h7, cO 7 [.ref hS, .ref a0, .ref d0, .ref h1, .ref hsl, .ref h4, .ref h3, .ref h2]), (a0, cO 6 [.int (nI ac), .int (nI ap), .int (bI ash), .int (nI an), .ref ao, .ref ar]), (ao, cI (xT X) 21 aob), (ar, cI (xT X) 12 arq), (hsl, cS (xT X) 2 slf), (k0, cO 6 [.int (nI kc), .int (nI kp), .int (bI ks), .int (nI kt), .ref ko, .ref kr]), (ko, cI (xT X) 21 kob), (kr, cI (xT X) 12 krq)] _
    refine jT_out C rw_ hQ hNT (by decide) (by decide) ?_
    rw [inR_nI (by omega) (by omega) (by omega)] at hx9; exact absurd hx9.2 (by decide)
  · skip
    rintro _ _ ⟨rfl, rfl, hi1⟩
    show jj X 1 6 4 [(0, .ref h7), (1, .int (nI i))] [] [(h7, cO 7 [.ref hS, .ref a0, .ref d0, .ref h1, .ref hsl, .ref h4, .ref h3, .ref h2]), (a0, cO 6 [.int (nI ac), .int (nI ap), .int (bI ash), .int (nI an), .ref ao, .ref ar]), (ao, cI (xT X) 21 aob), (ar, cI (xT X) 12 arq), (hsl, cS (xT X) 2 slf), (k0, cO 6 [.int (nI kc), .int (nI kp), .int (bI ks), .int (nI kt), .ref ko, .ref kr]), (ko, cI (xT X) 21 kob), (kr, cI (xT X) 12 krq)]
    refine j_aload_n C dX7_save_4 0 rfl rfl ?_
    refine j_get C (hin7) (ci := 7) rfl 4 (by decide) (hl33) 0 rfl (v := .ref hsl) rfl dX7_save_5 ?_
    refine j_iload_n C dX7_save_8 1 rfl rfl ?_
    refine j_aaloadN C i rfl 4 rfl (by omega) (by decide) dX7_save_9 ?_
    rw [hsf]
    show jj X 1 6 10 [(0, .ref h7), (1, .int (nI i))] [.ref k0] [(h7, cO 7 [.ref hS, .ref a0, .ref d0, .ref h1, .ref hsl, .ref h4, .ref h3, .ref h2]), (a0, cO 6 [.int (nI ac), .int (nI ap), .int (bI ash), .int (nI an), .ref ao, .ref ar]), (ao, cI (xT X) 21 aob), (ar, cI (xT X) 12 arq), (hsl, cS (xT X) 2 slf), (k0, cO 6 [.int (nI kc), .int (nI kp), .int (bI ks), .int (nI kt), .ref ko, .ref kr]), (ko, cI (xT X) 21 kob), (kr, cI (xT X) 12 krq)]
    refine j_astore_n C dX7_save_10 rfl (by decide) (lv' := [(2, .ref k0), (0, .ref h7), (1, .int (nI i))]) rfl ?_
    refine j_aload_n C dX7_save_11 0 rfl rfl ?_
    refine j_ifnonnull C dX7_save_12 (tgt := 30) (by decide) ?_
    refine j_aload_n C dX7_save_30 0 rfl rfl ?_
    refine j_aload_n C dX7_save_31 1 rfl rfl ?_
    refine j_get C (hin7) (ci := 7) rfl 1 (by decide) (hl19) 0 rfl (v := .ref a0) rfl dX7_save_32 ?_
    refine j_callVM C rw_ (nA := 1) (As := [.ref a0]) (wr := [(h7, cO 7 [.ref hS, .ref a0, .ref d0, .ref h1, .ref hsl, .ref h4, .ref h3, .ref h2]), (hsl, cS (xT X) 2 slf)]) (c_X6_copyFrom (xl X) (xT X) k0 ko kr kc kp kt a0 ao ar ac ap an ks ash kob krq aob arq ) gX7_save_X6_copyFrom rfl (by decide +kernel) rfl (by decide) (by decide) [5, 6, 7, 1, 2, 3] [0, 4] rfl rfl rfl rfl (by decide) 5 rfl rfl (rest := []) rfl (Nat.le_of_ble_eq_true rfl) dX7_save_35 ?_
    rintro _ _ ⟨rfl, rfl⟩
    show jj X 1 6 38 [(2, .ref k0), (0, .ref h7), (1, .int (nI i))] [] [(h7, cO 7 [.ref hS, .ref a0, .ref d0, .ref h1, .ref hsl, .ref h4, .ref h3, .ref h2]), (hsl, cS (xT X) 2 slf), (k0, cO 6 [.int (nI ac), .int (nI ap), .int (bI ash), .int (nI an), .ref ko, .ref kr]), (ko, cI (xT X) 21 aob), (kr, cI (xT X) 12 arq), (a0, cO 6 [.int (nI ac), .int (nI ap), .int (bI ash), .int (nI an), .ref ao, .ref ar]), (ao, cI (xT X) 21 aob), (ar, cI (xT X) 12 arq)]
    refine j_aload_n C dX7_save_38 1 rfl rfl ?_
    refine j_get C (hin7) (ci := 7) rfl 1 (by decide) (hl19) 0 rfl (v := .ref a0) rfl dX7_save_39 ?_
    refine j_get C (hin6) (ci := 6) rfl 0 (by decide) (hl128) 5 rfl (v := .int (nI ac)) rfl dX7_save_42 ?_
    refine j_perm C (w' := [(h7, cO 7 [.ref hS, .ref a0, .ref d0, .ref h1, .ref hsl, .ref h4, .ref h3, .ref h2]), (a0, cO 6 [.int (nI ac), .int (nI ap), .int (bI ash), .int (nI an), .ref ao, .ref ar]), (ao, cI (xT X) 21 aob), (ar, cI (xT X) 12 arq), (hsl, cS (xT X) 2 slf), (k0, cO 6 [.int (nI ac), .int (nI ap), .int (bI ash), .int (nI an), .ref ko, .ref kr]), (ko, cI (xT X) 21 aob), (kr, cI (xT X) 12 arq)]) [0, 5, 6, 7, 1, 2, 3, 4] rfl rfl ?_
    refine j_iretX C rw_ hQ (by decide) (by decide) rfl ?_ dX7_save_45
    exact ⟨rfl, rfl⟩

set_option maxHeartbeats 4000000 in
set_option maxRecDepth 100000 in
/-- save(slot), the first time -/
theorem c_X7_save_n (l : Launch) (T : jj_T) (hlS : l.stackTraces = false) (h7 hS d0 h1 hsl h4 h3 h2 : Nat) (a0 ao ar ac ap an : Nat) (ash : Bool) (aob arq : Nat → Int32) (slf : Nat → Option Nat) (i : Nat) (hi : i < 2) (hsf : slf i = none) : jX l T yX7_save wsX7_save { frames := 7, cells := 5, slots := 50, locals := 102 } [.ref h7, .int (nI i)] [(h7, cO 7 [.ref hS, .ref a0, .ref d0, .ref h1, .ref hsl, .ref h4, .ref h3, .ref h2]), (a0, cO 6 [.int (nI ac), .int (nI ap), .int (bI ash), .int (nI an), .ref ao, .ref ar]), (ao, cI T 21 aob), (ar, cI T 12 arq), (hsl, cS T 2 slf)] (fun v w1 => ∃ k0 : Nat, ∃ ko : Nat, ∃ kr : Nat, v = some (.int (nI ac)) ∧ w1 = [(h7, cO 7 [.ref hS, .ref a0, .ref d0, .ref h1, .ref hsl, .ref h4, .ref h3, .ref h2]), (a0, cO 6 [.int (nI ac), .int (nI ap), .int (bI ash), .int (nI an), .ref ao, .ref ar]), (ao, cI T 21 aob), (ar, cI T 12 arq), (hsl, cS T 2 (va_up slf i (some k0))), (k0, cO 6 [.int (nI ac), .int (nI ap), .int (bI ash), .int (nI an), .ref ko, .ref kr]), (ko, cI T 21 aob), (kr, cI T 12 arq)]) (fun E w1 => False) := by
  refine jX.of (cc := cX7_save) (maxL := 3) (ret := (some .int)) (by decide) rfl (Nat.le_of_ble_eq_true rfl) ?_
  intro X C rw_ hl hT hQ hNT hZ
  subst hl; subst hT
  have hin6 : ∀ w ∈ u_ws RX6 TX6 6, w ∈ wsX7_save := by decide +kernel
  have hin7 : ∀ w ∈ u_ws RX7 TX7 8, w ∈ wsX7_save := by decide +kernel
  have hl19 : Cond.fieldLink RX7 19 (TX7 1).1 (TX7 1).2.1 (TX7 1).2.2.1 ∈ wsX7_save := by decide +kernel
  have hl33 : Cond.fieldLink RX7 33 (TX7 4).1 (TX7 4).2.1 (TX7 4).2.2.1 ∈ wsX7_save := by decide +kernel
  have hl128 : Cond.fieldLink RX7 128 (TX6 0).1 (TX6 0).2.1 (TX6 0).2.2.1 ∈ wsX7_save := by decide +kernel
  show jj X 0 0 0 [(0, .ref h7), (1, .int (nI i))] [] [(h7, cO 7 [.ref hS, .ref a0, .ref d0, .ref h1, .ref hsl, .ref h4, .ref h3, .ref h2]), (a0, cO 6 [.int (nI ac), .int (nI ap), .int (bI ash), .int (nI an), .ref ao, .ref ar]), (ao, cI (xT X) 21 aob), (ar, cI (xT X) 12 arq), (hsl, cS (xT X) 2 slf)]
  refine j_iload_n C dX7_save_0 1 rfl rfl ?_
  refine j_callSXp C rw_ hZ (nA := 1) (As := [.int (nI i)]) (wc := []) (wr := [(h7, cO 7 [.ref hS, .ref a0, .ref d0, .ref h1, .ref hsl, .ref h4, .ref h3, .ref h2]), (a0, cO 6 [.int (nI ac), .int (nI ap), .int (bI ash), .int (nI an), .ref ao, .ref ar]), (ao, cI (xT X) 21 aob), (ar, cI (xT X) 12 arq), (hsl, cS (xT X) 2 slf)]) (c_X7_requireSlot (xl X) (xT X) hlS (nI i) ) gX7_save_X7_requireSlot rfl (by decide +kernel) rfl (by decide) (by decide) (pm_lit2 (l := [(h7, cO 7 [.ref hS, .ref a0, .ref d0, .ref h1, .ref hsl, .ref h4, .ref h3, .ref h2]), (a0, cO 6 [.int (nI ac), .int (nI ap), .int (bI ash), .int (nI an), .ref ao, .ref ar]), (ao, cI (xT X) 21 aob), (ar, cI (xT X) 12 arq), (hsl, cS (xT X) 2 slf)]) (l' := [] ++ [(h7, cO 7 [.ref hS, .ref a0, .ref d0, .ref h1, .ref hsl, .ref h4, .ref h3, .ref h2]), (a0, cO 6 [.int (nI ac), .int (nI ap), .int (bI ash), .int (nI an), .ref ao, .ref ar]), (ao, cI (xT X) 21 aob), (ar, cI (xT X) 12 arq), (hsl, cS (xT X) 2 slf)]) [0, 1, 2, 3, 4] 5 rfl rfl (by decide)) (rest := []) rfl (Nat.le_of_ble_eq_true rfl) dX7_save_1 (fun E9 w9 hx9 => ?_) ?_
  · obtain ⟨rfl, hx9⟩ := hx9
    show jjT X 1 6 1 [(0, .ref h7), (1, .int (nI i))] [(h7, cO 7 [.ref hS, .ref a0, .ref d0, .ref h1, .ref hsl, .ref h4, .ref h3, .ref h2]), (a0, cO 6 [.int (nI ac), .int (nI ap), .int (bI ash), .int (nI an), .ref ao, .ref ar]), (ao, cI (xT X) 21 aob), (ar, cI (xT X) 12 arq), (hsl, cS (xT X) 2 slf)] _
    refine jT_out C rw_ hQ hNT (by decide) (by decide) ?_
    rw [inR_nI (by omega) (by omega) (by omega)] at hx9; exact absurd hx9.2 (by decide)
  · skip
    rintro _ _ ⟨rfl, rfl, hi1⟩
    show jj X 1 6 4 [(0, .ref h7), (1, .int (nI i))] [] [(h7, cO 7 [.ref hS, .ref a0, .ref d0, .ref h1, .ref hsl, .ref h4, .ref h3, .ref h2]), (a0, cO 6 [.int (nI ac), .int (nI ap), .int (bI ash), .int (nI an), .ref ao, .ref ar]), (ao, cI (xT X) 21 aob), (ar, cI (xT X) 12 arq), (hsl, cS (xT X) 2 slf)]
    refine j_aload_n C dX7_save_4 0 rfl rfl ?_
    refine j_get C (hin7) (ci := 7) rfl 4 (by decide) (hl33) 0 rfl (v := .ref hsl) rfl dX7_save_5 ?_
    refine j_iload_n C dX7_save_8 1 rfl rfl ?_
    refine j_aaloadN C i rfl 4 rfl (by omega) (by decide) dX7_save_9 ?_
    rw [hsf]
    show jj X 1 6 10 [(0, .ref h7), (1, .int (nI i))] [.null] [(h7, cO 7 [.ref hS, .ref a0, .ref d0, .ref h1, .ref hsl, .ref h4, .ref h3, .ref h2]), (a0, cO 6 [.int (nI ac), .int (nI ap), .int (bI ash), .int (nI an), .ref ao, .ref ar]), (ao, cI (xT X) 21 aob), (ar, cI (xT X) 12 arq), (hsl, cS (xT X) 2 slf)]
    refine j_astore_nN C dX7_save_10 rfl (by decide) (lv' := [(2, .null), (0, .ref h7), (1, .int (nI i))]) rfl ?_
    refine j_aload_nN C dX7_save_11 0 rfl rfl ?_
    refine j_ifnonnullN C dX7_save_12 ?_
    refine j_new C rw_ (hin6) tyX6 tyX6_ok (ci := 6) rfl (by decide +kernel) (by decide +kernel) (by decide +kernel) (fs := [.int (nI 0), .int (nI 0), .int (bI false), .int (nI 0), .null, .null]) (by decide +kernel) (by decide) (by decide) dX7_save_15 (fun k0 => ?_)
    show jj X 2 12 18 [(2, .null), (0, .ref h7), (1, .int (nI i))] [.ref k0] [(h7, cO 7 [.ref hS, .ref a0, .ref d0, .ref h1, .ref hsl, .ref h4, .ref h3, .ref h2]), (a0, cO 6 [.int (nI ac), .int (nI ap), .int (bI ash), .int (nI an), .ref ao, .ref ar]), (ao, cI (xT X) 21 aob), (ar, cI (xT X) 12 arq), (hsl, cS (xT X) 2 slf), (k0, cO 6 [.int (nI 0), .int (nI 0), .int (bI false), .int (nI 0), .null, .null])]
    refine j_dup C dX7_save_18 rfl ?_
    refine j_callIM C rw_ (nA := 0) (As := []) (wr := [(h7, cO 7 [.ref hS, .ref a0, .ref d0, .ref h1, .ref hsl, .ref h4, .ref h3, .ref h2]), (a0, cO 6 [.int (nI ac), .int (nI ap), .int (bI ash), .int (nI an), .ref ao, .ref ar]), (ao, cI (xT X) 21 aob), (ar, cI (xT X) 12 arq), (hsl, cS (xT X) 2 slf)]) (c_X6_init (xl X) (xT X) k0 ) gX7_save_X6_init rfl (by decide +kernel) (by decide +kernel) (by decide +kernel) rfl (by decide +kernel) rfl (by decide) (by decide) [5] [0, 1, 2, 3, 4] rfl rfl rfl rfl (by decide) (rest := [.ref k0]) rfl (Nat.le_of_ble_eq_true rfl) dX7_save_19 ?_
    rintro _ _ ⟨qo_1, qr_2, rfl, rfl⟩
    show jj X 4 45 22 [(2, .null), (0, .ref h7), (1, .int (nI i))] [.ref k0] [(h7, cO 7 [.ref hS, .ref a0, .ref d0, .ref h1, .ref hsl, .ref h4, .ref h3, .ref h2]), (a0, cO 6 [.int (nI ac), .int (nI ap), .int (bI ash), .int (nI an), .ref ao, .ref ar]), (ao, cI (xT X) 21 aob), (ar, cI (xT X) 12 arq), (hsl, cS (xT X) 2 slf), (k0, cO 6 [.int (nI 0), .int (nI 0), .int (bI false), .int (nI 0), .ref qo_1, .ref qr_2]), (qo_1, cI (xT X) 21 st_ob0), (qr_2, cI (xT X) 12 (fun _ => 0))]
    refine j_astore_n C dX7_save_22 rfl (by decide) (lv' := [(2, .ref k0), (0, .ref h7), (1, .int (nI i))]) rfl ?_
    refine j_aload_n C dX7_save_23 1 rfl rfl ?_
    refine j_get C (hin7) (ci := 7) rfl 4 (by decide) (hl33) 0 rfl (v := .ref hsl) rfl dX7_save_24 ?_
    refine j_iload_n C dX7_save_27 2 rfl rfl ?_
    refine j_aload_n C dX7_save_28 0 rfl rfl ?_
    refine j_aastoreN C rw_ i rfl 4 rfl (by omega) (by decide) 5 rfl (w' := [(h7, cO 7 [.ref hS, .ref a0, .ref d0, .ref h1, .ref hsl, .ref h4, .ref h3, .ref h2]), (a0, cO 6 [.int (nI ac), .int (nI ap), .int (bI ash), .int (nI an), .ref ao, .ref ar]), (ao, cI (xT X) 21 aob), (ar, cI (xT X) 12 arq), (hsl, cS (xT X) 2 (va_up slf i (some k0))), (k0, cO 6 [.int (nI 0), .int (nI 0), .int (bI false), .int (nI 0), .ref qo_1, .ref qr_2]), (qo_1, cI (xT X) 21 st_ob0), (qr_2, cI (xT X) 12 (fun _ => 0))]) rfl dX7_save_29 ?_
    refine j_aload_n C dX7_save_30 0 rfl rfl ?_
    refine j_aload_n C dX7_save_31 1 rfl rfl ?_
    refine j_get C (hin7) (ci := 7) rfl 1 (by decide) (hl19) 0 rfl (v := .ref a0) rfl dX7_save_32 ?_
    refine j_callVM C rw_ (nA := 1) (As := [.ref a0]) (wr := [(h7, cO 7 [.ref hS, .ref a0, .ref d0, .ref h1, .ref hsl, .ref h4, .ref h3, .ref h2]), (hsl, cS (xT X) 2 (va_up slf i (some k0)))]) (c_X6_copyFrom (xl X) (xT X) k0 qo_1 qr_2 0 0 0 a0 ao ar ac ap an false ash st_ob0 (fun _ => 0) aob arq ) gX7_save_X6_copyFrom rfl (by decide +kernel) rfl (by decide) (by decide) [5, 6, 7, 1, 2, 3] [0, 4] rfl rfl rfl rfl (by decide) 5 rfl rfl (rest := []) rfl (Nat.le_of_ble_eq_true rfl) dX7_save_35 ?_
    rintro _ _ ⟨rfl, rfl⟩
    show jj X 4 45 38 [(2, .ref k0), (0, .ref h7), (1, .int (nI i))] [] [(h7, cO 7 [.ref hS, .ref a0, .ref d0, .ref h1, .ref hsl, .ref h4, .ref h3, .ref h2]), (hsl, cS (xT X) 2 (va_up slf i (some k0))), (k0, cO 6 [.int (nI ac), .int (nI ap), .int (bI ash), .int (nI an), .ref qo_1, .ref qr_2]), (qo_1, cI (xT X) 21 aob), (qr_2, cI (xT X) 12 arq), (a0, cO 6 [.int (nI ac), .int (nI ap), .int (bI ash), .int (nI an), .ref ao, .ref ar]), (ao, cI (xT X) 21 aob), (ar, cI (xT X) 12 arq)]
    refine j_aload_n C dX7_save_38 1 rfl rfl ?_
    refine j_get C (hin7) (ci := 7) rfl 1 (by decide) (hl19) 0 rfl (v := .ref a0) rfl dX7_save_39 ?_
    refine j_get C (hin6) (ci := 6) rfl 0 (by decide) (hl128) 5 rfl (v := .int (nI ac)) rfl dX7_save_42 ?_
    refine j_perm C (w' := [(h7, cO 7 [.ref hS, .ref a0, .ref d0, .ref h1, .ref hsl, .ref h4, .ref h3, .ref h2]), (a0, cO 6 [.int (nI ac), .int (nI ap), .int (bI ash), .int (nI an), .ref ao, .ref ar]), (ao, cI (xT X) 21 aob), (ar, cI (xT X) 12 arq), (hsl, cS (xT X) 2 (va_up slf i (some k0))), (k0, cO 6 [.int (nI ac), .int (nI ap), .int (bI ash), .int (nI an), .ref qo_1, .ref qr_2]), (qo_1, cI (xT X) 21 aob), (qr_2, cI (xT X) 12 arq)]) [0, 5, 6, 7, 1, 2, 3, 4] rfl rfl ?_
    refine j_iretX C rw_ hQ (by decide) (by decide) rfl ?_ dX7_save_45
    exact ⟨_, _, _, rfl, rfl⟩

set_option maxHeartbeats 4000000 in
set_option maxRecDepth 100000 in
/-- restore(slot) -/
theorem c_X7_restore_s (l : Launch) (T : jj_T) (hlS : l.stackTraces = false) (h7 hS d0 h1 hsl h4 h3 h2 : Nat) (a0 ao ar ac ap an : Nat) (ash : Bool) (aob arq : Nat → Int32) (slf : Nat → Option Nat) (i hst cn ol : Nat) (k0 ko kr kc kp kt : Nat) (ks : Bool) (kob krq : Nat → Int32)  (hi : i < 2) (hsf : slf i = some k0) : jX l T yX7_restore wsX7_restore { frames := 7, cells := 5, slots := 50, locals := 102 } [.ref h7, .int (nI i)] [(h7, cO 7 [.ref hS, .ref a0, .ref d0, .ref h1, .ref hsl, .ref h4, .ref h3, .ref h2]), (a0, cO 6 [.int (nI ac), .int (nI ap), .int (bI ash), .int (nI an), .ref ao, .ref ar]), (ao, cI T 21 aob), (ar, cI T 12 arq), (hsl, cS T 2 slf), (h1, cO 1 [.int (nI cn), .ref hst, .int (nI ol)]), (k0, cO 6 [.int (nI kc), .int (nI kp), .int (bI ks), .int (nI kt), .ref ko, .ref kr]), (ko, cI T 21 kob), (kr, cI T 12 krq)] (fun v w1 => v = some (.int (nI kc)) ∧ w1 = [(h7, cO 7 [.ref hS, .ref a0, .ref d0, .ref h1, .ref hsl, .ref h4, .ref h3, .ref h2]), (a0, cO 6 [.int (nI kc), .int (nI kp), .int (bI ks), .int (nI kt), .ref ao, .ref ar]), (ao, cI T 21 kob), (ar, cI T 12 krq), (hsl, cS T 2 slf), (h1, cO 1 [.int (nI 0), .ref hst, .int (nI 0)]), (k0, cO 6 [.int (nI kc), .int (nI kp), .int (bI ks), .int (nI kt), .ref ko, .ref kr]), (ko, cI T 21 kob), (kr, cI T 12 krq)]) (fun E w1 => False) := by
  refine jX.of (cc := cX7_restore) (maxL := 3) (ret := (some .int)) (by decide) rfl (Nat.le_of_ble_eq_true rfl) ?_
  intro X C rw_ hl hT hQ hNT hZ
  subst hl; subst hT
  have hin6 : ∀ w ∈ u_ws RX6 TX6 6, w ∈ wsX7_restore := by decide +kernel
  have hin7 : ∀ w ∈ u_ws RX7 TX7 8, w ∈ wsX7_restore := by decide +kernel
  have hl19 : Cond.fieldLink RX7 19 (TX7 1).1 (TX7 1).2.1 (TX7 1).2.2.1 ∈ wsX7_restore := by decide +kernel
  have hl29 : Cond.fieldLink RX7 29 (TX7 3).1 (TX7 3).2.1 (TX7 3).2.2.1 ∈ wsX7_restore := by decide +kernel
  have hl33 : Cond.fieldLink RX7 33 (TX7 4).1 (TX7 4).2.1 (TX7 4).2.2.1 ∈ wsX7_restore := by decide +kernel
  have hl128 : Cond.fieldLink RX7 128 (TX6 0).1 (TX6 0).2.1 (TX6 0).2.2.1 ∈ wsX7_restore := by decide +kernel
  show jj X 0 0 0 [(0, .ref h7), (1, .int (nI i))] [] [(h7, cO 7 [.ref hS, .ref a0, .ref d0, .ref h1, .ref hsl, .ref h4, .ref h3, .ref h2]), (a0, cO 6 [.int (nI ac), .int (nI ap), .int (bI ash), .int (nI an), .ref ao, .ref ar]), (ao, cI (xT X) 21 aob), (ar, cI (xT X) 12 arq), (hsl, cS (xT X) 2 slf), (h1, cO 1 [.int (nI cn), .ref hst, .int (nI ol)]), (k0, cO 6 [.int (nI kc), .int (nI kp), .int (bI ks), .int (nI kt), .ref ko, .ref kr]), (ko, cI (xT X) 21 kob), (kr, cI (xT X) 12 krq)]
  refine j_iload_n C dX7_restore_0 1 rfl rfl ?_
  refine j_callSXp C rw_ hZ (nA := 1) (As := [.int (nI i)]) (wc := []) (wr := [(h7, cO 7 [.ref hS, .ref a0, .ref d0, .ref h1, .ref hsl, .ref h4, .ref h3, .ref h2]), (a0, cO 6 [.int (nI ac), .int (nI ap), .int (bI ash), .int (nI an), .ref ao, .ref ar]), (ao, cI (xT X) 21 aob), (ar, cI (xT X) 12 arq), (hsl, cS (xT X) 2 slf), (h1, cO 1 [.int (nI cn), .ref hst, .int (nI ol)]), (k0, cO 6 [.int (nI kc), .int (nI kp), .int (bI ks), .int (nI kt), .ref ko, .ref kr]), (ko, cI (xT X) 21 kob), (kr, cI (xT X) 12 krq)]) (c_X7_requireSlot (xl X) (xT X) hlS (nI i) ) gX7_restore_X7_requireSlot rfl (by decide +kernel) rfl (by decide) (by decide) (pm_lit2 (l := [(h7, cO 7 [.ref hS, .ref a0, .ref d0, .ref h1, .ref hsl, .ref h4, .ref h3, .ref h2]), (a0, cO 6 [.int (nI ac), .int (nI ap), .int (bI ash), .int (nI an), .ref ao, .ref ar]), (ao, cI (xT X) 21 aob), (ar, cI (xT X) 12 arq), (hsl, cS (xT X) 2 slf), (h1, cO 1 [.int (nI cn), .ref hst, .int (nI ol)]), (k0, cO 6 [.int (nI kc), .int (nI kp), .int (bI ks), .int (nI kt), .ref ko, .ref kr]), (ko, cI (xT X) 21 kob), (kr, cI (xT X) 12 krq)]) (l' := [] ++ [(h7, cO 7 [.ref hS, .ref a0, .ref d0, .ref h1, .ref hsl, .ref h4, .ref h3, .ref h2]), (a0, cO 6 [.int (nI ac), .int (nI ap), .int (bI ash), .int (nI an), .ref ao, .ref ar]), (ao, cI (xT X) 21 aob), (ar, cI (xT X) 12 arq), (hsl, cS (xT X) 2 slf), (h1, cO 1 [.int (nI cn), .ref hst, .int (nI ol)]), (k0, cO 6 [.int (nI kc), .int (nI kp), .int (bI ks), .int (nI kt), .ref ko, .ref kr]), (ko, cI (xT X) 21 kob), (kr, cI (xT X) 12 krq)]) [0, 1, 2, 3, 4, 5, 6, 7, 8] 9 rfl rfl (by decide)) (rest := []) rfl (Nat.le_of_ble_eq_true rfl) dX7_restore_1 (fun E9 w9 hx9 => ?_) ?_
  · obtain ⟨rfl, hx9⟩ := hx9
    show jjT X 1 6 1 [(0, .ref h7), (1, .int (nI i))] [(h7, cO 7 [.ref hS, .ref a0, .ref d0, .ref h1, .ref hsl, .ref h4, .ref h3, .ref h2]), (a0, cO 6 [.int (nI ac), .int (nI ap), .int (bI ash), .int (nI an), .ref ao, .ref ar]), (ao, cI (xT X) 21 aob), (ar, cI (xT X) 12 arq), (hsl, cS (xT X) 2 slf), (h1, cO 1 [.int (nI cn), .ref hst, .int (nI ol)]), (k0, cO 6 [.int (nI kc), .int (nI kp), .int (bI ks), .int (nI kt), .ref ko, .ref kr]), (ko, cI (xT X) 21 kob), (kr, cI (xT X) 12 krq)] _
    refine jT_out C rw_ hQ hNT (by decide) (by decide) ?_
    rw [inR_nI (by omega) (by omega) (by omega)] at hx9; exact absurd hx9.2 (by decide)
  · skip
    rintro _ _ ⟨rfl, rfl, hi1⟩
    show jj X 1 6 4 [(0, .ref h7), (1, .int (nI i))] [] [(h7, cO 7 [.ref hS, .ref a0, .ref d0, .ref h1, .ref hsl, .ref h4, .ref h3, .ref h2]), (a0, cO 6 [.int (nI ac), .int (nI ap), .int (bI ash), .int (nI an), .ref ao, .ref ar]), (ao, cI (xT X) 21 aob), (ar, cI (xT X) 12 arq), (hsl, cS (xT X) 2 slf), (h1, cO 1 [.int (nI cn), .ref hst, .int (nI ol)]), (k0, cO 6 [.int (nI kc), .int (nI kp), .int (bI ks), .int (nI kt), .ref ko, .ref kr]), (ko, cI (xT X) 21 kob), (kr, cI (xT X) 12 krq)]
    refine j_aload_n C dX7_restore_4 0 rfl rfl ?_
    refine j_get C (hin7) (ci := 7) rfl 4 (by decide) (hl33) 0 rfl (v := .ref hsl) rfl dX7_restore_5 ?_
    refine j_iload_n C dX7_restore_8 1 rfl rfl ?_
    refine j_aaloadN C i rfl 4 rfl (by omega) (by decide) dX7_restore_9 ?_
    rw [hsf]
    show jj X 1 6 10 [(0, .ref h7), (1, .int (nI i))] [.ref k0] [(h7, cO 7 [.ref hS, .ref a0, .ref d0, .ref h1, .ref hsl, .ref h4, .ref h3, .ref h2]), (a0, cO 6 [.int (nI ac), .int (nI ap), .int (bI ash), .int (nI an), .ref ao, .ref ar]), (ao, cI (xT X) 21 aob), (ar, cI (xT X) 12 arq), (hsl, cS (xT X) 2 slf), (h1, cO 1 [.int (nI cn), .ref hst, .int (nI ol)]), (k0, cO 6 [.int (nI kc), .int (nI kp), .int (bI ks), .int (nI kt), .ref ko, .ref kr]), (ko, cI (xT X) 21 kob), (kr, cI (xT X) 12 krq)]
    refine j_astore_n C dX7_restore_10 rfl (by decide) (lv' := [(2, .ref k0), (0, .ref h7), (1, .int (nI i))]) rfl ?_
    refine j_aload_n C dX7_restore_11 0 rfl rfl ?_
    refine j_ifnonnull C dX7_restore_12 (tgt := 26) (by decide) ?_
    refine j_aload_n C dX7_restore_26 1 rfl rfl ?_
    refine j_get C (hin7) (ci := 7) rfl 1 (by decide) (hl19) 0 rfl (v := .ref a0) rfl dX7_restore_27 ?_
    refine j_aload_n C dX7_restore_30 0 rfl rfl ?_
    refine j_callVM C rw_ (nA := 1) (As := [.ref k0]) (wr := [(h7, cO 7 [.ref hS, .ref a0, .ref d0, .ref h1, .ref hsl, .ref h4, .ref h3, .ref h2]), (hsl, cS (xT X) 2 slf), (h1, cO 1 [.int (nI cn), .ref hst, .int (nI ol)])]) (c_X6_copyFrom (xl X) (xT X) a0 ao ar ac ap an k0 ko kr kc kp kt ash ks aob arq kob krq ) gX7_restore_X6_copyFrom rfl (by decide +kernel) rfl (by decide) (by decide) [1, 2, 3, 6, 7, 8] [0, 4, 5] rfl rfl rfl rfl (by decide) 1 rfl rfl (rest := []) rfl (Nat.le_of_ble_eq_true rfl) dX7_restore_31 ?_
    rintro _ _ ⟨rfl, rfl⟩
    show jj X 1 6 34 [(2, .ref k0), (0, .ref h7), (1, .int (nI i))] [] [(h7, cO 7 [.ref hS, .ref a0, .ref d0, .ref h1, .ref hsl, .ref h4, .ref h3, .ref h2]), (hsl, cS (xT X) 2 slf), (h1, cO 1 [.int (nI cn), .ref hst, .int (nI ol)]), (a0, cO 6 [.int (nI kc), .int (nI kp), .int (bI ks), .int (nI kt), .ref ao, .ref ar]), (ao, cI (xT X) 21 kob), (ar, cI (xT X) 12 krq), (k0, cO 6 [.int (nI kc), .int (nI kp), .int (bI ks), .int (nI kt), .ref ko, .ref kr]), (ko, cI (xT X) 21 kob), (kr, cI (xT X) 12 krq)]
    refine j_aload_n C dX7_restore_34 1 rfl rfl ?_
    refine j_get C (hin7) (ci := 7) rfl 3 (by decide) (hl29) 0 rfl (v := .ref h1) rfl dX7_restore_35 ?_
    refine j_callVM C rw_ (nA := 0) (As := []) (wr := [(h7, cO 7 [.ref hS, .ref a0, .ref d0, .ref h1, .ref hsl, .ref h4, .ref h3, .ref h2]), (hsl, cS (xT X) 2 slf), (a0, cO 6 [.int (nI kc), .int (nI kp), .int (bI ks), .int (nI kt), .ref ao, .ref ar]), (ao, cI (xT X) 21 kob), (ar, cI (xT X) 12 krq), (k0, cO 6 [.int (nI kc), .int (nI kp), .int (bI ks), .int (nI kt), .ref ko, .ref kr]), (ko, cI (xT X) 21 kob), (kr, cI (xT X) 12 krq)]) (c_X1_forgetAll (xl X) (xT X) h1 hst cn ol ) gX7_restore_X1_forgetAll rfl (by decide +kernel) rfl (by decide) (by decide) [2] [0, 1, 3, 4, 5, 6, 7, 8] rfl rfl rfl rfl (by decide) 2 rfl rfl (rest := []) rfl (Nat.le_of_ble_eq_true rfl) dX7_restore_38 ?_
    rintro _ _ ⟨rfl, rfl⟩
    show jj X 1 6 41 [(2, .ref k0), (0, .ref h7), (1, .int (nI i))] [] [(h7, cO 7 [.ref hS, .ref a0, .ref d0, .ref h1, .ref hsl, .ref h4, .ref h3, .ref h2]), (hsl, cS (xT X) 2 slf), (a0, cO 6 [.int (nI kc), .int (nI kp), .int (bI ks), .int (nI kt), .ref ao, .ref ar]), (ao, cI (xT X) 21 kob), (ar, cI (xT X) 12 krq), (k0, cO 6 [.int (nI kc), .int (nI kp), .int (bI ks), .int (nI kt), .ref ko, .ref kr]), (ko, cI (xT X) 21 kob), (kr, cI (xT X) 12 krq), (h1, cO 1 [.int (nI 0), .ref hst, .int (nI 0)])]
    refine j_aload_n C dX7_restore_41 1 rfl rfl ?_
    refine j_get C (hin7) (ci := 7) rfl 1 (by decide) (hl19) 0 rfl (v := .ref a0) rfl dX7_restore_42 ?_
    refine j_get C (hin6) (ci := 6) rfl 0 (by decide) (hl128) 2 rfl (v := .int (nI kc)) rfl dX7_restore_45 ?_
    refine j_perm C (w' := [(h7, cO 7 [.ref hS, .ref a0, .ref d0, .ref h1, .ref hsl, .ref h4, .ref h3, .ref h2]), (a0, cO 6 [.int (nI kc), .int (nI kp), .int (bI ks), .int (nI kt), .ref ao, .ref ar]), (ao, cI (xT X) 21 kob), (ar, cI (xT X) 12 krq), (hsl, cS (xT X) 2 slf), (h1, cO 1 [.int (nI 0), .ref hst, .int (nI 0)]), (k0, cO 6 [.int (nI kc), .int (nI kp), .int (bI ks), .int (nI kt), .ref ko, .ref kr]), (ko, cI (xT X) 21 kob), (kr, cI (xT X) 12 krq)]) [0, 2, 3, 4, 1, 8, 5, 6, 7] rfl rfl ?_
    refine j_iretX C rw_ hQ (by decide) (by decide) rfl ?_ dX7_restore_48
    exact ⟨rfl, rfl⟩

set_option maxHeartbeats 4000000 in
set_option maxRecDepth 100000 in
/-- restore(slot), where the slot is empty -/
theorem c_X7_restore_n (l : Launch) (T : jj_T) (hlS : l.stackTraces = false) (h7 hS d0 h1 hsl h4 h3 h2 : Nat) (a0 ao ar ac ap an : Nat) (ash : Bool) (aob arq : Nat → Int32) (slf : Nat → Option Nat) (i : Nat) (hi : i < 2) (hsf : slf i = none) : jX l T yX7_restore wsX7_restore { frames := 7, cells := 5, slots := 50, locals := 102 } [.ref h7, .int (nI i)] [(h7, cO 7 [.ref hS, .ref a0, .ref d0, .ref h1, .ref hsl, .ref h4, .ref h3, .ref h2]), (a0, cO 6 [.int (nI ac), .int (nI ap), .int (bI ash), .int (nI an), .ref ao, .ref ar]), (ao, cI T 21 aob), (ar, cI T 12 arq), (hsl, cS T 2 slf)] (fun v w1 => False) (fun E w1 => w1 = [(h7, cO 7 [.ref hS, .ref a0, .ref d0, .ref h1, .ref hsl, .ref h4, .ref h3, .ref h2]), (a0, cO 6 [.int (nI ac), .int (nI ap), .int (bI ash), .int (nI an), .ref ao, .ref ar]), (ao, cI T 21 aob), (ar, cI T 12 arq), (hsl, cS T 2 slf)] ∧ E = jE3) := by
  refine jX.of (cc := cX7_restore) (maxL := 3) (ret := (some .int)) (by decide) rfl (Nat.le_of_ble_eq_true rfl) ?_
  intro X C rw_ hl hT hQ hNT hZ
  subst hl; subst hT
  have hin6 : ∀ w ∈ u_ws RX6 TX6 6, w ∈ wsX7_restore := by decide +kernel
  have hin7 : ∀ w ∈ u_ws RX7 TX7 8, w ∈ wsX7_restore := by decide +kernel
  have hl19 : Cond.fieldLink RX7 19 (TX7 1).1 (TX7 1).2.1 (TX7 1).2.2.1 ∈ wsX7_restore := by decide +kernel
  have hl29 : Cond.fieldLink RX7 29 (TX7 3).1 (TX7 3).2.1 (TX7 3).2.2.1 ∈ wsX7_restore := by decide +kernel
  have hl33 : Cond.fieldLink RX7 33 (TX7 4).1 (TX7 4).2.1 (TX7 4).2.2.1 ∈ wsX7_restore := by decide +kernel
  have hl128 : Cond.fieldLink RX7 128 (TX6 0).1 (TX6 0).2.1 (TX6 0).2.2.1 ∈ wsX7_restore := by decide +kernel
  show jj X 0 0 0 [(0, .ref h7), (1, .int (nI i))] [] [(h7, cO 7 [.ref hS, .ref a0, .ref d0, .ref h1, .ref hsl, .ref h4, .ref h3, .ref h2]), (a0, cO 6 [.int (nI ac), .int (nI ap), .int (bI ash), .int (nI an), .ref ao, .ref ar]), (ao, cI (xT X) 21 aob), (ar, cI (xT X) 12 arq), (hsl, cS (xT X) 2 slf)]
  refine j_iload_n C dX7_restore_0 1 rfl rfl ?_
  refine j_callSXp C rw_ hZ (nA := 1) (As := [.int (nI i)]) (wc := []) (wr := [(h7, cO 7 [.ref hS, .ref a0, .ref d0, .ref h1, .ref hsl, .ref h4, .ref h3, .ref h2]), (a0, cO 6 [.int (nI ac), .int (nI ap), .int (bI ash), .int (nI an), .ref ao, .ref ar]), (ao, cI (xT X) 21 aob), (ar, cI (xT X) 12 arq), (hsl, cS (xT X) 2 slf)]) (c_X7_requireSlot (xl X) (xT X) hlS (nI i) ) gX7_restore_X7_requireSlot rfl (by decide +kernel) rfl (by decide) (by decide) (pm_lit2 (l := [(h7, cO 7 [.ref hS, .ref a0, .ref d0, .ref h1, .ref hsl, .ref h4, .ref h3, .ref h2]), (a0, cO 6 [.int (nI ac), .int (nI ap), .int (bI ash), .int (nI an), .ref ao, .ref ar]), (ao, cI (xT X) 21 aob), (ar, cI (xT X) 12 arq), (hsl, cS (xT X) 2 slf)]) (l' := [] ++ [(h7, cO 7 [.ref hS, .ref a0, .ref d0, .ref h1, .ref hsl, .ref h4, .ref h3, .ref h2]), (a0, cO 6 [.int (nI ac), .int (nI ap), .int (bI ash), .int (nI an), .ref ao, .ref ar]), (ao, cI (xT X) 21 aob), (ar, cI (xT X) 12 arq), (hsl, cS (xT X) 2 slf)]) [0, 1, 2, 3, 4] 5 rfl rfl (by decide)) (rest := []) rfl (Nat.le_of_ble_eq_true rfl) dX7_restore_1 (fun E9 w9 hx9 => ?_) ?_
  · obtain ⟨rfl, hx9⟩ := hx9
    show jjT X 1 6 1 [(0, .ref h7), (1, .int (nI i))] [(h7, cO 7 [.ref hS, .ref a0, .ref d0, .ref h1, .ref hsl, .ref h4, .ref h3, .ref h2]), (a0, cO 6 [.int (nI ac), .int (nI ap), .int (bI ash), .int (nI an), .ref ao, .ref ar]), (ao, cI (xT X) 21 aob), (ar, cI (xT X) 12 arq), (hsl, cS (xT X) 2 slf)] _
    refine jT_out C rw_ hQ hNT (by decide) (by decide) ?_
    rw [inR_nI (by omega) (by omega) (by omega)] at hx9; exact absurd hx9.2 (by decide)
  · skip
    rintro _ _ ⟨rfl, rfl, hi1⟩
    show jj X 1 6 4 [(0, .ref h7), (1, .int (nI i))] [] [(h7, cO 7 [.ref hS, .ref a0, .ref d0, .ref h1, .ref hsl, .ref h4, .ref h3, .ref h2]), (a0, cO 6 [.int (nI ac), .int (nI ap), .int (bI ash), .int (nI an), .ref ao, .ref ar]), (ao, cI (xT X) 21 aob), (ar, cI (xT X) 12 arq), (hsl, cS (xT X) 2 slf)]
    refine j_aload_n C dX7_restore_4 0 rfl rfl ?_
    refine j_get C (hin7) (ci := 7) rfl 4 (by decide) (hl33) 0 rfl (v := .ref hsl) rfl dX7_restore_5 ?_
    refine j_iload_n C dX7_restore_8 1 rfl rfl ?_
    refine j_aaloadN C i rfl 4 rfl (by omega) (by decide) dX7_restore_9 ?_
    rw [hsf]
    show jj X 1 6 10 [(0, .ref h7), (1, .int (nI i))] [.null] [(h7, cO 7 [.ref hS, .ref a0, .ref d0, .ref h1, .ref hsl, .ref h4, .ref h3, .ref h2]), (a0, cO 6 [.int (nI ac), .int (nI ap), .int (bI ash), .int (nI an), .ref ao, .ref ar]), (ao, cI (xT X) 21 aob), (ar, cI (xT X) 12 arq), (hsl, cS (xT X) 2 slf)]
    refine j_astore_nN C dX7_restore_10 rfl (by decide) (lv' := [(2, .null), (0, .ref h7), (1, .int (nI i))]) rfl ?_
    refine j_aload_nN C dX7_restore_11 0 rfl rfl ?_
    refine j_ifnonnullN C dX7_restore_12 ?_
    refine j_throwSW C rw_ hQ hNT hZ hlS (E := jE3) (text := "the slot is empty") (by decide) jj_ng3 (by decide +kernel) (by decide +kernel) (by decide +kernel) (by decide +kernel) (by decide +kernel) (by decide) (by decide) (by decide) (by decide) (by decide) dX7_restore_15 dX7_restore_18 dX7_restore_19 dX7_restore_22 dX7_restore_25 ?_
    exact ⟨rfl, rfl⟩

set_option maxHeartbeats 4000000 in
set_option maxRecDepth 100000 in
/-- restore(slot), where there is no such slot -/
theorem c_X7_restore_x (l : Launch) (T : jj_T) (hlS : l.stackTraces = false) (h7 hS d0 h1 hsl h4 h3 h2 : Nat) (a0 ao ar ac ap an : Nat) (ash : Bool) (aob arq : Nat → Int32) (slf : Nat → Option Nat) (x : Int32) (hbad : inR x 0 1 = false) : jX l T yX7_restore wsX7_restore { frames := 7, cells := 5, slots := 50, locals := 102 } [.ref h7, .int x] [(h7, cO 7 [.ref hS, .ref a0, .ref d0, .ref h1, .ref hsl, .ref h4, .ref h3, .ref h2]), (a0, cO 6 [.int (nI ac), .int (nI ap), .int (bI ash), .int (nI an), .ref ao, .ref ar]), (ao, cI T 21 aob), (ar, cI T 12 arq), (hsl, cS T 2 slf)] (fun v w1 => False) (fun Ex w1 => w1 = [(h7, cO 7 [.ref hS, .ref a0, .ref d0, .ref h1, .ref hsl, .ref h4, .ref h3, .ref h2]), (a0, cO 6 [.int (nI ac), .int (nI ap), .int (bI ash), .int (nI an), .ref ao, .ref ar]), (ao, cI T 21 aob), (ar, cI T 12 arq), (hsl, cS T 2 slf)] ∧ ((Ex = jE1 ∧ inR x 0 1 = false))) := by
  refine jX.of (cc := cX7_restore) (maxL := 3) (ret := (some .int)) (by decide) rfl (Nat.le_of_ble_eq_true rfl) ?_
  intro X C rw_ hl hT hQ hNT hZ
  subst hl; subst hT
  have hin6 : ∀ w ∈ u_ws RX6 TX6 6, w ∈ wsX7_restore := by decide +kernel
  have hin7 : ∀ w ∈ u_ws RX7 TX7 8, w ∈ wsX7_restore := by decide +kernel
  have hl19 : Cond.fieldLink RX7 19 (TX7 1).1 (TX7 1).2.1 (TX7 1).2.2.1 ∈ wsX7_restore := by decide +kernel
  have hl29 : Cond.fieldLink RX7 29 (TX7 3).1 (TX7 3).2.1 (TX7 3).2.2.1 ∈ wsX7_restore := by decide +kernel
  have hl33 : Cond.fieldLink RX7 33 (TX7 4).1 (TX7 4).2.1 (TX7 4).2.2.1 ∈ wsX7_restore := by decide +kernel
  have hl128 : Cond.fieldLink RX7 128 (TX6 0).1 (TX6 0).2.1 (TX6 0).2.2.1 ∈ wsX7_restore := by decide +kernel
  show jj X 0 0 0 [(0, .ref h7), (1, .int x)] [] [(h7, cO 7 [.ref hS, .ref a0, .ref d0, .ref h1, .ref hsl, .ref h4, .ref h3, .ref h2]), (a0, cO 6 [.int (nI ac), .int (nI ap), .int (bI ash), .int (nI an), .ref ao, .ref ar]), (ao, cI (xT X) 21 aob), (ar, cI (xT X) 12 arq), (hsl, cS (xT X) 2 slf)]
  refine j_iload_n C dX7_restore_0 1 rfl rfl ?_
  refine j_callSXp C rw_ hZ (nA := 1) (As := [.int x]) (wc := []) (wr := [(h7, cO 7 [.ref hS, .ref a0, .ref d0, .ref h1, .ref hsl, .ref h4, .ref h3, .ref h2]), (a0, cO 6 [.int (nI ac), .int (nI ap), .int (bI ash), .int (nI an), .ref ao, .ref ar]), (ao, cI (xT X) 21 aob), (ar, cI (xT X) 12 arq), (hsl, cS (xT X) 2 slf)]) (c_X7_requireSlot (xl X) (xT X) hlS x ) gX7_restore_X7_requireSlot rfl (by decide +kernel) rfl (by decide) (by decide) (pm_lit2 (l := [(h7, cO 7 [.ref hS, .ref a0, .ref d0, .ref h1, .ref hsl, .ref h4, .ref h3, .ref h2]), (a0, cO 6 [.int (nI ac), .int (nI ap), .int (bI ash), .int (nI an), .ref ao, .ref ar]), (ao, cI (xT X) 21 aob), (ar, cI (xT X) 12 arq), (hsl, cS (xT X) 2 slf)]) (l' := [] ++ [(h7, cO 7 [.ref hS, .ref a0, .ref d0, .ref h1, .ref hsl, .ref h4, .ref h3, .ref h2]), (a0, cO 6 [.int (nI ac), .int (nI ap), .int (bI ash), .int (nI an), .ref ao, .ref ar]), (ao, cI (xT X) 21 aob), (ar, cI (xT X) 12 arq), (hsl, cS (xT X) 2 slf)]) [0, 1, 2, 3, 4] 5 rfl rfl (by decide)) (rest := []) rfl (Nat.le_of_ble_eq_true rfl) dX7_restore_1 (fun E9 w9 hx9 => ?_) ?_
  · obtain ⟨rfl, hx9⟩ := hx9
    show jjT X 1 6 1 [(0, .ref h7), (1, .int x)] [(h7, cO 7 [.ref hS, .ref a0, .ref d0, .ref h1, .ref hsl, .ref h4, .ref h3, .ref h2]), (a0, cO 6 [.int (nI ac), .int (nI ap), .int (bI ash), .int (nI an), .ref ao, .ref ar]), (ao, cI (xT X) 21 aob), (ar, cI (xT X) 12 arq), (hsl, cS (xT X) 2 slf)] _
    refine jT_out C rw_ hQ hNT (by decide) (by decide) ?_
    exact ⟨rfl, ⟨hx9.1, hx9.2⟩⟩
  · skip
    rintro _ _ ⟨rfl, rfl, hi1⟩
    show jj X 1 6 4 [(0, .ref h7), (1, .int x)] [] [(h7, cO 7 [.ref hS, .ref a0, .ref d0, .ref h1, .ref hsl, .ref h4, .ref h3, .ref h2]), (a0, cO 6 [.int (nI ac), .int (nI ap), .int (bI ash), .int (nI an), .ref ao, .ref ar]), (ao, cI (xT X) 21 aob), (ar, cI (xT X) 12 arq), (hsl, cS (xT X) 2 slf)]
    obtain ⟨i, rfl, hb_i⟩ := inR_N (b := 1) hi1
    exact absurd hbad (by rw [hi1]; decide)
