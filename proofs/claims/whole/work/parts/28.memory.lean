/-! MEMORY: the ring of states -/
/-- a state that may lie there: its three addresses, and what it holds -/
abbrev oR : Type := Nat × Nat × Nat × Nat × Nat × Bool × Nat × (Nat → Int32) × (Nat → Int32)
def oW (T : jj_T) : Option oR → va_W
  | none => []
  | some (h, o, r, c, p, s, t, ob, rq) => [(h, cO 6 [.int (nI c), .int (nI p), .int (bI s), .int (nI t), .ref o, .ref r]), (o, cI T 21 ob), (r, cI T 12 rq)]
def oA (k : Option oR) : Option Nat := k.map (fun x => x.1)
set_option maxHeartbeats 4000000 in
set_option maxRecDepth 100000 in
/-- Memory() -/
theorem c_X1_init (l : Launch) (T : jj_T) (h1 : Nat) : jM l T yX1_init wsX1_init { frames := 1, cells := 1, slots := 14, locals := 20 } [.ref h1] [(h1, cO 1 [.int (nI 0), .null, .int (nI 0)])] (fun v w1 => ∃ hst : Nat, v = none ∧ w1 = [(h1, cO 1 [.int (nI 0), .ref hst, .int (nI 0)]), (hst, cS T 14 (fun _ => none))]) := by
  refine jM.of (cc := cX1_init) (maxL := 1) (ret := none) (by decide) rfl (Nat.le_of_ble_eq_true rfl) ?_
  intro X C rw_ hl hT hQ hnm
  subst hl; subst hT
  have hin1 : ∀ w ∈ u_ws RX1 TX1 3, w ∈ wsX1_init := by decide +kernel
  have hl11 : Cond.fieldLink RX1 11 (TX1 1).1 (TX1 1).2.1 (TX1 1).2.2.1 ∈ wsX1_init := by decide +kernel
  show jj X 0 0 0 [(0, .ref h1)] [] [(h1, cO 1 [.int (nI 0), .null, .int (nI 0)])]
  refine j_aload_n C dX1_init_0 0 rfl rfl ?_
  refine j_obj C (by decide +kernel) (by decide +kernel) (by decide +kernel) (by decide) (by decide) dX1_init_1 ?_
  refine j_aload_n C dX1_init_4 0 rfl rfl ?_
  refine j_bipush C dX1_init_5 (v := (nI 14)) kc_b_14 ?_
  refine j_newarrS C rw_ (N := 14) rfl (by decide) (by decide +kernel) (by decide) (by decide) dX1_init_7 (fun hst => ?_)
  show jj X 1 14 10 [(0, .ref h1)] [.ref hst, .ref h1] [(h1, cO 1 [.int (nI 0), .null, .int (nI 0)]), (hst, cS (xT X) 14 (fun _ => none))]
  refine j_putF C rw_ hnm (hin1) tyX1 tyX1_ok nmX1 (ci := 1) rfl 1 (by decide) (hl11) (by decide +kernel) rfl (ty := .array (.object "SlewPlanner$State")) (by decide +kernel) rfl rfl 0 rfl (Nat.le_of_ble_eq_true rfl) (w' := [(h1, cO 1 [.int (nI 0), .ref hst, .int (nI 0)]), (hst, cS (xT X) 14 (fun _ => none))]) rfl dX1_init_10 ?_
  refine j_vretM C rw_ hQ (by decide) (by decide) ?_ dX1_init_13
  exact ⟨_, rfl, rfl⟩

set_option maxHeartbeats 4000000 in
set_option maxRecDepth 100000 in
/-- forgetAll() -/
theorem c_X1_forgetAll (l : Launch) (T : jj_T) (h1 hst cn ol : Nat) : jM l T yX1_forgetAll wsX1_forgetAll { frames := 0, cells := 0, slots := 0, locals := 0 } [.ref h1] [(h1, cO 1 [.int (nI cn), .ref hst, .int (nI ol)])] (fun v w1 => v = none ∧ w1 = [(h1, cO 1 [.int (nI 0), .ref hst, .int (nI 0)])]) := by
  refine jM.of (cc := cX1_forgetAll) (maxL := 1) (ret := none) (by decide) rfl (Nat.le_of_ble_eq_true rfl) ?_
  intro X C rw_ hl hT hQ hnm
  subst hl; subst hT
  have hin1 : ∀ w ∈ u_ws RX1 TX1 3, w ∈ wsX1_forgetAll := by decide +kernel
  have hl17 : Cond.fieldLink RX1 17 (TX1 2).1 (TX1 2).2.1 (TX1 2).2.2.1 ∈ wsX1_forgetAll := by decide +kernel
  have hl21 : Cond.fieldLink RX1 21 (TX1 0).1 (TX1 0).2.1 (TX1 0).2.2.1 ∈ wsX1_forgetAll := by decide +kernel
  show jj X 0 0 0 [(0, .ref h1)] [] [(h1, cO 1 [.int (nI cn), .ref hst, .int (nI ol)])]
  refine j_aload_n C dX1_forgetAll_0 0 rfl rfl ?_
  refine j_iconst C dX1_forgetAll_1 (v := (nI 0)) kc_i_0 ?_
  refine j_put C rw_ (hin1) tyX1 tyX1_ok nmX1 (ci := 1) rfl 2 (by decide) (hl17) (by decide +kernel) (ty := .int) (by decide +kernel) rfl rfl 0 rfl (Nat.le_of_ble_eq_true rfl) (w' := [(h1, cO 1 [.int (nI cn), .ref hst, .int (nI 0)])]) rfl dX1_forgetAll_2 ?_
  refine j_aload_n C dX1_forgetAll_5 0 rfl rfl ?_
  refine j_iconst C dX1_forgetAll_6 (v := (nI 0)) kc_i_0 ?_
  refine j_put C rw_ (hin1) tyX1 tyX1_ok nmX1 (ci := 1) rfl 0 (by decide) (hl21) (by decide +kernel) (ty := .int) (by decide +kernel) rfl rfl 0 rfl (Nat.le_of_ble_eq_true rfl) (w' := [(h1, cO 1 [.int (nI 0), .ref hst, .int (nI 0)])]) rfl dX1_forgetAll_7 ?_
  refine j_vretM C rw_ hQ (by decide) (by decide) ?_ dX1_forgetAll_10
  exact ⟨rfl, rfl⟩

set_option maxHeartbeats 4000000 in
set_option maxRecDepth 100000 in
/-- takeLast(), where nothing is remembered -/
theorem c_X1_takeLast_0 (l : Launch) (T : jj_T) (h1 hst ol : Nat) : jM l T yX1_takeLast wsX1_takeLast { frames := 0, cells := 0, slots := 0, locals := 0 } [.ref h1] [(h1, cO 1 [.int (nI 0), .ref hst, .int (nI ol)])] (fun v w1 => v = some (.null) ∧ w1 = [(h1, cO 1 [.int (nI 0), .ref hst, .int (nI ol)])]) := by
  refine jM.of (cc := cX1_takeLast) (maxL := 2) (ret := (some (.object "SlewPlanner$State"))) (by decide) rfl (Nat.le_of_ble_eq_true rfl) ?_
  intro X C rw_ hl hT hQ hnm
  subst hl; subst hT
  have hin1 : ∀ w ∈ u_ws RX1 TX1 3, w ∈ wsX1_takeLast := by decide +kernel
  have hl11 : Cond.fieldLink RX1 11 (TX1 1).1 (TX1 1).2.1 (TX1 1).2.2.1 ∈ wsX1_takeLast := by decide +kernel
  have hl17 : Cond.fieldLink RX1 17 (TX1 2).1 (TX1 2).2.1 (TX1 2).2.2.1 ∈ wsX1_takeLast := by decide +kernel
  have hl21 : Cond.fieldLink RX1 21 (TX1 0).1 (TX1 0).2.1 (TX1 0).2.2.1 ∈ wsX1_takeLast := by decide +kernel
  show jj X 0 0 0 [(0, .ref h1)] [] [(h1, cO 1 [.int (nI 0), .ref hst, .int (nI ol)])]
  refine j_aload_n C dX1_takeLast_0 0 rfl rfl ?_
  refine j_get C (hin1) (ci := 1) rfl 0 (by decide) (hl21) 0 rfl (v := .int (nI 0)) rfl dX1_takeLast_1 ?_
  refine j_if_gt C dX1_takeLast_4 (tgt := 9) (by decide) (fun q4 => ?_) (fun q4 => ?_)
  · skip
    have q4 := (kz_gt (a := 0) (by omega)).mp q4
    exfalso
    first | exact q4.elim | omega
  · skip
    have q4 := (kz_ngt (a := 0) (by omega)).mp q4
    refine j_aconst_null C dX1_takeLast_7 ?_
    refine j_aretM C (Or.inl ⟨_, rfl⟩) rw_ hQ (by decide) (by decide) (Or.inl rfl) ?_ dX1_takeLast_8
    exact ⟨rfl, rfl⟩

set_option maxHeartbeats 4000000 in
set_option maxRecDepth 100000 in
/-- takeLast() -/
theorem c_X1_takeLast_s (l : Launch) (T : jj_T) (h1 hst cn ol a : Nat) (sf : Nat → Option Nat) (hcn : cn < 14) (hol : ol < 14) (hsf : sf ((ol + cn) % 14) = some a) : jM l T yX1_takeLast wsX1_takeLast { frames := 0, cells := 0, slots := 0, locals := 0 } [.ref h1] [(h1, cO 1 [.int (nI (cn + 1)), .ref hst, .int (nI ol)]), (hst, cS T 14 sf)] (fun v w1 => v = some (.ref a) ∧ w1 = [(h1, cO 1 [.int (nI cn), .ref hst, .int (nI ol)]), (hst, cS T 14 sf)]) := by
  refine jM.of (cc := cX1_takeLast) (maxL := 2) (ret := (some (.object "SlewPlanner$State"))) (by decide) rfl (Nat.le_of_ble_eq_true rfl) ?_
  intro X C rw_ hl hT hQ hnm
  subst hl; subst hT
  have hin1 : ∀ w ∈ u_ws RX1 TX1 3, w ∈ wsX1_takeLast := by decide +kernel
  have hl11 : Cond.fieldLink RX1 11 (TX1 1).1 (TX1 1).2.1 (TX1 1).2.2.1 ∈ wsX1_takeLast := by decide +kernel
  have hl17 : Cond.fieldLink RX1 17 (TX1 2).1 (TX1 2).2.1 (TX1 2).2.2.1 ∈ wsX1_takeLast := by decide +kernel
  have hl21 : Cond.fieldLink RX1 21 (TX1 0).1 (TX1 0).2.1 (TX1 0).2.2.1 ∈ wsX1_takeLast := by decide +kernel
  show jj X 0 0 0 [(0, .ref h1)] [] [(h1, cO 1 [.int (nI (cn + 1)), .ref hst, .int (nI ol)]), (hst, cS (xT X) 14 sf)]
  refine j_aload_n C dX1_takeLast_0 0 rfl rfl ?_
  refine j_get C (hin1) (ci := 1) rfl 0 (by decide) (hl21) 0 rfl (v := .int (nI (cn + 1))) rfl dX1_takeLast_1 ?_
  refine j_if_gt C dX1_takeLast_4 (tgt := 9) (by decide) (fun q4 => ?_) (fun q4 => ?_)
  · skip
    have q4 := (kz_gt (a := (cn + 1)) (by omega)).mp q4
    refine j_aload_n C dX1_takeLast_9 0 rfl rfl ?_
    refine j_dup C dX1_takeLast_10 rfl ?_
    refine j_get C (hin1) (ci := 1) rfl 0 (by decide) (hl21) 0 rfl (v := .int (nI (cn + 1))) rfl dX1_takeLast_11 ?_
    refine j_iconst C dX1_takeLast_14 (v := (nI 1)) kc_i_1 ?_
    refine j_isub C dX1_takeLast_15 (v := (nI cn)) (by rw [show cn = (cn + 1) - 1 from rfl]; exact pk_sub (by omega)) ?_
    refine j_put C rw_ (hin1) tyX1 tyX1_ok nmX1 (ci := 1) rfl 0 (by decide) (hl21) (by decide +kernel) (ty := .int) (by decide +kernel) rfl rfl 0 rfl (Nat.le_of_ble_eq_true rfl) (w' := [(h1, cO 1 [.int (nI cn), .ref hst, .int (nI ol)]), (hst, cS (xT X) 14 sf)]) rfl dX1_takeLast_16 ?_
    refine j_aload_n C dX1_takeLast_19 0 rfl rfl ?_
    refine j_get C (hin1) (ci := 1) rfl 2 (by decide) (hl17) 0 rfl (v := .int (nI ol)) rfl dX1_takeLast_20 ?_
    refine j_aload_n C dX1_takeLast_23 0 rfl rfl ?_
    refine j_get C (hin1) (ci := 1) rfl 0 (by decide) (hl21) 0 rfl (v := .int (nI cn)) rfl dX1_takeLast_24 ?_
    refine j_iadd C dX1_takeLast_27 (v := (nI (ol + cn))) (nI_add _ _) ?_
    refine j_bipush C dX1_takeLast_28 (v := (nI 14)) kc_b_14 ?_
    refine j_irem C dX1_takeLast_30 (by decide) (v := (nI ((ol + cn) % 14))) (pk_rem (by omega) (by omega) (by omega)) ?_
    refine j_istore_n C dX1_takeLast_31 rfl (by decide) (lv' := [(1, .int (nI ((ol + cn) % 14))), (0, .ref h1)]) rfl ?_
    refine j_iload_n C dX1_takeLast_32 0 rfl rfl ?_
    refine j_if_lt C dX1_takeLast_33 (tgt := 54) (by decide) (fun q33 => ?_) (fun q33 => ?_)
    · skip
      have q33 := (kz_lt (a := (ol + cn) % 14) (by omega)).mp q33
      exfalso
      first | exact q33.elim | omega
    · skip
      have q33 := (kz_nlt (a := (ol + cn) % 14) (by omega)).mp q33
      refine j_iload_n C dX1_takeLast_36 0 rfl rfl ?_
      refine j_aload_n C dX1_takeLast_37 1 rfl rfl ?_
      refine j_get C (hin1) (ci := 1) rfl 1 (by decide) (hl11) 0 rfl (v := .ref hst) rfl dX1_takeLast_38 ?_
      refine j_alenS C 1 rfl dX1_takeLast_41 ?_
      refine j_icmp_ge C dX1_takeLast_42 (tgt := 54) (by decide) (fun q42 => ?_) (fun q42 => ?_)
      · skip
        have q42 := (kn_ge (a := (ol + cn) % 14) (b := 14) (by omega) (by omega)).mp q42
        exfalso
        first | exact q42.elim | omega
      · skip
        have q42 := (kn_nge (a := (ol + cn) % 14) (b := 14) (by omega) (by omega)).mp q42
        refine j_aload_n C dX1_takeLast_45 1 rfl rfl ?_
        refine j_get C (hin1) (ci := 1) rfl 1 (by decide) (hl11) 0 rfl (v := .ref hst) rfl dX1_takeLast_46 ?_
        refine j_iload_n C dX1_takeLast_49 0 rfl rfl ?_
        refine j_aaloadN C ((ol + cn) % 14) rfl 1 rfl (by omega) (by decide) dX1_takeLast_50 ?_
        rw [hsf]
        show jj X 0 0 51 [(1, .int (nI ((ol + cn) % 14))), (0, .ref h1)] [.ref a] [(h1, cO 1 [.int (nI cn), .ref hst, .int (nI ol)]), (hst, cS (xT X) 14 sf)]
        refine j_goto C dX1_takeLast_51 (tgt := 55) (by decide) ?_
        refine j_aretM C (Or.inl ⟨_, rfl⟩) rw_ hQ (by decide) (by decide) (Or.inr ⟨_, rfl⟩) ?_ dX1_takeLast_55
        exact ⟨rfl, rfl⟩
  · skip
    have q4 := (kz_ngt (a := (cn + 1)) (by omega)).mp q4
    exfalso
    first | exact q4.elim | omega

set_option maxHeartbeats 4000000 in
set_option maxRecDepth 100000 in
/-- remember(state) -/
theorem c_X1_remember_s (l : Launch) (T : jj_T) (h1 hst cn ol : Nat) (sf : Nat → Option Nat) (g0 go gr c p t : Nat) (s : Bool) (ob rq : Nat → Int32) (k0 ko kr kc kp kt : Nat) (ks : Bool) (kob krq : Nat → Int32) (hcn : cn ≤ 14) (hol : ol < 14) (hsf : sf ((ol + cn) % 14) = some k0) : jM l T yX1_remember wsX1_remember { frames := 3, cells := 3, slots := 39, locals := 102 } [.ref h1, .ref g0] [(h1, cO 1 [.int (nI cn), .ref hst, .int (nI ol)]), (hst, cS T 14 sf), (g0, cO 6 [.int (nI c), .int (nI p), .int (bI s), .int (nI t), .ref go, .ref gr]), (go, cI T 21 ob), (gr, cI T 12 rq), (k0, cO 6 [.int (nI kc), .int (nI kp), .int (bI ks), .int (nI kt), .ref ko, .ref kr]), (ko, cI T 21 kob), (kr, cI T 12 krq)] (fun v w1 => v = none ∧ w1 = [(h1, cO 1 [.int (nI (if cn < 14 then cn + 1 else cn)), .ref hst, .int (nI (if cn < 14 then ol else (ol + 1) % 14))]), (hst, cS T 14 sf), (g0, cO 6 [.int (nI c), .int (nI p), .int (bI s), .int (nI t), .ref go, .ref gr]), (go, cI T 21 ob), (gr, cI T 12 rq), (k0, cO 6 [.int (nI c), .int (nI p), .int (bI s), .int (nI t), .ref ko, .ref kr]), (ko, cI T 21 ob), (kr, cI T 12 rq)]) := by
  refine jM.of (cc := cX1_remember) (maxL := 4) (ret := none) (by decide) rfl (Nat.le_of_ble_eq_true rfl) ?_
  intro X C rw_ hl hT hQ hnm
  subst hl; subst hT
  have hin1 : ∀ w ∈ u_ws RX1 TX1 3, w ∈ wsX1_remember := by decide +kernel
  have hin6 : ∀ w ∈ u_ws RX6 TX6 6, w ∈ wsX1_remember := by decide +kernel
  have hl11 : Cond.fieldLink RX1 11 (TX1 1).1 (TX1 1).2.1 (TX1 1).2.2.1 ∈ wsX1_remember := by decide +kernel
  have hl17 : Cond.fieldLink RX1 17 (TX1 2).1 (TX1 2).2.1 (TX1 2).2.2.1 ∈ wsX1_remember := by decide +kernel
  have hl21 : Cond.fieldLink RX1 21 (TX1 0).1 (TX1 0).2.1 (TX1 0).2.2.1 ∈ wsX1_remember := by decide +kernel
  show jj X 0 0 0 [(0, .ref h1), (1, .ref g0)] [] [(h1, cO 1 [.int (nI cn), .ref hst, .int (nI ol)]), (hst, cS (xT X) 14 sf), (g0, cO 6 [.int (nI c), .int (nI p), .int (bI s), .int (nI t), .ref go, .ref gr]), (go, cI (xT X) 21 ob), (gr, cI (xT X) 12 rq), (k0, cO 6 [.int (nI kc), .int (nI kp), .int (bI ks), .int (nI kt), .ref ko, .ref kr]), (ko, cI (xT X) 21 kob), (kr, cI (xT X) 12 krq)]
  have hc48 : jj X 0 0 48 [(0, .ref h1), (1, .ref g0), (2, .int (nI ((ol + cn) % 14)))] [] [(h1, cO 1 [.int (nI (if cn < 14 then cn + 1 else cn)), .ref hst, .int (nI (if cn < 14 then ol else (ol + 1) % 14))]), (hst, cS (xT X) 14 sf), (g0, cO 6 [.int (nI c), .int (nI p), .int (bI s), .int (nI t), .ref go, .ref gr]), (go, cI (xT X) 21 ob), (gr, cI (xT X) 12 rq), (k0, cO 6 [.int (nI kc), .int (nI kp), .int (bI ks), .int (nI kt), .ref ko, .ref kr]), (ko, cI (xT X) 21 kob), (kr, cI (xT X) 12 krq)] := by
    refine j_iload_n C dX1_remember_48 2 rfl rfl ?_
    refine j_if_lt C dX1_remember_49 (tgt := 92) (by decide) (fun q49 => ?_) (fun q49 => ?_)
    · skip
      have q49 := (kz_lt (a := (ol + cn) % 14) (by omega)).mp q49
      exfalso
      first | exact q49.elim | omega
    · skip
      have q49 := (kz_nlt (a := (ol + cn) % 14) (by omega)).mp q49
      refine j_iload_n C dX1_remember_52 2 rfl rfl ?_
      refine j_aload_n C dX1_remember_53 0 rfl rfl ?_
      refine j_get C (hin1) (ci := 1) rfl 1 (by decide) (hl11) 0 rfl (v := .ref hst) rfl dX1_remember_54 ?_
      refine j_alenS C 1 rfl dX1_remember_57 ?_
      refine j_icmp_ge C dX1_remember_58 (tgt := 92) (by decide) (fun q58 => ?_) (fun q58 => ?_)
      · skip
        have q58 := (kn_ge (a := (ol + cn) % 14) (b := 14) (by omega) (by omega)).mp q58
        exfalso
        first | exact q58.elim | omega
      · skip
        have q58 := (kn_nge (a := (ol + cn) % 14) (b := 14) (by omega) (by omega)).mp q58
        refine j_aload_n C dX1_remember_61 0 rfl rfl ?_
        refine j_get C (hin1) (ci := 1) rfl 1 (by decide) (hl11) 0 rfl (v := .ref hst) rfl dX1_remember_62 ?_
        refine j_iload_n C dX1_remember_65 2 rfl rfl ?_
        refine j_aaloadN C ((ol + cn) % 14) rfl 1 rfl (by omega) (by decide) dX1_remember_66 ?_
        rw [hsf]
        show jj X 0 0 67 [(0, .ref h1), (1, .ref g0), (2, .int (nI ((ol + cn) % 14)))] [.ref k0] [(h1, cO 1 [.int (nI (if cn < 14 then cn + 1 else cn)), .ref hst, .int (nI (if cn < 14 then ol else (ol + 1) % 14))]), (hst, cS (xT X) 14 sf), (g0, cO 6 [.int (nI c), .int (nI p), .int (bI s), .int (nI t), .ref go, .ref gr]), (go, cI (xT X) 21 ob), (gr, cI (xT X) 12 rq), (k0, cO 6 [.int (nI kc), .int (nI kp), .int (bI ks), .int (nI kt), .ref ko, .ref kr]), (ko, cI (xT X) 21 kob), (kr, cI (xT X) 12 krq)]
        refine j_astore_n C dX1_remember_67 rfl (by decide) (lv' := [(3, .ref k0), (0, .ref h1), (1, .ref g0), (2, .int (nI ((ol + cn) % 14)))]) rfl ?_
        refine j_aload_n C dX1_remember_68 0 rfl rfl ?_
        refine j_ifnonnull C dX1_remember_69 (tgt := 87) (by decide) ?_
        refine j_aload_n C dX1_remember_87 0 rfl rfl ?_
        refine j_aload_n C dX1_remember_88 2 rfl rfl ?_
        refine j_callVM C rw_ (nA := 1) (As := [.ref g0]) (wr := [(h1, cO 1 [.int (nI (if cn < 14 then cn + 1 else cn)), .ref hst, .int (nI (if cn < 14 then ol else (ol + 1) % 14))]), (hst, cS (xT X) 14 sf)]) (c_X6_copyFrom (xl X) (xT X) k0 ko kr kc kp kt g0 go gr c p t ks s kob krq ob rq ) gX1_remember_X6_copyFrom rfl (by decide +kernel) rfl (by decide) (by decide) [5, 6, 7, 2, 3, 4] [0, 1] rfl rfl rfl rfl (by decide) 5 rfl rfl (rest := []) rfl (Nat.le_of_ble_eq_true rfl) dX1_remember_89 ?_
        rintro _ _ ⟨rfl, rfl⟩
        show jj X 0 0 92 [(3, .ref k0), (0, .ref h1), (1, .ref g0), (2, .int (nI ((ol + cn) % 14)))] [] [(h1, cO 1 [.int (nI (if cn < 14 then cn + 1 else cn)), .ref hst, .int (nI (if cn < 14 then ol else (ol + 1) % 14))]), (hst, cS (xT X) 14 sf), (k0, cO 6 [.int (nI c), .int (nI p), .int (bI s), .int (nI t), .ref ko, .ref kr]), (ko, cI (xT X) 21 ob), (kr, cI (xT X) 12 rq), (g0, cO 6 [.int (nI c), .int (nI p), .int (bI s), .int (nI t), .ref go, .ref gr]), (go, cI (xT X) 21 ob), (gr, cI (xT X) 12 rq)]
        refine j_perm C (w' := [(h1, cO 1 [.int (nI (if cn < 14 then cn + 1 else cn)), .ref hst, .int (nI (if cn < 14 then ol else (ol + 1) % 14))]), (hst, cS (xT X) 14 sf), (g0, cO 6 [.int (nI c), .int (nI p), .int (bI s), .int (nI t), .ref go, .ref gr]), (go, cI (xT X) 21 ob), (gr, cI (xT X) 12 rq), (k0, cO 6 [.int (nI c), .int (nI p), .int (bI s), .int (nI t), .ref ko, .ref kr]), (ko, cI (xT X) 21 ob), (kr, cI (xT X) 12 rq)]) [0, 1, 5, 6, 7, 2, 3, 4] rfl rfl ?_
        refine j_vretM C rw_ hQ (by decide) (by decide) ?_ dX1_remember_92
        exact ⟨rfl, rfl⟩
  refine j_aload_n C dX1_remember_0 0 rfl rfl ?_
  refine j_get C (hin1) (ci := 1) rfl 2 (by decide) (hl17) 0 rfl (v := .int (nI ol)) rfl dX1_remember_1 ?_
  refine j_aload_n C dX1_remember_4 0 rfl rfl ?_
  refine j_get C (hin1) (ci := 1) rfl 0 (by decide) (hl21) 0 rfl (v := .int (nI cn)) rfl dX1_remember_5 ?_
  refine j_iadd C dX1_remember_8 (v := (nI (ol + cn))) (nI_add _ _) ?_
  refine j_bipush C dX1_remember_9 (v := (nI 14)) kc_b_14 ?_
  refine j_irem C dX1_remember_11 (by decide) (v := (nI ((ol + cn) % 14))) (pk_rem (by omega) (by omega) (by omega)) ?_
  refine j_istore_n C dX1_remember_12 rfl (by decide) (lv' := [(2, .int (nI ((ol + cn) % 14))), (0, .ref h1), (1, .ref g0)]) rfl ?_
  refine j_aload_n C dX1_remember_13 1 rfl rfl ?_
  refine j_get C (hin1) (ci := 1) rfl 0 (by decide) (hl21) 0 rfl (v := .int (nI cn)) rfl dX1_remember_14 ?_
  refine j_bipush C dX1_remember_17 (v := (nI 14)) kc_b_14 ?_
  refine j_icmp_ge C dX1_remember_19 (tgt := 35) (by decide) (fun q19 => ?_) (fun q19 => ?_)
  · skip
    have q19 := (kn_ge (a := cn) (b := 14) (by omega) (by omega)).mp q19
    refine j_aload_n C dX1_remember_35 1 rfl rfl ?_
    refine j_aload_n C dX1_remember_36 1 rfl rfl ?_
    refine j_get C (hin1) (ci := 1) rfl 2 (by decide) (hl17) 0 rfl (v := .int (nI ol)) rfl dX1_remember_37 ?_
    refine j_iconst C dX1_remember_40 (v := (nI 1)) kc_i_1 ?_
    refine j_iadd C dX1_remember_41 (v := (nI (ol + 1))) (nI_add _ _) ?_
    refine j_bipush C dX1_remember_42 (v := (nI 14)) kc_b_14 ?_
    refine j_irem C dX1_remember_44 (by decide) (v := (nI ((ol + 1) % 14))) (pk_rem (by omega) (by omega) (by omega)) ?_
    refine j_put C rw_ (hin1) tyX1 tyX1_ok nmX1 (ci := 1) rfl 2 (by decide) (hl17) (by decide +kernel) (ty := .int) (by decide +kernel) rfl rfl 0 rfl (Nat.le_of_ble_eq_true rfl) (w' := [(h1, cO 1 [.int (nI cn), .ref hst, .int (nI ((ol + 1) % 14))]), (hst, cS (xT X) 14 sf), (g0, cO 6 [.int (nI c), .int (nI p), .int (bI s), .int (nI t), .ref go, .ref gr]), (go, cI (xT X) 21 ob), (gr, cI (xT X) 12 rq), (k0, cO 6 [.int (nI kc), .int (nI kp), .int (bI ks), .int (nI kt), .ref ko, .ref kr]), (ko, cI (xT X) 21 kob), (kr, cI (xT X) 12 krq)]) rfl dX1_remember_45 ?_
    rw [show cO 1 [.int (nI cn), .ref hst, .int (nI ((ol + 1) % 14))] = cO 1 [.int (nI (if cn < 14 then cn + 1 else cn)), .ref hst, .int (nI (if cn < 14 then ol else (ol + 1) % 14))] from by rw [if_neg (by omega), if_neg (by omega)]]
    show jj X 0 0 48 [(2, .int (nI ((ol + cn) % 14))), (0, .ref h1), (1, .ref g0)] [] [(h1, cO 1 [.int (nI (if cn < 14 then cn + 1 else cn)), .ref hst, .int (nI (if cn < 14 then ol else (ol + 1) % 14))]), (hst, cS (xT X) 14 sf), (g0, cO 6 [.int (nI c), .int (nI p), .int (bI s), .int (nI t), .ref go, .ref gr]), (go, cI (xT X) 21 ob), (gr, cI (xT X) 12 rq), (k0, cO 6 [.int (nI kc), .int (nI kp), .int (bI ks), .int (nI kt), .ref ko, .ref kr]), (ko, cI (xT X) 21 kob), (kr, cI (xT X) 12 krq)]
    refine j_lv [1, 2, 0] rfl ?_
    refine hc48 
  · skip
    have q19 := (kn_nge (a := cn) (b := 14) (by omega) (by omega)).mp q19
    refine j_aload_n C dX1_remember_22 1 rfl rfl ?_
    refine j_dup C dX1_remember_23 rfl ?_
    refine j_get C (hin1) (ci := 1) rfl 0 (by decide) (hl21) 0 rfl (v := .int (nI cn)) rfl dX1_remember_24 ?_
    refine j_iconst C dX1_remember_27 (v := (nI 1)) kc_i_1 ?_
    refine j_iadd C dX1_remember_28 (v := (nI (cn + 1))) (nI_add _ _) ?_
    refine j_put C rw_ (hin1) tyX1 tyX1_ok nmX1 (ci := 1) rfl 0 (by decide) (hl21) (by decide +kernel) (ty := .int) (by decide +kernel) rfl rfl 0 rfl (Nat.le_of_ble_eq_true rfl) (w' := [(h1, cO 1 [.int (nI (cn + 1)), .ref hst, .int (nI ol)]), (hst, cS (xT X) 14 sf), (g0, cO 6 [.int (nI c), .int (nI p), .int (bI s), .int (nI t), .ref go, .ref gr]), (go, cI (xT X) 21 ob), (gr, cI (xT X) 12 rq), (k0, cO 6 [.int (nI kc), .int (nI kp), .int (bI ks), .int (nI kt), .ref ko, .ref kr]), (ko, cI (xT X) 21 kob), (kr, cI (xT X) 12 krq)]) rfl dX1_remember_29 ?_
    refine j_goto C dX1_remember_32 (tgt := 48) (by decide) ?_
    rw [show cO 1 [.int (nI (cn + 1)), .ref hst, .int (nI ol)] = cO 1 [.int (nI (if cn < 14 then cn + 1 else cn)), .ref hst, .int (nI (if cn < 14 then ol else (ol + 1) % 14))] from by rw [if_pos (by omega), if_pos (by omega)]]
    show jj X 0 0 48 [(2, .int (nI ((ol + cn) % 14))), (0, .ref h1), (1, .ref g0)] [] [(h1, cO 1 [.int (nI (if cn < 14 then cn + 1 else cn)), .ref hst, .int (nI (if cn < 14 then ol else (ol + 1) % 14))]), (hst, cS (xT X) 14 sf), (g0, cO 6 [.int (nI c), .int (nI p), .int (bI s), .int (nI t), .ref go, .ref gr]), (go, cI (xT X) 21 ob), (gr, cI (xT X) 12 rq), (k0, cO 6 [.int (nI kc), .int (nI kp), .int (bI ks), .int (nI kt), .ref ko, .ref kr]), (ko, cI (xT X) 21 kob), (kr, cI (xT X) 12 krq)]
    refine j_lv [1, 2, 0] rfl ?_
    refine hc48 

set_option maxHeartbeats 4000000 in
set_option maxRecDepth 100000 in
/-- remember(state) -/
theorem c_X1_remember_n (l : Launch) (T : jj_T) (h1 hst cn ol : Nat) (sf : Nat → Option Nat) (g0 go gr c p t : Nat) (s : Bool) (ob rq : Nat → Int32) (hcn : cn ≤ 14) (hol : ol < 14) (hsf : sf ((ol + cn) % 14) = none) : jM l T yX1_remember wsX1_remember { frames := 3, cells := 3, slots := 39, locals := 102 } [.ref h1, .ref g0] [(h1, cO 1 [.int (nI cn), .ref hst, .int (nI ol)]), (hst, cS T 14 sf), (g0, cO 6 [.int (nI c), .int (nI p), .int (bI s), .int (nI t), .ref go, .ref gr]), (go, cI T 21 ob), (gr, cI T 12 rq)] (fun v w1 => ∃ k0 : Nat, ∃ ko : Nat, ∃ kr : Nat, v = none ∧ w1 = [(h1, cO 1 [.int (nI (if cn < 14 then cn + 1 else cn)), .ref hst, .int (nI (if cn < 14 then ol else (ol + 1) % 14))]), (hst, cS T 14 (va_up sf ((ol + cn) % 14) (some k0))), (g0, cO 6 [.int (nI c), .int (nI p), .int (bI s), .int (nI t), .ref go, .ref gr]), (go, cI T 21 ob), (gr, cI T 12 rq), (k0, cO 6 [.int (nI c), .int (nI p), .int (bI s), .int (nI t), .ref ko, .ref kr]), (ko, cI T 21 ob), (kr, cI T 12 rq)]) := by
  refine jM.of (cc := cX1_remember) (maxL := 4) (ret := none) (by decide) rfl (Nat.le_of_ble_eq_true rfl) ?_
  intro X C rw_ hl hT hQ hnm
  subst hl; subst hT
  have hin1 : ∀ w ∈ u_ws RX1 TX1 3, w ∈ wsX1_remember := by decide +kernel
  have hin6 : ∀ w ∈ u_ws RX6 TX6 6, w ∈ wsX1_remember := by decide +kernel
  have hl11 : Cond.fieldLink RX1 11 (TX1 1).1 (TX1 1).2.1 (TX1 1).2.2.1 ∈ wsX1_remember := by decide +kernel
  have hl17 : Cond.fieldLink RX1 17 (TX1 2).1 (TX1 2).2.1 (TX1 2).2.2.1 ∈ wsX1_remember := by decide +kernel
  have hl21 : Cond.fieldLink RX1 21 (TX1 0).1 (TX1 0).2.1 (TX1 0).2.2.1 ∈ wsX1_remember := by decide +kernel
  show jj X 0 0 0 [(0, .ref h1), (1, .ref g0)] [] [(h1, cO 1 [.int (nI cn), .ref hst, .int (nI ol)]), (hst, cS (xT X) 14 sf), (g0, cO 6 [.int (nI c), .int (nI p), .int (bI s), .int (nI t), .ref go, .ref gr]), (go, cI (xT X) 21 ob), (gr, cI (xT X) 12 rq)]
  have hc48 : jj X 0 0 48 [(0, .ref h1), (1, .ref g0), (2, .int (nI ((ol + cn) % 14)))] [] [(h1, cO 1 [.int (nI (if cn < 14 then cn + 1 else cn)), .ref hst, .int (nI (if cn < 14 then ol else (ol + 1) % 14))]), (hst, cS (xT X) 14 sf), (g0, cO 6 [.int (nI c), .int (nI p), .int (bI s), .int (nI t), .ref go, .ref gr]), (go, cI (xT X) 21 ob), (gr, cI (xT X) 12 rq)] := by
    refine j_iload_n C dX1_remember_48 2 rfl rfl ?_
    refine j_if_lt C dX1_remember_49 (tgt := 92) (by decide) (fun q49 => ?_) (fun q49 => ?_)
    · skip
      have q49 := (kz_lt (a := (ol + cn) % 14) (by omega)).mp q49
      exfalso
      first | exact q49.elim | omega
    · skip
      have q49 := (kz_nlt (a := (ol + cn) % 14) (by omega)).mp q49
      refine j_iload_n C dX1_remember_52 2 rfl rfl ?_
      refine j_aload_n C dX1_remember_53 0 rfl rfl ?_
      refine j_get C (hin1) (ci := 1) rfl 1 (by decide) (hl11) 0 rfl (v := .ref hst) rfl dX1_remember_54 ?_
      refine j_alenS C 1 rfl dX1_remember_57 ?_
      refine j_icmp_ge C dX1_remember_58 (tgt := 92) (by decide) (fun q58 => ?_) (fun q58 => ?_)
      · skip
        have q58 := (kn_ge (a := (ol + cn) % 14) (b := 14) (by omega) (by omega)).mp q58
        exfalso
        first | exact q58.elim | omega
      · skip
        have q58 := (kn_nge (a := (ol + cn) % 14) (b := 14) (by omega) (by omega)).mp q58
        refine j_aload_n C dX1_remember_61 0 rfl rfl ?_
        refine j_get C (hin1) (ci := 1) rfl 1 (by decide) (hl11) 0 rfl (v := .ref hst) rfl dX1_remember_62 ?_
        refine j_iload_n C dX1_remember_65 2 rfl rfl ?_
        refine j_aaloadN C ((ol + cn) % 14) rfl 1 rfl (by omega) (by decide) dX1_remember_66 ?_
        rw [hsf]
        show jj X 0 0 67 [(0, .ref h1), (1, .ref g0), (2, .int (nI ((ol + cn) % 14)))] [.null] [(h1, cO 1 [.int (nI (if cn < 14 then cn + 1 else cn)), .ref hst, .int (nI (if cn < 14 then ol else (ol + 1) % 14))]), (hst, cS (xT X) 14 sf), (g0, cO 6 [.int (nI c), .int (nI p), .int (bI s), .int (nI t), .ref go, .ref gr]), (go, cI (xT X) 21 ob), (gr, cI (xT X) 12 rq)]
        refine j_astore_nN C dX1_remember_67 rfl (by decide) (lv' := [(3, .null), (0, .ref h1), (1, .ref g0), (2, .int (nI ((ol + cn) % 14)))]) rfl ?_
        refine j_aload_nN C dX1_remember_68 0 rfl rfl ?_
        refine j_ifnonnullN C dX1_remember_69 ?_
        refine j_new C rw_ (hin6) tyX6 tyX6_ok (ci := 6) rfl (by decide +kernel) (by decide +kernel) (by decide +kernel) (fs := [.int (nI 0), .int (nI 0), .int (bI false), .int (nI 0), .null, .null]) (by decide +kernel) (by decide) (by decide) dX1_remember_72 (fun k0 => ?_)
        show jj X 1 6 75 [(3, .null), (0, .ref h1), (1, .ref g0), (2, .int (nI ((ol + cn) % 14)))] [.ref k0] [(h1, cO 1 [.int (nI (if cn < 14 then cn + 1 else cn)), .ref hst, .int (nI (if cn < 14 then ol else (ol + 1) % 14))]), (hst, cS (xT X) 14 sf), (g0, cO 6 [.int (nI c), .int (nI p), .int (bI s), .int (nI t), .ref go, .ref gr]), (go, cI (xT X) 21 ob), (gr, cI (xT X) 12 rq), (k0, cO 6 [.int (nI 0), .int (nI 0), .int (bI false), .int (nI 0), .null, .null])]
        refine j_dup C dX1_remember_75 rfl ?_
        refine j_callIM C rw_ (nA := 0) (As := []) (wr := [(h1, cO 1 [.int (nI (if cn < 14 then cn + 1 else cn)), .ref hst, .int (nI (if cn < 14 then ol else (ol + 1) % 14))]), (hst, cS (xT X) 14 sf), (g0, cO 6 [.int (nI c), .int (nI p), .int (bI s), .int (nI t), .ref go, .ref gr]), (go, cI (xT X) 21 ob), (gr, cI (xT X) 12 rq)]) (c_X6_init (xl X) (xT X) k0 ) gX1_remember_X6_init rfl (by decide +kernel) (by decide +kernel) (by decide +kernel) rfl (by decide +kernel) rfl (by decide) (by decide) [5] [0, 1, 2, 3, 4] rfl rfl rfl rfl (by decide) (rest := [.ref k0]) rfl (Nat.le_of_ble_eq_true rfl) dX1_remember_76 ?_
        rintro _ _ ⟨qo_1, qr_2, rfl, rfl⟩
        show jj X 3 39 79 [(3, .null), (0, .ref h1), (1, .ref g0), (2, .int (nI ((ol + cn) % 14)))] [.ref k0] [(h1, cO 1 [.int (nI (if cn < 14 then cn + 1 else cn)), .ref hst, .int (nI (if cn < 14 then ol else (ol + 1) % 14))]), (hst, cS (xT X) 14 sf), (g0, cO 6 [.int (nI c), .int (nI p), .int (bI s), .int (nI t), .ref go, .ref gr]), (go, cI (xT X) 21 ob), (gr, cI (xT X) 12 rq), (k0, cO 6 [.int (nI 0), .int (nI 0), .int (bI false), .int (nI 0), .ref qo_1, .ref qr_2]), (qo_1, cI (xT X) 21 st_ob0), (qr_2, cI (xT X) 12 (fun _ => 0))]
        refine j_astore_n C dX1_remember_79 rfl (by decide) (lv' := [(3, .ref k0), (0, .ref h1), (1, .ref g0), (2, .int (nI ((ol + cn) % 14)))]) rfl ?_
        refine j_aload_n C dX1_remember_80 1 rfl rfl ?_
        refine j_get C (hin1) (ci := 1) rfl 1 (by decide) (hl11) 0 rfl (v := .ref hst) rfl dX1_remember_81 ?_
        refine j_iload_n C dX1_remember_84 3 rfl rfl ?_
        refine j_aload_n C dX1_remember_85 0 rfl rfl ?_
        refine j_aastoreN C rw_ ((ol + cn) % 14) rfl 1 rfl (by omega) (by decide) 5 rfl (w' := [(h1, cO 1 [.int (nI (if cn < 14 then cn + 1 else cn)), .ref hst, .int (nI (if cn < 14 then ol else (ol + 1) % 14))]), (hst, cS (xT X) 14 (va_up sf ((ol + cn) % 14) (some k0))), (g0, cO 6 [.int (nI c), .int (nI p), .int (bI s), .int (nI t), .ref go, .ref gr]), (go, cI (xT X) 21 ob), (gr, cI (xT X) 12 rq), (k0, cO 6 [.int (nI 0), .int (nI 0), .int (bI false), .int (nI 0), .ref qo_1, .ref qr_2]), (qo_1, cI (xT X) 21 st_ob0), (qr_2, cI (xT X) 12 (fun _ => 0))]) rfl dX1_remember_86 ?_
        refine j_aload_n C dX1_remember_87 0 rfl rfl ?_
        refine j_aload_n C dX1_remember_88 2 rfl rfl ?_
        refine j_callVM C rw_ (nA := 1) (As := [.ref g0]) (wr := [(h1, cO 1 [.int (nI (if cn < 14 then cn + 1 else cn)), .ref hst, .int (nI (if cn < 14 then ol else (ol + 1) % 14))]), (hst, cS (xT X) 14 (va_up sf ((ol + cn) % 14) (some k0)))]) (c_X6_copyFrom (xl X) (xT X) k0 qo_1 qr_2 0 0 0 g0 go gr c p t false s st_ob0 (fun _ => 0) ob rq ) gX1_remember_X6_copyFrom rfl (by decide +kernel) rfl (by decide) (by decide) [5, 6, 7, 2, 3, 4] [0, 1] rfl rfl rfl rfl (by decide) 5 rfl rfl (rest := []) rfl (Nat.le_of_ble_eq_true rfl) dX1_remember_89 ?_
        rintro _ _ ⟨rfl, rfl⟩
        show jj X 3 39 92 [(3, .ref k0), (0, .ref h1), (1, .ref g0), (2, .int (nI ((ol + cn) % 14)))] [] [(h1, cO 1 [.int (nI (if cn < 14 then cn + 1 else cn)), .ref hst, .int (nI (if cn < 14 then ol else (ol + 1) % 14))]), (hst, cS (xT X) 14 (va_up sf ((ol + cn) % 14) (some k0))), (k0, cO 6 [.int (nI c), .int (nI p), .int (bI s), .int (nI t), .ref qo_1, .ref qr_2]), (qo_1, cI (xT X) 21 ob), (qr_2, cI (xT X) 12 rq), (g0, cO 6 [.int (nI c), .int (nI p), .int (bI s), .int (nI t), .ref go, .ref gr]), (go, cI (xT X) 21 ob), (gr, cI (xT X) 12 rq)]
        refine j_perm C (w' := [(h1, cO 1 [.int (nI (if cn < 14 then cn + 1 else cn)), .ref hst, .int (nI (if cn < 14 then ol else (ol + 1) % 14))]), (hst, cS (xT X) 14 (va_up sf ((ol + cn) % 14) (some k0))), (g0, cO 6 [.int (nI c), .int (nI p), .int (bI s), .int (nI t), .ref go, .ref gr]), (go, cI (xT X) 21 ob), (gr, cI (xT X) 12 rq), (k0, cO 6 [.int (nI c), .int (nI p), .int (bI s), .int (nI t), .ref qo_1, .ref qr_2]), (qo_1, cI (xT X) 21 ob), (qr_2, cI (xT X) 12 rq)]) [0, 1, 5, 6, 7, 2, 3, 4] rfl rfl ?_
        refine j_vretM C rw_ hQ (by decide) (by decide) ?_ dX1_remember_92
        exact ⟨_, _, _, rfl, rfl⟩
  refine j_aload_n C dX1_remember_0 0 rfl rfl ?_
  refine j_get C (hin1) (ci := 1) rfl 2 (by decide) (hl17) 0 rfl (v := .int (nI ol)) rfl dX1_remember_1 ?_
  refine j_aload_n C dX1_remember_4 0 rfl rfl ?_
  refine j_get C (hin1) (ci := 1) rfl 0 (by decide) (hl21) 0 rfl (v := .int (nI cn)) rfl dX1_remember_5 ?_
  refine j_iadd C dX1_remember_8 (v := (nI (ol + cn))) (nI_add _ _) ?_
  refine j_bipush C dX1_remember_9 (v := (nI 14)) kc_b_14 ?_
  refine j_irem C dX1_remember_11 (by decide) (v := (nI ((ol + cn) % 14))) (pk_rem (by omega) (by omega) (by omega)) ?_
  refine j_istore_n C dX1_remember_12 rfl (by decide) (lv' := [(2, .int (nI ((ol + cn) % 14))), (0, .ref h1), (1, .ref g0)]) rfl ?_
  refine j_aload_n C dX1_remember_13 1 rfl rfl ?_
  refine j_get C (hin1) (ci := 1) rfl 0 (by decide) (hl21) 0 rfl (v := .int (nI cn)) rfl dX1_remember_14 ?_
  refine j_bipush C dX1_remember_17 (v := (nI 14)) kc_b_14 ?_
  refine j_icmp_ge C dX1_remember_19 (tgt := 35) (by decide) (fun q19 => ?_) (fun q19 => ?_)
  · skip
    have q19 := (kn_ge (a := cn) (b := 14) (by omega) (by omega)).mp q19
    refine j_aload_n C dX1_remember_35 1 rfl rfl ?_
    refine j_aload_n C dX1_remember_36 1 rfl rfl ?_
    refine j_get C (hin1) (ci := 1) rfl 2 (by decide) (hl17) 0 rfl (v := .int (nI ol)) rfl dX1_remember_37 ?_
    refine j_iconst C dX1_remember_40 (v := (nI 1)) kc_i_1 ?_
    refine j_iadd C dX1_remember_41 (v := (nI (ol + 1))) (nI_add _ _) ?_
    refine j_bipush C dX1_remember_42 (v := (nI 14)) kc_b_14 ?_
    refine j_irem C dX1_remember_44 (by decide) (v := (nI ((ol + 1) % 14))) (pk_rem (by omega) (by omega) (by omega)) ?_
    refine j_put C rw_ (hin1) tyX1 tyX1_ok nmX1 (ci := 1) rfl 2 (by decide) (hl17) (by decide +kernel) (ty := .int) (by decide +kernel) rfl rfl 0 rfl (Nat.le_of_ble_eq_true rfl) (w' := [(h1, cO 1 [.int (nI cn), .ref hst, .int (nI ((ol + 1) % 14))]), (hst, cS (xT X) 14 sf), (g0, cO 6 [.int (nI c), .int (nI p), .int (bI s), .int (nI t), .ref go, .ref gr]), (go, cI (xT X) 21 ob), (gr, cI (xT X) 12 rq)]) rfl dX1_remember_45 ?_
    rw [show cO 1 [.int (nI cn), .ref hst, .int (nI ((ol + 1) % 14))] = cO 1 [.int (nI (if cn < 14 then cn + 1 else cn)), .ref hst, .int (nI (if cn < 14 then ol else (ol + 1) % 14))] from by rw [if_neg (by omega), if_neg (by omega)]]
    show jj X 0 0 48 [(2, .int (nI ((ol + cn) % 14))), (0, .ref h1), (1, .ref g0)] [] [(h1, cO 1 [.int (nI (if cn < 14 then cn + 1 else cn)), .ref hst, .int (nI (if cn < 14 then ol else (ol + 1) % 14))]), (hst, cS (xT X) 14 sf), (g0, cO 6 [.int (nI c), .int (nI p), .int (bI s), .int (nI t), .ref go, .ref gr]), (go, cI (xT X) 21 ob), (gr, cI (xT X) 12 rq)]
    refine j_lv [1, 2, 0] rfl ?_
    refine hc48 
  · skip
    have q19 := (kn_nge (a := cn) (b := 14) (by omega) (by omega)).mp q19
    refine j_aload_n C dX1_remember_22 1 rfl rfl ?_
    refine j_dup C dX1_remember_23 rfl ?_
    refine j_get C (hin1) (ci := 1) rfl 0 (by decide) (hl21) 0 rfl (v := .int (nI cn)) rfl dX1_remember_24 ?_
    refine j_iconst C dX1_remember_27 (v := (nI 1)) kc_i_1 ?_
    refine j_iadd C dX1_remember_28 (v := (nI (cn + 1))) (nI_add _ _) ?_
    refine j_put C rw_ (hin1) tyX1 tyX1_ok nmX1 (ci := 1) rfl 0 (by decide) (hl21) (by decide +kernel) (ty := .int) (by decide +kernel) rfl rfl 0 rfl (Nat.le_of_ble_eq_true rfl) (w' := [(h1, cO 1 [.int (nI (cn + 1)), .ref hst, .int (nI ol)]), (hst, cS (xT X) 14 sf), (g0, cO 6 [.int (nI c), .int (nI p), .int (bI s), .int (nI t), .ref go, .ref gr]), (go, cI (xT X) 21 ob), (gr, cI (xT X) 12 rq)]) rfl dX1_remember_29 ?_
    refine j_goto C dX1_remember_32 (tgt := 48) (by decide) ?_
    rw [show cO 1 [.int (nI (cn + 1)), .ref hst, .int (nI ol)] = cO 1 [.int (nI (if cn < 14 then cn + 1 else cn)), .ref hst, .int (nI (if cn < 14 then ol else (ol + 1) % 14))] from by rw [if_pos (by omega), if_pos (by omega)]]
    show jj X 0 0 48 [(2, .int (nI ((ol + cn) % 14))), (0, .ref h1), (1, .ref g0)] [] [(h1, cO 1 [.int (nI (if cn < 14 then cn + 1 else cn)), .ref hst, .int (nI (if cn < 14 then ol else (ol + 1) % 14))]), (hst, cS (xT X) 14 sf), (g0, cO 6 [.int (nI c), .int (nI p), .int (bI s), .int (nI t), .ref go, .ref gr]), (go, cI (xT X) 21 ob), (gr, cI (xT X) 12 rq)]
    refine j_lv [1, 2, 0] rfl ?_
    refine hc48 
