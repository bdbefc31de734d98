theorem goodIn_bb {big : List Cond} (bs : List (List Cond)) (hb : ∀ w ∈ bs.flatten, w ∈ big) (ws : List Cond) (ps : List (Nat × Nat)) (hp : ws = ps.filterMap (fun p => (bs[p.1]?).bind (fun b => b[p.2]?))) (h : ws.all goodWord = true) : GoodIn big ws := by
  refine goodIn_sub (fun w hw => hb w ?_) h
  rw [hp] at hw
  obtain ⟨p, -, hq⟩ := List.mem_filterMap.mp hw
  obtain ⟨b, hb2, hbq⟩ := Option.bind_eq_some_iff.mp hq
  exact List.mem_flatten.mpr ⟨b, List.mem_of_getElem? hb2, List.mem_of_getElem? hbq⟩
theorem dX0_init_0 : decode cX0_init 0 = .ok (.aload_n 0, 1) := by decide +kernel
theorem dX0_init_1 : decode cX0_init 1 = .ok (.invokespecial 3, 3) := by decide +kernel
theorem dX0_init_4 : decode cX0_init 4 = .ok (.aload_n 0, 1) := by decide +kernel
theorem dX0_init_5 : decode cX0_init 5 = .ok (.iload_n 1, 1) := by decide +kernel
theorem dX0_init_6 : decode cX0_init 6 = .ok (.ifCond .le 9, 3) := by decide +kernel
theorem dX0_init_9 : decode cX0_init 9 = .ok (.iconst 3, 1) := by decide +kernel
theorem dX0_init_10 : decode cX0_init 10 = .ok (.iload_n 1, 1) := by decide +kernel
theorem dX0_init_11 : decode cX0_init 11 = .ok (.imul, 1) := by decide +kernel
theorem dX0_init_12 : decode cX0_init 12 = .ok (.goto 4, 3) := by decide +kernel
theorem dX0_init_15 : decode cX0_init 15 = .ok (.iconst 0, 1) := by decide +kernel
theorem dX0_init_16 : decode cX0_init 16 = .ok (.newarray .long, 2) := by decide +kernel
theorem dX0_init_18 : decode cX0_init 18 = .ok (.putfield 11, 3) := by decide +kernel
theorem dX0_init_21 : decode cX0_init 21 = .ok (.return_, 1) := by decide +kernel
theorem dX0_hasRow_0 : decode cX0_hasRow 0 = .ok (.iconst 3, 1) := by decide +kernel
theorem dX0_hasRow_1 : decode cX0_hasRow 1 = .ok (.iload_n 1, 1) := by decide +kernel
theorem dX0_hasRow_2 : decode cX0_hasRow 2 = .ok (.imul, 1) := by decide +kernel
theorem dX0_hasRow_3 : decode cX0_hasRow 3 = .ok (.istore_n 2, 1) := by decide +kernel
theorem dX0_hasRow_4 : decode cX0_hasRow 4 = .ok (.iload_n 2, 1) := by decide +kernel
theorem dX0_hasRow_5 : decode cX0_hasRow 5 = .ok (.ifCond .lt 18, 3) := by decide +kernel
theorem dX0_hasRow_8 : decode cX0_hasRow 8 = .ok (.iload_n 2, 1) := by decide +kernel
theorem dX0_hasRow_9 : decode cX0_hasRow 9 = .ok (.aload_n 0, 1) := by decide +kernel
theorem dX0_hasRow_10 : decode cX0_hasRow 10 = .ok (.getfield 11, 3) := by decide +kernel
theorem dX0_hasRow_13 : decode cX0_hasRow 13 = .ok (.arraylength, 1) := by decide +kernel
theorem dX0_hasRow_14 : decode cX0_hasRow 14 = .ok (.iconst 3, 1) := by decide +kernel
theorem dX0_hasRow_15 : decode cX0_hasRow 15 = .ok (.isub, 1) := by decide +kernel
theorem dX0_hasRow_16 : decode cX0_hasRow 16 = .ok (.if_icmp .gt 7, 3) := by decide +kernel
theorem dX0_hasRow_19 : decode cX0_hasRow 19 = .ok (.iconst 1, 1) := by decide +kernel
theorem dX0_hasRow_20 : decode cX0_hasRow 20 = .ok (.goto 4, 3) := by decide +kernel
theorem dX0_hasRow_23 : decode cX0_hasRow 23 = .ok (.iconst 0, 1) := by decide +kernel
theorem dX0_hasRow_24 : decode cX0_hasRow 24 = .ok (.ireturn, 1) := by decide +kernel
theorem dX0_word_0 : decode cX0_word 0 = .ok (.iconst 3, 1) := by decide +kernel
theorem dX0_word_1 : decode cX0_word 1 = .ok (.iload_n 1, 1) := by decide +kernel
theorem dX0_word_2 : decode cX0_word 2 = .ok (.imul, 1) := by decide +kernel
theorem dX0_word_3 : decode cX0_word 3 = .ok (.iload_n 2, 1) := by decide +kernel
theorem dX0_word_4 : decode cX0_word 4 = .ok (.iadd, 1) := by decide +kernel
theorem dX0_word_5 : decode cX0_word 5 = .ok (.istore_n 3, 1) := by decide +kernel
theorem dX0_word_6 : decode cX0_word 6 = .ok (.iload_n 3, 1) := by decide +kernel
theorem dX0_word_7 : decode cX0_word 7 = .ok (.ifCond .lt 21, 3) := by decide +kernel
theorem dX0_word_10 : decode cX0_word 10 = .ok (.iload_n 3, 1) := by decide +kernel
theorem dX0_word_11 : decode cX0_word 11 = .ok (.aload_n 0, 1) := by decide +kernel
theorem dX0_word_12 : decode cX0_word 12 = .ok (.getfield 11, 3) := by decide +kernel
theorem dX0_word_15 : decode cX0_word 15 = .ok (.arraylength, 1) := by decide +kernel
theorem dX0_word_16 : decode cX0_word 16 = .ok (.if_icmp .ge 12, 3) := by decide +kernel
theorem dX0_word_19 : decode cX0_word 19 = .ok (.aload_n 0, 1) := by decide +kernel
theorem dX0_word_20 : decode cX0_word 20 = .ok (.getfield 11, 3) := by decide +kernel
theorem dX0_word_23 : decode cX0_word 23 = .ok (.iload_n 3, 1) := by decide +kernel
theorem dX0_word_24 : decode cX0_word 24 = .ok (.laload, 1) := by decide +kernel
theorem dX0_word_25 : decode cX0_word 25 = .ok (.goto 4, 3) := by decide +kernel
theorem dX0_word_28 : decode cX0_word 28 = .ok (.lconst 0, 1) := by decide +kernel
theorem dX0_word_29 : decode cX0_word 29 = .ok (.lreturn, 1) := by decide +kernel
def bs_X0_has : List (List Cond) := [[.code yX0_has cX0_has 3 (some .boolean)], [.methodLink RX0 15 yX0_word, .instanceMethod yX0_word, .selects RX0 yX0_word yX0_word, .initialized RX0, .code yX0_word cX0_word 4 (some .long), .fieldLink RX0 11 "SlewPlanner$CellSets" "words" "[J"], wsX00]
theorem bi_X0_has : ∀ w ∈ bs_X0_has.flatten, w ∈ wsX0_has := by
  have h : bs_X0_has.flatten = wsX0_has := by simp only [bs_X0_has, wsX0_has, List.flatten_cons, List.flatten_nil, List.append_assoc, List.append_nil, List.nil_append, List.cons_append]
  intro w hw; rw [h] at hw; exact hw
set_option maxRecDepth 20000 in
theorem ggX0_has_X0_word : GoodIn wsX0_has wsX0_word := goodIn_bb bs_X0_has bi_X0_has _ [(1, 4), (1, 5), (2, 0)] rfl (by decide +kernel)
set_option maxRecDepth 20000 in
theorem gX0_has_X0_word : GoodIn wsX0_has (wsV RX0 15 RX0 yX0_word wsX0_word) := goodIn_app (goodIn_bb bs_X0_has bi_X0_has _ [(1, 0), (1, 1), (1, 2), (1, 3)] rfl (by decide +kernel)) ggX0_has_X0_word
theorem dX0_has_0 : decode cX0_has 0 = .ok (.iload_n 2, 1) := by decide +kernel
theorem dX0_has_1 : decode cX0_has 1 = .ok (.ifCond .lt 35, 3) := by decide +kernel
theorem dX0_has_4 : decode cX0_has 4 = .ok (.iload_n 2, 1) := by decide +kernel
theorem dX0_has_5 : decode cX0_has 5 = .ok (.sipush 150, 3) := by decide +kernel
theorem dX0_has_8 : decode cX0_has 8 = .ok (.if_icmp .ge 28, 3) := by decide +kernel
theorem dX0_has_11 : decode cX0_has 11 = .ok (.aload_n 0, 1) := by decide +kernel
theorem dX0_has_12 : decode cX0_has 12 = .ok (.iload_n 1, 1) := by decide +kernel
theorem dX0_has_13 : decode cX0_has 13 = .ok (.iload_n 2, 1) := by decide +kernel
theorem dX0_has_14 : decode cX0_has 14 = .ok (.bipush 6, 2) := by decide +kernel
theorem dX0_has_16 : decode cX0_has 16 = .ok (.ishr, 1) := by decide +kernel
theorem dX0_has_17 : decode cX0_has 17 = .ok (.invokevirtual 15, 3) := by decide +kernel
theorem dX0_has_20 : decode cX0_has 20 = .ok (.iload_n 2, 1) := by decide +kernel
theorem dX0_has_21 : decode cX0_has 21 = .ok (.bipush 63, 2) := by decide +kernel
theorem dX0_has_23 : decode cX0_has 23 = .ok (.iand, 1) := by decide +kernel
theorem dX0_has_24 : decode cX0_has 24 = .ok (.lushr, 1) := by decide +kernel
theorem dX0_has_25 : decode cX0_has 25 = .ok (.lconst 1, 1) := by decide +kernel
theorem dX0_has_26 : decode cX0_has 26 = .ok (.land, 1) := by decide +kernel
theorem dX0_has_27 : decode cX0_has 27 = .ok (.lconst 0, 1) := by decide +kernel
theorem dX0_has_28 : decode cX0_has 28 = .ok (.lcmp, 1) := by decide +kernel
theorem dX0_has_29 : decode cX0_has 29 = .ok (.ifCond .eq 7, 3) := by decide +kernel
theorem dX0_has_32 : decode cX0_has 32 = .ok (.iconst 1, 1) := by decide +kernel
theorem dX0_has_33 : decode cX0_has 33 = .ok (.goto 4, 3) := by decide +kernel
theorem dX0_has_36 : decode cX0_has 36 = .ok (.iconst 0, 1) := by decide +kernel
theorem dX0_has_37 : decode cX0_has 37 = .ok (.ireturn, 1) := by decide +kernel
theorem dX0_add_0 : decode cX0_add 0 = .ok (.iconst 3, 1) := by decide +kernel
theorem dX0_add_1 : decode cX0_add 1 = .ok (.iload_n 1, 1) := by decide +kernel
theorem dX0_add_2 : decode cX0_add 2 = .ok (.imul, 1) := by decide +kernel
theorem dX0_add_3 : decode cX0_add 3 = .ok (.iload_n 2, 1) := by decide +kernel
theorem dX0_add_4 : decode cX0_add 4 = .ok (.bipush 6, 2) := by decide +kernel
theorem dX0_add_6 : decode cX0_add 6 = .ok (.ishr, 1) := by decide +kernel
theorem dX0_add_7 : decode cX0_add 7 = .ok (.iadd, 1) := by decide +kernel
theorem dX0_add_8 : decode cX0_add 8 = .ok (.istore_n 3, 1) := by decide +kernel
theorem dX0_add_9 : decode cX0_add 9 = .ok (.iload_n 2, 1) := by decide +kernel
theorem dX0_add_10 : decode cX0_add 10 = .ok (.ifCond .lt 38, 3) := by decide +kernel
theorem dX0_add_13 : decode cX0_add 13 = .ok (.iload_n 2, 1) := by decide +kernel
theorem dX0_add_14 : decode cX0_add 14 = .ok (.sipush 150, 3) := by decide +kernel
theorem dX0_add_17 : decode cX0_add 17 = .ok (.if_icmp .ge 31, 3) := by decide +kernel
theorem dX0_add_20 : decode cX0_add 20 = .ok (.iload_n 3, 1) := by decide +kernel
theorem dX0_add_21 : decode cX0_add 21 = .ok (.ifCond .lt 27, 3) := by decide +kernel
theorem dX0_add_24 : decode cX0_add 24 = .ok (.iload_n 3, 1) := by decide +kernel
theorem dX0_add_25 : decode cX0_add 25 = .ok (.aload_n 0, 1) := by decide +kernel
theorem dX0_add_26 : decode cX0_add 26 = .ok (.getfield 11, 3) := by decide +kernel
theorem dX0_add_29 : decode cX0_add 29 = .ok (.arraylength, 1) := by decide +kernel
theorem dX0_add_30 : decode cX0_add 30 = .ok (.if_icmp .ge 18, 3) := by decide +kernel
theorem dX0_add_33 : decode cX0_add 33 = .ok (.aload_n 0, 1) := by decide +kernel
theorem dX0_add_34 : decode cX0_add 34 = .ok (.getfield 11, 3) := by decide +kernel
theorem dX0_add_37 : decode cX0_add 37 = .ok (.iload_n 3, 1) := by decide +kernel
theorem dX0_add_38 : decode cX0_add 38 = .ok (.dup2, 1) := by decide +kernel
theorem dX0_add_39 : decode cX0_add 39 = .ok (.laload, 1) := by decide +kernel
theorem dX0_add_40 : decode cX0_add 40 = .ok (.lconst 1, 1) := by decide +kernel
theorem dX0_add_41 : decode cX0_add 41 = .ok (.iload_n 2, 1) := by decide +kernel
theorem dX0_add_42 : decode cX0_add 42 = .ok (.bipush 63, 2) := by decide +kernel
theorem dX0_add_44 : decode cX0_add 44 = .ok (.iand, 1) := by decide +kernel
theorem dX0_add_45 : decode cX0_add 45 = .ok (.lshl, 1) := by decide +kernel
theorem dX0_add_46 : decode cX0_add 46 = .ok (.lor, 1) := by decide +kernel
theorem dX0_add_47 : decode cX0_add 47 = .ok (.lastore, 1) := by decide +kernel
theorem dX0_add_48 : decode cX0_add 48 = .ok (.return_, 1) := by decide +kernel
def bs_X0_clear : List (List Cond) := [[.code yX0_clear cX0_clear 3 none], [.fieldLink RX0 11 "SlewPlanner$CellSets" "words" "[J", .methodLink RX0 19 yX0_hasRow, .instanceMethod yX0_hasRow, .selects RX0 yX0_hasRow yX0_hasRow, .initialized RX0, .code yX0_hasRow cX0_hasRow 3 (some .boolean)], wsX00]
theorem bi_X0_clear : ∀ w ∈ bs_X0_clear.flatten, w ∈ wsX0_clear := by
  have h : bs_X0_clear.flatten = wsX0_clear := by simp only [bs_X0_clear, wsX0_clear, List.flatten_cons, List.flatten_nil, List.append_assoc, List.append_nil, List.nil_append, List.cons_append]
  intro w hw; rw [h] at hw; exact hw
set_option maxRecDepth 20000 in
theorem ggX0_clear_X0_hasRow : GoodIn wsX0_clear wsX0_hasRow := goodIn_bb bs_X0_clear bi_X0_clear _ [(1, 5), (1, 0), (2, 0)] rfl (by decide +kernel)
set_option maxRecDepth 20000 in
theorem gX0_clear_X0_hasRow : GoodIn wsX0_clear (wsV RX0 19 RX0 yX0_hasRow wsX0_hasRow) := goodIn_app (goodIn_bb bs_X0_clear bi_X0_clear _ [(1, 1), (1, 2), (1, 3), (1, 4)] rfl (by decide +kernel)) ggX0_clear_X0_hasRow
theorem dX0_clear_0 : decode cX0_clear 0 = .ok (.aload_n 0, 1) := by decide +kernel
theorem dX0_clear_1 : decode cX0_clear 1 = .ok (.iload_n 1, 1) := by decide +kernel
theorem dX0_clear_2 : decode cX0_clear 2 = .ok (.invokevirtual 19, 3) := by decide +kernel
theorem dX0_clear_5 : decode cX0_clear 5 = .ok (.ifCond .eq 27, 3) := by decide +kernel
theorem dX0_clear_8 : decode cX0_clear 8 = .ok (.iconst 0, 1) := by decide +kernel
theorem dX0_clear_9 : decode cX0_clear 9 = .ok (.istore_n 2, 1) := by decide +kernel
theorem dX0_clear_10 : decode cX0_clear 10 = .ok (.iload_n 2, 1) := by decide +kernel
theorem dX0_clear_11 : decode cX0_clear 11 = .ok (.iconst 3, 1) := by decide +kernel
theorem dX0_clear_12 : decode cX0_clear 12 = .ok (.if_icmp .ge 20, 3) := by decide +kernel
theorem dX0_clear_15 : decode cX0_clear 15 = .ok (.aload_n 0, 1) := by decide +kernel
theorem dX0_clear_16 : decode cX0_clear 16 = .ok (.getfield 11, 3) := by decide +kernel
theorem dX0_clear_19 : decode cX0_clear 19 = .ok (.iconst 3, 1) := by decide +kernel
theorem dX0_clear_20 : decode cX0_clear 20 = .ok (.iload_n 1, 1) := by decide +kernel
theorem dX0_clear_21 : decode cX0_clear 21 = .ok (.imul, 1) := by decide +kernel
theorem dX0_clear_22 : decode cX0_clear 22 = .ok (.iload_n 2, 1) := by decide +kernel
theorem dX0_clear_23 : decode cX0_clear 23 = .ok (.iadd, 1) := by decide +kernel
theorem dX0_clear_24 : decode cX0_clear 24 = .ok (.lconst 0, 1) := by decide +kernel
theorem dX0_clear_25 : decode cX0_clear 25 = .ok (.lastore, 1) := by decide +kernel
theorem dX0_clear_26 : decode cX0_clear 26 = .ok (.iinc 2 1, 3) := by decide +kernel
theorem dX0_clear_29 : decode cX0_clear 29 = .ok (.goto (-19), 3) := by decide +kernel
theorem dX0_clear_32 : decode cX0_clear 32 = .ok (.return_, 1) := by decide +kernel
def bs_X0_unite : List (List Cond) := [[.code yX0_unite cX0_unite 5 none], [.fieldLink RX0 11 "SlewPlanner$CellSets" "words" "[J", .methodLink RX0 19 yX0_hasRow, .instanceMethod yX0_hasRow, .selects RX0 yX0_hasRow yX0_hasRow, .initialized RX0, .code yX0_hasRow cX0_hasRow 3 (some .boolean)], wsX00]
theorem bi_X0_unite : ∀ w ∈ bs_X0_unite.flatten, w ∈ wsX0_unite := by
  have h : bs_X0_unite.flatten = wsX0_unite := by simp only [bs_X0_unite, wsX0_unite, List.flatten_cons, List.flatten_nil, List.append_assoc, List.append_nil, List.nil_append, List.cons_append]
  intro w hw; rw [h] at hw; exact hw
set_option maxRecDepth 20000 in
theorem ggX0_unite_X0_hasRow : GoodIn wsX0_unite wsX0_hasRow := goodIn_bb bs_X0_unite bi_X0_unite _ [(1, 5), (1, 0), (2, 0)] rfl (by decide +kernel)
set_option maxRecDepth 20000 in
theorem gX0_unite_X0_hasRow : GoodIn wsX0_unite (wsV RX0 19 RX0 yX0_hasRow wsX0_hasRow) := goodIn_app (goodIn_bb bs_X0_unite bi_X0_unite _ [(1, 1), (1, 2), (1, 3), (1, 4)] rfl (by decide +kernel)) ggX0_unite_X0_hasRow
theorem dX0_unite_0 : decode cX0_unite 0 = .ok (.aload_n 0, 1) := by decide +kernel
theorem dX0_unite_1 : decode cX0_unite 1 = .ok (.iload_n 1, 1) := by decide +kernel
theorem dX0_unite_2 : decode cX0_unite 2 = .ok (.invokevirtual 19, 3) := by decide +kernel
theorem dX0_unite_5 : decode cX0_unite 5 = .ok (.ifCond .eq 51, 3) := by decide +kernel
theorem dX0_unite_8 : decode cX0_unite 8 = .ok (.aload_n 2, 1) := by decide +kernel
theorem dX0_unite_9 : decode cX0_unite 9 = .ok (.iload_n 3, 1) := by decide +kernel
theorem dX0_unite_10 : decode cX0_unite 10 = .ok (.invokevirtual 19, 3) := by decide +kernel
theorem dX0_unite_13 : decode cX0_unite 13 = .ok (.ifCond .eq 43, 3) := by decide +kernel
theorem dX0_unite_16 : decode cX0_unite 16 = .ok (.iconst 0, 1) := by decide +kernel
theorem dX0_unite_17 : decode cX0_unite 17 = .ok (.istore 4, 2) := by decide +kernel
theorem dX0_unite_19 : decode cX0_unite 19 = .ok (.iload 4, 2) := by decide +kernel
theorem dX0_unite_21 : decode cX0_unite 21 = .ok (.iconst 3, 1) := by decide +kernel
theorem dX0_unite_22 : decode cX0_unite 22 = .ok (.if_icmp .ge 34, 3) := by decide +kernel
theorem dX0_unite_25 : decode cX0_unite 25 = .ok (.aload_n 0, 1) := by decide +kernel
theorem dX0_unite_26 : decode cX0_unite 26 = .ok (.getfield 11, 3) := by decide +kernel
theorem dX0_unite_29 : decode cX0_unite 29 = .ok (.iconst 3, 1) := by decide +kernel
theorem dX0_unite_30 : decode cX0_unite 30 = .ok (.iload_n 1, 1) := by decide +kernel
theorem dX0_unite_31 : decode cX0_unite 31 = .ok (.imul, 1) := by decide +kernel
theorem dX0_unite_32 : decode cX0_unite 32 = .ok (.iload 4, 2) := by decide +kernel
theorem dX0_unite_34 : decode cX0_unite 34 = .ok (.iadd, 1) := by decide +kernel
theorem dX0_unite_35 : decode cX0_unite 35 = .ok (.dup2, 1) := by decide +kernel
theorem dX0_unite_36 : decode cX0_unite 36 = .ok (.laload, 1) := by decide +kernel
theorem dX0_unite_37 : decode cX0_unite 37 = .ok (.aload_n 2, 1) := by decide +kernel
theorem dX0_unite_38 : decode cX0_unite 38 = .ok (.getfield 11, 3) := by decide +kernel
theorem dX0_unite_41 : decode cX0_unite 41 = .ok (.iconst 3, 1) := by decide +kernel
theorem dX0_unite_42 : decode cX0_unite 42 = .ok (.iload_n 3, 1) := by decide +kernel
theorem dX0_unite_43 : decode cX0_unite 43 = .ok (.imul, 1) := by decide +kernel
theorem dX0_unite_44 : decode cX0_unite 44 = .ok (.iload 4, 2) := by decide +kernel
theorem dX0_unite_46 : decode cX0_unite 46 = .ok (.iadd, 1) := by decide +kernel
theorem dX0_unite_47 : decode cX0_unite 47 = .ok (.laload, 1) := by decide +kernel
theorem dX0_unite_48 : decode cX0_unite 48 = .ok (.lor, 1) := by decide +kernel
theorem dX0_unite_49 : decode cX0_unite 49 = .ok (.lastore, 1) := by decide +kernel
theorem dX0_unite_50 : decode cX0_unite 50 = .ok (.iinc 4 1, 3) := by decide +kernel
theorem dX0_unite_53 : decode cX0_unite 53 = .ok (.goto (-34), 3) := by decide +kernel
theorem dX0_unite_56 : decode cX0_unite 56 = .ok (.return_, 1) := by decide +kernel
def bs_X0_retain : List (List Cond) := [[.code yX0_retain cX0_retain 5 none], [.fieldLink RX0 11 "SlewPlanner$CellSets" "words" "[J", .methodLink RX0 19 yX0_hasRow, .instanceMethod yX0_hasRow, .selects RX0 yX0_hasRow yX0_hasRow, .initialized RX0, .code yX0_hasRow cX0_hasRow 3 (some .boolean)], wsX00]
theorem bi_X0_retain : ∀ w ∈ bs_X0_retain.flatten, w ∈ wsX0_retain := by
  have h : bs_X0_retain.flatten = wsX0_retain := by simp only [bs_X0_retain, wsX0_retain, List.flatten_cons, List.flatten_nil, List.append_assoc, List.append_nil, List.nil_append, List.cons_append]
  intro w hw; rw [h] at hw; exact hw
set_option maxRecDepth 20000 in
theorem ggX0_retain_X0_hasRow : GoodIn wsX0_retain wsX0_hasRow := goodIn_bb bs_X0_retain bi_X0_retain _ [(1, 5), (1, 0), (2, 0)] rfl (by decide +kernel)
set_option maxRecDepth 20000 in
theorem gX0_retain_X0_hasRow : GoodIn wsX0_retain (wsV RX0 19 RX0 yX0_hasRow wsX0_hasRow) := goodIn_app (goodIn_bb bs_X0_retain bi_X0_retain _ [(1, 1), (1, 2), (1, 3), (1, 4)] rfl (by decide +kernel)) ggX0_retain_X0_hasRow
theorem dX0_retain_0 : decode cX0_retain 0 = .ok (.aload_n 0, 1) := by decide +kernel
theorem dX0_retain_1 : decode cX0_retain 1 = .ok (.iload_n 1, 1) := by decide +kernel
theorem dX0_retain_2 : decode cX0_retain 2 = .ok (.invokevirtual 19, 3) := by decide +kernel
theorem dX0_retain_5 : decode cX0_retain 5 = .ok (.ifCond .eq 51, 3) := by decide +kernel
theorem dX0_retain_8 : decode cX0_retain 8 = .ok (.aload_n 2, 1) := by decide +kernel
theorem dX0_retain_9 : decode cX0_retain 9 = .ok (.iload_n 3, 1) := by decide +kernel
theorem dX0_retain_10 : decode cX0_retain 10 = .ok (.invokevirtual 19, 3) := by decide +kernel
theorem dX0_retain_13 : decode cX0_retain 13 = .ok (.ifCond .eq 43, 3) := by decide +kernel
theorem dX0_retain_16 : decode cX0_retain 16 = .ok (.iconst 0, 1) := by decide +kernel
theorem dX0_retain_17 : decode cX0_retain 17 = .ok (.istore 4, 2) := by decide +kernel
theorem dX0_retain_19 : decode cX0_retain 19 = .ok (.iload 4, 2) := by decide +kernel
theorem dX0_retain_21 : decode cX0_retain 21 = .ok (.iconst 3, 1) := by decide +kernel
theorem dX0_retain_22 : decode cX0_retain 22 = .ok (.if_icmp .ge 34, 3) := by decide +kernel
theorem dX0_retain_25 : decode cX0_retain 25 = .ok (.aload_n 0, 1) := by decide +kernel
theorem dX0_retain_26 : decode cX0_retain 26 = .ok (.getfield 11, 3) := by decide +kernel
theorem dX0_retain_29 : decode cX0_retain 29 = .ok (.iconst 3, 1) := by decide +kernel
theorem dX0_retain_30 : decode cX0_retain 30 = .ok (.iload_n 1, 1) := by decide +kernel
theorem dX0_retain_31 : decode cX0_retain 31 = .ok (.imul, 1) := by decide +kernel
theorem dX0_retain_32 : decode cX0_retain 32 = .ok (.iload 4, 2) := by decide +kernel
theorem dX0_retain_34 : decode cX0_retain 34 = .ok (.iadd, 1) := by decide +kernel
theorem dX0_retain_35 : decode cX0_retain 35 = .ok (.dup2, 1) := by decide +kernel
theorem dX0_retain_36 : decode cX0_retain 36 = .ok (.laload, 1) := by decide +kernel
theorem dX0_retain_37 : decode cX0_retain 37 = .ok (.aload_n 2, 1) := by decide +kernel
theorem dX0_retain_38 : decode cX0_retain 38 = .ok (.getfield 11, 3) := by decide +kernel
theorem dX0_retain_41 : decode cX0_retain 41 = .ok (.iconst 3, 1) := by decide +kernel
theorem dX0_retain_42 : decode cX0_retain 42 = .ok (.iload_n 3, 1) := by decide +kernel
theorem dX0_retain_43 : decode cX0_retain 43 = .ok (.imul, 1) := by decide +kernel
theorem dX0_retain_44 : decode cX0_retain 44 = .ok (.iload 4, 2) := by decide +kernel
theorem dX0_retain_46 : decode cX0_retain 46 = .ok (.iadd, 1) := by decide +kernel
theorem dX0_retain_47 : decode cX0_retain 47 = .ok (.laload, 1) := by decide +kernel
theorem dX0_retain_48 : decode cX0_retain 48 = .ok (.land, 1) := by decide +kernel
theorem dX0_retain_49 : decode cX0_retain 49 = .ok (.lastore, 1) := by decide +kernel
theorem dX0_retain_50 : decode cX0_retain 50 = .ok (.iinc 4 1, 3) := by decide +kernel
theorem dX0_retain_53 : decode cX0_retain 53 = .ok (.goto (-34), 3) := by decide +kernel
theorem dX0_retain_56 : decode cX0_retain 56 = .ok (.return_, 1) := by decide +kernel
def bs_X0_takeAway : List (List Cond) := [[.code yX0_takeAway cX0_takeAway 5 none], [.fieldLink RX0 11 "SlewPlanner$CellSets" "words" "[J", .constantLong RX0 23 (-1), .methodLink RX0 19 yX0_hasRow, .instanceMethod yX0_hasRow, .selects RX0 yX0_hasRow yX0_hasRow, .initialized RX0, .code yX0_hasRow cX0_hasRow 3 (some .boolean)], wsX00]
theorem bi_X0_takeAway : ∀ w ∈ bs_X0_takeAway.flatten, w ∈ wsX0_takeAway := by
  have h : bs_X0_takeAway.flatten = wsX0_takeAway := by simp only [bs_X0_takeAway, wsX0_takeAway, List.flatten_cons, List.flatten_nil, List.append_assoc, List.append_nil, List.nil_append, List.cons_append]
  intro w hw; rw [h] at hw; exact hw
set_option maxRecDepth 20000 in
theorem ggX0_takeAway_X0_hasRow : GoodIn wsX0_takeAway wsX0_hasRow := goodIn_bb bs_X0_takeAway bi_X0_takeAway _ [(1, 6), (1, 0), (2, 0)] rfl (by decide +kernel)
set_option maxRecDepth 20000 in
theorem gX0_takeAway_X0_hasRow : GoodIn wsX0_takeAway (wsV RX0 19 RX0 yX0_hasRow wsX0_hasRow) := goodIn_app (goodIn_bb bs_X0_takeAway bi_X0_takeAway _ [(1, 2), (1, 3), (1, 4), (1, 5)] rfl (by decide +kernel)) ggX0_takeAway_X0_hasRow
theorem dX0_takeAway_0 : decode cX0_takeAway 0 = .ok (.aload_n 0, 1) := by decide +kernel
theorem dX0_takeAway_1 : decode cX0_takeAway 1 = .ok (.iload_n 1, 1) := by decide +kernel
theorem dX0_takeAway_2 : decode cX0_takeAway 2 = .ok (.invokevirtual 19, 3) := by decide +kernel
theorem dX0_takeAway_5 : decode cX0_takeAway 5 = .ok (.ifCond .eq 55, 3) := by decide +kernel
theorem dX0_takeAway_8 : decode cX0_takeAway 8 = .ok (.aload_n 2, 1) := by decide +kernel
theorem dX0_takeAway_9 : decode cX0_takeAway 9 = .ok (.iload_n 3, 1) := by decide +kernel
theorem dX0_takeAway_10 : decode cX0_takeAway 10 = .ok (.invokevirtual 19, 3) := by decide +kernel
theorem dX0_takeAway_13 : decode cX0_takeAway 13 = .ok (.ifCond .eq 47, 3) := by decide +kernel
theorem dX0_takeAway_16 : decode cX0_takeAway 16 = .ok (.iconst 0, 1) := by decide +kernel
theorem dX0_takeAway_17 : decode cX0_takeAway 17 = .ok (.istore 4, 2) := by decide +kernel
theorem dX0_takeAway_19 : decode cX0_takeAway 19 = .ok (.iload 4, 2) := by decide +kernel
theorem dX0_takeAway_21 : decode cX0_takeAway 21 = .ok (.iconst 3, 1) := by decide +kernel
theorem dX0_takeAway_22 : decode cX0_takeAway 22 = .ok (.if_icmp .ge 38, 3) := by decide +kernel
theorem dX0_takeAway_25 : decode cX0_takeAway 25 = .ok (.aload_n 0, 1) := by decide +kernel
theorem dX0_takeAway_26 : decode cX0_takeAway 26 = .ok (.getfield 11, 3) := by decide +kernel
theorem dX0_takeAway_29 : decode cX0_takeAway 29 = .ok (.iconst 3, 1) := by decide +kernel
theorem dX0_takeAway_30 : decode cX0_takeAway 30 = .ok (.iload_n 1, 1) := by decide +kernel
theorem dX0_takeAway_31 : decode cX0_takeAway 31 = .ok (.imul, 1) := by decide +kernel
theorem dX0_takeAway_32 : decode cX0_takeAway 32 = .ok (.iload 4, 2) := by decide +kernel
theorem dX0_takeAway_34 : decode cX0_takeAway 34 = .ok (.iadd, 1) := by decide +kernel
theorem dX0_takeAway_35 : decode cX0_takeAway 35 = .ok (.dup2, 1) := by decide +kernel
theorem dX0_takeAway_36 : decode cX0_takeAway 36 = .ok (.laload, 1) := by decide +kernel
theorem dX0_takeAway_37 : decode cX0_takeAway 37 = .ok (.aload_n 2, 1) := by decide +kernel
theorem dX0_takeAway_38 : decode cX0_takeAway 38 = .ok (.getfield 11, 3) := by decide +kernel
theorem dX0_takeAway_41 : decode cX0_takeAway 41 = .ok (.iconst 3, 1) := by decide +kernel
theorem dX0_takeAway_42 : decode cX0_takeAway 42 = .ok (.iload_n 3, 1) := by decide +kernel
theorem dX0_takeAway_43 : decode cX0_takeAway 43 = .ok (.imul, 1) := by decide +kernel
theorem dX0_takeAway_44 : decode cX0_takeAway 44 = .ok (.iload 4, 2) := by decide +kernel
theorem dX0_takeAway_46 : decode cX0_takeAway 46 = .ok (.iadd, 1) := by decide +kernel
theorem dX0_takeAway_47 : decode cX0_takeAway 47 = .ok (.laload, 1) := by decide +kernel
theorem dX0_takeAway_48 : decode cX0_takeAway 48 = .ok (.ldc2_w 23, 3) := by decide +kernel
theorem dX0_takeAway_51 : decode cX0_takeAway 51 = .ok (.lxor, 1) := by decide +kernel
theorem dX0_takeAway_52 : decode cX0_takeAway 52 = .ok (.land, 1) := by decide +kernel
theorem dX0_takeAway_53 : decode cX0_takeAway 53 = .ok (.lastore, 1) := by decide +kernel
theorem dX0_takeAway_54 : decode cX0_takeAway 54 = .ok (.iinc 4 1, 3) := by decide +kernel
theorem dX0_takeAway_57 : decode cX0_takeAway 57 = .ok (.goto (-38), 3) := by decide +kernel
theorem dX0_takeAway_60 : decode cX0_takeAway 60 = .ok (.return_, 1) := by decide +kernel
def bs_X0_spread : List (List Cond) := [[.code yX0_spread cX0_spread 8 none], [.methodLink RX0 25 yX0_clear, .instanceMethod yX0_clear, .selects RX0 yX0_clear yX0_clear, .initialized RX0, .code yX0_clear cX0_clear 3 none, .fieldLink RX0 11 "SlewPlanner$CellSets" "words" "[J", .methodLink RX0 19 yX0_hasRow, .instanceMethod yX0_hasRow, .selects RX0 yX0_hasRow yX0_hasRow, .code yX0_hasRow cX0_hasRow 3 (some .boolean), .methodLink RX0 15 yX0_word, .instanceMethod yX0_word, .selects RX0 yX0_word yX0_word, .code yX0_word cX0_word 4 (some .long), .methodLink RX0 29 yX0_unite, .instanceMethod yX0_unite, .selects RX0 yX0_unite yX0_unite, .code yX0_unite cX0_unite 5 none], wsX00]
theorem bi_X0_spread : ∀ w ∈ bs_X0_spread.flatten, w ∈ wsX0_spread := by
  have h : bs_X0_spread.flatten = wsX0_spread := by simp only [bs_X0_spread, wsX0_spread, List.flatten_cons, List.flatten_nil, List.append_assoc, List.append_nil, List.nil_append, List.cons_append]
  intro w hw; rw [h] at hw; exact hw
set_option maxRecDepth 20000 in
theorem ggX0_spread_X0_clear : GoodIn wsX0_spread wsX0_clear := goodIn_bb bs_X0_spread bi_X0_spread _ [(1, 4), (1, 5), (1, 6), (1, 7), (1, 8), (1, 3), (1, 9), (2, 0)] rfl (by decide +kernel)
set_option maxRecDepth 20000 in
theorem gX0_spread_X0_clear : GoodIn wsX0_spread (wsV RX0 25 RX0 yX0_clear wsX0_clear) := goodIn_app (goodIn_bb bs_X0_spread bi_X0_spread _ [(1, 0), (1, 1), (1, 2), (1, 3)] rfl (by decide +kernel)) ggX0_spread_X0_clear
set_option maxRecDepth 20000 in
theorem ggX0_spread_X0_word : GoodIn wsX0_spread wsX0_word := goodIn_bb bs_X0_spread bi_X0_spread _ [(1, 13), (1, 5), (2, 0)] rfl (by decide +kernel)
set_option maxRecDepth 20000 in
theorem gX0_spread_X0_word : GoodIn wsX0_spread (wsV RX0 15 RX0 yX0_word wsX0_word) := goodIn_app (goodIn_bb bs_X0_spread bi_X0_spread _ [(1, 10), (1, 11), (1, 12), (1, 3)] rfl (by decide +kernel)) ggX0_spread_X0_word
set_option maxRecDepth 20000 in
theorem ggX0_spread_X0_unite : GoodIn wsX0_spread wsX0_unite := goodIn_bb bs_X0_spread bi_X0_spread _ [(1, 17), (1, 5), (1, 6), (1, 7), (1, 8), (1, 3), (1, 9), (2, 0)] rfl (by decide +kernel)
set_option maxRecDepth 20000 in
theorem gX0_spread_X0_unite : GoodIn wsX0_spread (wsV RX0 29 RX0 yX0_unite wsX0_unite) := goodIn_app (goodIn_bb bs_X0_spread bi_X0_spread _ [(1, 14), (1, 15), (1, 16), (1, 3)] rfl (by decide +kernel)) ggX0_spread_X0_unite
theorem dX0_spread_0 : decode cX0_spread 0 = .ok (.aload_n 0, 1) := by decide +kernel
theorem dX0_spread_1 : decode cX0_spread 1 = .ok (.iload_n 1, 1) := by decide +kernel
theorem dX0_spread_2 : decode cX0_spread 2 = .ok (.invokevirtual 25, 3) := by decide +kernel
theorem dX0_spread_5 : decode cX0_spread 5 = .ok (.iconst 0, 1) := by decide +kernel
theorem dX0_spread_6 : decode cX0_spread 6 = .ok (.istore 4, 2) := by decide +kernel
theorem dX0_spread_8 : decode cX0_spread 8 = .ok (.iload 4, 2) := by decide +kernel
theorem dX0_spread_10 : decode cX0_spread 10 = .ok (.iconst 3, 1) := by decide +kernel
theorem dX0_spread_11 : decode cX0_spread 11 = .ok (.if_icmp .ge 70, 3) := by decide +kernel
theorem dX0_spread_14 : decode cX0_spread 14 = .ok (.aload_n 0, 1) := by decide +kernel
theorem dX0_spread_15 : decode cX0_spread 15 = .ok (.iload_n 2, 1) := by decide +kernel
theorem dX0_spread_16 : decode cX0_spread 16 = .ok (.iload 4, 2) := by decide +kernel
theorem dX0_spread_18 : decode cX0_spread 18 = .ok (.invokevirtual 15, 3) := by decide +kernel
theorem dX0_spread_21 : decode cX0_spread 21 = .ok (.lstore 5, 2) := by decide +kernel
theorem dX0_spread_23 : decode cX0_spread 23 = .ok (.iconst 0, 1) := by decide +kernel
theorem dX0_spread_24 : decode cX0_spread 24 = .ok (.istore 7, 2) := by decide +kernel
theorem dX0_spread_26 : decode cX0_spread 26 = .ok (.iload 7, 2) := by decide +kernel
theorem dX0_spread_28 : decode cX0_spread 28 = .ok (.bipush 64, 2) := by decide +kernel
theorem dX0_spread_30 : decode cX0_spread 30 = .ok (.if_icmp .ge 45, 3) := by decide +kernel
theorem dX0_spread_33 : decode cX0_spread 33 = .ok (.lload 5, 2) := by decide +kernel
theorem dX0_spread_35 : decode cX0_spread 35 = .ok (.lconst 0, 1) := by decide +kernel
theorem dX0_spread_36 : decode cX0_spread 36 = .ok (.lcmp, 1) := by decide +kernel
theorem dX0_spread_37 : decode cX0_spread 37 = .ok (.ifCond .eq 38, 3) := by decide +kernel
theorem dX0_spread_40 : decode cX0_spread 40 = .ok (.lload 5, 2) := by decide +kernel
theorem dX0_spread_42 : decode cX0_spread 42 = .ok (.lconst 1, 1) := by decide +kernel
theorem dX0_spread_43 : decode cX0_spread 43 = .ok (.land, 1) := by decide +kernel
theorem dX0_spread_44 : decode cX0_spread 44 = .ok (.lconst 0, 1) := by decide +kernel
theorem dX0_spread_45 : decode cX0_spread 45 = .ok (.lcmp, 1) := by decide +kernel
theorem dX0_spread_46 : decode cX0_spread 46 = .ok (.ifCond .eq 17, 3) := by decide +kernel
theorem dX0_spread_49 : decode cX0_spread 49 = .ok (.aload_n 0, 1) := by decide +kernel
theorem dX0_spread_50 : decode cX0_spread 50 = .ok (.iload_n 1, 1) := by decide +kernel
theorem dX0_spread_51 : decode cX0_spread 51 = .ok (.aload_n 3, 1) := by decide +kernel
theorem dX0_spread_52 : decode cX0_spread 52 = .ok (.bipush 64, 2) := by decide +kernel
theorem dX0_spread_54 : decode cX0_spread 54 = .ok (.iload 4, 2) := by decide +kernel
theorem dX0_spread_56 : decode cX0_spread 56 = .ok (.imul, 1) := by decide +kernel
theorem dX0_spread_57 : decode cX0_spread 57 = .ok (.iload 7, 2) := by decide +kernel
theorem dX0_spread_59 : decode cX0_spread 59 = .ok (.iadd, 1) := by decide +kernel
theorem dX0_spread_60 : decode cX0_spread 60 = .ok (.invokevirtual 29, 3) := by decide +kernel
theorem dX0_spread_63 : decode cX0_spread 63 = .ok (.lload 5, 2) := by decide +kernel
theorem dX0_spread_65 : decode cX0_spread 65 = .ok (.iconst 1, 1) := by decide +kernel
theorem dX0_spread_66 : decode cX0_spread 66 = .ok (.lushr, 1) := by decide +kernel
theorem dX0_spread_67 : decode cX0_spread 67 = .ok (.lstore 5, 2) := by decide +kernel
theorem dX0_spread_69 : decode cX0_spread 69 = .ok (.iinc 7 1, 3) := by decide +kernel
theorem dX0_spread_72 : decode cX0_spread 72 = .ok (.goto (-46), 3) := by decide +kernel
theorem dX0_spread_75 : decode cX0_spread 75 = .ok (.iinc 4 1, 3) := by decide +kernel
theorem dX0_spread_78 : decode cX0_spread 78 = .ok (.goto (-70), 3) := by decide +kernel
theorem dX0_spread_81 : decode cX0_spread 81 = .ok (.return_, 1) := by decide +kernel
def bs_X0_size : List (List Cond) := [[.code yX0_size cX0_size 4 (some .int)], [.methodLink RX0 15 yX0_word, .instanceMethod yX0_word, .selects RX0 yX0_word yX0_word, .initialized RX0, .code yX0_word cX0_word 4 (some .long), .fieldLink RX0 11 "SlewPlanner$CellSets" "words" "[J", .methodLink RX0 33 yJ13_bitCount_95d88, .static yJ13_bitCount_95d88, .initialized RJ13, .code yJ13_bitCount_95d88 cJ13_bitCount_95d88 2 (some .int), .constantLong RJ13 314 (6148914691236517205), .constantLong RJ13 316 (3689348814741910323), .constantLong RJ13 318 (1085102592571150095)], wsX00]
theorem bi_X0_size : ∀ w ∈ bs_X0_size.flatten, w ∈ wsX0_size := by
  have h : bs_X0_size.flatten = wsX0_size := by simp only [bs_X0_size, wsX0_size, List.flatten_cons, List.flatten_nil, List.append_assoc, List.append_nil, List.nil_append, List.cons_append]
  intro w hw; rw [h] at hw; exact hw
set_option maxRecDepth 20000 in
theorem ggX0_size_X0_word : GoodIn wsX0_size wsX0_word := goodIn_bb bs_X0_size bi_X0_size _ [(1, 4), (1, 5), (2, 0)] rfl (by decide +kernel)
set_option maxRecDepth 20000 in
theorem gX0_size_X0_word : GoodIn wsX0_size (wsV RX0 15 RX0 yX0_word wsX0_word) := goodIn_app (goodIn_bb bs_X0_size bi_X0_size _ [(1, 0), (1, 1), (1, 2), (1, 3)] rfl (by decide +kernel)) ggX0_size_X0_word
set_option maxRecDepth 20000 in
theorem ggX0_size_J13_bitCount_95d88 : GoodIn wsX0_size wsJ13_bitCount_95d88 := goodIn_bb bs_X0_size bi_X0_size _ [(1, 9), (1, 10), (1, 11), (1, 12)] rfl (by decide +kernel)
set_option maxRecDepth 20000 in
theorem gX0_size_J13_bitCount_95d88 : GoodIn wsX0_size (va_wsS RX0 33 yJ13_bitCount_95d88 wsJ13_bitCount_95d88) := goodIn_app (goodIn_bb bs_X0_size bi_X0_size _ [(1, 6), (1, 7), (1, 8)] rfl (by decide +kernel)) ggX0_size_J13_bitCount_95d88
theorem dX0_size_0 : decode cX0_size 0 = .ok (.iconst 0, 1) := by decide +kernel
theorem dX0_size_1 : decode cX0_size 1 = .ok (.istore_n 2, 1) := by decide +kernel
theorem dX0_size_2 : decode cX0_size 2 = .ok (.iconst 0, 1) := by decide +kernel
theorem dX0_size_3 : decode cX0_size 3 = .ok (.istore_n 3, 1) := by decide +kernel
theorem dX0_size_4 : decode cX0_size 4 = .ok (.iload_n 3, 1) := by decide +kernel
theorem dX0_size_5 : decode cX0_size 5 = .ok (.iconst 3, 1) := by decide +kernel
theorem dX0_size_6 : decode cX0_size 6 = .ok (.if_icmp .ge 21, 3) := by decide +kernel
theorem dX0_size_9 : decode cX0_size 9 = .ok (.iload_n 2, 1) := by decide +kernel
theorem dX0_size_10 : decode cX0_size 10 = .ok (.aload_n 0, 1) := by decide +kernel
theorem dX0_size_11 : decode cX0_size 11 = .ok (.iload_n 1, 1) := by decide +kernel
theorem dX0_size_12 : decode cX0_size 12 = .ok (.iload_n 3, 1) := by decide +kernel
theorem dX0_size_13 : decode cX0_size 13 = .ok (.invokevirtual 15, 3) := by decide +kernel
theorem dX0_size_16 : decode cX0_size 16 = .ok (.invokestatic 33, 3) := by decide +kernel
theorem dX0_size_19 : decode cX0_size 19 = .ok (.iadd, 1) := by decide +kernel
theorem dX0_size_20 : decode cX0_size 20 = .ok (.istore_n 2, 1) := by decide +kernel
theorem dX0_size_21 : decode cX0_size 21 = .ok (.iinc 3 1, 3) := by decide +kernel
theorem dX0_size_24 : decode cX0_size 24 = .ok (.goto (-20), 3) := by decide +kernel
theorem dX0_size_27 : decode cX0_size 27 = .ok (.iload_n 2, 1) := by decide +kernel
theorem dX0_size_28 : decode cX0_size 28 = .ok (.ireturn, 1) := by decide +kernel
def bs_X0_smallest : List (List Cond) := [[.code yX0_smallest cX0_smallest 3 (some .int)], [.methodLink RX0 39 yX0_has, .instanceMethod yX0_has, .selects RX0 yX0_has yX0_has, .initialized RX0, .code yX0_has cX0_has 3 (some .boolean), .methodLink RX0 15 yX0_word, .instanceMethod yX0_word, .selects RX0 yX0_word yX0_word, .code yX0_word cX0_word 4 (some .long), .fieldLink RX0 11 "SlewPlanner$CellSets" "words" "[J"], wsX00]
theorem bi_X0_smallest : ∀ w ∈ bs_X0_smallest.flatten, w ∈ wsX0_smallest := by
  have h : bs_X0_smallest.flatten = wsX0_smallest := by simp only [bs_X0_smallest, wsX0_smallest, List.flatten_cons, List.flatten_nil, List.append_assoc, List.append_nil, List.nil_append, List.cons_append]
  intro w hw; rw [h] at hw; exact hw
set_option maxRecDepth 20000 in
theorem ggX0_smallest_X0_has : GoodIn wsX0_smallest wsX0_has := goodIn_bb bs_X0_smallest bi_X0_smallest _ [(1, 4), (1, 5), (1, 6), (1, 7), (1, 3), (1, 8), (1, 9), (2, 0)] rfl (by decide +kernel)
set_option maxRecDepth 20000 in
theorem gX0_smallest_X0_has : GoodIn wsX0_smallest (wsV RX0 39 RX0 yX0_has wsX0_has) := goodIn_app (goodIn_bb bs_X0_smallest bi_X0_smallest _ [(1, 0), (1, 1), (1, 2), (1, 3)] rfl (by decide +kernel)) ggX0_smallest_X0_has
theorem dX0_smallest_0 : decode cX0_smallest 0 = .ok (.iconst 0, 1) := by decide +kernel
theorem dX0_smallest_1 : decode cX0_smallest 1 = .ok (.istore_n 2, 1) := by decide +kernel
theorem dX0_smallest_2 : decode cX0_smallest 2 = .ok (.iload_n 2, 1) := by decide +kernel
theorem dX0_smallest_3 : decode cX0_smallest 3 = .ok (.sipush 150, 3) := by decide +kernel
theorem dX0_smallest_6 : decode cX0_smallest 6 = .ok (.if_icmp .ge 20, 3) := by decide +kernel
theorem dX0_smallest_9 : decode cX0_smallest 9 = .ok (.aload_n 0, 1) := by decide +kernel
theorem dX0_smallest_10 : decode cX0_smallest 10 = .ok (.iload_n 1, 1) := by decide +kernel
theorem dX0_smallest_11 : decode cX0_smallest 11 = .ok (.iload_n 2, 1) := by decide +kernel
theorem dX0_smallest_12 : decode cX0_smallest 12 = .ok (.invokevirtual 39, 3) := by decide +kernel
theorem dX0_smallest_15 : decode cX0_smallest 15 = .ok (.ifCond .eq 5, 3) := by decide +kernel
theorem dX0_smallest_18 : decode cX0_smallest 18 = .ok (.iload_n 2, 1) := by decide +kernel
theorem dX0_smallest_19 : decode cX0_smallest 19 = .ok (.ireturn, 1) := by decide +kernel
theorem dX0_smallest_20 : decode cX0_smallest 20 = .ok (.iinc 2 1, 3) := by decide +kernel
theorem dX0_smallest_23 : decode cX0_smallest 23 = .ok (.goto (-21), 3) := by decide +kernel
theorem dX0_smallest_26 : decode cX0_smallest 26 = .ok (.bipush (-9), 2) := by decide +kernel
theorem dX0_smallest_28 : decode cX0_smallest 28 = .ok (.ireturn, 1) := by decide +kernel
theorem dX1_init_0 : decode cX1_init 0 = .ok (.aload_n 0, 1) := by decide +kernel
theorem dX1_init_1 : decode cX1_init 1 = .ok (.invokespecial 3, 3) := by decide +kernel
theorem dX1_init_4 : decode cX1_init 4 = .ok (.aload_n 0, 1) := by decide +kernel
theorem dX1_init_5 : decode cX1_init 5 = .ok (.bipush 14, 2) := by decide +kernel
theorem dX1_init_7 : decode cX1_init 7 = .ok (.anewarray 9, 3) := by decide +kernel
theorem dX1_init_10 : decode cX1_init 10 = .ok (.putfield 11, 3) := by decide +kernel
theorem dX1_init_13 : decode cX1_init 13 = .ok (.return_, 1) := by decide +kernel
def bs_X1_remember : List (List Cond) := [[.code yX1_remember cX1_remember 4 none], wsX1_remember_r1, wsX1_remember_r2, wsX10, wsX60]
theorem bi_X1_remember : ∀ w ∈ bs_X1_remember.flatten, w ∈ wsX1_remember := by
  have h : bs_X1_remember.flatten = wsX1_remember := by simp only [bs_X1_remember, wsX1_remember, List.flatten_cons, List.flatten_nil, List.append_assoc, List.append_nil, List.nil_append, List.cons_append]
  intro w hw; rw [h] at hw; exact hw
set_option maxRecDepth 20000 in
theorem ggX1_remember_X6_init : GoodIn wsX1_remember wsX6_init := goodIn_bb bs_X1_remember bi_X1_remember _ [(1, 8), (1, 9), (1, 10), (1, 11), (1, 12), (1, 13), (1, 14), (4, 0), (4, 1), (4, 2), (4, 3), (4, 4), (4, 5)] rfl (by decide +kernel)
set_option maxRecDepth 20000 in
theorem gX1_remember_X6_init : GoodIn wsX1_remember (wsX6_init) := ggX1_remember_X6_init
set_option maxRecDepth 20000 in
theorem ggX1_remember_X6_copyFrom : GoodIn wsX1_remember wsX6_copyFrom := goodIn_bb bs_X1_remember bi_X1_remember _ [(1, 18), (1, 19), (1, 20), (1, 21), (1, 22), (1, 14), (1, 23), (2, 0), (2, 1), (2, 2), (2, 3), (2, 4), (2, 5), (1, 5), (2, 6), (1, 13), (4, 0), (4, 1), (4, 2), (4, 3), (4, 4), (4, 5)] rfl (by decide +kernel)
set_option maxRecDepth 20000 in
theorem gX1_remember_X6_copyFrom : GoodIn wsX1_remember (wsV RX1 25 RX6 yX6_copyFrom wsX6_copyFrom) := goodIn_app (goodIn_bb bs_X1_remember bi_X1_remember _ [(1, 15), (1, 16), (1, 17), (1, 5)] rfl (by decide +kernel)) ggX1_remember_X6_copyFrom
theorem dX1_remember_0 : decode cX1_remember 0 = .ok (.aload_n 0, 1) := by decide +kernel
theorem dX1_remember_1 : decode cX1_remember 1 = .ok (.getfield 17, 3) := by decide +kernel
theorem dX1_remember_4 : decode cX1_remember 4 = .ok (.aload_n 0, 1) := by decide +kernel
theorem dX1_remember_5 : decode cX1_remember 5 = .ok (.getfield 21, 3) := by decide +kernel
theorem dX1_remember_8 : decode cX1_remember 8 = .ok (.iadd, 1) := by decide +kernel
theorem dX1_remember_9 : decode cX1_remember 9 = .ok (.bipush 14, 2) := by decide +kernel
theorem dX1_remember_11 : decode cX1_remember 11 = .ok (.irem, 1) := by decide +kernel
theorem dX1_remember_12 : decode cX1_remember 12 = .ok (.istore_n 2, 1) := by decide +kernel
theorem dX1_remember_13 : decode cX1_remember 13 = .ok (.aload_n 0, 1) := by decide +kernel
theorem dX1_remember_14 : decode cX1_remember 14 = .ok (.getfield 21, 3) := by decide +kernel
theorem dX1_remember_17 : decode cX1_remember 17 = .ok (.bipush 14, 2) := by decide +kernel
theorem dX1_remember_19 : decode cX1_remember 19 = .ok (.if_icmp .ge 16, 3) := by decide +kernel
theorem dX1_remember_22 : decode cX1_remember 22 = .ok (.aload_n 0, 1) := by decide +kernel
theorem dX1_remember_23 : decode cX1_remember 23 = .ok (.dup, 1) := by decide +kernel
theorem dX1_remember_24 : decode cX1_remember 24 = .ok (.getfield 21, 3) := by decide +kernel
theorem dX1_remember_27 : decode cX1_remember 27 = .ok (.iconst 1, 1) := by decide +kernel
theorem dX1_remember_28 : decode cX1_remember 28 = .ok (.iadd, 1) := by decide +kernel
theorem dX1_remember_29 : decode cX1_remember 29 = .ok (.putfield 21, 3) := by decide +kernel
theorem dX1_remember_32 : decode cX1_remember 32 = .ok (.goto 16, 3) := by decide +kernel
theorem dX1_remember_35 : decode cX1_remember 35 = .ok (.aload_n 0, 1) := by decide +kernel
theorem dX1_remember_36 : decode cX1_remember 36 = .ok (.aload_n 0, 1) := by decide +kernel
theorem dX1_remember_37 : decode cX1_remember 37 = .ok (.getfield 17, 3) := by decide +kernel
theorem dX1_remember_40 : decode cX1_remember 40 = .ok (.iconst 1, 1) := by decide +kernel
theorem dX1_remember_41 : decode cX1_remember 41 = .ok (.iadd, 1) := by decide +kernel
theorem dX1_remember_42 : decode cX1_remember 42 = .ok (.bipush 14, 2) := by decide +kernel
theorem dX1_remember_44 : decode cX1_remember 44 = .ok (.irem, 1) := by decide +kernel
theorem dX1_remember_45 : decode cX1_remember 45 = .ok (.putfield 17, 3) := by decide +kernel
theorem dX1_remember_48 : decode cX1_remember 48 = .ok (.iload_n 2, 1) := by decide +kernel
theorem dX1_remember_49 : decode cX1_remember 49 = .ok (.ifCond .lt 43, 3) := by decide +kernel
theorem dX1_remember_52 : decode cX1_remember 52 = .ok (.iload_n 2, 1) := by decide +kernel
theorem dX1_remember_53 : decode cX1_remember 53 = .ok (.aload_n 0, 1) := by decide +kernel
theorem dX1_remember_54 : decode cX1_remember 54 = .ok (.getfield 11, 3) := by decide +kernel
theorem dX1_remember_57 : decode cX1_remember 57 = .ok (.arraylength, 1) := by decide +kernel
theorem dX1_remember_58 : decode cX1_remember 58 = .ok (.if_icmp .ge 34, 3) := by decide +kernel
theorem dX1_remember_61 : decode cX1_remember 61 = .ok (.aload_n 0, 1) := by decide +kernel
theorem dX1_remember_62 : decode cX1_remember 62 = .ok (.getfield 11, 3) := by decide +kernel
theorem dX1_remember_65 : decode cX1_remember 65 = .ok (.iload_n 2, 1) := by decide +kernel
theorem dX1_remember_66 : decode cX1_remember 66 = .ok (.aaload, 1) := by decide +kernel
theorem dX1_remember_67 : decode cX1_remember 67 = .ok (.astore_n 3, 1) := by decide +kernel
theorem dX1_remember_68 : decode cX1_remember 68 = .ok (.aload_n 3, 1) := by decide +kernel
theorem dX1_remember_69 : decode cX1_remember 69 = .ok (.ifnonnull 18, 3) := by decide +kernel
theorem dX1_remember_72 : decode cX1_remember 72 = .ok (.new 9, 3) := by decide +kernel
theorem dX1_remember_75 : decode cX1_remember 75 = .ok (.dup, 1) := by decide +kernel
theorem dX1_remember_76 : decode cX1_remember 76 = .ok (.invokespecial 24, 3) := by decide +kernel
theorem dX1_remember_79 : decode cX1_remember 79 = .ok (.astore_n 3, 1) := by decide +kernel
theorem dX1_remember_80 : decode cX1_remember 80 = .ok (.aload_n 0, 1) := by decide +kernel
theorem dX1_remember_81 : decode cX1_remember 81 = .ok (.getfield 11, 3) := by decide +kernel
theorem dX1_remember_84 : decode cX1_remember 84 = .ok (.iload_n 2, 1) := by decide +kernel
theorem dX1_remember_85 : decode cX1_remember 85 = .ok (.aload_n 3, 1) := by decide +kernel
theorem dX1_remember_86 : decode cX1_remember 86 = .ok (.aastore, 1) := by decide +kernel
theorem dX1_remember_87 : decode cX1_remember 87 = .ok (.aload_n 3, 1) := by decide +kernel
theorem dX1_remember_88 : decode cX1_remember 88 = .ok (.aload_n 1, 1) := by decide +kernel
theorem dX1_remember_89 : decode cX1_remember 89 = .ok (.invokevirtual 25, 3) := by decide +kernel
theorem dX1_remember_92 : decode cX1_remember 92 = .ok (.return_, 1) := by decide +kernel
theorem dX1_takeLast_0 : decode cX1_takeLast 0 = .ok (.aload_n 0, 1) := by decide +kernel
theorem dX1_takeLast_1 : decode cX1_takeLast 1 = .ok (.getfield 21, 3) := by decide +kernel
theorem dX1_takeLast_4 : decode cX1_takeLast 4 = .ok (.ifCond .gt 5, 3) := by decide +kernel
theorem dX1_takeLast_7 : decode cX1_takeLast 7 = .ok (.aconst_null, 1) := by decide +kernel
theorem dX1_takeLast_8 : decode cX1_takeLast 8 = .ok (.areturn, 1) := by decide +kernel
theorem dX1_takeLast_9 : decode cX1_takeLast 9 = .ok (.aload_n 0, 1) := by decide +kernel
theorem dX1_takeLast_10 : decode cX1_takeLast 10 = .ok (.dup, 1) := by decide +kernel
theorem dX1_takeLast_11 : decode cX1_takeLast 11 = .ok (.getfield 21, 3) := by decide +kernel
theorem dX1_takeLast_14 : decode cX1_takeLast 14 = .ok (.iconst 1, 1) := by decide +kernel
theorem dX1_takeLast_15 : decode cX1_takeLast 15 = .ok (.isub, 1) := by decide +kernel
theorem dX1_takeLast_16 : decode cX1_takeLast 16 = .ok (.putfield 21, 3) := by decide +kernel
theorem dX1_takeLast_19 : decode cX1_takeLast 19 = .ok (.aload_n 0, 1) := by decide +kernel
theorem dX1_takeLast_20 : decode cX1_takeLast 20 = .ok (.getfield 17, 3) := by decide +kernel
theorem dX1_takeLast_23 : decode cX1_takeLast 23 = .ok (.aload_n 0, 1) := by decide +kernel
theorem dX1_takeLast_24 : decode cX1_takeLast 24 = .ok (.getfield 21, 3) := by decide +kernel
theorem dX1_takeLast_27 : decode cX1_takeLast 27 = .ok (.iadd, 1) := by decide +kernel
theorem dX1_takeLast_28 : decode cX1_takeLast 28 = .ok (.bipush 14, 2) := by decide +kernel
theorem dX1_takeLast_30 : decode cX1_takeLast 30 = .ok (.irem, 1) := by decide +kernel
theorem dX1_takeLast_31 : decode cX1_takeLast 31 = .ok (.istore_n 1, 1) := by decide +kernel
theorem dX1_takeLast_32 : decode cX1_takeLast 32 = .ok (.iload_n 1, 1) := by decide +kernel
theorem dX1_takeLast_33 : decode cX1_takeLast 33 = .ok (.ifCond .lt 21, 3) := by decide +kernel
theorem dX1_takeLast_36 : decode cX1_takeLast 36 = .ok (.iload_n 1, 1) := by decide +kernel
theorem dX1_takeLast_37 : decode cX1_takeLast 37 = .ok (.aload_n 0, 1) := by decide +kernel
theorem dX1_takeLast_38 : decode cX1_takeLast 38 = .ok (.getfield 11, 3) := by decide +kernel
theorem dX1_takeLast_41 : decode cX1_takeLast 41 = .ok (.arraylength, 1) := by decide +kernel
theorem dX1_takeLast_42 : decode cX1_takeLast 42 = .ok (.if_icmp .ge 12, 3) := by decide +kernel
theorem dX1_takeLast_45 : decode cX1_takeLast 45 = .ok (.aload_n 0, 1) := by decide +kernel
theorem dX1_takeLast_46 : decode cX1_takeLast 46 = .ok (.getfield 11, 3) := by decide +kernel
theorem dX1_takeLast_49 : decode cX1_takeLast 49 = .ok (.iload_n 1, 1) := by decide +kernel
theorem dX1_takeLast_50 : decode cX1_takeLast 50 = .ok (.aaload, 1) := by decide +kernel
theorem dX1_takeLast_51 : decode cX1_takeLast 51 = .ok (.goto 4, 3) := by decide +kernel
theorem dX1_takeLast_54 : decode cX1_takeLast 54 = .ok (.aconst_null, 1) := by decide +kernel
theorem dX1_takeLast_55 : decode cX1_takeLast 55 = .ok (.areturn, 1) := by decide +kernel
theorem dX1_forgetAll_0 : decode cX1_forgetAll 0 = .ok (.aload_n 0, 1) := by decide +kernel
theorem dX1_forgetAll_1 : decode cX1_forgetAll 1 = .ok (.iconst 0, 1) := by decide +kernel
theorem dX1_forgetAll_2 : decode cX1_forgetAll 2 = .ok (.putfield 17, 3) := by decide +kernel
theorem dX1_forgetAll_5 : decode cX1_forgetAll 5 = .ok (.aload_n 0, 1) := by decide +kernel
theorem dX1_forgetAll_6 : decode cX1_forgetAll 6 = .ok (.iconst 0, 1) := by decide +kernel
theorem dX1_forgetAll_7 : decode cX1_forgetAll 7 = .ok (.putfield 21, 3) := by decide +kernel
theorem dX1_forgetAll_10 : decode cX1_forgetAll 10 = .ok (.return_, 1) := by decide +kernel
def bs_X2_init : List (List Cond) := [[.code yX2_init cX2_init 2 none], [.methodLink RX2 3 objectInit, .instanceMethod objectInit, .code objectInit ⟨#[0xb1]⟩ 1 none, .classLink RX2 9 RX6, .instantiable RX6 6, .initialized RX6, .fieldLink RX2 12 "SlewPlanner$Orders" "asked" "LSlewPlanner$State;", .fieldLink RX2 18 "SlewPlanner$Orders" "plans" "LSlewPlanner$Plans;", .methodLink RX2 11 yX6_init, .instanceMethod yX6_init, .code yX6_init cX6_init 2 none, .methodLink RX6 3 objectInit, .arrayClass .int, .fieldLink RX6 9 "SlewPlanner$State" "objects" "[I", .fieldLink RX6 15 "SlewPlanner$State" "requests" "[I"], wsX60, wsX20]
theorem bi_X2_init : ∀ w ∈ bs_X2_init.flatten, w ∈ wsX2_init := by
  have h : bs_X2_init.flatten = wsX2_init := by simp only [bs_X2_init, wsX2_init, List.flatten_cons, List.flatten_nil, List.append_assoc, List.append_nil, List.nil_append, List.cons_append]
  intro w hw; rw [h] at hw; exact hw
set_option maxRecDepth 20000 in
theorem ggX2_init_X6_init : GoodIn wsX2_init wsX6_init := goodIn_bb bs_X2_init bi_X2_init _ [(1, 10), (1, 11), (1, 1), (1, 2), (1, 12), (1, 13), (1, 14), (2, 0), (2, 1), (2, 2), (2, 3), (2, 4), (2, 5)] rfl (by decide +kernel)
set_option maxRecDepth 20000 in
theorem gX2_init_X6_init : GoodIn wsX2_init (wsX6_init) := ggX2_init_X6_init
theorem dX2_init_0 : decode cX2_init 0 = .ok (.aload_n 0, 1) := by decide +kernel
theorem dX2_init_1 : decode cX2_init 1 = .ok (.invokespecial 3, 3) := by decide +kernel
theorem dX2_init_4 : decode cX2_init 4 = .ok (.aload_n 0, 1) := by decide +kernel
theorem dX2_init_5 : decode cX2_init 5 = .ok (.new 9, 3) := by decide +kernel
theorem dX2_init_8 : decode cX2_init 8 = .ok (.dup, 1) := by decide +kernel
theorem dX2_init_9 : decode cX2_init 9 = .ok (.invokespecial 11, 3) := by decide +kernel
theorem dX2_init_12 : decode cX2_init 12 = .ok (.putfield 12, 3) := by decide +kernel
theorem dX2_init_15 : decode cX2_init 15 = .ok (.aload_n 0, 1) := by decide +kernel
theorem dX2_init_16 : decode cX2_init 16 = .ok (.aload_n 1, 1) := by decide +kernel
theorem dX2_init_17 : decode cX2_init 17 = .ok (.putfield 18, 3) := by decide +kernel
theorem dX2_init_20 : decode cX2_init 20 = .ok (.return_, 1) := by decide +kernel
def bs_X2_begin : List (List Cond) := [[.code yX2_begin cX2_begin 2 none], [.fieldLink RX2 12 "SlewPlanner$Orders" "asked" "LSlewPlanner$State;", .fieldLink RX2 26 "SlewPlanner$Orders" "bestSum" "I", .fieldLink RX2 30 "SlewPlanner$Orders" "bestDigits" "I", .methodLink RX2 22 yX6_copyFrom, .instanceMethod yX6_copyFrom, .selects RX6 yX6_copyFrom yX6_copyFrom, .initialized RX6, .code yX6_copyFrom cX6_copyFrom 2 none, .fieldLink RX6 18 "SlewPlanner$State" "clock" "I", .fieldLink RX6 22 "SlewPlanner$State" "position" "I", .fieldLink RX6 25 "SlewPlanner$State" "shut" "Z", .fieldLink RX6 29 "SlewPlanner$State" "requestTotal" "I", .fieldLink RX6 15 "SlewPlanner$State" "requests" "[I", .methodLink RX6 32 arraycopyName, .native arraycopyName, .static arraycopyName, .initialized "java/lang/System", .methodLink RX6 38 yX6_copyObjects, .instanceMethod yX6_copyObjects, .selects RX6 yX6_copyObjects yX6_copyObjects, .code yX6_copyObjects cX6_copyObjects 2 none, .fieldLink RX6 9 "SlewPlanner$State" "objects" "[I"], wsX20, wsX60]
theorem bi_X2_begin : ∀ w ∈ bs_X2_begin.flatten, w ∈ wsX2_begin := by
  have h : bs_X2_begin.flatten = wsX2_begin := by simp only [bs_X2_begin, wsX2_begin, List.flatten_cons, List.flatten_nil, List.append_assoc, List.append_nil, List.nil_append, List.cons_append]
  intro w hw; rw [h] at hw; exact hw
set_option maxRecDepth 20000 in
theorem ggX2_begin_X6_copyFrom : GoodIn wsX2_begin wsX6_copyFrom := goodIn_bb bs_X2_begin bi_X2_begin _ [(1, 7), (1, 8), (1, 9), (1, 10), (1, 11), (1, 12), (1, 13), (1, 14), (1, 15), (1, 16), (1, 17), (1, 18), (1, 19), (1, 6), (1, 20), (1, 21), (3, 0), (3, 1), (3, 2), (3, 3), (3, 4), (3, 5)] rfl (by decide +kernel)
set_option maxRecDepth 20000 in
theorem gX2_begin_X6_copyFrom : GoodIn wsX2_begin (wsV RX2 22 RX6 yX6_copyFrom wsX6_copyFrom) := goodIn_app (goodIn_bb bs_X2_begin bi_X2_begin _ [(1, 3), (1, 4), (1, 5), (1, 6)] rfl (by decide +kernel)) ggX2_begin_X6_copyFrom
theorem dX2_begin_0 : decode cX2_begin 0 = .ok (.aload_n 0, 1) := by decide +kernel
theorem dX2_begin_1 : decode cX2_begin 1 = .ok (.getfield 12, 3) := by decide +kernel
theorem dX2_begin_4 : decode cX2_begin 4 = .ok (.aload_n 1, 1) := by decide +kernel
theorem dX2_begin_5 : decode cX2_begin 5 = .ok (.invokevirtual 22, 3) := by decide +kernel
theorem dX2_begin_8 : decode cX2_begin 8 = .ok (.aload_n 0, 1) := by decide +kernel
theorem dX2_begin_9 : decode cX2_begin 9 = .ok (.bipush (-9), 2) := by decide +kernel
theorem dX2_begin_11 : decode cX2_begin 11 = .ok (.putfield 26, 3) := by decide +kernel
theorem dX2_begin_14 : decode cX2_begin 14 = .ok (.aload_n 0, 1) := by decide +kernel
theorem dX2_begin_15 : decode cX2_begin 15 = .ok (.iconst 0, 1) := by decide +kernel
theorem dX2_begin_16 : decode cX2_begin 16 = .ok (.putfield 30, 3) := by decide +kernel
theorem dX2_begin_19 : decode cX2_begin 19 = .ok (.return_, 1) := by decide +kernel
def bs_X2_tryAll : List (List Cond) := [[.code yX2_tryAll cX2_tryAll 15 none], wsX2_tryAll_r1, wsX2_tryAll_r2, wsX2_tryAll_r3, wsX2_tryAll_r4, wsX2_tryAll_r5, wsX2_tryAll_r6, wsX20, wsX60, wsX30, wsX00, wsX40, wsX50]
theorem bi_X2_tryAll : ∀ w ∈ bs_X2_tryAll.flatten, w ∈ wsX2_tryAll := by
  have h : bs_X2_tryAll.flatten = wsX2_tryAll := by simp only [bs_X2_tryAll, wsX2_tryAll, List.flatten_cons, List.flatten_nil, List.append_assoc, List.append_nil, List.nil_append, List.cons_append]
  intro w hw; rw [h] at hw; exact hw
set_option maxRecDepth 20000 in
theorem ggX2_tryAll_X6_ofRequest : GoodIn wsX2_tryAll wsX6_ofRequest := goodIn_bb bs_X2_tryAll bi_X2_tryAll _ [(1, 10), (1, 11), (8, 0), (8, 1), (8, 2), (8, 3), (8, 4), (8, 5)] rfl (by decide +kernel)
set_option maxRecDepth 20000 in
theorem gX2_tryAll_X6_ofRequest : GoodIn wsX2_tryAll (wsV RX2 36 RX6 yX6_ofRequest wsX6_ofRequest) := goodIn_app (goodIn_bb bs_X2_tryAll bi_X2_tryAll _ [(1, 6), (1, 7), (1, 8), (1, 9)] rfl (by decide +kernel)) ggX2_tryAll_X6_ofRequest
set_option maxRecDepth 20000 in
theorem ggX2_tryAll_X3_begin : GoodIn wsX2_tryAll wsX3_begin := goodIn_bb bs_X2_tryAll bi_X2_tryAll _ [(1, 16), (1, 17), (1, 18), (1, 19), (1, 20), (1, 21), (1, 22), (1, 23), (2, 0), (2, 1), (2, 2), (2, 3), (2, 4), (2, 5), (2, 6), (2, 7), (2, 8), (2, 9), (2, 10), (9, 0), (9, 1), (9, 2), (9, 3), (9, 4), (9, 5), (9, 6), (9, 7), (10, 0)] rfl (by decide +kernel)
set_option maxRecDepth 20000 in
theorem gX2_tryAll_X3_begin : GoodIn wsX2_tryAll (wsV RX2 43 RX3 yX3_begin wsX3_begin) := goodIn_app (goodIn_bb bs_X2_tryAll bi_X2_tryAll _ [(1, 12), (1, 13), (1, 14), (1, 15)] rfl (by decide +kernel)) ggX2_tryAll_X3_begin
set_option maxRecDepth 20000 in
theorem ggX2_tryAll_X3_finishOf : GoodIn wsX2_tryAll wsX3_finishOf := goodIn_bb bs_X2_tryAll bi_X2_tryAll _ [(2, 14), (1, 18), (2, 15), (1, 19), (2, 16), (2, 17), (2, 18), (2, 19), (2, 20), (2, 21), (2, 22), (2, 23), (3, 0), (3, 1), (3, 2), (3, 3), (3, 4), (3, 5), (2, 0), (3, 6), (3, 7), (3, 8), (3, 9), (3, 10), (2, 2), (3, 11), (3, 12), (3, 13), (3, 14), (3, 15), (3, 16), (3, 17), (3, 18), (3, 19), (3, 20), (3, 21), (3, 22), (1, 9), (3, 23), (4, 0), (4, 1), (4, 2), (4, 3), (4, 4), (4, 5), (4, 6), (4, 7), (4, 8), (4, 9), (4, 10), (4, 11), (4, 12), (4, 13), (4, 14), (4, 15), (4, 16), (4, 17), (4, 18), (4, 19), (4, 20), (4, 21), (4, 22), (4, 23), (5, 0), (1, 15), (5, 1), (1, 20), (5, 2), (5, 3), (5, 4), (5, 5), (5, 6), (5, 7), (5, 8), (5, 9), (1, 22), (1, 23), (2, 1), (2, 3), (2, 4), (2, 5), (2, 6), (5, 10), (5, 11), (5, 12), (5, 13), (5, 14), (5, 15), (5, 16), (5, 17), (5, 18), (5, 19), (2, 8), (2, 9), (2, 10), (5, 20), (5, 21), (5, 22), (5, 23), (6, 0), (6, 1), (9, 0), (9, 1), (9, 2), (9, 3), (9, 4), (9, 5), (9, 6), (9, 7), (11, 0), (11, 1), (11, 2), (11, 3), (11, 4), (11, 5), (11, 6), (11, 7), (10, 0), (8, 0), (8, 1), (8, 2), (8, 3), (8, 4), (8, 5), (12, 0), (12, 1), (12, 2), (12, 3)] rfl (by decide +kernel)
set_option maxRecDepth 20000 in
theorem gX2_tryAll_X3_finishOf : GoodIn wsX2_tryAll (wsV RX2 49 RX3 yX3_finishOf wsX3_finishOf) := goodIn_app (goodIn_bb bs_X2_tryAll bi_X2_tryAll _ [(2, 11), (2, 12), (2, 13), (1, 15)] rfl (by decide +kernel)) ggX2_tryAll_X3_finishOf
set_option maxRecDepth 20000 in
theorem ggX2_tryAll_X2_tryAll : GoodIn wsX2_tryAll wsX2_tryAll := goodIn_bb bs_X2_tryAll bi_X2_tryAll _ [(0, 0), (1, 0), (1, 1), (1, 2), (1, 3), (1, 4), (1, 5), (1, 6), (1, 7), (1, 8), (1, 9), (1, 10), (1, 11), (1, 12), (1, 13), (1, 14), (1, 15), (1, 16), (1, 17), (1, 18), (1, 19), (1, 20), (1, 21), (1, 22), (1, 23), (2, 0), (2, 1), (2, 2), (2, 3), (2, 4), (2, 5), (2, 6), (2, 7), (2, 8), (2, 9), (2, 10), (2, 11), (2, 12), (2, 13), (2, 14), (2, 15), (2, 16), (2, 17), (2, 18), (2, 19), (2, 20), (2, 21), (2, 22), (2, 23), (3, 0), (3, 1), (3, 2), (3, 3), (3, 4), (3, 5), (3, 6), (3, 7), (3, 8), (3, 9), (3, 10), (3, 11), (3, 12), (3, 13), (3, 14), (3, 15), (3, 16), (3, 17), (3, 18), (3, 19), (3, 20), (3, 21), (3, 22), (3, 23), (4, 0), (4, 1), (4, 2), (4, 3), (4, 4), (4, 5), (4, 6), (4, 7), (4, 8), (4, 9), (4, 10), (4, 11), (4, 12), (4, 13), (4, 14), (4, 15), (4, 16), (4, 17), (4, 18), (4, 19), (4, 20), (4, 21), (4, 22), (4, 23), (5, 0), (5, 1), (5, 2), (5, 3), (5, 4), (5, 5), (5, 6), (5, 7), (5, 8), (5, 9), (5, 10), (5, 11), (5, 12), (5, 13), (5, 14), (5, 15), (5, 16), (5, 17), (5, 18), (5, 19), (5, 20), (5, 21), (5, 22), (5, 23), (6, 0), (6, 1), (6, 2), (6, 3), (6, 4), (7, 0), (7, 1), (7, 2), (7, 3), (8, 0), (8, 1), (8, 2), (8, 3), (8, 4), (8, 5), (9, 0), (9, 1), (9, 2), (9, 3), (9, 4), (9, 5), (9, 6), (9, 7), (10, 0), (11, 0), (11, 1), (11, 2), (11, 3), (11, 4), (11, 5), (11, 6), (11, 7), (12, 0), (12, 1), (12, 2), (12, 3)] rfl (by decide +kernel)
set_option maxRecDepth 20000 in
theorem gX2_tryAll_X2_tryAll : GoodIn wsX2_tryAll (va_wsS RX2 53 yX2_tryAll wsX2_tryAll) := goodIn_app (goodIn_bb bs_X2_tryAll bi_X2_tryAll _ [(6, 2), (6, 3), (6, 4)] rfl (by decide +kernel)) ggX2_tryAll_X2_tryAll
theorem dX2_tryAll_0 : decode cX2_tryAll 0 = .ok (.aload_n 0, 1) := by decide +kernel
theorem dX2_tryAll_1 : decode cX2_tryAll 1 = .ok (.getfield 12, 3) := by decide +kernel
theorem dX2_tryAll_4 : decode cX2_tryAll 4 = .ok (.astore 7, 2) := by decide +kernel
theorem dX2_tryAll_6 : decode cX2_tryAll 6 = .ok (.iload_n 1, 1) := by decide +kernel
theorem dX2_tryAll_7 : decode cX2_tryAll 7 = .ok (.aload 7, 2) := by decide +kernel
theorem dX2_tryAll_9 : decode cX2_tryAll 9 = .ok (.getfield 33, 3) := by decide +kernel
theorem dX2_tryAll_12 : decode cX2_tryAll 12 = .ok (.if_icmp .ge 8, 3) := by decide +kernel
theorem dX2_tryAll_15 : decode cX2_tryAll 15 = .ok (.iload_n 1, 1) := by decide +kernel
theorem dX2_tryAll_16 : decode cX2_tryAll 16 = .ok (.iconst 4, 1) := by decide +kernel
theorem dX2_tryAll_17 : decode cX2_tryAll 17 = .ok (.if_icmp .lt 25, 3) := by decide +kernel
theorem dX2_tryAll_20 : decode cX2_tryAll 20 = .ok (.iload 5, 2) := by decide +kernel
theorem dX2_tryAll_22 : decode cX2_tryAll 22 = .ok (.aload_n 0, 1) := by decide +kernel
theorem dX2_tryAll_23 : decode cX2_tryAll 23 = .ok (.getfield 26, 3) := by decide +kernel
theorem dX2_tryAll_26 : decode cX2_tryAll 26 = .ok (.if_icmp .le 15, 3) := by decide +kernel
theorem dX2_tryAll_29 : decode cX2_tryAll 29 = .ok (.aload_n 0, 1) := by decide +kernel
theorem dX2_tryAll_30 : decode cX2_tryAll 30 = .ok (.iload 5, 2) := by decide +kernel
theorem dX2_tryAll_32 : decode cX2_tryAll 32 = .ok (.putfield 26, 3) := by decide +kernel
theorem dX2_tryAll_35 : decode cX2_tryAll 35 = .ok (.aload_n 0, 1) := by decide +kernel
theorem dX2_tryAll_36 : decode cX2_tryAll 36 = .ok (.iload 6, 2) := by decide +kernel
theorem dX2_tryAll_38 : decode cX2_tryAll 38 = .ok (.putfield 30, 3) := by decide +kernel
theorem dX2_tryAll_41 : decode cX2_tryAll 41 = .ok (.return_, 1) := by decide +kernel
theorem dX2_tryAll_42 : decode cX2_tryAll 42 = .ok (.iconst 0, 1) := by decide +kernel
theorem dX2_tryAll_43 : decode cX2_tryAll 43 = .ok (.istore 8, 2) := by decide +kernel
theorem dX2_tryAll_45 : decode cX2_tryAll 45 = .ok (.iload 8, 2) := by decide +kernel
theorem dX2_tryAll_47 : decode cX2_tryAll 47 = .ok (.aload 7, 2) := by decide +kernel
theorem dX2_tryAll_49 : decode cX2_tryAll 49 = .ok (.getfield 33, 3) := by decide +kernel
theorem dX2_tryAll_52 : decode cX2_tryAll 52 = .ok (.if_icmp .ge 145, 3) := by decide +kernel
theorem dX2_tryAll_55 : decode cX2_tryAll 55 = .ok (.iload_n 2, 1) := by decide +kernel
theorem dX2_tryAll_56 : decode cX2_tryAll 56 = .ok (.iload 8, 2) := by decide +kernel
theorem dX2_tryAll_58 : decode cX2_tryAll 58 = .ok (.ishr, 1) := by decide +kernel
theorem dX2_tryAll_59 : decode cX2_tryAll 59 = .ok (.iconst 1, 1) := by decide +kernel
theorem dX2_tryAll_60 : decode cX2_tryAll 60 = .ok (.iand, 1) := by decide +kernel
theorem dX2_tryAll_61 : decode cX2_tryAll 61 = .ok (.ifCond .ne 130, 3) := by decide +kernel
theorem dX2_tryAll_64 : decode cX2_tryAll 64 = .ok (.iload_n 2, 1) := by decide +kernel
theorem dX2_tryAll_65 : decode cX2_tryAll 65 = .ok (.iconst 1, 1) := by decide +kernel
theorem dX2_tryAll_66 : decode cX2_tryAll 66 = .ok (.iload 8, 2) := by decide +kernel
theorem dX2_tryAll_68 : decode cX2_tryAll 68 = .ok (.ishl, 1) := by decide +kernel
theorem dX2_tryAll_69 : decode cX2_tryAll 69 = .ok (.ior, 1) := by decide +kernel
theorem dX2_tryAll_70 : decode cX2_tryAll 70 = .ok (.istore 9, 2) := by decide +kernel
theorem dX2_tryAll_72 : decode cX2_tryAll 72 = .ok (.bipush 10, 2) := by decide +kernel
theorem dX2_tryAll_74 : decode cX2_tryAll 74 = .ok (.iload 6, 2) := by decide +kernel
theorem dX2_tryAll_76 : decode cX2_tryAll 76 = .ok (.imul, 1) := by decide +kernel
theorem dX2_tryAll_77 : decode cX2_tryAll 77 = .ok (.iload 8, 2) := by decide +kernel
theorem dX2_tryAll_79 : decode cX2_tryAll 79 = .ok (.iadd, 1) := by decide +kernel
theorem dX2_tryAll_80 : decode cX2_tryAll 80 = .ok (.iconst 1, 1) := by decide +kernel
theorem dX2_tryAll_81 : decode cX2_tryAll 81 = .ok (.iadd, 1) := by decide +kernel
theorem dX2_tryAll_82 : decode cX2_tryAll 82 = .ok (.istore 10, 2) := by decide +kernel
theorem dX2_tryAll_84 : decode cX2_tryAll 84 = .ok (.aload 7, 2) := by decide +kernel
theorem dX2_tryAll_86 : decode cX2_tryAll 86 = .ok (.iload 8, 2) := by decide +kernel
theorem dX2_tryAll_88 : decode cX2_tryAll 88 = .ok (.iconst 0, 1) := by decide +kernel
theorem dX2_tryAll_89 : decode cX2_tryAll 89 = .ok (.invokevirtual 36, 3) := by decide +kernel
theorem dX2_tryAll_92 : decode cX2_tryAll 92 = .ok (.istore 11, 2) := by decide +kernel
theorem dX2_tryAll_94 : decode cX2_tryAll 94 = .ok (.aload 7, 2) := by decide +kernel
theorem dX2_tryAll_96 : decode cX2_tryAll 96 = .ok (.getfield 40, 3) := by decide +kernel
theorem dX2_tryAll_99 : decode cX2_tryAll 99 = .ok (.bipush 60, 2) := by decide +kernel
theorem dX2_tryAll_101 : decode cX2_tryAll 101 = .ok (.iadd, 1) := by decide +kernel
theorem dX2_tryAll_102 : decode cX2_tryAll 102 = .ok (.istore 12, 2) := by decide +kernel
theorem dX2_tryAll_104 : decode cX2_tryAll 104 = .ok (.aload_n 0, 1) := by decide +kernel
theorem dX2_tryAll_105 : decode cX2_tryAll 105 = .ok (.getfield 18, 3) := by decide +kernel
theorem dX2_tryAll_108 : decode cX2_tryAll 108 = .ok (.iload_n 3, 1) := by decide +kernel
theorem dX2_tryAll_109 : decode cX2_tryAll 109 = .ok (.iload 4, 2) := by decide +kernel
theorem dX2_tryAll_111 : decode cX2_tryAll 111 = .ok (.invokevirtual 43, 3) := by decide +kernel
theorem dX2_tryAll_114 : decode cX2_tryAll 114 = .ok (.aload_n 0, 1) := by decide +kernel
theorem dX2_tryAll_115 : decode cX2_tryAll 115 = .ok (.getfield 18, 3) := by decide +kernel
theorem dX2_tryAll_118 : decode cX2_tryAll 118 = .ok (.iload 11, 2) := by decide +kernel
theorem dX2_tryAll_120 : decode cX2_tryAll 120 = .ok (.aload 7, 2) := by decide +kernel
theorem dX2_tryAll_122 : decode cX2_tryAll 122 = .ok (.iload 8, 2) := by decide +kernel
theorem dX2_tryAll_124 : decode cX2_tryAll 124 = .ok (.iconst 1, 1) := by decide +kernel
theorem dX2_tryAll_125 : decode cX2_tryAll 125 = .ok (.invokevirtual 36, 3) := by decide +kernel
theorem dX2_tryAll_128 : decode cX2_tryAll 128 = .ok (.iload 12, 2) := by decide +kernel
theorem dX2_tryAll_130 : decode cX2_tryAll 130 = .ok (.invokevirtual 49, 3) := by decide +kernel
theorem dX2_tryAll_133 : decode cX2_tryAll 133 = .ok (.istore 13, 2) := by decide +kernel
theorem dX2_tryAll_135 : decode cX2_tryAll 135 = .ok (.iload 13, 2) := by decide +kernel
theorem dX2_tryAll_137 : decode cX2_tryAll 137 = .ok (.bipush (-9), 2) := by decide +kernel
theorem dX2_tryAll_139 : decode cX2_tryAll 139 = .ok (.if_icmp .ne 22, 3) := by decide +kernel
theorem dX2_tryAll_142 : decode cX2_tryAll 142 = .ok (.aload_n 0, 1) := by decide +kernel
theorem dX2_tryAll_143 : decode cX2_tryAll 143 = .ok (.iload_n 1, 1) := by decide +kernel
theorem dX2_tryAll_144 : decode cX2_tryAll 144 = .ok (.iconst 1, 1) := by decide +kernel
theorem dX2_tryAll_145 : decode cX2_tryAll 145 = .ok (.iadd, 1) := by decide +kernel
theorem dX2_tryAll_146 : decode cX2_tryAll 146 = .ok (.iload 9, 2) := by decide +kernel
theorem dX2_tryAll_148 : decode cX2_tryAll 148 = .ok (.iload_n 3, 1) := by decide +kernel
theorem dX2_tryAll_149 : decode cX2_tryAll 149 = .ok (.iload 4, 2) := by decide +kernel
theorem dX2_tryAll_151 : decode cX2_tryAll 151 = .ok (.iload 5, 2) := by decide +kernel
theorem dX2_tryAll_153 : decode cX2_tryAll 153 = .ok (.iload 10, 2) := by decide +kernel
theorem dX2_tryAll_155 : decode cX2_tryAll 155 = .ok (.invokestatic 53, 3) := by decide +kernel
theorem dX2_tryAll_158 : decode cX2_tryAll 158 = .ok (.goto 33, 3) := by decide +kernel
theorem dX2_tryAll_161 : decode cX2_tryAll 161 = .ok (.iload 5, 2) := by decide +kernel
theorem dX2_tryAll_163 : decode cX2_tryAll 163 = .ok (.aload 7, 2) := by decide +kernel
theorem dX2_tryAll_165 : decode cX2_tryAll 165 = .ok (.iload 8, 2) := by decide +kernel
theorem dX2_tryAll_167 : decode cX2_tryAll 167 = .ok (.iconst 2, 1) := by decide +kernel
theorem dX2_tryAll_168 : decode cX2_tryAll 168 = .ok (.invokevirtual 36, 3) := by decide +kernel
theorem dX2_tryAll_171 : decode cX2_tryAll 171 = .ok (.iadd, 1) := by decide +kernel
theorem dX2_tryAll_172 : decode cX2_tryAll 172 = .ok (.istore 14, 2) := by decide +kernel
theorem dX2_tryAll_174 : decode cX2_tryAll 174 = .ok (.aload_n 0, 1) := by decide +kernel
theorem dX2_tryAll_175 : decode cX2_tryAll 175 = .ok (.iload_n 1, 1) := by decide +kernel
theorem dX2_tryAll_176 : decode cX2_tryAll 176 = .ok (.iconst 1, 1) := by decide +kernel
theorem dX2_tryAll_177 : decode cX2_tryAll 177 = .ok (.iadd, 1) := by decide +kernel
theorem dX2_tryAll_178 : decode cX2_tryAll 178 = .ok (.iload 9, 2) := by decide +kernel
theorem dX2_tryAll_180 : decode cX2_tryAll 180 = .ok (.iload 11, 2) := by decide +kernel
theorem dX2_tryAll_182 : decode cX2_tryAll 182 = .ok (.iload 13, 2) := by decide +kernel
theorem dX2_tryAll_184 : decode cX2_tryAll 184 = .ok (.iload 14, 2) := by decide +kernel
theorem dX2_tryAll_186 : decode cX2_tryAll 186 = .ok (.iload 10, 2) := by decide +kernel
theorem dX2_tryAll_188 : decode cX2_tryAll 188 = .ok (.invokestatic 53, 3) := by decide +kernel
theorem dX2_tryAll_191 : decode cX2_tryAll 191 = .ok (.iinc 8 1, 3) := by decide +kernel
theorem dX2_tryAll_194 : decode cX2_tryAll 194 = .ok (.goto (-149), 3) := by decide +kernel
theorem dX2_tryAll_197 : decode cX2_tryAll 197 = .ok (.return_, 1) := by decide +kernel
def bs_X3_init : List (List Cond) := [[.code yX3_init cX3_init 3 none], [.methodLink RX3 3 objectInit, .instanceMethod objectInit, .code objectInit ⟨#[0xb1]⟩ 1 none, .classLink RX3 9 RX0, .instantiable RX0 1, .initialized RX0, .fieldLink RX3 14 "SlewPlanner$Plans" "ends" "LSlewPlanner$CellSets;", .fieldLink RX3 20 "SlewPlanner$Plans" "ways" "LSlewPlanner$CellSets;", .fieldLink RX3 23 "SlewPlanner$Plans" "choice" "LSlewPlanner$CellSets;", .fieldLink RX3 26 "SlewPlanner$Plans" "sphere" "LSlewPlanner$Sphere;", .fieldLink RX3 30 "SlewPlanner$Plans" "sky" "LSlewPlanner$Sky;", .methodLink RX3 11 yX0_init, .instanceMethod yX0_init, .code yX0_init cX0_init 2 none, .methodLink RX0 3 objectInit, .arrayClass .long, .fieldLink RX0 11 "SlewPlanner$CellSets" "words" "[J"], wsX00, wsX30]
theorem bi_X3_init : ∀ w ∈ bs_X3_init.flatten, w ∈ wsX3_init := by
  have h : bs_X3_init.flatten = wsX3_init := by simp only [bs_X3_init, wsX3_init, List.flatten_cons, List.flatten_nil, List.append_assoc, List.append_nil, List.nil_append, List.cons_append]
  intro w hw; rw [h] at hw; exact hw
set_option maxRecDepth 20000 in
theorem ggX3_init_X0_init : GoodIn wsX3_init wsX0_init := goodIn_bb bs_X3_init bi_X3_init _ [(1, 13), (1, 14), (1, 1), (1, 2), (1, 15), (1, 16), (2, 0)] rfl (by decide +kernel)
set_option maxRecDepth 20000 in
theorem gX3_init_X0_init : GoodIn wsX3_init (wsX0_init) := ggX3_init_X0_init
theorem dX3_init_0 : decode cX3_init 0 = .ok (.aload_n 0, 1) := by decide +kernel
theorem dX3_init_1 : decode cX3_init 1 = .ok (.invokespecial 3, 3) := by decide +kernel
theorem dX3_init_4 : decode cX3_init 4 = .ok (.aload_n 0, 1) := by decide +kernel
theorem dX3_init_5 : decode cX3_init 5 = .ok (.new 9, 3) := by decide +kernel
theorem dX3_init_8 : decode cX3_init 8 = .ok (.dup, 1) := by decide +kernel
theorem dX3_init_9 : decode cX3_init 9 = .ok (.bipush 61, 2) := by decide +kernel
theorem dX3_init_11 : decode cX3_init 11 = .ok (.invokespecial 11, 3) := by decide +kernel
theorem dX3_init_14 : decode cX3_init 14 = .ok (.putfield 14, 3) := by decide +kernel
theorem dX3_init_17 : decode cX3_init 17 = .ok (.aload_n 0, 1) := by decide +kernel
theorem dX3_init_18 : decode cX3_init 18 = .ok (.new 9, 3) := by decide +kernel
theorem dX3_init_21 : decode cX3_init 21 = .ok (.dup, 1) := by decide +kernel
theorem dX3_init_22 : decode cX3_init 22 = .ok (.bipush 61, 2) := by decide +kernel
theorem dX3_init_24 : decode cX3_init 24 = .ok (.invokespecial 11, 3) := by decide +kernel
theorem dX3_init_27 : decode cX3_init 27 = .ok (.putfield 20, 3) := by decide +kernel
theorem dX3_init_30 : decode cX3_init 30 = .ok (.aload_n 0, 1) := by decide +kernel
theorem dX3_init_31 : decode cX3_init 31 = .ok (.new 9, 3) := by decide +kernel
theorem dX3_init_34 : decode cX3_init 34 = .ok (.dup, 1) := by decide +kernel
theorem dX3_init_35 : decode cX3_init 35 = .ok (.iconst 1, 1) := by decide +kernel
theorem dX3_init_36 : decode cX3_init 36 = .ok (.invokespecial 11, 3) := by decide +kernel
theorem dX3_init_39 : decode cX3_init 39 = .ok (.putfield 23, 3) := by decide +kernel
theorem dX3_init_42 : decode cX3_init 42 = .ok (.aload_n 0, 1) := by decide +kernel
theorem dX3_init_43 : decode cX3_init 43 = .ok (.aload_n 1, 1) := by decide +kernel
theorem dX3_init_44 : decode cX3_init 44 = .ok (.putfield 26, 3) := by decide +kernel
theorem dX3_init_47 : decode cX3_init 47 = .ok (.aload_n 0, 1) := by decide +kernel
theorem dX3_init_48 : decode cX3_init 48 = .ok (.aload_n 2, 1) := by decide +kernel
theorem dX3_init_49 : decode cX3_init 49 = .ok (.putfield 30, 3) := by decide +kernel
theorem dX3_init_52 : decode cX3_init 52 = .ok (.return_, 1) := by decide +kernel
def bs_X3_begin : List (List Cond) := [[.code yX3_begin cX3_begin 3 none], [.fieldLink RX3 34 "SlewPlanner$Plans" "first" "I", .fieldLink RX3 38 "SlewPlanner$Plans" "start" "I", .fieldLink RX3 14 "SlewPlanner$Plans" "ends" "LSlewPlanner$CellSets;", .fieldLink RX3 48 "SlewPlanner$Plans" "made" "I", .methodLink RX3 41 yX0_clear, .instanceMethod yX0_clear, .selects RX0 yX0_clear yX0_clear, .initialized RX0, .code yX0_clear cX0_clear 3 none, .fieldLink RX0 11 "SlewPlanner$CellSets" "words" "[J", .methodLink RX0 19 yX0_hasRow, .instanceMethod yX0_hasRow, .selects RX0 yX0_hasRow yX0_hasRow, .code yX0_hasRow cX0_hasRow 3 (some .boolean), .methodLink RX3 44 yX0_add, .instanceMethod yX0_add, .selects RX0 yX0_add yX0_add, .code yX0_add cX0_add 4 none], wsX30, wsX00]
theorem bi_X3_begin : ∀ w ∈ bs_X3_begin.flatten, w ∈ wsX3_begin := by
  have h : bs_X3_begin.flatten = wsX3_begin := by simp only [bs_X3_begin, wsX3_begin, List.flatten_cons, List.flatten_nil, List.append_assoc, List.append_nil, List.nil_append, List.cons_append]
  intro w hw; rw [h] at hw; exact hw
set_option maxRecDepth 20000 in
theorem ggX3_begin_X0_clear : GoodIn wsX3_begin wsX0_clear := goodIn_bb bs_X3_begin bi_X3_begin _ [(1, 8), (1, 9), (1, 10), (1, 11), (1, 12), (1, 7), (1, 13), (3, 0)] rfl (by decide +kernel)
set_option maxRecDepth 20000 in
theorem gX3_begin_X0_clear : GoodIn wsX3_begin (wsV RX3 41 RX0 yX0_clear wsX0_clear) := goodIn_app (goodIn_bb bs_X3_begin bi_X3_begin _ [(1, 4), (1, 5), (1, 6), (1, 7)] rfl (by decide +kernel)) ggX3_begin_X0_clear
set_option maxRecDepth 20000 in
theorem ggX3_begin_X0_add : GoodIn wsX3_begin wsX0_add := goodIn_bb bs_X3_begin bi_X3_begin _ [(1, 17), (1, 9), (3, 0)] rfl (by decide +kernel)
set_option maxRecDepth 20000 in
theorem gX3_begin_X0_add : GoodIn wsX3_begin (wsV RX3 44 RX0 yX0_add wsX0_add) := goodIn_app (goodIn_bb bs_X3_begin bi_X3_begin _ [(1, 14), (1, 15), (1, 16), (1, 7)] rfl (by decide +kernel)) ggX3_begin_X0_add
theorem dX3_begin_0 : decode cX3_begin 0 = .ok (.aload_n 0, 1) := by decide +kernel
theorem dX3_begin_1 : decode cX3_begin 1 = .ok (.iload_n 1, 1) := by decide +kernel
theorem dX3_begin_2 : decode cX3_begin 2 = .ok (.putfield 34, 3) := by decide +kernel
theorem dX3_begin_5 : decode cX3_begin 5 = .ok (.aload_n 0, 1) := by decide +kernel
theorem dX3_begin_6 : decode cX3_begin 6 = .ok (.iload_n 2, 1) := by decide +kernel
theorem dX3_begin_7 : decode cX3_begin 7 = .ok (.putfield 38, 3) := by decide +kernel
theorem dX3_begin_10 : decode cX3_begin 10 = .ok (.aload_n 0, 1) := by decide +kernel
theorem dX3_begin_11 : decode cX3_begin 11 = .ok (.getfield 14, 3) := by decide +kernel
theorem dX3_begin_14 : decode cX3_begin 14 = .ok (.iconst 0, 1) := by decide +kernel
theorem dX3_begin_15 : decode cX3_begin 15 = .ok (.invokevirtual 41, 3) := by decide +kernel
theorem dX3_begin_18 : decode cX3_begin 18 = .ok (.aload_n 0, 1) := by decide +kernel
theorem dX3_begin_19 : decode cX3_begin 19 = .ok (.getfield 14, 3) := by decide +kernel
theorem dX3_begin_22 : decode cX3_begin 22 = .ok (.iconst 0, 1) := by decide +kernel
theorem dX3_begin_23 : decode cX3_begin 23 = .ok (.iload_n 1, 1) := by decide +kernel
theorem dX3_begin_24 : decode cX3_begin 24 = .ok (.invokevirtual 44, 3) := by decide +kernel
theorem dX3_begin_27 : decode cX3_begin 27 = .ok (.aload_n 0, 1) := by decide +kernel
theorem dX3_begin_28 : decode cX3_begin 28 = .ok (.iconst 0, 1) := by decide +kernel
theorem dX3_begin_29 : decode cX3_begin 29 = .ok (.putfield 48, 3) := by decide +kernel
theorem dX3_begin_32 : decode cX3_begin 32 = .ok (.return_, 1) := by decide +kernel
def bs_X3_makeEnds : List (List Cond) := [[.code yX3_makeEnds cX3_makeEnds 3 none], wsX3_makeEnds_r1, wsX3_makeEnds_r2, wsX3_makeEnds_r3, wsX3_makeEnds_r4, wsX30, wsX50, wsX40, wsX00, wsX60]
theorem bi_X3_makeEnds : ∀ w ∈ bs_X3_makeEnds.flatten, w ∈ wsX3_makeEnds := by
  have h : bs_X3_makeEnds.flatten = wsX3_makeEnds := by simp only [bs_X3_makeEnds, wsX3_makeEnds, List.flatten_cons, List.flatten_nil, List.append_assoc, List.append_nil, List.nil_append, List.cons_append]
  intro w hw; rw [h] at hw; exact hw
set_option maxRecDepth 20000 in
theorem ggX3_makeEnds_X0_spread : GoodIn wsX3_makeEnds wsX0_spread := goodIn_bb bs_X3_makeEnds bi_X3_makeEnds _ [(1, 11), (1, 12), (1, 13), (1, 14), (1, 10), (1, 15), (1, 16), (1, 17), (1, 18), (1, 19), (1, 20), (1, 21), (1, 22), (1, 23), (2, 0), (2, 1), (2, 2), (2, 3), (2, 4), (8, 0)] rfl (by decide +kernel)
set_option maxRecDepth 20000 in
theorem gX3_makeEnds_X0_spread : GoodIn wsX3_makeEnds (wsV RX3 56 RX0 yX0_spread wsX0_spread) := goodIn_app (goodIn_bb bs_X3_makeEnds bi_X3_makeEnds _ [(1, 7), (1, 8), (1, 9), (1, 10)] rfl (by decide +kernel)) ggX3_makeEnds_X0_spread
set_option maxRecDepth 20000 in
theorem ggX3_makeEnds_X4_draw : GoodIn wsX3_makeEnds wsX4_draw := goodIn_bb bs_X3_makeEnds bi_X3_makeEnds _ [(2, 9), (2, 10), (2, 11), (2, 12), (1, 13), (1, 14), (1, 10), (1, 15), (1, 16), (1, 17), (1, 18), (1, 19), (1, 20), (2, 13), (2, 14), (2, 15), (2, 8), (2, 16), (2, 17), (2, 18), (2, 19), (2, 20), (2, 21), (2, 22), (2, 23), (3, 0), (3, 1), (3, 2), (3, 3), (3, 4), (3, 5), (3, 6), (3, 7), (3, 8), (3, 9), (3, 10), (3, 11), (3, 12), (3, 13), (3, 14), (3, 15), (3, 16), (3, 17), (3, 18), (3, 19), (3, 20), (3, 21), (3, 22), (3, 23), (4, 0), (4, 1), (4, 2), (4, 3), (4, 4), (7, 0), (7, 1), (7, 2), (7, 3), (7, 4), (7, 5), (7, 6), (7, 7), (8, 0), (9, 0), (9, 1), (9, 2), (9, 3), (9, 4), (9, 5), (6, 0), (6, 1), (6, 2), (6, 3)] rfl (by decide +kernel)
set_option maxRecDepth 20000 in
theorem gX3_makeEnds_X4_draw : GoodIn wsX3_makeEnds (wsV RX3 60 RX4 yX4_draw wsX4_draw) := goodIn_app (goodIn_bb bs_X3_makeEnds bi_X3_makeEnds _ [(2, 5), (2, 6), (2, 7), (2, 8)] rfl (by decide +kernel)) ggX3_makeEnds_X4_draw
set_option maxRecDepth 20000 in
theorem ggX3_makeEnds_X0_takeAway : GoodIn wsX3_makeEnds wsX0_takeAway := goodIn_bb bs_X3_makeEnds bi_X3_makeEnds _ [(4, 8), (1, 16), (4, 9), (1, 17), (1, 18), (1, 19), (1, 10), (1, 20), (8, 0)] rfl (by decide +kernel)
set_option maxRecDepth 20000 in
theorem gX3_makeEnds_X0_takeAway : GoodIn wsX3_makeEnds (wsV RX3 68 RX0 yX0_takeAway wsX0_takeAway) := goodIn_app (goodIn_bb bs_X3_makeEnds bi_X3_makeEnds _ [(4, 5), (4, 6), (4, 7), (1, 10)] rfl (by decide +kernel)) ggX3_makeEnds_X0_takeAway
theorem dX3_makeEnds_0 : decode cX3_makeEnds 0 = .ok (.aload_n 0, 1) := by decide +kernel
theorem dX3_makeEnds_1 : decode cX3_makeEnds 1 = .ok (.getfield 48, 3) := by decide +kernel
theorem dX3_makeEnds_4 : decode cX3_makeEnds 4 = .ok (.iconst 1, 1) := by decide +kernel
theorem dX3_makeEnds_5 : decode cX3_makeEnds 5 = .ok (.iadd, 1) := by decide +kernel
theorem dX3_makeEnds_6 : decode cX3_makeEnds 6 = .ok (.istore_n 2, 1) := by decide +kernel
theorem dX3_makeEnds_7 : decode cX3_makeEnds 7 = .ok (.iload_n 2, 1) := by decide +kernel
theorem dX3_makeEnds_8 : decode cX3_makeEnds 8 = .ok (.iload_n 1, 1) := by decide +kernel
theorem dX3_makeEnds_9 : decode cX3_makeEnds 9 = .ok (.if_icmp .gt 72, 3) := by decide +kernel
theorem dX3_makeEnds_12 : decode cX3_makeEnds 12 = .ok (.iload_n 2, 1) := by decide +kernel
theorem dX3_makeEnds_13 : decode cX3_makeEnds 13 = .ok (.bipush 60, 2) := by decide +kernel
theorem dX3_makeEnds_15 : decode cX3_makeEnds 15 = .ok (.if_icmp .gt 66, 3) := by decide +kernel
theorem dX3_makeEnds_18 : decode cX3_makeEnds 18 = .ok (.aload_n 0, 1) := by decide +kernel
theorem dX3_makeEnds_19 : decode cX3_makeEnds 19 = .ok (.getfield 14, 3) := by decide +kernel
theorem dX3_makeEnds_22 : decode cX3_makeEnds 22 = .ok (.iload_n 2, 1) := by decide +kernel
theorem dX3_makeEnds_23 : decode cX3_makeEnds 23 = .ok (.iload_n 2, 1) := by decide +kernel
theorem dX3_makeEnds_24 : decode cX3_makeEnds 24 = .ok (.iconst 1, 1) := by decide +kernel
theorem dX3_makeEnds_25 : decode cX3_makeEnds 25 = .ok (.isub, 1) := by decide +kernel
theorem dX3_makeEnds_26 : decode cX3_makeEnds 26 = .ok (.aload_n 0, 1) := by decide +kernel
theorem dX3_makeEnds_27 : decode cX3_makeEnds 27 = .ok (.getfield 26, 3) := by decide +kernel
theorem dX3_makeEnds_30 : decode cX3_makeEnds 30 = .ok (.getfield 51, 3) := by decide +kernel
theorem dX3_makeEnds_33 : decode cX3_makeEnds 33 = .ok (.invokevirtual 56, 3) := by decide +kernel
theorem dX3_makeEnds_36 : decode cX3_makeEnds 36 = .ok (.aload_n 0, 1) := by decide +kernel
theorem dX3_makeEnds_37 : decode cX3_makeEnds 37 = .ok (.getfield 30, 3) := by decide +kernel
theorem dX3_makeEnds_40 : decode cX3_makeEnds 40 = .ok (.aload_n 0, 1) := by decide +kernel
theorem dX3_makeEnds_41 : decode cX3_makeEnds 41 = .ok (.getfield 38, 3) := by decide +kernel
theorem dX3_makeEnds_44 : decode cX3_makeEnds 44 = .ok (.iload_n 2, 1) := by decide +kernel
theorem dX3_makeEnds_45 : decode cX3_makeEnds 45 = .ok (.iadd, 1) := by decide +kernel
theorem dX3_makeEnds_46 : decode cX3_makeEnds 46 = .ok (.invokevirtual 60, 3) := by decide +kernel
theorem dX3_makeEnds_49 : decode cX3_makeEnds 49 = .ok (.aload_n 0, 1) := by decide +kernel
theorem dX3_makeEnds_50 : decode cX3_makeEnds 50 = .ok (.getfield 14, 3) := by decide +kernel
theorem dX3_makeEnds_53 : decode cX3_makeEnds 53 = .ok (.iload_n 2, 1) := by decide +kernel
theorem dX3_makeEnds_54 : decode cX3_makeEnds 54 = .ok (.aload_n 0, 1) := by decide +kernel
theorem dX3_makeEnds_55 : decode cX3_makeEnds 55 = .ok (.getfield 30, 3) := by decide +kernel
theorem dX3_makeEnds_58 : decode cX3_makeEnds 58 = .ok (.getfield 65, 3) := by decide +kernel
theorem dX3_makeEnds_61 : decode cX3_makeEnds 61 = .ok (.aload_n 0, 1) := by decide +kernel
theorem dX3_makeEnds_62 : decode cX3_makeEnds 62 = .ok (.getfield 38, 3) := by decide +kernel
theorem dX3_makeEnds_65 : decode cX3_makeEnds 65 = .ok (.iload_n 2, 1) := by decide +kernel
theorem dX3_makeEnds_66 : decode cX3_makeEnds 66 = .ok (.iadd, 1) := by decide +kernel
theorem dX3_makeEnds_67 : decode cX3_makeEnds 67 = .ok (.invokevirtual 68, 3) := by decide +kernel
theorem dX3_makeEnds_70 : decode cX3_makeEnds 70 = .ok (.aload_n 0, 1) := by decide +kernel
theorem dX3_makeEnds_71 : decode cX3_makeEnds 71 = .ok (.iload_n 2, 1) := by decide +kernel
theorem dX3_makeEnds_72 : decode cX3_makeEnds 72 = .ok (.putfield 48, 3) := by decide +kernel
theorem dX3_makeEnds_75 : decode cX3_makeEnds 75 = .ok (.iinc 2 1, 3) := by decide +kernel
theorem dX3_makeEnds_78 : decode cX3_makeEnds 78 = .ok (.goto (-71), 3) := by decide +kernel
theorem dX3_makeEnds_81 : decode cX3_makeEnds 81 = .ok (.return_, 1) := by decide +kernel
def bs_X3_stepsTo : List (List Cond) := [[.code yX3_stepsTo cX3_stepsTo 3 (some .int)], wsX3_stepsTo_r1, wsX3_stepsTo_r2, wsX3_stepsTo_r3, wsX3_stepsTo_r4, wsX30, wsX50, wsX40, wsX00, wsX60]
theorem bi_X3_stepsTo : ∀ w ∈ bs_X3_stepsTo.flatten, w ∈ wsX3_stepsTo := by
  have h : bs_X3_stepsTo.flatten = wsX3_stepsTo := by simp only [bs_X3_stepsTo, wsX3_stepsTo, List.flatten_cons, List.flatten_nil, List.append_assoc, List.append_nil, List.nil_append, List.cons_append]
  intro w hw; rw [h] at hw; exact hw
set_option maxRecDepth 20000 in
theorem ggX3_stepsTo_X3_makeEnds : GoodIn wsX3_stepsTo wsX3_makeEnds := goodIn_bb bs_X3_stepsTo bi_X3_stepsTo _ [(1, 5), (1, 6), (1, 0), (1, 7), (1, 8), (1, 9), (1, 10), (1, 11), (1, 12), (1, 13), (1, 14), (1, 15), (1, 16), (1, 17), (1, 18), (1, 19), (1, 20), (1, 21), (1, 22), (1, 23), (2, 0), (2, 1), (2, 2), (2, 3), (2, 4), (2, 5), (2, 6), (2, 7), (2, 8), (2, 9), (2, 10), (2, 11), (2, 12), (2, 13), (2, 14), (2, 15), (2, 16), (2, 17), (2, 18), (2, 19), (2, 20), (2, 21), (2, 22), (2, 23), (3, 0), (3, 1), (3, 2), (3, 3), (3, 4), (3, 5), (3, 6), (3, 7), (3, 8), (3, 9), (3, 10), (3, 11), (3, 12), (3, 13), (3, 14), (3, 15), (3, 16), (3, 17), (3, 18), (3, 19), (3, 20), (3, 21), (3, 22), (3, 23), (4, 0), (4, 1), (4, 2), (4, 3), (4, 4), (4, 5), (4, 6), (4, 7), (4, 8), (4, 9), (4, 10), (4, 11), (4, 12), (4, 13), (4, 14), (5, 0), (5, 1), (5, 2), (5, 3), (5, 4), (5, 5), (5, 6), (5, 7), (6, 0), (6, 1), (6, 2), (6, 3), (7, 0), (7, 1), (7, 2), (7, 3), (7, 4), (7, 5), (7, 6), (7, 7), (8, 0), (9, 0), (9, 1), (9, 2), (9, 3), (9, 4), (9, 5)] rfl (by decide +kernel)
set_option maxRecDepth 20000 in
theorem gX3_stepsTo_X3_makeEnds : GoodIn wsX3_stepsTo (wsV RX3 72 RX3 yX3_makeEnds wsX3_makeEnds) := goodIn_app (goodIn_bb bs_X3_stepsTo bi_X3_stepsTo _ [(1, 1), (1, 2), (1, 3), (1, 4)] rfl (by decide +kernel)) ggX3_stepsTo_X3_makeEnds
set_option maxRecDepth 20000 in
theorem ggX3_stepsTo_X0_has : GoodIn wsX3_stepsTo wsX0_has := goodIn_bb bs_X3_stepsTo bi_X3_stepsTo _ [(4, 18), (2, 2), (2, 3), (2, 4), (1, 15), (2, 5), (1, 21), (8, 0)] rfl (by decide +kernel)
set_option maxRecDepth 20000 in
theorem gX3_stepsTo_X0_has : GoodIn wsX3_stepsTo (wsV RX3 75 RX0 yX0_has wsX0_has) := goodIn_app (goodIn_bb bs_X3_stepsTo bi_X3_stepsTo _ [(4, 15), (4, 16), (4, 17), (1, 15)] rfl (by decide +kernel)) ggX3_stepsTo_X0_has
theorem dX3_stepsTo_0 : decode cX3_stepsTo 0 = .ok (.iconst 0, 1) := by decide +kernel
theorem dX3_stepsTo_1 : decode cX3_stepsTo 1 = .ok (.istore_n 2, 1) := by decide +kernel
theorem dX3_stepsTo_2 : decode cX3_stepsTo 2 = .ok (.iload_n 2, 1) := by decide +kernel
theorem dX3_stepsTo_3 : decode cX3_stepsTo 3 = .ok (.bipush 60, 2) := by decide +kernel
theorem dX3_stepsTo_5 : decode cX3_stepsTo 5 = .ok (.if_icmp .gt 28, 3) := by decide +kernel
theorem dX3_stepsTo_8 : decode cX3_stepsTo 8 = .ok (.aload_n 0, 1) := by decide +kernel
theorem dX3_stepsTo_9 : decode cX3_stepsTo 9 = .ok (.iload_n 2, 1) := by decide +kernel
theorem dX3_stepsTo_10 : decode cX3_stepsTo 10 = .ok (.invokevirtual 72, 3) := by decide +kernel
theorem dX3_stepsTo_13 : decode cX3_stepsTo 13 = .ok (.aload_n 0, 1) := by decide +kernel
theorem dX3_stepsTo_14 : decode cX3_stepsTo 14 = .ok (.getfield 14, 3) := by decide +kernel
theorem dX3_stepsTo_17 : decode cX3_stepsTo 17 = .ok (.iload_n 2, 1) := by decide +kernel
theorem dX3_stepsTo_18 : decode cX3_stepsTo 18 = .ok (.iload_n 1, 1) := by decide +kernel
theorem dX3_stepsTo_19 : decode cX3_stepsTo 19 = .ok (.invokevirtual 75, 3) := by decide +kernel
theorem dX3_stepsTo_22 : decode cX3_stepsTo 22 = .ok (.ifCond .eq 5, 3) := by decide +kernel
theorem dX3_stepsTo_25 : decode cX3_stepsTo 25 = .ok (.iload_n 2, 1) := by decide +kernel
theorem dX3_stepsTo_26 : decode cX3_stepsTo 26 = .ok (.ireturn, 1) := by decide +kernel
theorem dX3_stepsTo_27 : decode cX3_stepsTo 27 = .ok (.iinc 2 1, 3) := by decide +kernel
theorem dX3_stepsTo_30 : decode cX3_stepsTo 30 = .ok (.goto (-28), 3) := by decide +kernel
theorem dX3_stepsTo_33 : decode cX3_stepsTo 33 = .ok (.bipush (-9), 2) := by decide +kernel
theorem dX3_stepsTo_35 : decode cX3_stepsTo 35 = .ok (.ireturn, 1) := by decide +kernel
def bs_X3_countEnds : List (List Cond) := [[.code yX3_countEnds cX3_countEnds 2 (some .int)], wsX3_countEnds_r1, wsX3_countEnds_r2, wsX3_countEnds_r3, wsX3_countEnds_r4, wsX3_countEnds_r5, wsX30, wsX50, wsX40, wsX00, wsX60]
theorem bi_X3_countEnds : ∀ w ∈ bs_X3_countEnds.flatten, w ∈ wsX3_countEnds := by
  have h : bs_X3_countEnds.flatten = wsX3_countEnds := by simp only [bs_X3_countEnds, wsX3_countEnds, List.flatten_cons, List.flatten_nil, List.append_assoc, List.append_nil, List.nil_append, List.cons_append]
  intro w hw; rw [h] at hw; exact hw
set_option maxRecDepth 20000 in
theorem ggX3_countEnds_X3_makeEnds : GoodIn wsX3_countEnds wsX3_makeEnds := goodIn_bb bs_X3_countEnds bi_X3_countEnds _ [(1, 5), (1, 6), (1, 0), (1, 7), (1, 8), (1, 9), (1, 10), (1, 11), (1, 12), (1, 13), (1, 14), (1, 15), (1, 16), (1, 17), (1, 18), (1, 19), (1, 20), (1, 21), (1, 22), (1, 23), (2, 0), (2, 1), (2, 2), (2, 3), (2, 4), (2, 5), (2, 6), (2, 7), (2, 8), (2, 9), (2, 10), (2, 11), (2, 12), (2, 13), (2, 14), (2, 15), (2, 16), (2, 17), (2, 18), (2, 19), (2, 20), (2, 21), (2, 22), (2, 23), (3, 0), (3, 1), (3, 2), (3, 3), (3, 4), (3, 5), (3, 6), (3, 7), (3, 8), (3, 9), (3, 10), (3, 11), (3, 12), (3, 13), (3, 14), (3, 15), (3, 16), (3, 17), (3, 18), (3, 19), (3, 20), (3, 21), (3, 22), (3, 23), (4, 0), (4, 1), (4, 2), (4, 3), (4, 4), (4, 5), (4, 6), (4, 7), (4, 8), (4, 9), (4, 10), (4, 11), (4, 12), (4, 13), (4, 14), (6, 0), (6, 1), (6, 2), (6, 3), (6, 4), (6, 5), (6, 6), (6, 7), (7, 0), (7, 1), (7, 2), (7, 3), (8, 0), (8, 1), (8, 2), (8, 3), (8, 4), (8, 5), (8, 6), (8, 7), (9, 0), (10, 0), (10, 1), (10, 2), (10, 3), (10, 4), (10, 5)] rfl (by decide +kernel)
set_option maxRecDepth 20000 in
theorem gX3_countEnds_X3_makeEnds : GoodIn wsX3_countEnds (wsV RX3 72 RX3 yX3_makeEnds wsX3_makeEnds) := goodIn_app (goodIn_bb bs_X3_countEnds bi_X3_countEnds _ [(1, 1), (1, 2), (1, 3), (1, 4)] rfl (by decide +kernel)) ggX3_countEnds_X3_makeEnds
set_option maxRecDepth 20000 in
theorem ggX3_countEnds_X0_size : GoodIn wsX3_countEnds wsX0_size := goodIn_bb bs_X3_countEnds bi_X3_countEnds _ [(4, 18), (2, 2), (2, 3), (2, 4), (1, 15), (2, 5), (1, 21), (4, 19), (4, 20), (4, 21), (4, 22), (4, 23), (5, 0), (5, 1), (9, 0)] rfl (by decide +kernel)
set_option maxRecDepth 20000 in
theorem gX3_countEnds_X0_size : GoodIn wsX3_countEnds (wsV RX3 79 RX0 yX0_size wsX0_size) := goodIn_app (goodIn_bb bs_X3_countEnds bi_X3_countEnds _ [(4, 15), (4, 16), (4, 17), (1, 15)] rfl (by decide +kernel)) ggX3_countEnds_X0_size
theorem dX3_countEnds_0 : decode cX3_countEnds 0 = .ok (.aload_n 0, 1) := by decide +kernel
theorem dX3_countEnds_1 : decode cX3_countEnds 1 = .ok (.iload_n 1, 1) := by decide +kernel
theorem dX3_countEnds_2 : decode cX3_countEnds 2 = .ok (.invokevirtual 72, 3) := by decide +kernel
theorem dX3_countEnds_5 : decode cX3_countEnds 5 = .ok (.aload_n 0, 1) := by decide +kernel
theorem dX3_countEnds_6 : decode cX3_countEnds 6 = .ok (.getfield 14, 3) := by decide +kernel
theorem dX3_countEnds_9 : decode cX3_countEnds 9 = .ok (.iload_n 1, 1) := by decide +kernel
theorem dX3_countEnds_10 : decode cX3_countEnds 10 = .ok (.invokevirtual 79, 3) := by decide +kernel
theorem dX3_countEnds_13 : decode cX3_countEnds 13 = .ok (.ireturn, 1) := by decide +kernel
def bs_X3_bestPlanCell : List (List Cond) := [[.code yX3_bestPlanCell cX3_bestPlanCell 6 (some .int)], wsX3_bestPlanCell_r1, wsX3_bestPlanCell_r2, wsX3_bestPlanCell_r3, wsX3_bestPlanCell_r4, wsX3_bestPlanCell_r5, wsX30, wsX50, wsX40, wsX00, wsX60]
theorem bi_X3_bestPlanCell : ∀ w ∈ bs_X3_bestPlanCell.flatten, w ∈ wsX3_bestPlanCell := by
  have h : bs_X3_bestPlanCell.flatten = wsX3_bestPlanCell := by simp only [bs_X3_bestPlanCell, wsX3_bestPlanCell, List.flatten_cons, List.flatten_nil, List.append_assoc, List.append_nil, List.nil_append, List.cons_append]
  intro w hw; rw [h] at hw; exact hw
set_option maxRecDepth 20000 in
theorem ggX3_bestPlanCell_X3_stepsTo : GoodIn wsX3_bestPlanCell wsX3_stepsTo := goodIn_bb bs_X3_bestPlanCell bi_X3_bestPlanCell _ [(1, 9), (1, 10), (1, 11), (1, 12), (1, 13), (1, 8), (1, 14), (1, 15), (1, 2), (1, 3), (1, 16), (1, 17), (1, 18), (1, 19), (1, 20), (1, 21), (1, 22), (1, 23), (2, 0), (2, 1), (2, 2), (2, 3), (2, 4), (2, 5), (2, 6), (2, 7), (2, 8), (2, 9), (2, 10), (2, 11), (2, 12), (2, 13), (2, 14), (2, 15), (2, 16), (2, 17), (2, 18), (2, 19), (2, 20), (2, 21), (2, 22), (2, 23), (3, 0), (3, 1), (3, 2), (3, 3), (3, 4), (3, 5), (3, 6), (3, 7), (3, 8), (3, 9), (3, 10), (3, 11), (3, 12), (3, 13), (3, 14), (3, 15), (3, 16), (3, 17), (3, 18), (3, 19), (3, 20), (3, 21), (3, 22), (3, 23), (4, 0), (4, 1), (4, 2), (4, 3), (4, 4), (4, 5), (4, 6), (4, 7), (4, 8), (4, 9), (4, 10), (4, 11), (4, 12), (4, 13), (4, 14), (4, 15), (4, 16), (4, 17), (4, 18), (4, 19), (4, 20), (4, 21), (4, 22), (4, 23), (5, 0), (5, 1), (6, 0), (6, 1), (6, 2), (6, 3), (6, 4), (6, 5), (6, 6), (6, 7), (7, 0), (7, 1), (7, 2), (7, 3), (8, 0), (8, 1), (8, 2), (8, 3), (8, 4), (8, 5), (8, 6), (8, 7), (9, 0), (10, 0), (10, 1), (10, 2), (10, 3), (10, 4), (10, 5)] rfl (by decide +kernel)
set_option maxRecDepth 20000 in
theorem gX3_bestPlanCell_X3_stepsTo : GoodIn wsX3_bestPlanCell (wsV RX3 83 RX3 yX3_stepsTo wsX3_stepsTo) := goodIn_app (goodIn_bb bs_X3_bestPlanCell bi_X3_bestPlanCell _ [(1, 5), (1, 6), (1, 7), (1, 8)] rfl (by decide +kernel)) ggX3_bestPlanCell_X3_stepsTo
set_option maxRecDepth 20000 in
theorem ggX3_bestPlanCell_X3_findWays : GoodIn wsX3_bestPlanCell wsX3_findWays := goodIn_bb bs_X3_bestPlanCell bi_X3_bestPlanCell _ [(5, 5), (1, 4), (1, 2), (1, 3), (1, 10), (5, 6), (2, 1), (2, 2), (1, 22), (2, 3), (2, 4), (2, 5), (2, 6), (2, 7), (2, 8), (5, 7), (4, 14), (4, 15), (4, 16), (1, 19), (1, 20), (1, 21), (1, 23), (2, 0), (2, 9), (2, 10), (2, 11), (2, 12), (2, 13), (2, 14), (2, 15), (2, 16), (5, 8), (5, 9), (5, 10), (5, 11), (6, 0), (6, 1), (6, 2), (6, 3), (6, 4), (6, 5), (6, 6), (6, 7), (7, 0), (7, 1), (7, 2), (7, 3), (9, 0)] rfl (by decide +kernel)
set_option maxRecDepth 20000 in
theorem gX3_bestPlanCell_X3_findWays : GoodIn wsX3_bestPlanCell (wsV RX3 86 RX3 yX3_findWays wsX3_findWays) := goodIn_app (goodIn_bb bs_X3_bestPlanCell bi_X3_bestPlanCell _ [(5, 2), (5, 3), (5, 4), (1, 8)] rfl (by decide +kernel)) ggX3_bestPlanCell_X3_findWays
set_option maxRecDepth 20000 in
theorem ggX3_bestPlanCell_X0_clear : GoodIn wsX3_bestPlanCell wsX0_clear := goodIn_bb bs_X3_bestPlanCell bi_X3_bestPlanCell _ [(2, 3), (2, 4), (2, 5), (2, 6), (2, 7), (1, 22), (2, 8), (9, 0)] rfl (by decide +kernel)
set_option maxRecDepth 20000 in
theorem gX3_bestPlanCell_X0_clear : GoodIn wsX3_bestPlanCell (wsV RX3 41 RX0 yX0_clear wsX0_clear) := goodIn_app (goodIn_bb bs_X3_bestPlanCell bi_X3_bestPlanCell _ [(5, 6), (2, 1), (2, 2), (1, 22)] rfl (by decide +kernel)) ggX3_bestPlanCell_X0_clear
set_option maxRecDepth 20000 in
theorem ggX3_bestPlanCell_X0_unite : GoodIn wsX3_bestPlanCell wsX0_unite := goodIn_bb bs_X3_bestPlanCell bi_X3_bestPlanCell _ [(2, 16), (2, 4), (2, 5), (2, 6), (2, 7), (1, 22), (2, 8), (9, 0)] rfl (by decide +kernel)
set_option maxRecDepth 20000 in
theorem gX3_bestPlanCell_X0_unite : GoodIn wsX3_bestPlanCell (wsV RX3 89 RX0 yX0_unite wsX0_unite) := goodIn_app (goodIn_bb bs_X3_bestPlanCell bi_X3_bestPlanCell _ [(5, 12), (2, 14), (2, 15), (1, 22)] rfl (by decide +kernel)) ggX3_bestPlanCell_X0_unite
set_option maxRecDepth 20000 in
theorem ggX3_bestPlanCell_X0_retain : GoodIn wsX3_bestPlanCell wsX0_retain := goodIn_bb bs_X3_bestPlanCell bi_X3_bestPlanCell _ [(5, 11), (2, 4), (2, 5), (2, 6), (2, 7), (1, 22), (2, 8), (9, 0)] rfl (by decide +kernel)
set_option maxRecDepth 20000 in
theorem gX3_bestPlanCell_X0_retain : GoodIn wsX3_bestPlanCell (wsV RX3 92 RX0 yX0_retain wsX0_retain) := goodIn_app (goodIn_bb bs_X3_bestPlanCell bi_X3_bestPlanCell _ [(5, 8), (5, 9), (5, 10), (1, 22)] rfl (by decide +kernel)) ggX3_bestPlanCell_X0_retain
set_option maxRecDepth 20000 in
theorem ggX3_bestPlanCell_X0_smallest : GoodIn wsX3_bestPlanCell wsX0_smallest := goodIn_bb bs_X3_bestPlanCell bi_X3_bestPlanCell _ [(5, 16), (5, 17), (4, 23), (5, 0), (1, 22), (5, 1), (2, 9), (2, 10), (2, 11), (2, 12), (2, 4), (9, 0)] rfl (by decide +kernel)
set_option maxRecDepth 20000 in
theorem gX3_bestPlanCell_X0_smallest : GoodIn wsX3_bestPlanCell (wsV RX3 95 RX0 yX0_smallest wsX0_smallest) := goodIn_app (goodIn_bb bs_X3_bestPlanCell bi_X3_bestPlanCell _ [(5, 13), (5, 14), (5, 15), (1, 22)] rfl (by decide +kernel)) ggX3_bestPlanCell_X0_smallest
theorem dX3_bestPlanCell_0 : decode cX3_bestPlanCell 0 = .ok (.aload_n 0, 1) := by decide +kernel
theorem dX3_bestPlanCell_1 : decode cX3_bestPlanCell 1 = .ok (.iload_n 1, 1) := by decide +kernel
theorem dX3_bestPlanCell_2 : decode cX3_bestPlanCell 2 = .ok (.invokevirtual 83, 3) := by decide +kernel
theorem dX3_bestPlanCell_5 : decode cX3_bestPlanCell 5 = .ok (.istore_n 3, 1) := by decide +kernel
theorem dX3_bestPlanCell_6 : decode cX3_bestPlanCell 6 = .ok (.iload_n 3, 1) := by decide +kernel
theorem dX3_bestPlanCell_7 : decode cX3_bestPlanCell 7 = .ok (.bipush (-9), 2) := by decide +kernel
theorem dX3_bestPlanCell_9 : decode cX3_bestPlanCell 9 = .ok (.if_icmp .eq 8, 3) := by decide +kernel
theorem dX3_bestPlanCell_12 : decode cX3_bestPlanCell 12 = .ok (.iload_n 2, 1) := by decide +kernel
theorem dX3_bestPlanCell_13 : decode cX3_bestPlanCell 13 = .ok (.iload_n 3, 1) := by decide +kernel
theorem dX3_bestPlanCell_14 : decode cX3_bestPlanCell 14 = .ok (.if_icmp .le 6, 3) := by decide +kernel
theorem dX3_bestPlanCell_17 : decode cX3_bestPlanCell 17 = .ok (.bipush (-9), 2) := by decide +kernel
theorem dX3_bestPlanCell_19 : decode cX3_bestPlanCell 19 = .ok (.ireturn, 1) := by decide +kernel
theorem dX3_bestPlanCell_20 : decode cX3_bestPlanCell 20 = .ok (.aload_n 0, 1) := by decide +kernel
theorem dX3_bestPlanCell_21 : decode cX3_bestPlanCell 21 = .ok (.iload_n 1, 1) := by decide +kernel
theorem dX3_bestPlanCell_22 : decode cX3_bestPlanCell 22 = .ok (.iload_n 3, 1) := by decide +kernel
theorem dX3_bestPlanCell_23 : decode cX3_bestPlanCell 23 = .ok (.invokevirtual 86, 3) := by decide +kernel
theorem dX3_bestPlanCell_26 : decode cX3_bestPlanCell 26 = .ok (.aload_n 0, 1) := by decide +kernel
theorem dX3_bestPlanCell_27 : decode cX3_bestPlanCell 27 = .ok (.getfield 34, 3) := by decide +kernel
theorem dX3_bestPlanCell_30 : decode cX3_bestPlanCell 30 = .ok (.istore 4, 2) := by decide +kernel
theorem dX3_bestPlanCell_32 : decode cX3_bestPlanCell 32 = .ok (.iconst 1, 1) := by decide +kernel
theorem dX3_bestPlanCell_33 : decode cX3_bestPlanCell 33 = .ok (.istore 5, 2) := by decide +kernel
theorem dX3_bestPlanCell_35 : decode cX3_bestPlanCell 35 = .ok (.iload 5, 2) := by decide +kernel
theorem dX3_bestPlanCell_37 : decode cX3_bestPlanCell 37 = .ok (.iload_n 2, 1) := by decide +kernel
theorem dX3_bestPlanCell_38 : decode cX3_bestPlanCell 38 = .ok (.if_icmp .gt 58, 3) := by decide +kernel
theorem dX3_bestPlanCell_41 : decode cX3_bestPlanCell 41 = .ok (.aload_n 0, 1) := by decide +kernel
theorem dX3_bestPlanCell_42 : decode cX3_bestPlanCell 42 = .ok (.getfield 23, 3) := by decide +kernel
theorem dX3_bestPlanCell_45 : decode cX3_bestPlanCell 45 = .ok (.iconst 0, 1) := by decide +kernel
theorem dX3_bestPlanCell_46 : decode cX3_bestPlanCell 46 = .ok (.invokevirtual 41, 3) := by decide +kernel
theorem dX3_bestPlanCell_49 : decode cX3_bestPlanCell 49 = .ok (.aload_n 0, 1) := by decide +kernel
theorem dX3_bestPlanCell_50 : decode cX3_bestPlanCell 50 = .ok (.getfield 23, 3) := by decide +kernel
theorem dX3_bestPlanCell_53 : decode cX3_bestPlanCell 53 = .ok (.iconst 0, 1) := by decide +kernel
theorem dX3_bestPlanCell_54 : decode cX3_bestPlanCell 54 = .ok (.aload_n 0, 1) := by decide +kernel
theorem dX3_bestPlanCell_55 : decode cX3_bestPlanCell 55 = .ok (.getfield 26, 3) := by decide +kernel
theorem dX3_bestPlanCell_58 : decode cX3_bestPlanCell 58 = .ok (.getfield 51, 3) := by decide +kernel
theorem dX3_bestPlanCell_61 : decode cX3_bestPlanCell 61 = .ok (.iload 4, 2) := by decide +kernel
theorem dX3_bestPlanCell_63 : decode cX3_bestPlanCell 63 = .ok (.invokevirtual 89, 3) := by decide +kernel
theorem dX3_bestPlanCell_66 : decode cX3_bestPlanCell 66 = .ok (.aload_n 0, 1) := by decide +kernel
theorem dX3_bestPlanCell_67 : decode cX3_bestPlanCell 67 = .ok (.getfield 23, 3) := by decide +kernel
theorem dX3_bestPlanCell_70 : decode cX3_bestPlanCell 70 = .ok (.iconst 0, 1) := by decide +kernel
theorem dX3_bestPlanCell_71 : decode cX3_bestPlanCell 71 = .ok (.aload_n 0, 1) := by decide +kernel
theorem dX3_bestPlanCell_72 : decode cX3_bestPlanCell 72 = .ok (.getfield 20, 3) := by decide +kernel
theorem dX3_bestPlanCell_75 : decode cX3_bestPlanCell 75 = .ok (.iload 5, 2) := by decide +kernel
theorem dX3_bestPlanCell_77 : decode cX3_bestPlanCell 77 = .ok (.invokevirtual 92, 3) := by decide +kernel
theorem dX3_bestPlanCell_80 : decode cX3_bestPlanCell 80 = .ok (.aload_n 0, 1) := by decide +kernel
theorem dX3_bestPlanCell_81 : decode cX3_bestPlanCell 81 = .ok (.getfield 23, 3) := by decide +kernel
theorem dX3_bestPlanCell_84 : decode cX3_bestPlanCell 84 = .ok (.iconst 0, 1) := by decide +kernel
theorem dX3_bestPlanCell_85 : decode cX3_bestPlanCell 85 = .ok (.invokevirtual 95, 3) := by decide +kernel
theorem dX3_bestPlanCell_88 : decode cX3_bestPlanCell 88 = .ok (.istore 4, 2) := by decide +kernel
theorem dX3_bestPlanCell_90 : decode cX3_bestPlanCell 90 = .ok (.iinc 5 1, 3) := by decide +kernel
theorem dX3_bestPlanCell_93 : decode cX3_bestPlanCell 93 = .ok (.goto (-58), 3) := by decide +kernel
theorem dX3_bestPlanCell_96 : decode cX3_bestPlanCell 96 = .ok (.iload 4, 2) := by decide +kernel
theorem dX3_bestPlanCell_98 : decode cX3_bestPlanCell 98 = .ok (.ireturn, 1) := by decide +kernel
def bs_X3_findWays : List (List Cond) := [[.code yX3_findWays cX3_findWays 4 none], wsX3_findWays_r1, wsX3_findWays_r2, wsX30, wsX50, wsX00]
theorem bi_X3_findWays : ∀ w ∈ bs_X3_findWays.flatten, w ∈ wsX3_findWays := by
  have h : bs_X3_findWays.flatten = wsX3_findWays := by simp only [bs_X3_findWays, wsX3_findWays, List.flatten_cons, List.flatten_nil, List.append_assoc, List.append_nil, List.nil_append, List.cons_append]
  intro w hw; rw [h] at hw; exact hw
set_option maxRecDepth 20000 in
theorem ggX3_findWays_X0_clear : GoodIn wsX3_findWays wsX0_clear := goodIn_bb bs_X3_findWays bi_X3_findWays _ [(1, 8), (1, 9), (1, 10), (1, 11), (1, 12), (1, 7), (1, 13), (5, 0)] rfl (by decide +kernel)
set_option maxRecDepth 20000 in
theorem gX3_findWays_X0_clear : GoodIn wsX3_findWays (wsV RX3 41 RX0 yX0_clear wsX0_clear) := goodIn_app (goodIn_bb bs_X3_findWays bi_X3_findWays _ [(1, 4), (1, 5), (1, 6), (1, 7)] rfl (by decide +kernel)) ggX3_findWays_X0_clear
set_option maxRecDepth 20000 in
theorem ggX3_findWays_X0_add : GoodIn wsX3_findWays wsX0_add := goodIn_bb bs_X3_findWays bi_X3_findWays _ [(1, 17), (1, 9), (5, 0)] rfl (by decide +kernel)
set_option maxRecDepth 20000 in
theorem gX3_findWays_X0_add : GoodIn wsX3_findWays (wsV RX3 44 RX0 yX0_add wsX0_add) := goodIn_app (goodIn_bb bs_X3_findWays bi_X3_findWays _ [(1, 14), (1, 15), (1, 16), (1, 7)] rfl (by decide +kernel)) ggX3_findWays_X0_add
set_option maxRecDepth 20000 in
theorem ggX3_findWays_X0_spread : GoodIn wsX3_findWays wsX0_spread := goodIn_bb bs_X3_findWays bi_X3_findWays _ [(1, 21), (1, 22), (1, 5), (1, 6), (1, 7), (1, 8), (1, 9), (1, 10), (1, 11), (1, 12), (1, 13), (1, 23), (2, 0), (2, 1), (2, 2), (2, 3), (2, 4), (2, 5), (2, 6), (5, 0)] rfl (by decide +kernel)
set_option maxRecDepth 20000 in
theorem gX3_findWays_X0_spread : GoodIn wsX3_findWays (wsV RX3 56 RX0 yX0_spread wsX0_spread) := goodIn_app (goodIn_bb bs_X3_findWays bi_X3_findWays _ [(1, 18), (1, 19), (1, 20), (1, 7)] rfl (by decide +kernel)) ggX3_findWays_X0_spread
set_option maxRecDepth 20000 in
theorem ggX3_findWays_X0_retain : GoodIn wsX3_findWays wsX0_retain := goodIn_bb bs_X3_findWays bi_X3_findWays _ [(2, 10), (1, 9), (1, 10), (1, 11), (1, 12), (1, 7), (1, 13), (5, 0)] rfl (by decide +kernel)
set_option maxRecDepth 20000 in
theorem gX3_findWays_X0_retain : GoodIn wsX3_findWays (wsV RX3 92 RX0 yX0_retain wsX0_retain) := goodIn_app (goodIn_bb bs_X3_findWays bi_X3_findWays _ [(2, 7), (2, 8), (2, 9), (1, 7)] rfl (by decide +kernel)) ggX3_findWays_X0_retain
theorem dX3_findWays_0 : decode cX3_findWays 0 = .ok (.aload_n 0, 1) := by decide +kernel
theorem dX3_findWays_1 : decode cX3_findWays 1 = .ok (.getfield 20, 3) := by decide +kernel
theorem dX3_findWays_4 : decode cX3_findWays 4 = .ok (.iload_n 2, 1) := by decide +kernel
theorem dX3_findWays_5 : decode cX3_findWays 5 = .ok (.invokevirtual 41, 3) := by decide +kernel
theorem dX3_findWays_8 : decode cX3_findWays 8 = .ok (.aload_n 0, 1) := by decide +kernel
theorem dX3_findWays_9 : decode cX3_findWays 9 = .ok (.getfield 20, 3) := by decide +kernel
theorem dX3_findWays_12 : decode cX3_findWays 12 = .ok (.iload_n 2, 1) := by decide +kernel
theorem dX3_findWays_13 : decode cX3_findWays 13 = .ok (.iload_n 1, 1) := by decide +kernel
theorem dX3_findWays_14 : decode cX3_findWays 14 = .ok (.invokevirtual 44, 3) := by decide +kernel
theorem dX3_findWays_17 : decode cX3_findWays 17 = .ok (.iload_n 2, 1) := by decide +kernel
theorem dX3_findWays_18 : decode cX3_findWays 18 = .ok (.iconst 1, 1) := by decide +kernel
theorem dX3_findWays_19 : decode cX3_findWays 19 = .ok (.isub, 1) := by decide +kernel
theorem dX3_findWays_20 : decode cX3_findWays 20 = .ok (.istore_n 3, 1) := by decide +kernel
theorem dX3_findWays_21 : decode cX3_findWays 21 = .ok (.iload_n 3, 1) := by decide +kernel
theorem dX3_findWays_22 : decode cX3_findWays 22 = .ok (.ifCond .lt 40, 3) := by decide +kernel
theorem dX3_findWays_25 : decode cX3_findWays 25 = .ok (.aload_n 0, 1) := by decide +kernel
theorem dX3_findWays_26 : decode cX3_findWays 26 = .ok (.getfield 20, 3) := by decide +kernel
theorem dX3_findWays_29 : decode cX3_findWays 29 = .ok (.iload_n 3, 1) := by decide +kernel
theorem dX3_findWays_30 : decode cX3_findWays 30 = .ok (.iload_n 3, 1) := by decide +kernel
theorem dX3_findWays_31 : decode cX3_findWays 31 = .ok (.iconst 1, 1) := by decide +kernel
theorem dX3_findWays_32 : decode cX3_findWays 32 = .ok (.iadd, 1) := by decide +kernel
theorem dX3_findWays_33 : decode cX3_findWays 33 = .ok (.aload_n 0, 1) := by decide +kernel
theorem dX3_findWays_34 : decode cX3_findWays 34 = .ok (.getfield 26, 3) := by decide +kernel
theorem dX3_findWays_37 : decode cX3_findWays 37 = .ok (.getfield 51, 3) := by decide +kernel
theorem dX3_findWays_40 : decode cX3_findWays 40 = .ok (.invokevirtual 56, 3) := by decide +kernel
theorem dX3_findWays_43 : decode cX3_findWays 43 = .ok (.aload_n 0, 1) := by decide +kernel
theorem dX3_findWays_44 : decode cX3_findWays 44 = .ok (.getfield 20, 3) := by decide +kernel
theorem dX3_findWays_47 : decode cX3_findWays 47 = .ok (.iload_n 3, 1) := by decide +kernel
theorem dX3_findWays_48 : decode cX3_findWays 48 = .ok (.aload_n 0, 1) := by decide +kernel
theorem dX3_findWays_49 : decode cX3_findWays 49 = .ok (.getfield 14, 3) := by decide +kernel
theorem dX3_findWays_52 : decode cX3_findWays 52 = .ok (.iload_n 3, 1) := by decide +kernel
theorem dX3_findWays_53 : decode cX3_findWays 53 = .ok (.invokevirtual 92, 3) := by decide +kernel
theorem dX3_findWays_56 : decode cX3_findWays 56 = .ok (.iinc 3 (-1), 3) := by decide +kernel
theorem dX3_findWays_59 : decode cX3_findWays 59 = .ok (.goto (-38), 3) := by decide +kernel
theorem dX3_findWays_62 : decode cX3_findWays 62 = .ok (.return_, 1) := by decide +kernel
def bs_X3_stepsToPark : List (List Cond) := [[.code yX3_stepsToPark cX3_stepsToPark 3 (some .int)], wsX3_stepsToPark_r1, wsX3_stepsToPark_r2, wsX3_stepsToPark_r3, wsX3_stepsToPark_r4, wsX3_stepsToPark_r5, wsX30, wsX50, wsX40, wsX00, wsX60]
theorem bi_X3_stepsToPark : ∀ w ∈ bs_X3_stepsToPark.flatten, w ∈ wsX3_stepsToPark := by
  have h : bs_X3_stepsToPark.flatten = wsX3_stepsToPark := by simp only [bs_X3_stepsToPark, wsX3_stepsToPark, List.flatten_cons, List.flatten_nil, List.append_assoc, List.append_nil, List.nil_append, List.cons_append]
  intro w hw; rw [h] at hw; exact hw
set_option maxRecDepth 20000 in
theorem ggX3_stepsToPark_X3_safeCell : GoodIn wsX3_stepsToPark wsX3_safeCell := goodIn_bb bs_X3_stepsToPark bi_X3_stepsToPark _ [(1, 4), (1, 5), (1, 6), (1, 7), (1, 8), (1, 9), (1, 10), (1, 3), (1, 11), (1, 12), (1, 13), (1, 14), (1, 15), (1, 16), (1, 17), (1, 18), (1, 19), (1, 20), (1, 21), (1, 22), (1, 23), (2, 0), (2, 1), (2, 2), (2, 3), (2, 4), (2, 5), (2, 6), (2, 7), (2, 8), (2, 9), (2, 10), (2, 11), (2, 12), (2, 13), (2, 14), (2, 15), (2, 16), (2, 17), (2, 18), (2, 19), (2, 20), (2, 21), (2, 22), (2, 23), (3, 0), (3, 1), (3, 2), (3, 3), (3, 4), (3, 5), (3, 6), (3, 7), (3, 8), (3, 9), (3, 10), (3, 11), (3, 12), (3, 13), (3, 14), (3, 15), (3, 16), (3, 17), (3, 18), (3, 19), (3, 20), (3, 21), (3, 22), (3, 23), (4, 0), (4, 1), (4, 2), (4, 3), (4, 4), (4, 5), (4, 6), (4, 7), (4, 8), (4, 9), (4, 10), (4, 11), (4, 12), (4, 13), (4, 14), (4, 15), (4, 16), (4, 17), (4, 18), (4, 19), (4, 20), (4, 21), (4, 22), (4, 23), (5, 0), (5, 1), (5, 2), (5, 3), (5, 4), (5, 5), (5, 6), (5, 7), (6, 0), (6, 1), (6, 2), (6, 3), (6, 4), (6, 5), (6, 6), (6, 7), (7, 0), (7, 1), (7, 2), (7, 3), (8, 0), (8, 1), (8, 2), (8, 3), (8, 4), (8, 5), (8, 6), (8, 7), (9, 0), (10, 0), (10, 1), (10, 2), (10, 3), (10, 4), (10, 5)] rfl (by decide +kernel)
set_option maxRecDepth 20000 in
theorem gX3_stepsToPark_X3_safeCell : GoodIn wsX3_stepsToPark (wsV RX3 98 RX3 yX3_safeCell wsX3_safeCell) := goodIn_app (goodIn_bb bs_X3_stepsToPark bi_X3_stepsToPark _ [(1, 0), (1, 1), (1, 2), (1, 3)] rfl (by decide +kernel)) ggX3_stepsToPark_X3_safeCell
theorem dX3_stepsToPark_0 : decode cX3_stepsToPark 0 = .ok (.iconst 0, 1) := by decide +kernel
theorem dX3_stepsToPark_1 : decode cX3_stepsToPark 1 = .ok (.istore_n 2, 1) := by decide +kernel
theorem dX3_stepsToPark_2 : decode cX3_stepsToPark 2 = .ok (.iload_n 2, 1) := by decide +kernel
theorem dX3_stepsToPark_3 : decode cX3_stepsToPark 3 = .ok (.bipush 60, 2) := by decide +kernel
theorem dX3_stepsToPark_5 : decode cX3_stepsToPark 5 = .ok (.if_icmp .gt 22, 3) := by decide +kernel
theorem dX3_stepsToPark_8 : decode cX3_stepsToPark 8 = .ok (.aload_n 0, 1) := by decide +kernel
theorem dX3_stepsToPark_9 : decode cX3_stepsToPark 9 = .ok (.iload_n 2, 1) := by decide +kernel
theorem dX3_stepsToPark_10 : decode cX3_stepsToPark 10 = .ok (.iload_n 1, 1) := by decide +kernel
theorem dX3_stepsToPark_11 : decode cX3_stepsToPark 11 = .ok (.invokevirtual 98, 3) := by decide +kernel
theorem dX3_stepsToPark_14 : decode cX3_stepsToPark 14 = .ok (.bipush (-9), 2) := by decide +kernel
theorem dX3_stepsToPark_16 : decode cX3_stepsToPark 16 = .ok (.if_icmp .eq 5, 3) := by decide +kernel
theorem dX3_stepsToPark_19 : decode cX3_stepsToPark 19 = .ok (.iload_n 2, 1) := by decide +kernel
theorem dX3_stepsToPark_20 : decode cX3_stepsToPark 20 = .ok (.ireturn, 1) := by decide +kernel
theorem dX3_stepsToPark_21 : decode cX3_stepsToPark 21 = .ok (.iinc 2 1, 3) := by decide +kernel
theorem dX3_stepsToPark_24 : decode cX3_stepsToPark 24 = .ok (.goto (-22), 3) := by decide +kernel
theorem dX3_stepsToPark_27 : decode cX3_stepsToPark 27 = .ok (.bipush (-9), 2) := by decide +kernel
theorem dX3_stepsToPark_29 : decode cX3_stepsToPark 29 = .ok (.ireturn, 1) := by decide +kernel
def bs_X3_safeCell : List (List Cond) := [[.code yX3_safeCell cX3_safeCell 5 (some .int)], wsX3_safeCell_r1, wsX3_safeCell_r2, wsX3_safeCell_r3, wsX3_safeCell_r4, wsX3_safeCell_r5, wsX30, wsX50, wsX40, wsX00, wsX60]
theorem bi_X3_safeCell : ∀ w ∈ bs_X3_safeCell.flatten, w ∈ wsX3_safeCell := by
  have h : bs_X3_safeCell.flatten = wsX3_safeCell := by simp only [bs_X3_safeCell, wsX3_safeCell, List.flatten_cons, List.flatten_nil, List.append_assoc, List.append_nil, List.nil_append, List.cons_append]
  intro w hw; rw [h] at hw; exact hw
set_option maxRecDepth 20000 in
theorem ggX3_safeCell_X3_makeEnds : GoodIn wsX3_safeCell wsX3_makeEnds := goodIn_bb bs_X3_safeCell bi_X3_safeCell _ [(1, 7), (1, 8), (1, 1), (1, 9), (1, 10), (1, 2), (1, 0), (1, 11), (1, 12), (1, 13), (1, 14), (1, 15), (1, 16), (1, 17), (1, 18), (1, 19), (1, 20), (1, 21), (1, 22), (1, 23), (2, 0), (2, 1), (2, 2), (2, 3), (2, 4), (2, 5), (2, 6), (2, 7), (2, 8), (2, 9), (2, 10), (2, 11), (2, 12), (2, 13), (2, 14), (2, 15), (2, 16), (2, 17), (2, 18), (2, 19), (2, 20), (2, 21), (2, 22), (2, 23), (3, 0), (3, 1), (3, 2), (3, 3), (3, 4), (3, 5), (3, 6), (3, 7), (3, 8), (3, 9), (3, 10), (3, 11), (3, 12), (3, 13), (3, 14), (3, 15), (3, 16), (3, 17), (3, 18), (3, 19), (3, 20), (3, 21), (3, 22), (3, 23), (4, 0), (4, 1), (4, 2), (4, 3), (4, 4), (4, 5), (4, 6), (4, 7), (4, 8), (4, 9), (4, 10), (4, 11), (4, 12), (4, 13), (4, 14), (6, 0), (6, 1), (6, 2), (6, 3), (6, 4), (6, 5), (6, 6), (6, 7), (7, 0), (7, 1), (7, 2), (7, 3), (8, 0), (8, 1), (8, 2), (8, 3), (8, 4), (8, 5), (8, 6), (8, 7), (9, 0), (10, 0), (10, 1), (10, 2), (10, 3), (10, 4), (10, 5)] rfl (by decide +kernel)
set_option maxRecDepth 20000 in
theorem gX3_safeCell_X3_makeEnds : GoodIn wsX3_safeCell (wsV RX3 72 RX3 yX3_makeEnds wsX3_makeEnds) := goodIn_app (goodIn_bb bs_X3_safeCell bi_X3_safeCell _ [(1, 3), (1, 4), (1, 5), (1, 6)] rfl (by decide +kernel)) ggX3_safeCell_X3_makeEnds
set_option maxRecDepth 20000 in
theorem ggX3_safeCell_X0_has : GoodIn wsX3_safeCell wsX0_has := goodIn_bb bs_X3_safeCell bi_X3_safeCell _ [(4, 18), (2, 2), (2, 3), (2, 4), (1, 15), (2, 5), (1, 21), (9, 0)] rfl (by decide +kernel)
set_option maxRecDepth 20000 in
theorem gX3_safeCell_X0_has : GoodIn wsX3_safeCell (wsV RX3 75 RX0 yX0_has wsX0_has) := goodIn_app (goodIn_bb bs_X3_safeCell bi_X3_safeCell _ [(4, 15), (4, 16), (4, 17), (1, 15)] rfl (by decide +kernel)) ggX3_safeCell_X0_has
set_option maxRecDepth 20000 in
theorem ggX3_safeCell_X4_firstLit : GoodIn wsX3_safeCell wsX4_firstLit := goodIn_bb bs_X3_safeCell bi_X3_safeCell _ [(4, 22), (4, 23), (5, 0), (5, 1), (2, 13), (5, 2), (2, 15), (2, 16), (5, 3), (4, 16), (4, 17), (1, 15), (4, 18), (2, 2), (2, 3), (2, 4), (2, 5), (1, 21), (2, 18), (2, 19), (2, 20), (2, 21), (2, 22), (2, 23), (3, 0), (3, 1), (3, 2), (3, 3), (3, 4), (3, 5), (3, 6), (3, 7), (3, 8), (3, 9), (3, 10), (3, 11), (3, 12), (3, 13), (3, 14), (3, 15), (3, 16), (3, 17), (3, 18), (3, 19), (3, 20), (3, 21), (3, 22), (3, 23), (4, 0), (4, 1), (4, 2), (4, 3), (4, 4), (4, 5), (8, 0), (8, 1), (8, 2), (8, 3), (8, 4), (8, 5), (8, 6), (8, 7), (9, 0), (10, 0), (10, 1), (10, 2), (10, 3), (10, 4), (10, 5), (7, 0), (7, 1), (7, 2), (7, 3)] rfl (by decide +kernel)
set_option maxRecDepth 20000 in
theorem gX3_safeCell_X4_firstLit : GoodIn wsX3_safeCell (wsV RX3 102 RX4 yX4_firstLit wsX4_firstLit) := goodIn_app (goodIn_bb bs_X3_safeCell bi_X3_safeCell _ [(4, 19), (4, 20), (4, 21), (2, 13)] rfl (by decide +kernel)) ggX3_safeCell_X4_firstLit
theorem dX3_safeCell_0 : decode cX3_safeCell 0 = .ok (.aload_n 0, 1) := by decide +kernel
theorem dX3_safeCell_1 : decode cX3_safeCell 1 = .ok (.iload_n 1, 1) := by decide +kernel
theorem dX3_safeCell_2 : decode cX3_safeCell 2 = .ok (.invokevirtual 72, 3) := by decide +kernel
theorem dX3_safeCell_5 : decode cX3_safeCell 5 = .ok (.aload_n 0, 1) := by decide +kernel
theorem dX3_safeCell_6 : decode cX3_safeCell 6 = .ok (.getfield 38, 3) := by decide +kernel
theorem dX3_safeCell_9 : decode cX3_safeCell 9 = .ok (.iload_n 1, 1) := by decide +kernel
theorem dX3_safeCell_10 : decode cX3_safeCell 10 = .ok (.iadd, 1) := by decide +kernel
theorem dX3_safeCell_11 : decode cX3_safeCell 11 = .ok (.istore_n 3, 1) := by decide +kernel
theorem dX3_safeCell_12 : decode cX3_safeCell 12 = .ok (.iconst 0, 1) := by decide +kernel
theorem dX3_safeCell_13 : decode cX3_safeCell 13 = .ok (.istore 4, 2) := by decide +kernel
theorem dX3_safeCell_15 : decode cX3_safeCell 15 = .ok (.iload 4, 2) := by decide +kernel
theorem dX3_safeCell_17 : decode cX3_safeCell 17 = .ok (.sipush 150, 3) := by decide +kernel
theorem dX3_safeCell_20 : decode cX3_safeCell 20 = .ok (.if_icmp .ge 43, 3) := by decide +kernel
theorem dX3_safeCell_23 : decode cX3_safeCell 23 = .ok (.aload_n 0, 1) := by decide +kernel
theorem dX3_safeCell_24 : decode cX3_safeCell 24 = .ok (.getfield 14, 3) := by decide +kernel
theorem dX3_safeCell_27 : decode cX3_safeCell 27 = .ok (.iload_n 1, 1) := by decide +kernel
theorem dX3_safeCell_28 : decode cX3_safeCell 28 = .ok (.iload 4, 2) := by decide +kernel
theorem dX3_safeCell_30 : decode cX3_safeCell 30 = .ok (.invokevirtual 75, 3) := by decide +kernel
theorem dX3_safeCell_33 : decode cX3_safeCell 33 = .ok (.ifCond .eq 24, 3) := by decide +kernel
theorem dX3_safeCell_36 : decode cX3_safeCell 36 = .ok (.aload_n 0, 1) := by decide +kernel
theorem dX3_safeCell_37 : decode cX3_safeCell 37 = .ok (.getfield 30, 3) := by decide +kernel
theorem dX3_safeCell_40 : decode cX3_safeCell 40 = .ok (.iload 4, 2) := by decide +kernel
theorem dX3_safeCell_42 : decode cX3_safeCell 42 = .ok (.iload_n 3, 1) := by decide +kernel
theorem dX3_safeCell_43 : decode cX3_safeCell 43 = .ok (.iload_n 3, 1) := by decide +kernel
theorem dX3_safeCell_44 : decode cX3_safeCell 44 = .ok (.iload_n 2, 1) := by decide +kernel
theorem dX3_safeCell_45 : decode cX3_safeCell 45 = .ok (.iadd, 1) := by decide +kernel
theorem dX3_safeCell_46 : decode cX3_safeCell 46 = .ok (.invokevirtual 102, 3) := by decide +kernel
theorem dX3_safeCell_49 : decode cX3_safeCell 49 = .ok (.bipush (-9), 2) := by decide +kernel
theorem dX3_safeCell_51 : decode cX3_safeCell 51 = .ok (.if_icmp .ne 6, 3) := by decide +kernel
theorem dX3_safeCell_54 : decode cX3_safeCell 54 = .ok (.iload 4, 2) := by decide +kernel
theorem dX3_safeCell_56 : decode cX3_safeCell 56 = .ok (.ireturn, 1) := by decide +kernel
theorem dX3_safeCell_57 : decode cX3_safeCell 57 = .ok (.iinc 4 1, 3) := by decide +kernel
theorem dX3_safeCell_60 : decode cX3_safeCell 60 = .ok (.goto (-45), 3) := by decide +kernel
theorem dX3_safeCell_63 : decode cX3_safeCell 63 = .ok (.bipush (-9), 2) := by decide +kernel
theorem dX3_safeCell_65 : decode cX3_safeCell 65 = .ok (.ireturn, 1) := by decide +kernel
def bs_X3_finishOf : List (List Cond) := [[.code yX3_finishOf cX3_finishOf 7 (some .int)], wsX3_finishOf_r1, wsX3_finishOf_r2, wsX3_finishOf_r3, wsX3_finishOf_r4, wsX3_finishOf_r5, wsX30, wsX40, wsX00, wsX60, wsX50]
theorem bi_X3_finishOf : ∀ w ∈ bs_X3_finishOf.flatten, w ∈ wsX3_finishOf := by
  have h : bs_X3_finishOf.flatten = wsX3_finishOf := by simp only [bs_X3_finishOf, wsX3_finishOf, List.flatten_cons, List.flatten_nil, List.append_assoc, List.append_nil, List.nil_append, List.cons_append]
  intro w hw; rw [h] at hw; exact hw
set_option maxRecDepth 20000 in
theorem ggX3_finishOf_X4_firstLit : GoodIn wsX3_finishOf wsX4_firstLit := goodIn_bb bs_X3_finishOf bi_X3_finishOf _ [(1, 7), (1, 8), (1, 9), (1, 10), (1, 6), (1, 11), (1, 12), (1, 13), (1, 14), (1, 15), (1, 16), (1, 17), (1, 18), (1, 19), (1, 20), (1, 21), (1, 22), (1, 23), (2, 0), (2, 1), (2, 2), (2, 3), (2, 4), (2, 5), (2, 6), (2, 7), (2, 8), (2, 9), (2, 10), (2, 11), (2, 12), (2, 13), (2, 14), (2, 15), (2, 16), (2, 17), (2, 18), (2, 19), (2, 20), (2, 21), (2, 22), (2, 23), (3, 0), (3, 1), (3, 2), (3, 3), (3, 4), (3, 5), (3, 6), (3, 7), (3, 8), (3, 9), (3, 10), (3, 11), (7, 0), (7, 1), (7, 2), (7, 3), (7, 4), (7, 5), (7, 6), (7, 7), (8, 0), (9, 0), (9, 1), (9, 2), (9, 3), (9, 4), (9, 5), (10, 0), (10, 1), (10, 2), (10, 3)] rfl (by decide +kernel)
set_option maxRecDepth 20000 in
theorem gX3_finishOf_X4_firstLit : GoodIn wsX3_finishOf (wsV RX3 102 RX4 yX4_firstLit wsX4_firstLit) := goodIn_app (goodIn_bb bs_X3_finishOf bi_X3_finishOf _ [(1, 3), (1, 4), (1, 5), (1, 6)] rfl (by decide +kernel)) ggX3_finishOf_X4_firstLit
set_option maxRecDepth 20000 in
theorem ggX3_finishOf_X3_makeEnds : GoodIn wsX3_finishOf wsX3_makeEnds := goodIn_bb bs_X3_finishOf bi_X3_finishOf _ [(3, 16), (3, 17), (1, 2), (3, 18), (3, 19), (1, 1), (1, 0), (3, 20), (3, 21), (3, 22), (3, 23), (1, 17), (4, 0), (4, 1), (4, 2), (4, 3), (4, 4), (1, 23), (4, 5), (4, 6), (4, 7), (4, 8), (1, 19), (1, 20), (1, 21), (1, 22), (4, 9), (4, 10), (4, 11), (4, 12), (4, 13), (4, 14), (4, 15), (1, 6), (4, 16), (1, 12), (1, 13), (4, 17), (2, 0), (2, 1), (2, 2), (2, 3), (2, 4), (2, 5), (2, 6), (2, 7), (2, 8), (2, 9), (2, 10), (2, 11), (2, 12), (2, 13), (2, 14), (2, 15), (2, 16), (2, 17), (2, 18), (2, 19), (2, 20), (2, 21), (2, 22), (2, 23), (3, 0), (3, 1), (3, 2), (3, 3), (3, 4), (3, 5), (3, 6), (3, 7), (3, 8), (3, 9), (3, 10), (3, 11), (4, 18), (4, 19), (4, 20), (4, 21), (4, 22), (4, 23), (5, 0), (5, 1), (5, 2), (6, 0), (6, 1), (6, 2), (6, 3), (6, 4), (6, 5), (6, 6), (6, 7), (10, 0), (10, 1), (10, 2), (10, 3), (7, 0), (7, 1), (7, 2), (7, 3), (7, 4), (7, 5), (7, 6), (7, 7), (8, 0), (9, 0), (9, 1), (9, 2), (9, 3), (9, 4), (9, 5)] rfl (by decide +kernel)
set_option maxRecDepth 20000 in
theorem gX3_finishOf_X3_makeEnds : GoodIn wsX3_finishOf (wsV RX3 72 RX3 yX3_makeEnds wsX3_makeEnds) := goodIn_app (goodIn_bb bs_X3_finishOf bi_X3_finishOf _ [(3, 12), (3, 13), (3, 14), (3, 15)] rfl (by decide +kernel)) ggX3_finishOf_X3_makeEnds
set_option maxRecDepth 20000 in
theorem ggX3_finishOf_X0_has : GoodIn wsX3_finishOf wsX0_has := goodIn_bb bs_X3_finishOf bi_X3_finishOf _ [(1, 18), (1, 19), (1, 20), (1, 21), (1, 17), (1, 22), (1, 23), (8, 0)] rfl (by decide +kernel)
set_option maxRecDepth 20000 in
theorem gX3_finishOf_X0_has : GoodIn wsX3_finishOf (wsV RX3 75 RX0 yX0_has wsX0_has) := goodIn_app (goodIn_bb bs_X3_finishOf bi_X3_finishOf _ [(5, 3), (1, 15), (1, 16), (1, 17)] rfl (by decide +kernel)) ggX3_finishOf_X0_has
theorem dX3_finishOf_0 : decode cX3_finishOf 0 = .ok (.iload_n 3, 1) := by decide +kernel
theorem dX3_finishOf_1 : decode cX3_finishOf 1 = .ok (.iload_n 2, 1) := by decide +kernel
theorem dX3_finishOf_2 : decode cX3_finishOf 2 = .ok (.isub, 1) := by decide +kernel
theorem dX3_finishOf_3 : decode cX3_finishOf 3 = .ok (.aload_n 0, 1) := by decide +kernel
theorem dX3_finishOf_4 : decode cX3_finishOf 4 = .ok (.getfield 38, 3) := by decide +kernel
theorem dX3_finishOf_7 : decode cX3_finishOf 7 = .ok (.isub, 1) := by decide +kernel
theorem dX3_finishOf_8 : decode cX3_finishOf 8 = .ok (.istore 4, 2) := by decide +kernel
theorem dX3_finishOf_10 : decode cX3_finishOf 10 = .ok (.iconst 0, 1) := by decide +kernel
theorem dX3_finishOf_11 : decode cX3_finishOf 11 = .ok (.istore 5, 2) := by decide +kernel
theorem dX3_finishOf_13 : decode cX3_finishOf 13 = .ok (.iload 5, 2) := by decide +kernel
theorem dX3_finishOf_15 : decode cX3_finishOf 15 = .ok (.iload 4, 2) := by decide +kernel
theorem dX3_finishOf_17 : decode cX3_finishOf 17 = .ok (.if_icmp .gt 68, 3) := by decide +kernel
theorem dX3_finishOf_20 : decode cX3_finishOf 20 = .ok (.iload 5, 2) := by decide +kernel
theorem dX3_finishOf_22 : decode cX3_finishOf 22 = .ok (.bipush 60, 2) := by decide +kernel
theorem dX3_finishOf_24 : decode cX3_finishOf 24 = .ok (.if_icmp .gt 61, 3) := by decide +kernel
theorem dX3_finishOf_27 : decode cX3_finishOf 27 = .ok (.aload_n 0, 1) := by decide +kernel
theorem dX3_finishOf_28 : decode cX3_finishOf 28 = .ok (.getfield 38, 3) := by decide +kernel
theorem dX3_finishOf_31 : decode cX3_finishOf 31 = .ok (.iload 5, 2) := by decide +kernel
theorem dX3_finishOf_33 : decode cX3_finishOf 33 = .ok (.iadd, 1) := by decide +kernel
theorem dX3_finishOf_34 : decode cX3_finishOf 34 = .ok (.istore 6, 2) := by decide +kernel
theorem dX3_finishOf_36 : decode cX3_finishOf 36 = .ok (.aload_n 0, 1) := by decide +kernel
theorem dX3_finishOf_37 : decode cX3_finishOf 37 = .ok (.getfield 30, 3) := by decide +kernel
theorem dX3_finishOf_40 : decode cX3_finishOf 40 = .ok (.iload_n 1, 1) := by decide +kernel
theorem dX3_finishOf_41 : decode cX3_finishOf 41 = .ok (.iload 6, 2) := by decide +kernel
theorem dX3_finishOf_43 : decode cX3_finishOf 43 = .ok (.iload 6, 2) := by decide +kernel
theorem dX3_finishOf_45 : decode cX3_finishOf 45 = .ok (.iload_n 2, 1) := by decide +kernel
theorem dX3_finishOf_46 : decode cX3_finishOf 46 = .ok (.iadd, 1) := by decide +kernel
theorem dX3_finishOf_47 : decode cX3_finishOf 47 = .ok (.invokevirtual 102, 3) := by decide +kernel
theorem dX3_finishOf_50 : decode cX3_finishOf 50 = .ok (.bipush (-9), 2) := by decide +kernel
theorem dX3_finishOf_52 : decode cX3_finishOf 52 = .ok (.if_icmp .ne 27, 3) := by decide +kernel
theorem dX3_finishOf_55 : decode cX3_finishOf 55 = .ok (.aload_n 0, 1) := by decide +kernel
theorem dX3_finishOf_56 : decode cX3_finishOf 56 = .ok (.iload 5, 2) := by decide +kernel
theorem dX3_finishOf_58 : decode cX3_finishOf 58 = .ok (.invokevirtual 72, 3) := by decide +kernel
theorem dX3_finishOf_61 : decode cX3_finishOf 61 = .ok (.aload_n 0, 1) := by decide +kernel
theorem dX3_finishOf_62 : decode cX3_finishOf 62 = .ok (.getfield 14, 3) := by decide +kernel
theorem dX3_finishOf_65 : decode cX3_finishOf 65 = .ok (.iload 5, 2) := by decide +kernel
theorem dX3_finishOf_67 : decode cX3_finishOf 67 = .ok (.iload_n 1, 1) := by decide +kernel
theorem dX3_finishOf_68 : decode cX3_finishOf 68 = .ok (.invokevirtual 75, 3) := by decide +kernel
theorem dX3_finishOf_71 : decode cX3_finishOf 71 = .ok (.ifCond .eq 8, 3) := by decide +kernel
theorem dX3_finishOf_74 : decode cX3_finishOf 74 = .ok (.iload 6, 2) := by decide +kernel
theorem dX3_finishOf_76 : decode cX3_finishOf 76 = .ok (.iload_n 2, 1) := by decide +kernel
theorem dX3_finishOf_77 : decode cX3_finishOf 77 = .ok (.iadd, 1) := by decide +kernel
theorem dX3_finishOf_78 : decode cX3_finishOf 78 = .ok (.ireturn, 1) := by decide +kernel
theorem dX3_finishOf_79 : decode cX3_finishOf 79 = .ok (.iinc 5 1, 3) := by decide +kernel
theorem dX3_finishOf_82 : decode cX3_finishOf 82 = .ok (.goto (-69), 3) := by decide +kernel
theorem dX3_finishOf_85 : decode cX3_finishOf 85 = .ok (.bipush (-9), 2) := by decide +kernel
theorem dX3_finishOf_87 : decode cX3_finishOf 87 = .ok (.ireturn, 1) := by decide +kernel
def bs_X4_init : List (List Cond) := [[.code yX4_init cX4_init 2 none], wsX4_init_r1, wsX4_init_r2, wsX60, wsX40, wsX00]
theorem bi_X4_init : ∀ w ∈ bs_X4_init.flatten, w ∈ wsX4_init := by
  have h : bs_X4_init.flatten = wsX4_init := by simp only [bs_X4_init, wsX4_init, List.flatten_cons, List.flatten_nil, List.append_assoc, List.append_nil, List.nil_append, List.cons_append]
  intro w hw; rw [h] at hw; exact hw
set_option maxRecDepth 20000 in
theorem ggX4_init_X6_init : GoodIn wsX4_init wsX6_init := goodIn_bb bs_X4_init bi_X4_init _ [(1, 16), (1, 17), (1, 1), (1, 2), (1, 18), (1, 19), (1, 20), (3, 0), (3, 1), (3, 2), (3, 3), (3, 4), (3, 5)] rfl (by decide +kernel)
set_option maxRecDepth 20000 in
theorem gX4_init_X6_init : GoodIn wsX4_init (wsX6_init) := ggX4_init_X6_init
set_option maxRecDepth 20000 in
theorem ggX4_init_X0_init : GoodIn wsX4_init wsX0_init := goodIn_bb bs_X4_init bi_X4_init _ [(1, 23), (2, 0), (1, 1), (1, 2), (2, 1), (2, 2), (5, 0)] rfl (by decide +kernel)
set_option maxRecDepth 20000 in
theorem gX4_init_X0_init : GoodIn wsX4_init (wsX0_init) := ggX4_init_X0_init
theorem dX4_init_0 : decode cX4_init 0 = .ok (.aload_n 0, 1) := by decide +kernel
theorem dX4_init_1 : decode cX4_init 1 = .ok (.invokespecial 3, 3) := by decide +kernel
theorem dX4_init_4 : decode cX4_init 4 = .ok (.aload_n 0, 1) := by decide +kernel
theorem dX4_init_5 : decode cX4_init 5 = .ok (.new 9, 3) := by decide +kernel
theorem dX4_init_8 : decode cX4_init 8 = .ok (.dup, 1) := by decide +kernel
theorem dX4_init_9 : decode cX4_init 9 = .ok (.invokespecial 11, 3) := by decide +kernel
theorem dX4_init_12 : decode cX4_init 12 = .ok (.putfield 12, 3) := by decide +kernel
theorem dX4_init_15 : decode cX4_init 15 = .ok (.aload_n 0, 1) := by decide +kernel
theorem dX4_init_16 : decode cX4_init 16 = .ok (.new 18, 3) := by decide +kernel
theorem dX4_init_19 : decode cX4_init 19 = .ok (.dup, 1) := by decide +kernel
theorem dX4_init_20 : decode cX4_init 20 = .ok (.sipush 301, 3) := by decide +kernel
theorem dX4_init_23 : decode cX4_init 23 = .ok (.invokespecial 20, 3) := by decide +kernel
theorem dX4_init_26 : decode cX4_init 26 = .ok (.putfield 23, 3) := by decide +kernel
theorem dX4_init_29 : decode cX4_init 29 = .ok (.aload_n 0, 1) := by decide +kernel
theorem dX4_init_30 : decode cX4_init 30 = .ok (.sipush 301, 3) := by decide +kernel
theorem dX4_init_33 : decode cX4_init 33 = .ok (.newarray .boolean, 2) := by decide +kernel
theorem dX4_init_35 : decode cX4_init 35 = .ok (.putfield 27, 3) := by decide +kernel
theorem dX4_init_38 : decode cX4_init 38 = .ok (.aload_n 0, 1) := by decide +kernel
theorem dX4_init_39 : decode cX4_init 39 = .ok (.aload_n 1, 1) := by decide +kernel
theorem dX4_init_40 : decode cX4_init 40 = .ok (.putfield 31, 3) := by decide +kernel
theorem dX4_init_43 : decode cX4_init 43 = .ok (.return_, 1) := by decide +kernel
def bs_X4_show : List (List Cond) := [[.code yX4_show cX4_show 3 none], [.fieldLink RX4 12 "SlewPlanner$Sky" "shown" "LSlewPlanner$State;", .fieldLink RX4 27 "SlewPlanner$Sky" "drawn" "[Z", .methodLink RX4 35 yX6_hasObjectsOf, .instanceMethod yX6_hasObjectsOf, .selects RX6 yX6_hasObjectsOf yX6_hasObjectsOf, .initialized RX6, .code yX6_hasObjectsOf cX6_hasObjectsOf 3 (some .boolean), .fieldLink RX6 9 "SlewPlanner$State" "objects" "[I", .methodLink RX4 39 yX6_copyObjects, .instanceMethod yX6_copyObjects, .selects RX6 yX6_copyObjects yX6_copyObjects, .code yX6_copyObjects cX6_copyObjects 2 none, .methodLink RX6 32 arraycopyName, .native arraycopyName, .static arraycopyName, .initialized "java/lang/System"], wsX40, wsX60]
theorem bi_X4_show : ∀ w ∈ bs_X4_show.flatten, w ∈ wsX4_show := by
  have h : bs_X4_show.flatten = wsX4_show := by simp only [bs_X4_show, wsX4_show, List.flatten_cons, List.flatten_nil, List.append_assoc, List.append_nil, List.nil_append, List.cons_append]
  intro w hw; rw [h] at hw; exact hw
set_option maxRecDepth 20000 in
theorem ggX4_show_X6_hasObjectsOf : GoodIn wsX4_show wsX6_hasObjectsOf := goodIn_bb bs_X4_show bi_X4_show _ [(1, 6), (1, 7), (3, 0), (3, 1), (3, 2), (3, 3), (3, 4), (3, 5)] rfl (by decide +kernel)
set_option maxRecDepth 20000 in
theorem gX4_show_X6_hasObjectsOf : GoodIn wsX4_show (wsV RX4 35 RX6 yX6_hasObjectsOf wsX6_hasObjectsOf) := goodIn_app (goodIn_bb bs_X4_show bi_X4_show _ [(1, 2), (1, 3), (1, 4), (1, 5)] rfl (by decide +kernel)) ggX4_show_X6_hasObjectsOf
set_option maxRecDepth 20000 in
theorem ggX4_show_X6_copyObjects : GoodIn wsX4_show wsX6_copyObjects := goodIn_bb bs_X4_show bi_X4_show _ [(1, 11), (1, 7), (1, 12), (1, 13), (1, 14), (1, 15), (3, 0), (3, 1), (3, 2), (3, 3), (3, 4), (3, 5)] rfl (by decide +kernel)
set_option maxRecDepth 20000 in
theorem gX4_show_X6_copyObjects : GoodIn wsX4_show (wsV RX4 39 RX6 yX6_copyObjects wsX6_copyObjects) := goodIn_app (goodIn_bb bs_X4_show bi_X4_show _ [(1, 8), (1, 9), (1, 10), (1, 5)] rfl (by decide +kernel)) ggX4_show_X6_copyObjects
theorem dX4_show_0 : decode cX4_show 0 = .ok (.aload_n 0, 1) := by decide +kernel
theorem dX4_show_1 : decode cX4_show 1 = .ok (.getfield 12, 3) := by decide +kernel
theorem dX4_show_4 : decode cX4_show 4 = .ok (.aload_n 1, 1) := by decide +kernel
theorem dX4_show_5 : decode cX4_show 5 = .ok (.invokevirtual 35, 3) := by decide +kernel
theorem dX4_show_8 : decode cX4_show 8 = .ok (.ifCond .eq 4, 3) := by decide +kernel
theorem dX4_show_11 : decode cX4_show 11 = .ok (.return_, 1) := by decide +kernel
theorem dX4_show_12 : decode cX4_show 12 = .ok (.aload_n 0, 1) := by decide +kernel
theorem dX4_show_13 : decode cX4_show 13 = .ok (.getfield 12, 3) := by decide +kernel
theorem dX4_show_16 : decode cX4_show 16 = .ok (.aload_n 1, 1) := by decide +kernel
theorem dX4_show_17 : decode cX4_show 17 = .ok (.invokevirtual 39, 3) := by decide +kernel
theorem dX4_show_20 : decode cX4_show 20 = .ok (.iconst 0, 1) := by decide +kernel
theorem dX4_show_21 : decode cX4_show 21 = .ok (.istore_n 2, 1) := by decide +kernel
theorem dX4_show_22 : decode cX4_show 22 = .ok (.iload_n 2, 1) := by decide +kernel
theorem dX4_show_23 : decode cX4_show 23 = .ok (.aload_n 0, 1) := by decide +kernel
theorem dX4_show_24 : decode cX4_show 24 = .ok (.getfield 27, 3) := by decide +kernel
theorem dX4_show_27 : decode cX4_show 27 = .ok (.arraylength, 1) := by decide +kernel
theorem dX4_show_28 : decode cX4_show 28 = .ok (.if_icmp .ge 16, 3) := by decide +kernel
theorem dX4_show_31 : decode cX4_show 31 = .ok (.aload_n 0, 1) := by decide +kernel
theorem dX4_show_32 : decode cX4_show 32 = .ok (.getfield 27, 3) := by decide +kernel
theorem dX4_show_35 : decode cX4_show 35 = .ok (.iload_n 2, 1) := by decide +kernel
theorem dX4_show_36 : decode cX4_show 36 = .ok (.iconst 0, 1) := by decide +kernel
theorem dX4_show_37 : decode cX4_show 37 = .ok (.bastore, 1) := by decide +kernel
theorem dX4_show_38 : decode cX4_show 38 = .ok (.iinc 2 1, 3) := by decide +kernel
theorem dX4_show_41 : decode cX4_show 41 = .ok (.goto (-19), 3) := by decide +kernel
theorem dX4_show_44 : decode cX4_show 44 = .ok (.return_, 1) := by decide +kernel
def bs_X4_isLit : List (List Cond) := [[.code yX4_isLit cX4_isLit 4 (some .boolean)], wsX4_isLit_r1, wsX4_isLit_r2, wsX4_isLit_r3, wsX40, wsX00, wsX60, wsX50]
theorem bi_X4_isLit : ∀ w ∈ bs_X4_isLit.flatten, w ∈ wsX4_isLit := by
  have h : bs_X4_isLit.flatten = wsX4_isLit := by simp only [bs_X4_isLit, wsX4_isLit, List.flatten_cons, List.flatten_nil, List.append_assoc, List.append_nil, List.nil_append, List.cons_append]
  intro w hw; rw [h] at hw; exact hw
set_option maxRecDepth 20000 in
theorem ggX4_isLit_X0_has : GoodIn wsX4_isLit wsX0_has := goodIn_bb bs_X4_isLit bi_X4_isLit _ [(1, 6), (1, 7), (1, 8), (1, 9), (1, 5), (1, 10), (1, 11), (5, 0)] rfl (by decide +kernel)
set_option maxRecDepth 20000 in
theorem gX4_isLit_X0_has : GoodIn wsX4_isLit (wsV RX4 43 RX0 yX0_has wsX0_has) := goodIn_app (goodIn_bb bs_X4_isLit bi_X4_isLit _ [(1, 2), (1, 3), (1, 4), (1, 5)] rfl (by decide +kernel)) ggX4_isLit_X0_has
set_option maxRecDepth 20000 in
theorem ggX4_isLit_X4_aim : GoodIn wsX4_isLit wsX4_aim := goodIn_bb bs_X4_isLit bi_X4_isLit _ [(1, 16), (1, 17), (1, 18), (1, 19), (1, 20), (1, 21), (1, 22), (1, 23), (2, 0), (2, 1), (2, 2), (2, 3), (2, 4), (2, 5), (2, 6), (2, 7), (4, 0), (4, 1), (4, 2), (4, 3), (4, 4), (4, 5), (4, 6), (4, 7), (6, 0), (6, 1), (6, 2), (6, 3), (6, 4), (6, 5)] rfl (by decide +kernel)
set_option maxRecDepth 20000 in
theorem gX4_isLit_X4_aim : GoodIn wsX4_isLit (wsV RX4 47 RX4 yX4_aim wsX4_aim) := goodIn_app (goodIn_bb bs_X4_isLit bi_X4_isLit _ [(1, 12), (1, 13), (1, 14), (1, 15)] rfl (by decide +kernel)) ggX4_isLit_X4_aim
set_option maxRecDepth 20000 in
theorem ggX4_isLit_X4_hits : GoodIn wsX4_isLit wsX4_hits := goodIn_bb bs_X4_isLit bi_X4_isLit _ [(2, 11), (2, 12), (1, 18), (1, 19), (1, 20), (2, 13), (1, 21), (2, 14), (2, 15), (2, 16), (2, 17), (2, 18), (2, 19), (2, 20), (2, 21), (2, 22), (2, 23), (3, 0), (4, 0), (4, 1), (4, 2), (4, 3), (4, 4), (4, 5), (4, 6), (4, 7), (7, 0), (7, 1), (7, 2), (7, 3)] rfl (by decide +kernel)
set_option maxRecDepth 20000 in
theorem gX4_isLit_X4_hits : GoodIn wsX4_isLit (wsV RX4 50 RX4 yX4_hits wsX4_hits) := goodIn_app (goodIn_bb bs_X4_isLit bi_X4_isLit _ [(2, 8), (2, 9), (2, 10), (1, 15)] rfl (by decide +kernel)) ggX4_isLit_X4_hits
theorem dX4_isLit_0 : decode cX4_isLit 0 = .ok (.iload_n 2, 1) := by decide +kernel
theorem dX4_isLit_1 : decode cX4_isLit 1 = .ok (.ifCond .lt 31, 3) := by decide +kernel
theorem dX4_isLit_4 : decode cX4_isLit 4 = .ok (.iload_n 2, 1) := by decide +kernel
theorem dX4_isLit_5 : decode cX4_isLit 5 = .ok (.aload_n 0, 1) := by decide +kernel
theorem dX4_isLit_6 : decode cX4_isLit 6 = .ok (.getfield 27, 3) := by decide +kernel
theorem dX4_isLit_9 : decode cX4_isLit 9 = .ok (.arraylength, 1) := by decide +kernel
theorem dX4_isLit_10 : decode cX4_isLit 10 = .ok (.if_icmp .ge 22, 3) := by decide +kernel
theorem dX4_isLit_13 : decode cX4_isLit 13 = .ok (.aload_n 0, 1) := by decide +kernel
theorem dX4_isLit_14 : decode cX4_isLit 14 = .ok (.getfield 27, 3) := by decide +kernel
theorem dX4_isLit_17 : decode cX4_isLit 17 = .ok (.iload_n 2, 1) := by decide +kernel
theorem dX4_isLit_18 : decode cX4_isLit 18 = .ok (.baload, 1) := by decide +kernel
theorem dX4_isLit_19 : decode cX4_isLit 19 = .ok (.ifCond .eq 13, 3) := by decide +kernel
theorem dX4_isLit_22 : decode cX4_isLit 22 = .ok (.aload_n 0, 1) := by decide +kernel
theorem dX4_isLit_23 : decode cX4_isLit 23 = .ok (.getfield 23, 3) := by decide +kernel
theorem dX4_isLit_26 : decode cX4_isLit 26 = .ok (.iload_n 2, 1) := by decide +kernel
theorem dX4_isLit_27 : decode cX4_isLit 27 = .ok (.iload_n 1, 1) := by decide +kernel
theorem dX4_isLit_28 : decode cX4_isLit 28 = .ok (.invokevirtual 43, 3) := by decide +kernel
theorem dX4_isLit_31 : decode cX4_isLit 31 = .ok (.ireturn, 1) := by decide +kernel
theorem dX4_isLit_32 : decode cX4_isLit 32 = .ok (.iconst 0, 1) := by decide +kernel
theorem dX4_isLit_33 : decode cX4_isLit 33 = .ok (.istore_n 3, 1) := by decide +kernel
theorem dX4_isLit_34 : decode cX4_isLit 34 = .ok (.iload_n 3, 1) := by decide +kernel
theorem dX4_isLit_35 : decode cX4_isLit 35 = .ok (.iconst 3, 1) := by decide +kernel
theorem dX4_isLit_36 : decode cX4_isLit 36 = .ok (.if_icmp .ge 28, 3) := by decide +kernel
theorem dX4_isLit_39 : decode cX4_isLit 39 = .ok (.aload_n 0, 1) := by decide +kernel
theorem dX4_isLit_40 : decode cX4_isLit 40 = .ok (.iload_n 3, 1) := by decide +kernel
theorem dX4_isLit_41 : decode cX4_isLit 41 = .ok (.iload_n 2, 1) := by decide +kernel
theorem dX4_isLit_42 : decode cX4_isLit 42 = .ok (.invokevirtual 47, 3) := by decide +kernel
theorem dX4_isLit_45 : decode cX4_isLit 45 = .ok (.ifCond .eq 13, 3) := by decide +kernel
theorem dX4_isLit_48 : decode cX4_isLit 48 = .ok (.aload_n 0, 1) := by decide +kernel
theorem dX4_isLit_49 : decode cX4_isLit 49 = .ok (.iload_n 1, 1) := by decide +kernel
theorem dX4_isLit_50 : decode cX4_isLit 50 = .ok (.invokevirtual 50, 3) := by decide +kernel
theorem dX4_isLit_53 : decode cX4_isLit 53 = .ok (.ifCond .eq 5, 3) := by decide +kernel
theorem dX4_isLit_56 : decode cX4_isLit 56 = .ok (.iconst 1, 1) := by decide +kernel
theorem dX4_isLit_57 : decode cX4_isLit 57 = .ok (.ireturn, 1) := by decide +kernel
theorem dX4_isLit_58 : decode cX4_isLit 58 = .ok (.iinc 3 1, 3) := by decide +kernel
theorem dX4_isLit_61 : decode cX4_isLit 61 = .ok (.goto (-27), 3) := by decide +kernel
theorem dX4_isLit_64 : decode cX4_isLit 64 = .ok (.iconst 0, 1) := by decide +kernel
theorem dX4_isLit_65 : decode cX4_isLit 65 = .ok (.ireturn, 1) := by decide +kernel
def bs_X4_firstLit : List (List Cond) := [[.code yX4_firstLit cX4_firstLit 5 (some .int)], wsX4_firstLit_r1, wsX4_firstLit_r2, wsX4_firstLit_r3, wsX40, wsX00, wsX60, wsX50]
theorem bi_X4_firstLit : ∀ w ∈ bs_X4_firstLit.flatten, w ∈ wsX4_firstLit := by
  have h : bs_X4_firstLit.flatten = wsX4_firstLit := by simp only [bs_X4_firstLit, wsX4_firstLit, List.flatten_cons, List.flatten_nil, List.append_assoc, List.append_nil, List.nil_append, List.cons_append]
  intro w hw; rw [h] at hw; exact hw
set_option maxRecDepth 20000 in
theorem ggX4_firstLit_X4_isLit : GoodIn wsX4_firstLit wsX4_isLit := goodIn_bb bs_X4_firstLit bi_X4_firstLit _ [(1, 4), (1, 5), (1, 6), (1, 7), (1, 8), (1, 9), (1, 10), (1, 11), (1, 12), (1, 13), (1, 14), (1, 15), (1, 16), (1, 17), (1, 18), (1, 19), (1, 3), (1, 20), (1, 21), (1, 22), (1, 23), (2, 0), (2, 1), (2, 2), (2, 3), (2, 4), (2, 5), (2, 6), (2, 7), (2, 8), (2, 9), (2, 10), (2, 11), (2, 12), (2, 13), (2, 14), (2, 15), (2, 16), (2, 17), (2, 18), (2, 19), (2, 20), (2, 21), (2, 22), (2, 23), (3, 0), (3, 1), (3, 2), (3, 3), (3, 4), (4, 0), (4, 1), (4, 2), (4, 3), (4, 4), (4, 5), (4, 6), (4, 7), (5, 0), (6, 0), (6, 1), (6, 2), (6, 3), (6, 4), (6, 5), (7, 0), (7, 1), (7, 2), (7, 3)] rfl (by decide +kernel)
set_option maxRecDepth 20000 in
theorem gX4_firstLit_X4_isLit : GoodIn wsX4_firstLit (wsV RX4 54 RX4 yX4_isLit wsX4_isLit) := goodIn_app (goodIn_bb bs_X4_firstLit bi_X4_firstLit _ [(1, 0), (1, 1), (1, 2), (1, 3)] rfl (by decide +kernel)) ggX4_firstLit_X4_isLit
theorem dX4_firstLit_0 : decode cX4_firstLit 0 = .ok (.iload_n 2, 1) := by decide +kernel
theorem dX4_firstLit_1 : decode cX4_firstLit 1 = .ok (.istore 4, 2) := by decide +kernel
theorem dX4_firstLit_3 : decode cX4_firstLit 3 = .ok (.iload 4, 2) := by decide +kernel
theorem dX4_firstLit_5 : decode cX4_firstLit 5 = .ok (.iload_n 3, 1) := by decide +kernel
theorem dX4_firstLit_6 : decode cX4_firstLit 6 = .ok (.if_icmp .gt 22, 3) := by decide +kernel
theorem dX4_firstLit_9 : decode cX4_firstLit 9 = .ok (.aload_n 0, 1) := by decide +kernel
theorem dX4_firstLit_10 : decode cX4_firstLit 10 = .ok (.iload_n 1, 1) := by decide +kernel
theorem dX4_firstLit_11 : decode cX4_firstLit 11 = .ok (.iload 4, 2) := by decide +kernel
theorem dX4_firstLit_13 : decode cX4_firstLit 13 = .ok (.invokevirtual 54, 3) := by decide +kernel
theorem dX4_firstLit_16 : decode cX4_firstLit 16 = .ok (.ifCond .eq 6, 3) := by decide +kernel
theorem dX4_firstLit_19 : decode cX4_firstLit 19 = .ok (.iload 4, 2) := by decide +kernel
theorem dX4_firstLit_21 : decode cX4_firstLit 21 = .ok (.ireturn, 1) := by decide +kernel
theorem dX4_firstLit_22 : decode cX4_firstLit 22 = .ok (.iinc 4 1, 3) := by decide +kernel
theorem dX4_firstLit_25 : decode cX4_firstLit 25 = .ok (.goto (-22), 3) := by decide +kernel
theorem dX4_firstLit_28 : decode cX4_firstLit 28 = .ok (.bipush (-9), 2) := by decide +kernel
theorem dX4_firstLit_30 : decode cX4_firstLit 30 = .ok (.ireturn, 1) := by decide +kernel
def bs_X4_countLit : List (List Cond) := [[.code yX4_countLit cX4_countLit 2 (some .int)], wsX4_countLit_r1, wsX4_countLit_r2, wsX4_countLit_r3, wsX40, wsX00, wsX60, wsX50]
theorem bi_X4_countLit : ∀ w ∈ bs_X4_countLit.flatten, w ∈ wsX4_countLit := by
  have h : bs_X4_countLit.flatten = wsX4_countLit := by simp only [bs_X4_countLit, wsX4_countLit, List.flatten_cons, List.flatten_nil, List.append_assoc, List.append_nil, List.nil_append, List.cons_append]
  intro w hw; rw [h] at hw; exact hw
set_option maxRecDepth 20000 in
theorem ggX4_countLit_X4_draw : GoodIn wsX4_countLit wsX4_draw := goodIn_bb bs_X4_countLit bi_X4_countLit _ [(1, 5), (1, 6), (1, 0), (1, 7), (1, 8), (1, 9), (1, 10), (1, 11), (1, 12), (1, 13), (1, 14), (1, 15), (1, 16), (1, 17), (1, 18), (1, 19), (1, 4), (1, 20), (1, 21), (1, 22), (1, 23), (2, 0), (2, 1), (2, 2), (2, 3), (2, 4), (2, 5), (2, 6), (2, 7), (2, 8), (2, 9), (2, 10), (2, 11), (2, 12), (2, 13), (2, 14), (2, 15), (2, 16), (2, 17), (2, 18), (2, 19), (2, 20), (2, 21), (2, 22), (2, 23), (3, 0), (3, 1), (3, 2), (3, 3), (3, 4), (3, 5), (3, 6), (3, 7), (3, 8), (4, 0), (4, 1), (4, 2), (4, 3), (4, 4), (4, 5), (4, 6), (4, 7), (5, 0), (6, 0), (6, 1), (6, 2), (6, 3), (6, 4), (6, 5), (7, 0), (7, 1), (7, 2), (7, 3)] rfl (by decide +kernel)
set_option maxRecDepth 20000 in
theorem gX4_countLit_X4_draw : GoodIn wsX4_countLit (wsV RX4 57 RX4 yX4_draw wsX4_draw) := goodIn_app (goodIn_bb bs_X4_countLit bi_X4_countLit _ [(1, 1), (1, 2), (1, 3), (1, 4)] rfl (by decide +kernel)) ggX4_countLit_X4_draw
set_option maxRecDepth 20000 in
theorem ggX4_countLit_X0_size : GoodIn wsX4_countLit wsX0_size := goodIn_bb bs_X4_countLit bi_X4_countLit _ [(3, 12), (3, 13), (3, 14), (3, 15), (1, 10), (3, 16), (1, 12), (3, 17), (3, 18), (3, 19), (3, 20), (3, 21), (3, 22), (3, 23), (5, 0)] rfl (by decide +kernel)
set_option maxRecDepth 20000 in
theorem gX4_countLit_X0_size : GoodIn wsX4_countLit (wsV RX4 60 RX0 yX0_size wsX0_size) := goodIn_app (goodIn_bb bs_X4_countLit bi_X4_countLit _ [(3, 9), (3, 10), (3, 11), (1, 10)] rfl (by decide +kernel)) ggX4_countLit_X0_size
theorem dX4_countLit_0 : decode cX4_countLit 0 = .ok (.aload_n 0, 1) := by decide +kernel
theorem dX4_countLit_1 : decode cX4_countLit 1 = .ok (.iload_n 1, 1) := by decide +kernel
theorem dX4_countLit_2 : decode cX4_countLit 2 = .ok (.invokevirtual 57, 3) := by decide +kernel
theorem dX4_countLit_5 : decode cX4_countLit 5 = .ok (.aload_n 0, 1) := by decide +kernel
theorem dX4_countLit_6 : decode cX4_countLit 6 = .ok (.getfield 23, 3) := by decide +kernel
theorem dX4_countLit_9 : decode cX4_countLit 9 = .ok (.iload_n 1, 1) := by decide +kernel
theorem dX4_countLit_10 : decode cX4_countLit 10 = .ok (.invokevirtual 60, 3) := by decide +kernel
theorem dX4_countLit_13 : decode cX4_countLit 13 = .ok (.ireturn, 1) := by decide +kernel
def bs_X4_draw : List (List Cond) := [[.code yX4_draw cX4_draw 4 none], wsX4_draw_r1, wsX4_draw_r2, wsX4_draw_r3, wsX40, wsX00, wsX60, wsX50]
theorem bi_X4_draw : ∀ w ∈ bs_X4_draw.flatten, w ∈ wsX4_draw := by
  have h : bs_X4_draw.flatten = wsX4_draw := by simp only [bs_X4_draw, wsX4_draw, List.flatten_cons, List.flatten_nil, List.append_assoc, List.append_nil, List.nil_append, List.cons_append]
  intro w hw; rw [h] at hw; exact hw
set_option maxRecDepth 20000 in
theorem ggX4_draw_X0_clear : GoodIn wsX4_draw wsX0_clear := goodIn_bb bs_X4_draw bi_X4_draw _ [(1, 6), (1, 7), (1, 8), (1, 9), (1, 10), (1, 5), (1, 11), (5, 0)] rfl (by decide +kernel)
set_option maxRecDepth 20000 in
theorem gX4_draw_X0_clear : GoodIn wsX4_draw (wsV RX4 64 RX0 yX0_clear wsX0_clear) := goodIn_app (goodIn_bb bs_X4_draw bi_X4_draw _ [(1, 2), (1, 3), (1, 4), (1, 5)] rfl (by decide +kernel)) ggX4_draw_X0_clear
set_option maxRecDepth 20000 in
theorem ggX4_draw_X4_aim : GoodIn wsX4_draw wsX4_aim := goodIn_bb bs_X4_draw bi_X4_draw _ [(1, 16), (1, 17), (1, 18), (1, 19), (1, 20), (1, 21), (1, 22), (1, 23), (2, 0), (2, 1), (2, 2), (2, 3), (2, 4), (2, 5), (2, 6), (2, 7), (4, 0), (4, 1), (4, 2), (4, 3), (4, 4), (4, 5), (4, 6), (4, 7), (6, 0), (6, 1), (6, 2), (6, 3), (6, 4), (6, 5)] rfl (by decide +kernel)
set_option maxRecDepth 20000 in
theorem gX4_draw_X4_aim : GoodIn wsX4_draw (wsV RX4 47 RX4 yX4_aim wsX4_aim) := goodIn_app (goodIn_bb bs_X4_draw bi_X4_draw _ [(1, 12), (1, 13), (1, 14), (1, 15)] rfl (by decide +kernel)) ggX4_draw_X4_aim
set_option maxRecDepth 20000 in
theorem ggX4_draw_X4_hits : GoodIn wsX4_draw wsX4_hits := goodIn_bb bs_X4_draw bi_X4_draw _ [(2, 11), (2, 12), (1, 18), (1, 19), (1, 20), (2, 13), (1, 21), (2, 14), (2, 15), (2, 16), (2, 17), (2, 18), (2, 19), (2, 20), (2, 21), (2, 22), (2, 23), (3, 0), (4, 0), (4, 1), (4, 2), (4, 3), (4, 4), (4, 5), (4, 6), (4, 7), (7, 0), (7, 1), (7, 2), (7, 3)] rfl (by decide +kernel)
set_option maxRecDepth 20000 in
theorem gX4_draw_X4_hits : GoodIn wsX4_draw (wsV RX4 50 RX4 yX4_hits wsX4_hits) := goodIn_app (goodIn_bb bs_X4_draw bi_X4_draw _ [(2, 8), (2, 9), (2, 10), (1, 15)] rfl (by decide +kernel)) ggX4_draw_X4_hits
set_option maxRecDepth 20000 in
theorem ggX4_draw_X0_add : GoodIn wsX4_draw wsX0_add := goodIn_bb bs_X4_draw bi_X4_draw _ [(3, 4), (1, 7), (5, 0)] rfl (by decide +kernel)
set_option maxRecDepth 20000 in
theorem gX4_draw_X0_add : GoodIn wsX4_draw (wsV RX4 67 RX0 yX0_add wsX0_add) := goodIn_app (goodIn_bb bs_X4_draw bi_X4_draw _ [(3, 1), (3, 2), (3, 3), (1, 5)] rfl (by decide +kernel)) ggX4_draw_X0_add
theorem dX4_draw_0 : decode cX4_draw 0 = .ok (.iload_n 1, 1) := by decide +kernel
theorem dX4_draw_1 : decode cX4_draw 1 = .ok (.ifCond .lt 21, 3) := by decide +kernel
theorem dX4_draw_4 : decode cX4_draw 4 = .ok (.iload_n 1, 1) := by decide +kernel
theorem dX4_draw_5 : decode cX4_draw 5 = .ok (.aload_n 0, 1) := by decide +kernel
theorem dX4_draw_6 : decode cX4_draw 6 = .ok (.getfield 27, 3) := by decide +kernel
theorem dX4_draw_9 : decode cX4_draw 9 = .ok (.arraylength, 1) := by decide +kernel
theorem dX4_draw_10 : decode cX4_draw 10 = .ok (.if_icmp .ge 12, 3) := by decide +kernel
theorem dX4_draw_13 : decode cX4_draw 13 = .ok (.aload_n 0, 1) := by decide +kernel
theorem dX4_draw_14 : decode cX4_draw 14 = .ok (.getfield 27, 3) := by decide +kernel
theorem dX4_draw_17 : decode cX4_draw 17 = .ok (.iload_n 1, 1) := by decide +kernel
theorem dX4_draw_18 : decode cX4_draw 18 = .ok (.baload, 1) := by decide +kernel
theorem dX4_draw_19 : decode cX4_draw 19 = .ok (.ifCond .eq 4, 3) := by decide +kernel
theorem dX4_draw_22 : decode cX4_draw 22 = .ok (.return_, 1) := by decide +kernel
theorem dX4_draw_23 : decode cX4_draw 23 = .ok (.aload_n 0, 1) := by decide +kernel
theorem dX4_draw_24 : decode cX4_draw 24 = .ok (.getfield 27, 3) := by decide +kernel
theorem dX4_draw_27 : decode cX4_draw 27 = .ok (.iload_n 1, 1) := by decide +kernel
theorem dX4_draw_28 : decode cX4_draw 28 = .ok (.iconst 1, 1) := by decide +kernel
theorem dX4_draw_29 : decode cX4_draw 29 = .ok (.bastore, 1) := by decide +kernel
theorem dX4_draw_30 : decode cX4_draw 30 = .ok (.aload_n 0, 1) := by decide +kernel
theorem dX4_draw_31 : decode cX4_draw 31 = .ok (.getfield 23, 3) := by decide +kernel
theorem dX4_draw_34 : decode cX4_draw 34 = .ok (.iload_n 1, 1) := by decide +kernel
theorem dX4_draw_35 : decode cX4_draw 35 = .ok (.invokevirtual 64, 3) := by decide +kernel
theorem dX4_draw_38 : decode cX4_draw 38 = .ok (.iconst 0, 1) := by decide +kernel
theorem dX4_draw_39 : decode cX4_draw 39 = .ok (.istore_n 2, 1) := by decide +kernel
theorem dX4_draw_40 : decode cX4_draw 40 = .ok (.iload_n 2, 1) := by decide +kernel
theorem dX4_draw_41 : decode cX4_draw 41 = .ok (.iconst 3, 1) := by decide +kernel
theorem dX4_draw_42 : decode cX4_draw 42 = .ok (.if_icmp .ge 50, 3) := by decide +kernel
theorem dX4_draw_45 : decode cX4_draw 45 = .ok (.aload_n 0, 1) := by decide +kernel
theorem dX4_draw_46 : decode cX4_draw 46 = .ok (.iload_n 2, 1) := by decide +kernel
theorem dX4_draw_47 : decode cX4_draw 47 = .ok (.iload_n 1, 1) := by decide +kernel
theorem dX4_draw_48 : decode cX4_draw 48 = .ok (.invokevirtual 47, 3) := by decide +kernel
theorem dX4_draw_51 : decode cX4_draw 51 = .ok (.ifCond .eq 35, 3) := by decide +kernel
theorem dX4_draw_54 : decode cX4_draw 54 = .ok (.iconst 0, 1) := by decide +kernel
theorem dX4_draw_55 : decode cX4_draw 55 = .ok (.istore_n 3, 1) := by decide +kernel
theorem dX4_draw_56 : decode cX4_draw 56 = .ok (.iload_n 3, 1) := by decide +kernel
theorem dX4_draw_57 : decode cX4_draw 57 = .ok (.sipush 150, 3) := by decide +kernel
theorem dX4_draw_60 : decode cX4_draw 60 = .ok (.if_icmp .ge 26, 3) := by decide +kernel
theorem dX4_draw_63 : decode cX4_draw 63 = .ok (.aload_n 0, 1) := by decide +kernel
theorem dX4_draw_64 : decode cX4_draw 64 = .ok (.iload_n 3, 1) := by decide +kernel
theorem dX4_draw_65 : decode cX4_draw 65 = .ok (.invokevirtual 50, 3) := by decide +kernel
theorem dX4_draw_68 : decode cX4_draw 68 = .ok (.ifCond .eq 12, 3) := by decide +kernel
theorem dX4_draw_71 : decode cX4_draw 71 = .ok (.aload_n 0, 1) := by decide +kernel
theorem dX4_draw_72 : decode cX4_draw 72 = .ok (.getfield 23, 3) := by decide +kernel
theorem dX4_draw_75 : decode cX4_draw 75 = .ok (.iload_n 1, 1) := by decide +kernel
theorem dX4_draw_76 : decode cX4_draw 76 = .ok (.iload_n 3, 1) := by decide +kernel
theorem dX4_draw_77 : decode cX4_draw 77 = .ok (.invokevirtual 67, 3) := by decide +kernel
theorem dX4_draw_80 : decode cX4_draw 80 = .ok (.iinc 3 1, 3) := by decide +kernel
theorem dX4_draw_83 : decode cX4_draw 83 = .ok (.goto (-27), 3) := by decide +kernel
theorem dX4_draw_86 : decode cX4_draw 86 = .ok (.iinc 2 1, 3) := by decide +kernel
theorem dX4_draw_89 : decode cX4_draw 89 = .ok (.goto (-49), 3) := by decide +kernel
theorem dX4_draw_92 : decode cX4_draw 92 = .ok (.return_, 1) := by decide +kernel
def bs_X4_aim : List (List Cond) := [[.code yX4_aim cX4_aim 5 (some .boolean)], [.fieldLink RX4 12 "SlewPlanner$Sky" "shown" "LSlewPlanner$State;", .fieldLink RX4 79 "SlewPlanner$Sky" "aimX" "I", .fieldLink RX4 83 "SlewPlanner$Sky" "aimY" "I", .fieldLink RX4 86 "SlewPlanner$Sky" "aimZ" "I", .fieldLink RX4 89 "SlewPlanner$Sky" "limit" "J", .methodLink RX4 71 yX6_ofObject, .instanceMethod yX6_ofObject, .selects RX6 yX6_ofObject yX6_ofObject, .initialized RX6, .code yX6_ofObject cX6_ofObject 4 (some .int), .fieldLink RX6 9 "SlewPlanner$State" "objects" "[I", .methodLink RX4 75 yX6_aimOf, .instanceMethod yX6_aimOf, .selects RX6 yX6_aimOf yX6_aimOf, .code yX6_aimOf cX6_aimOf 5 (some .int)], wsX40, wsX60]
theorem bi_X4_aim : ∀ w ∈ bs_X4_aim.flatten, w ∈ wsX4_aim := by
  have h : bs_X4_aim.flatten = wsX4_aim := by simp only [bs_X4_aim, wsX4_aim, List.flatten_cons, List.flatten_nil, List.append_assoc, List.append_nil, List.nil_append, List.cons_append]
  intro w hw; rw [h] at hw; exact hw
set_option maxRecDepth 20000 in
theorem ggX4_aim_X6_ofObject : GoodIn wsX4_aim wsX6_ofObject := goodIn_bb bs_X4_aim bi_X4_aim _ [(1, 9), (1, 10), (3, 0), (3, 1), (3, 2), (3, 3), (3, 4), (3, 5)] rfl (by decide +kernel)
set_option maxRecDepth 20000 in
theorem gX4_aim_X6_ofObject : GoodIn wsX4_aim (wsV RX4 71 RX6 yX6_ofObject wsX6_ofObject) := goodIn_app (goodIn_bb bs_X4_aim bi_X4_aim _ [(1, 5), (1, 6), (1, 7), (1, 8)] rfl (by decide +kernel)) ggX4_aim_X6_ofObject
set_option maxRecDepth 20000 in
theorem ggX4_aim_X6_aimOf : GoodIn wsX4_aim wsX6_aimOf := goodIn_bb bs_X4_aim bi_X4_aim _ [(1, 14), (1, 10), (3, 0), (3, 1), (3, 2), (3, 3), (3, 4), (3, 5)] rfl (by decide +kernel)
set_option maxRecDepth 20000 in
theorem gX4_aim_X6_aimOf : GoodIn wsX4_aim (wsV RX4 75 RX6 yX6_aimOf wsX6_aimOf) := goodIn_app (goodIn_bb bs_X4_aim bi_X4_aim _ [(1, 11), (1, 12), (1, 13), (1, 8)] rfl (by decide +kernel)) ggX4_aim_X6_aimOf
theorem dX4_aim_0 : decode cX4_aim 0 = .ok (.aload_n 0, 1) := by decide +kernel
theorem dX4_aim_1 : decode cX4_aim 1 = .ok (.getfield 12, 3) := by decide +kernel
theorem dX4_aim_4 : decode cX4_aim 4 = .ok (.iload_n 1, 1) := by decide +kernel
theorem dX4_aim_5 : decode cX4_aim 5 = .ok (.bipush 6, 2) := by decide +kernel
theorem dX4_aim_7 : decode cX4_aim 7 = .ok (.invokevirtual 71, 3) := by decide +kernel
theorem dX4_aim_10 : decode cX4_aim 10 = .ok (.i2l, 1) := by decide +kernel
theorem dX4_aim_11 : decode cX4_aim 11 = .ok (.lstore_n 3, 1) := by decide +kernel
theorem dX4_aim_12 : decode cX4_aim 12 = .ok (.aload_n 0, 1) := by decide +kernel
theorem dX4_aim_13 : decode cX4_aim 13 = .ok (.aload_n 0, 1) := by decide +kernel
theorem dX4_aim_14 : decode cX4_aim 14 = .ok (.getfield 12, 3) := by decide +kernel
theorem dX4_aim_17 : decode cX4_aim 17 = .ok (.iload_n 1, 1) := by decide +kernel
theorem dX4_aim_18 : decode cX4_aim 18 = .ok (.iconst 0, 1) := by decide +kernel
theorem dX4_aim_19 : decode cX4_aim 19 = .ok (.iload_n 2, 1) := by decide +kernel
theorem dX4_aim_20 : decode cX4_aim 20 = .ok (.invokevirtual 75, 3) := by decide +kernel
theorem dX4_aim_23 : decode cX4_aim 23 = .ok (.putfield 79, 3) := by decide +kernel
theorem dX4_aim_26 : decode cX4_aim 26 = .ok (.aload_n 0, 1) := by decide +kernel
theorem dX4_aim_27 : decode cX4_aim 27 = .ok (.aload_n 0, 1) := by decide +kernel
theorem dX4_aim_28 : decode cX4_aim 28 = .ok (.getfield 12, 3) := by decide +kernel
theorem dX4_aim_31 : decode cX4_aim 31 = .ok (.iload_n 1, 1) := by decide +kernel
theorem dX4_aim_32 : decode cX4_aim 32 = .ok (.iconst 1, 1) := by decide +kernel
theorem dX4_aim_33 : decode cX4_aim 33 = .ok (.iload_n 2, 1) := by decide +kernel
theorem dX4_aim_34 : decode cX4_aim 34 = .ok (.invokevirtual 75, 3) := by decide +kernel
theorem dX4_aim_37 : decode cX4_aim 37 = .ok (.putfield 83, 3) := by decide +kernel
theorem dX4_aim_40 : decode cX4_aim 40 = .ok (.aload_n 0, 1) := by decide +kernel
theorem dX4_aim_41 : decode cX4_aim 41 = .ok (.aload_n 0, 1) := by decide +kernel
theorem dX4_aim_42 : decode cX4_aim 42 = .ok (.getfield 12, 3) := by decide +kernel
theorem dX4_aim_45 : decode cX4_aim 45 = .ok (.iload_n 1, 1) := by decide +kernel
theorem dX4_aim_46 : decode cX4_aim 46 = .ok (.iconst 2, 1) := by decide +kernel
theorem dX4_aim_47 : decode cX4_aim 47 = .ok (.iload_n 2, 1) := by decide +kernel
theorem dX4_aim_48 : decode cX4_aim 48 = .ok (.invokevirtual 75, 3) := by decide +kernel
theorem dX4_aim_51 : decode cX4_aim 51 = .ok (.putfield 86, 3) := by decide +kernel
theorem dX4_aim_54 : decode cX4_aim 54 = .ok (.aload_n 0, 1) := by decide +kernel
theorem dX4_aim_55 : decode cX4_aim 55 = .ok (.lload_n 3, 1) := by decide +kernel
theorem dX4_aim_56 : decode cX4_aim 56 = .ok (.lload_n 3, 1) := by decide +kernel
theorem dX4_aim_57 : decode cX4_aim 57 = .ok (.lmul, 1) := by decide +kernel
theorem dX4_aim_58 : decode cX4_aim 58 = .ok (.aload_n 0, 1) := by decide +kernel
theorem dX4_aim_59 : decode cX4_aim 59 = .ok (.getfield 79, 3) := by decide +kernel
theorem dX4_aim_62 : decode cX4_aim 62 = .ok (.aload_n 0, 1) := by decide +kernel
theorem dX4_aim_63 : decode cX4_aim 63 = .ok (.getfield 79, 3) := by decide +kernel
theorem dX4_aim_66 : decode cX4_aim 66 = .ok (.imul, 1) := by decide +kernel
theorem dX4_aim_67 : decode cX4_aim 67 = .ok (.aload_n 0, 1) := by decide +kernel
theorem dX4_aim_68 : decode cX4_aim 68 = .ok (.getfield 83, 3) := by decide +kernel
theorem dX4_aim_71 : decode cX4_aim 71 = .ok (.aload_n 0, 1) := by decide +kernel
theorem dX4_aim_72 : decode cX4_aim 72 = .ok (.getfield 83, 3) := by decide +kernel
theorem dX4_aim_75 : decode cX4_aim 75 = .ok (.imul, 1) := by decide +kernel
theorem dX4_aim_76 : decode cX4_aim 76 = .ok (.iadd, 1) := by decide +kernel
theorem dX4_aim_77 : decode cX4_aim 77 = .ok (.aload_n 0, 1) := by decide +kernel
theorem dX4_aim_78 : decode cX4_aim 78 = .ok (.getfield 86, 3) := by decide +kernel
theorem dX4_aim_81 : decode cX4_aim 81 = .ok (.aload_n 0, 1) := by decide +kernel
theorem dX4_aim_82 : decode cX4_aim 82 = .ok (.getfield 86, 3) := by decide +kernel
theorem dX4_aim_85 : decode cX4_aim 85 = .ok (.imul, 1) := by decide +kernel
theorem dX4_aim_86 : decode cX4_aim 86 = .ok (.iadd, 1) := by decide +kernel
theorem dX4_aim_87 : decode cX4_aim 87 = .ok (.i2l, 1) := by decide +kernel
theorem dX4_aim_88 : decode cX4_aim 88 = .ok (.lmul, 1) := by decide +kernel
theorem dX4_aim_89 : decode cX4_aim 89 = .ok (.putfield 89, 3) := by decide +kernel
theorem dX4_aim_92 : decode cX4_aim 92 = .ok (.lload_n 3, 1) := by decide +kernel
theorem dX4_aim_93 : decode cX4_aim 93 = .ok (.lconst 0, 1) := by decide +kernel
theorem dX4_aim_94 : decode cX4_aim 94 = .ok (.lcmp, 1) := by decide +kernel
theorem dX4_aim_95 : decode cX4_aim 95 = .ok (.ifCond .eq 7, 3) := by decide +kernel
theorem dX4_aim_98 : decode cX4_aim 98 = .ok (.iconst 1, 1) := by decide +kernel
theorem dX4_aim_99 : decode cX4_aim 99 = .ok (.goto 4, 3) := by decide +kernel
theorem dX4_aim_102 : decode cX4_aim 102 = .ok (.iconst 0, 1) := by decide +kernel
theorem dX4_aim_103 : decode cX4_aim 103 = .ok (.ireturn, 1) := by decide +kernel
def bs_X4_hits : List (List Cond) := [[.code yX4_hits cX4_hits 4 (some .boolean)], [.fieldLink RX4 31 "SlewPlanner$Sky" "sphere" "LSlewPlanner$Sphere;", .fieldLink RX4 79 "SlewPlanner$Sky" "aimX" "I", .fieldLink RX4 83 "SlewPlanner$Sky" "aimY" "I", .fieldLink RX4 86 "SlewPlanner$Sky" "aimZ" "I", .constantLong RX4 99 (10000), .fieldLink RX4 89 "SlewPlanner$Sky" "limit" "J", .methodLink RX4 93 yX5_scalar, .instanceMethod yX5_scalar, .selects RX5 yX5_scalar yX5_scalar, .initialized RX5, .code yX5_scalar cX5_scalar 6 (some .int), .fieldLink RX5 20 "SlewPlanner$Sphere" "vectors" "[I", .methodLink RX4 101 yX5_square, .instanceMethod yX5_square, .selects RX5 yX5_square yX5_square, .code yX5_square cX5_square 2 (some .int), .fieldLink RX5 24 "SlewPlanner$Sphere" "squares" "[I"], wsX40, wsX50]
theorem bi_X4_hits : ∀ w ∈ bs_X4_hits.flatten, w ∈ wsX4_hits := by
  have h : bs_X4_hits.flatten = wsX4_hits := by simp only [bs_X4_hits, wsX4_hits, List.flatten_cons, List.flatten_nil, List.append_assoc, List.append_nil, List.nil_append, List.cons_append]
  intro w hw; rw [h] at hw; exact hw
set_option maxRecDepth 20000 in
theorem ggX4_hits_X5_scalar : GoodIn wsX4_hits wsX5_scalar := goodIn_bb bs_X4_hits bi_X4_hits _ [(1, 10), (1, 11), (3, 0), (3, 1), (3, 2), (3, 3)] rfl (by decide +kernel)
set_option maxRecDepth 20000 in
theorem gX4_hits_X5_scalar : GoodIn wsX4_hits (wsV RX4 93 RX5 yX5_scalar wsX5_scalar) := goodIn_app (goodIn_bb bs_X4_hits bi_X4_hits _ [(1, 6), (1, 7), (1, 8), (1, 9)] rfl (by decide +kernel)) ggX4_hits_X5_scalar
set_option maxRecDepth 20000 in
theorem ggX4_hits_X5_square : GoodIn wsX4_hits wsX5_square := goodIn_bb bs_X4_hits bi_X4_hits _ [(1, 15), (1, 16), (3, 0), (3, 1), (3, 2), (3, 3)] rfl (by decide +kernel)
set_option maxRecDepth 20000 in
theorem gX4_hits_X5_square : GoodIn wsX4_hits (wsV RX4 101 RX5 yX5_square wsX5_square) := goodIn_app (goodIn_bb bs_X4_hits bi_X4_hits _ [(1, 12), (1, 13), (1, 14), (1, 9)] rfl (by decide +kernel)) ggX4_hits_X5_square
theorem dX4_hits_0 : decode cX4_hits 0 = .ok (.aload_n 0, 1) := by decide +kernel
theorem dX4_hits_1 : decode cX4_hits 1 = .ok (.getfield 31, 3) := by decide +kernel
theorem dX4_hits_4 : decode cX4_hits 4 = .ok (.iload_n 1, 1) := by decide +kernel
theorem dX4_hits_5 : decode cX4_hits 5 = .ok (.aload_n 0, 1) := by decide +kernel
theorem dX4_hits_6 : decode cX4_hits 6 = .ok (.getfield 79, 3) := by decide +kernel
theorem dX4_hits_9 : decode cX4_hits 9 = .ok (.aload_n 0, 1) := by decide +kernel
theorem dX4_hits_10 : decode cX4_hits 10 = .ok (.getfield 83, 3) := by decide +kernel
theorem dX4_hits_13 : decode cX4_hits 13 = .ok (.aload_n 0, 1) := by decide +kernel
theorem dX4_hits_14 : decode cX4_hits 14 = .ok (.getfield 86, 3) := by decide +kernel
theorem dX4_hits_17 : decode cX4_hits 17 = .ok (.invokevirtual 93, 3) := by decide +kernel
theorem dX4_hits_20 : decode cX4_hits 20 = .ok (.i2l, 1) := by decide +kernel
theorem dX4_hits_21 : decode cX4_hits 21 = .ok (.lstore_n 2, 1) := by decide +kernel
theorem dX4_hits_22 : decode cX4_hits 22 = .ok (.lload_n 2, 1) := by decide +kernel
theorem dX4_hits_23 : decode cX4_hits 23 = .ok (.lconst 0, 1) := by decide +kernel
theorem dX4_hits_24 : decode cX4_hits 24 = .ok (.lcmp, 1) := by decide +kernel
theorem dX4_hits_25 : decode cX4_hits 25 = .ok (.ifCond .le 32, 3) := by decide +kernel
theorem dX4_hits_28 : decode cX4_hits 28 = .ok (.ldc2_w 99, 3) := by decide +kernel
theorem dX4_hits_31 : decode cX4_hits 31 = .ok (.lload_n 2, 1) := by decide +kernel
theorem dX4_hits_32 : decode cX4_hits 32 = .ok (.lmul, 1) := by decide +kernel
theorem dX4_hits_33 : decode cX4_hits 33 = .ok (.lload_n 2, 1) := by decide +kernel
theorem dX4_hits_34 : decode cX4_hits 34 = .ok (.lmul, 1) := by decide +kernel
theorem dX4_hits_35 : decode cX4_hits 35 = .ok (.aload_n 0, 1) := by decide +kernel
theorem dX4_hits_36 : decode cX4_hits 36 = .ok (.getfield 89, 3) := by decide +kernel
theorem dX4_hits_39 : decode cX4_hits 39 = .ok (.aload_n 0, 1) := by decide +kernel
theorem dX4_hits_40 : decode cX4_hits 40 = .ok (.getfield 31, 3) := by decide +kernel
theorem dX4_hits_43 : decode cX4_hits 43 = .ok (.iload_n 1, 1) := by decide +kernel
theorem dX4_hits_44 : decode cX4_hits 44 = .ok (.invokevirtual 101, 3) := by decide +kernel
theorem dX4_hits_47 : decode cX4_hits 47 = .ok (.i2l, 1) := by decide +kernel
theorem dX4_hits_48 : decode cX4_hits 48 = .ok (.lmul, 1) := by decide +kernel
theorem dX4_hits_49 : decode cX4_hits 49 = .ok (.lcmp, 1) := by decide +kernel
theorem dX4_hits_50 : decode cX4_hits 50 = .ok (.ifCond .le 7, 3) := by decide +kernel
theorem dX4_hits_53 : decode cX4_hits 53 = .ok (.iconst 1, 1) := by decide +kernel
theorem dX4_hits_54 : decode cX4_hits 54 = .ok (.goto 4, 3) := by decide +kernel
theorem dX4_hits_57 : decode cX4_hits 57 = .ok (.iconst 0, 1) := by decide +kernel
theorem dX4_hits_58 : decode cX4_hits 58 = .ok (.ireturn, 1) := by decide +kernel
def bs_X5_init : List (List Cond) := [[.code yX5_init cX5_init 1 none], wsX5_init_r1, wsX5_init_r2, wsX5_init_r3, wsX00, wsX50]
theorem bi_X5_init : ∀ w ∈ bs_X5_init.flatten, w ∈ wsX5_init := by
  have h : bs_X5_init.flatten = wsX5_init := by simp only [bs_X5_init, wsX5_init, List.flatten_cons, List.flatten_nil, List.append_assoc, List.append_nil, List.nil_append, List.cons_append]
  intro w hw; rw [h] at hw; exact hw
set_option maxRecDepth 20000 in
theorem ggX5_init_X0_init : GoodIn wsX5_init wsX0_init := goodIn_bb bs_X5_init bi_X5_init _ [(1, 13), (1, 14), (1, 1), (1, 2), (1, 15), (1, 16), (4, 0)] rfl (by decide +kernel)
set_option maxRecDepth 20000 in
theorem gX5_init_X0_init : GoodIn wsX5_init (wsX0_init) := ggX5_init_X0_init
set_option maxRecDepth 20000 in
theorem ggX5_init_X5_listCells : GoodIn wsX5_init wsX5_listCells := goodIn_bb bs_X5_init bi_X5_init _ [(1, 21), (1, 8), (1, 9), (1, 22), (1, 23), (1, 20), (2, 0), (2, 1), (2, 2), (2, 3), (2, 4), (2, 5), (2, 6), (5, 0), (5, 1), (5, 2), (5, 3)] rfl (by decide +kernel)
set_option maxRecDepth 20000 in
theorem gX5_init_X5_listCells : GoodIn wsX5_init (wsV RX5 30 RX5 yX5_listCells wsX5_listCells) := goodIn_app (goodIn_bb bs_X5_init bi_X5_init _ [(1, 17), (1, 18), (1, 19), (1, 20)] rfl (by decide +kernel)) ggX5_init_X5_listCells
set_option maxRecDepth 20000 in
theorem ggX5_init_X5_linkCells : GoodIn wsX5_init wsX5_linkCells := goodIn_bb bs_X5_init bi_X5_init _ [(2, 10), (1, 7), (1, 6), (1, 8), (2, 11), (2, 12), (2, 13), (1, 5), (2, 14), (1, 16), (2, 15), (2, 16), (2, 17), (1, 20), (2, 18), (2, 19), (2, 20), (2, 21), (2, 22), (2, 23), (3, 0), (3, 1), (3, 2), (1, 10), (5, 0), (5, 1), (5, 2), (5, 3), (4, 0)] rfl (by decide +kernel)
set_option maxRecDepth 20000 in
theorem gX5_init_X5_linkCells : GoodIn wsX5_init (wsV RX5 33 RX5 yX5_linkCells wsX5_linkCells) := goodIn_app (goodIn_bb bs_X5_init bi_X5_init _ [(2, 7), (2, 8), (2, 9), (1, 20)] rfl (by decide +kernel)) ggX5_init_X5_linkCells
theorem dX5_init_0 : decode cX5_init 0 = .ok (.aload_n 0, 1) := by decide +kernel
theorem dX5_init_1 : decode cX5_init 1 = .ok (.invokespecial 3, 3) := by decide +kernel
theorem dX5_init_4 : decode cX5_init 4 = .ok (.aload_n 0, 1) := by decide +kernel
theorem dX5_init_5 : decode cX5_init 5 = .ok (.new 9, 3) := by decide +kernel
theorem dX5_init_8 : decode cX5_init 8 = .ok (.dup, 1) := by decide +kernel
theorem dX5_init_9 : decode cX5_init 9 = .ok (.sipush 150, 3) := by decide +kernel
theorem dX5_init_12 : decode cX5_init 12 = .ok (.invokespecial 11, 3) := by decide +kernel
theorem dX5_init_15 : decode cX5_init 15 = .ok (.putfield 14, 3) := by decide +kernel
theorem dX5_init_18 : decode cX5_init 18 = .ok (.aload_n 0, 1) := by decide +kernel
theorem dX5_init_19 : decode cX5_init 19 = .ok (.sipush 450, 3) := by decide +kernel
theorem dX5_init_22 : decode cX5_init 22 = .ok (.newarray .int, 2) := by decide +kernel
theorem dX5_init_24 : decode cX5_init 24 = .ok (.putfield 20, 3) := by decide +kernel
theorem dX5_init_27 : decode cX5_init 27 = .ok (.aload_n 0, 1) := by decide +kernel
theorem dX5_init_28 : decode cX5_init 28 = .ok (.sipush 150, 3) := by decide +kernel
theorem dX5_init_31 : decode cX5_init 31 = .ok (.newarray .int, 2) := by decide +kernel
theorem dX5_init_33 : decode cX5_init 33 = .ok (.putfield 24, 3) := by decide +kernel
theorem dX5_init_36 : decode cX5_init 36 = .ok (.aload_n 0, 1) := by decide +kernel
theorem dX5_init_37 : decode cX5_init 37 = .ok (.sipush 600, 3) := by decide +kernel
theorem dX5_init_40 : decode cX5_init 40 = .ok (.newarray .int, 2) := by decide +kernel
theorem dX5_init_42 : decode cX5_init 42 = .ok (.putfield 27, 3) := by decide +kernel
theorem dX5_init_45 : decode cX5_init 45 = .ok (.aload_n 0, 1) := by decide +kernel
theorem dX5_init_46 : decode cX5_init 46 = .ok (.invokevirtual 30, 3) := by decide +kernel
theorem dX5_init_49 : decode cX5_init 49 = .ok (.aload_n 0, 1) := by decide +kernel
theorem dX5_init_50 : decode cX5_init 50 = .ok (.invokevirtual 33, 3) := by decide +kernel
theorem dX5_init_53 : decode cX5_init 53 = .ok (.return_, 1) := by decide +kernel
def bs_X5_listCells : List (List Cond) := [[.code yX5_listCells cX5_listCells 5 none], [.fieldLink RX5 20 "SlewPlanner$Sphere" "vectors" "[I", .fieldLink RX5 24 "SlewPlanner$Sphere" "squares" "[I", .methodLink RX5 36 yX5_isVector, .static yX5_isVector, .initialized RX5, .code yX5_isVector cX5_isVector 3 (some .boolean), .methodLink RX5 55 yX5_isFace, .static yX5_isFace, .code yX5_isFace cX5_isFace 1 (some .boolean), .methodLink RX5 59 yX5_isInner, .static yX5_isInner, .code yX5_isInner cX5_isInner 1 (some .boolean)], wsX50]
theorem bi_X5_listCells : ∀ w ∈ bs_X5_listCells.flatten, w ∈ wsX5_listCells := by
  have h : bs_X5_listCells.flatten = wsX5_listCells := by simp only [bs_X5_listCells, wsX5_listCells, List.flatten_cons, List.flatten_nil, List.append_assoc, List.append_nil, List.nil_append, List.cons_append]
  intro w hw; rw [h] at hw; exact hw
set_option maxRecDepth 20000 in
theorem ggX5_listCells_X5_isVector : GoodIn wsX5_listCells wsX5_isVector := goodIn_bb bs_X5_listCells bi_X5_listCells _ [(1, 5), (1, 6), (1, 7), (1, 4), (1, 8), (1, 9), (1, 10), (1, 11)] rfl (by decide +kernel)
set_option maxRecDepth 20000 in
theorem gX5_listCells_X5_isVector : GoodIn wsX5_listCells (va_wsS RX5 36 yX5_isVector wsX5_isVector) := goodIn_app (goodIn_bb bs_X5_listCells bi_X5_listCells _ [(1, 2), (1, 3), (1, 4)] rfl (by decide +kernel)) ggX5_listCells_X5_isVector
theorem dX5_listCells_0 : decode cX5_listCells 0 = .ok (.iconst 0, 1) := by decide +kernel
theorem dX5_listCells_1 : decode cX5_listCells 1 = .ok (.istore_n 1, 1) := by decide +kernel
theorem dX5_listCells_2 : decode cX5_listCells 2 = .ok (.bipush (-5), 2) := by decide +kernel
theorem dX5_listCells_4 : decode cX5_listCells 4 = .ok (.istore_n 2, 1) := by decide +kernel
theorem dX5_listCells_5 : decode cX5_listCells 5 = .ok (.iload_n 2, 1) := by decide +kernel
theorem dX5_listCells_6 : decode cX5_listCells 6 = .ok (.iconst 5, 1) := by decide +kernel
theorem dX5_listCells_7 : decode cX5_listCells 7 = .ok (.if_icmp .gt 110, 3) := by decide +kernel
theorem dX5_listCells_10 : decode cX5_listCells 10 = .ok (.bipush (-5), 2) := by decide +kernel
theorem dX5_listCells_12 : decode cX5_listCells 12 = .ok (.istore_n 3, 1) := by decide +kernel
theorem dX5_listCells_13 : decode cX5_listCells 13 = .ok (.iload_n 3, 1) := by decide +kernel
theorem dX5_listCells_14 : decode cX5_listCells 14 = .ok (.iconst 5, 1) := by decide +kernel
theorem dX5_listCells_15 : decode cX5_listCells 15 = .ok (.if_icmp .gt 96, 3) := by decide +kernel
theorem dX5_listCells_18 : decode cX5_listCells 18 = .ok (.bipush (-5), 2) := by decide +kernel
theorem dX5_listCells_20 : decode cX5_listCells 20 = .ok (.istore 4, 2) := by decide +kernel
theorem dX5_listCells_22 : decode cX5_listCells 22 = .ok (.iload 4, 2) := by decide +kernel
theorem dX5_listCells_24 : decode cX5_listCells 24 = .ok (.iconst 5, 1) := by decide +kernel
theorem dX5_listCells_25 : decode cX5_listCells 25 = .ok (.if_icmp .gt 80, 3) := by decide +kernel
theorem dX5_listCells_28 : decode cX5_listCells 28 = .ok (.iload_n 2, 1) := by decide +kernel
theorem dX5_listCells_29 : decode cX5_listCells 29 = .ok (.iload_n 3, 1) := by decide +kernel
theorem dX5_listCells_30 : decode cX5_listCells 30 = .ok (.iload 4, 2) := by decide +kernel
theorem dX5_listCells_32 : decode cX5_listCells 32 = .ok (.invokestatic 36, 3) := by decide +kernel
theorem dX5_listCells_35 : decode cX5_listCells 35 = .ok (.ifCond .eq 64, 3) := by decide +kernel
theorem dX5_listCells_38 : decode cX5_listCells 38 = .ok (.iload_n 1, 1) := by decide +kernel
theorem dX5_listCells_39 : decode cX5_listCells 39 = .ok (.sipush 150, 3) := by decide +kernel
theorem dX5_listCells_42 : decode cX5_listCells 42 = .ok (.if_icmp .ge 57, 3) := by decide +kernel
theorem dX5_listCells_45 : decode cX5_listCells 45 = .ok (.aload_n 0, 1) := by decide +kernel
theorem dX5_listCells_46 : decode cX5_listCells 46 = .ok (.getfield 20, 3) := by decide +kernel
theorem dX5_listCells_49 : decode cX5_listCells 49 = .ok (.iconst 3, 1) := by decide +kernel
theorem dX5_listCells_50 : decode cX5_listCells 50 = .ok (.iload_n 1, 1) := by decide +kernel
theorem dX5_listCells_51 : decode cX5_listCells 51 = .ok (.imul, 1) := by decide +kernel
theorem dX5_listCells_52 : decode cX5_listCells 52 = .ok (.iload_n 2, 1) := by decide +kernel
theorem dX5_listCells_53 : decode cX5_listCells 53 = .ok (.iastore, 1) := by decide +kernel
theorem dX5_listCells_54 : decode cX5_listCells 54 = .ok (.aload_n 0, 1) := by decide +kernel
theorem dX5_listCells_55 : decode cX5_listCells 55 = .ok (.getfield 20, 3) := by decide +kernel
theorem dX5_listCells_58 : decode cX5_listCells 58 = .ok (.iconst 3, 1) := by decide +kernel
theorem dX5_listCells_59 : decode cX5_listCells 59 = .ok (.iload_n 1, 1) := by decide +kernel
theorem dX5_listCells_60 : decode cX5_listCells 60 = .ok (.imul, 1) := by decide +kernel
theorem dX5_listCells_61 : decode cX5_listCells 61 = .ok (.iconst 1, 1) := by decide +kernel
theorem dX5_listCells_62 : decode cX5_listCells 62 = .ok (.iadd, 1) := by decide +kernel
theorem dX5_listCells_63 : decode cX5_listCells 63 = .ok (.iload_n 3, 1) := by decide +kernel
theorem dX5_listCells_64 : decode cX5_listCells 64 = .ok (.iastore, 1) := by decide +kernel
theorem dX5_listCells_65 : decode cX5_listCells 65 = .ok (.aload_n 0, 1) := by decide +kernel
theorem dX5_listCells_66 : decode cX5_listCells 66 = .ok (.getfield 20, 3) := by decide +kernel
theorem dX5_listCells_69 : decode cX5_listCells 69 = .ok (.iconst 3, 1) := by decide +kernel
theorem dX5_listCells_70 : decode cX5_listCells 70 = .ok (.iload_n 1, 1) := by decide +kernel
theorem dX5_listCells_71 : decode cX5_listCells 71 = .ok (.imul, 1) := by decide +kernel
theorem dX5_listCells_72 : decode cX5_listCells 72 = .ok (.iconst 2, 1) := by decide +kernel
theorem dX5_listCells_73 : decode cX5_listCells 73 = .ok (.iadd, 1) := by decide +kernel
theorem dX5_listCells_74 : decode cX5_listCells 74 = .ok (.iload 4, 2) := by decide +kernel
theorem dX5_listCells_76 : decode cX5_listCells 76 = .ok (.iastore, 1) := by decide +kernel
theorem dX5_listCells_77 : decode cX5_listCells 77 = .ok (.aload_n 0, 1) := by decide +kernel
theorem dX5_listCells_78 : decode cX5_listCells 78 = .ok (.getfield 24, 3) := by decide +kernel
theorem dX5_listCells_81 : decode cX5_listCells 81 = .ok (.iload_n 1, 1) := by decide +kernel
theorem dX5_listCells_82 : decode cX5_listCells 82 = .ok (.iload_n 2, 1) := by decide +kernel
theorem dX5_listCells_83 : decode cX5_listCells 83 = .ok (.iload_n 2, 1) := by decide +kernel
theorem dX5_listCells_84 : decode cX5_listCells 84 = .ok (.imul, 1) := by decide +kernel
theorem dX5_listCells_85 : decode cX5_listCells 85 = .ok (.iload_n 3, 1) := by decide +kernel
theorem dX5_listCells_86 : decode cX5_listCells 86 = .ok (.iload_n 3, 1) := by decide +kernel
theorem dX5_listCells_87 : decode cX5_listCells 87 = .ok (.imul, 1) := by decide +kernel
theorem dX5_listCells_88 : decode cX5_listCells 88 = .ok (.iadd, 1) := by decide +kernel
theorem dX5_listCells_89 : decode cX5_listCells 89 = .ok (.iload 4, 2) := by decide +kernel
theorem dX5_listCells_91 : decode cX5_listCells 91 = .ok (.iload 4, 2) := by decide +kernel
theorem dX5_listCells_93 : decode cX5_listCells 93 = .ok (.imul, 1) := by decide +kernel
theorem dX5_listCells_94 : decode cX5_listCells 94 = .ok (.iadd, 1) := by decide +kernel
theorem dX5_listCells_95 : decode cX5_listCells 95 = .ok (.iastore, 1) := by decide +kernel
theorem dX5_listCells_96 : decode cX5_listCells 96 = .ok (.iinc 1 1, 3) := by decide +kernel
theorem dX5_listCells_99 : decode cX5_listCells 99 = .ok (.iinc 4 1, 3) := by decide +kernel
theorem dX5_listCells_102 : decode cX5_listCells 102 = .ok (.goto (-80), 3) := by decide +kernel
theorem dX5_listCells_105 : decode cX5_listCells 105 = .ok (.iinc 3 1, 3) := by decide +kernel
theorem dX5_listCells_108 : decode cX5_listCells 108 = .ok (.goto (-95), 3) := by decide +kernel
theorem dX5_listCells_111 : decode cX5_listCells 111 = .ok (.iinc 2 1, 3) := by decide +kernel
theorem dX5_listCells_114 : decode cX5_listCells 114 = .ok (.goto (-109), 3) := by decide +kernel
theorem dX5_listCells_117 : decode cX5_listCells 117 = .ok (.return_, 1) := by decide +kernel
def bs_X5_linkCells : List (List Cond) := [[.code yX5_linkCells cX5_linkCells 4 none], [.arrayClass .int, .fieldLink RX5 14 "SlewPlanner$Sphere" "hoods" "LSlewPlanner$CellSets;", .fieldLink RX5 20 "SlewPlanner$Sphere" "vectors" "[I", .methodLink RX5 40 yX0_add, .instanceMethod yX0_add, .selects RX0 yX0_add yX0_add, .initialized RX0, .code yX0_add cX0_add 4 none, .fieldLink RX0 11 "SlewPlanner$CellSets" "words" "[J", .methodLink RX5 44 yX5_distance, .instanceMethod yX5_distance, .selects RX5 yX5_distance yX5_distance, .initialized RX5, .code yX5_distance cX5_distance 6 (some .int), .methodLink RX5 52 yX5_part, .instanceMethod yX5_part, .selects RX5 yX5_part yX5_part, .code yX5_part cX5_part 4 (some .int), .methodLink RX5 48 yX5_link, .instanceMethod yX5_link, .selects RX5 yX5_link yX5_link, .code yX5_link cX5_link 5 none, .fieldLink RX5 27 "SlewPlanner$Sphere" "adjacent" "[I"], wsX50, wsX00]
theorem bi_X5_linkCells : ∀ w ∈ bs_X5_linkCells.flatten, w ∈ wsX5_linkCells := by
  have h : bs_X5_linkCells.flatten = wsX5_linkCells := by simp only [bs_X5_linkCells, wsX5_linkCells, List.flatten_cons, List.flatten_nil, List.append_assoc, List.append_nil, List.nil_append, List.cons_append]
  intro w hw; rw [h] at hw; exact hw
set_option maxRecDepth 20000 in
theorem ggX5_linkCells_X0_add : GoodIn wsX5_linkCells wsX0_add := goodIn_bb bs_X5_linkCells bi_X5_linkCells _ [(1, 7), (1, 8), (3, 0)] rfl (by decide +kernel)
set_option maxRecDepth 20000 in
theorem gX5_linkCells_X0_add : GoodIn wsX5_linkCells (wsV RX5 40 RX0 yX0_add wsX0_add) := goodIn_app (goodIn_bb bs_X5_linkCells bi_X5_linkCells _ [(1, 3), (1, 4), (1, 5), (1, 6)] rfl (by decide +kernel)) ggX5_linkCells_X0_add
set_option maxRecDepth 20000 in
theorem ggX5_linkCells_X5_distance : GoodIn wsX5_linkCells wsX5_distance := goodIn_bb bs_X5_linkCells bi_X5_linkCells _ [(1, 13), (1, 14), (1, 15), (1, 16), (1, 12), (1, 17), (1, 2), (2, 0), (2, 1), (2, 2), (2, 3)] rfl (by decide +kernel)
set_option maxRecDepth 20000 in
theorem gX5_linkCells_X5_distance : GoodIn wsX5_linkCells (wsV RX5 44 RX5 yX5_distance wsX5_distance) := goodIn_app (goodIn_bb bs_X5_linkCells bi_X5_linkCells _ [(1, 9), (1, 10), (1, 11), (1, 12)] rfl (by decide +kernel)) ggX5_linkCells_X5_distance
set_option maxRecDepth 20000 in
theorem ggX5_linkCells_X5_link : GoodIn wsX5_linkCells wsX5_link := goodIn_bb bs_X5_linkCells bi_X5_linkCells _ [(1, 21), (1, 22), (1, 1), (1, 3), (1, 4), (1, 5), (1, 6), (1, 7), (1, 8), (2, 0), (2, 1), (2, 2), (2, 3), (3, 0)] rfl (by decide +kernel)
set_option maxRecDepth 20000 in
theorem gX5_linkCells_X5_link : GoodIn wsX5_linkCells (wsV RX5 48 RX5 yX5_link wsX5_link) := goodIn_app (goodIn_bb bs_X5_linkCells bi_X5_linkCells _ [(1, 18), (1, 19), (1, 20), (1, 12)] rfl (by decide +kernel)) ggX5_linkCells_X5_link
theorem dX5_linkCells_0 : decode cX5_linkCells 0 = .ok (.sipush 150, 3) := by decide +kernel
theorem dX5_linkCells_3 : decode cX5_linkCells 3 = .ok (.newarray .int, 2) := by decide +kernel
theorem dX5_linkCells_5 : decode cX5_linkCells 5 = .ok (.astore_n 1, 1) := by decide +kernel
theorem dX5_linkCells_6 : decode cX5_linkCells 6 = .ok (.iconst 0, 1) := by decide +kernel
theorem dX5_linkCells_7 : decode cX5_linkCells 7 = .ok (.istore_n 2, 1) := by decide +kernel
theorem dX5_linkCells_8 : decode cX5_linkCells 8 = .ok (.iload_n 2, 1) := by decide +kernel
theorem dX5_linkCells_9 : decode cX5_linkCells 9 = .ok (.sipush 150, 3) := by decide +kernel
theorem dX5_linkCells_12 : decode cX5_linkCells 12 = .ok (.if_icmp .ge 80, 3) := by decide +kernel
theorem dX5_linkCells_15 : decode cX5_linkCells 15 = .ok (.aload_n 0, 1) := by decide +kernel
theorem dX5_linkCells_16 : decode cX5_linkCells 16 = .ok (.getfield 14, 3) := by decide +kernel
theorem dX5_linkCells_19 : decode cX5_linkCells 19 = .ok (.iload_n 2, 1) := by decide +kernel
theorem dX5_linkCells_20 : decode cX5_linkCells 20 = .ok (.iload_n 2, 1) := by decide +kernel
theorem dX5_linkCells_21 : decode cX5_linkCells 21 = .ok (.invokevirtual 40, 3) := by decide +kernel
theorem dX5_linkCells_24 : decode cX5_linkCells 24 = .ok (.iload_n 2, 1) := by decide +kernel
theorem dX5_linkCells_25 : decode cX5_linkCells 25 = .ok (.iconst 1, 1) := by decide +kernel
theorem dX5_linkCells_26 : decode cX5_linkCells 26 = .ok (.iadd, 1) := by decide +kernel
theorem dX5_linkCells_27 : decode cX5_linkCells 27 = .ok (.istore_n 3, 1) := by decide +kernel
theorem dX5_linkCells_28 : decode cX5_linkCells 28 = .ok (.iload_n 3, 1) := by decide +kernel
theorem dX5_linkCells_29 : decode cX5_linkCells 29 = .ok (.sipush 150, 3) := by decide +kernel
theorem dX5_linkCells_32 : decode cX5_linkCells 32 = .ok (.if_icmp .ge 54, 3) := by decide +kernel
theorem dX5_linkCells_35 : decode cX5_linkCells 35 = .ok (.aload_n 0, 1) := by decide +kernel
theorem dX5_linkCells_36 : decode cX5_linkCells 36 = .ok (.getfield 20, 3) := by decide +kernel
theorem dX5_linkCells_39 : decode cX5_linkCells 39 = .ok (.iconst 3, 1) := by decide +kernel
theorem dX5_linkCells_40 : decode cX5_linkCells 40 = .ok (.iload_n 3, 1) := by decide +kernel
theorem dX5_linkCells_41 : decode cX5_linkCells 41 = .ok (.imul, 1) := by decide +kernel
theorem dX5_linkCells_42 : decode cX5_linkCells 42 = .ok (.iaload, 1) := by decide +kernel
theorem dX5_linkCells_43 : decode cX5_linkCells 43 = .ok (.aload_n 0, 1) := by decide +kernel
theorem dX5_linkCells_44 : decode cX5_linkCells 44 = .ok (.getfield 20, 3) := by decide +kernel
theorem dX5_linkCells_47 : decode cX5_linkCells 47 = .ok (.iconst 3, 1) := by decide +kernel
theorem dX5_linkCells_48 : decode cX5_linkCells 48 = .ok (.iload_n 2, 1) := by decide +kernel
theorem dX5_linkCells_49 : decode cX5_linkCells 49 = .ok (.imul, 1) := by decide +kernel
theorem dX5_linkCells_50 : decode cX5_linkCells 50 = .ok (.iaload, 1) := by decide +kernel
theorem dX5_linkCells_51 : decode cX5_linkCells 51 = .ok (.isub, 1) := by decide +kernel
theorem dX5_linkCells_52 : decode cX5_linkCells 52 = .ok (.iconst 2, 1) := by decide +kernel
theorem dX5_linkCells_53 : decode cX5_linkCells 53 = .ok (.if_icmp .gt 33, 3) := by decide +kernel
theorem dX5_linkCells_56 : decode cX5_linkCells 56 = .ok (.aload_n 0, 1) := by decide +kernel
theorem dX5_linkCells_57 : decode cX5_linkCells 57 = .ok (.iload_n 2, 1) := by decide +kernel
theorem dX5_linkCells_58 : decode cX5_linkCells 58 = .ok (.iload_n 3, 1) := by decide +kernel
theorem dX5_linkCells_59 : decode cX5_linkCells 59 = .ok (.invokevirtual 44, 3) := by decide +kernel
theorem dX5_linkCells_62 : decode cX5_linkCells 62 = .ok (.iconst 4, 1) := by decide +kernel
theorem dX5_linkCells_63 : decode cX5_linkCells 63 = .ok (.if_icmp .gt 17, 3) := by decide +kernel
theorem dX5_linkCells_66 : decode cX5_linkCells 66 = .ok (.aload_n 0, 1) := by decide +kernel
theorem dX5_linkCells_67 : decode cX5_linkCells 67 = .ok (.iload_n 2, 1) := by decide +kernel
theorem dX5_linkCells_68 : decode cX5_linkCells 68 = .ok (.iload_n 3, 1) := by decide +kernel
theorem dX5_linkCells_69 : decode cX5_linkCells 69 = .ok (.aload_n 1, 1) := by decide +kernel
theorem dX5_linkCells_70 : decode cX5_linkCells 70 = .ok (.invokevirtual 48, 3) := by decide +kernel
theorem dX5_linkCells_73 : decode cX5_linkCells 73 = .ok (.aload_n 0, 1) := by decide +kernel
theorem dX5_linkCells_74 : decode cX5_linkCells 74 = .ok (.iload_n 3, 1) := by decide +kernel
theorem dX5_linkCells_75 : decode cX5_linkCells 75 = .ok (.iload_n 2, 1) := by decide +kernel
theorem dX5_linkCells_76 : decode cX5_linkCells 76 = .ok (.aload_n 1, 1) := by decide +kernel
theorem dX5_linkCells_77 : decode cX5_linkCells 77 = .ok (.invokevirtual 48, 3) := by decide +kernel
theorem dX5_linkCells_80 : decode cX5_linkCells 80 = .ok (.iinc 3 1, 3) := by decide +kernel
theorem dX5_linkCells_83 : decode cX5_linkCells 83 = .ok (.goto (-55), 3) := by decide +kernel
theorem dX5_linkCells_86 : decode cX5_linkCells 86 = .ok (.iinc 2 1, 3) := by decide +kernel
theorem dX5_linkCells_89 : decode cX5_linkCells 89 = .ok (.goto (-81), 3) := by decide +kernel
theorem dX5_linkCells_92 : decode cX5_linkCells 92 = .ok (.return_, 1) := by decide +kernel
def bs_X5_link : List (List Cond) := [[.code yX5_link cX5_link 5 none], [.fieldLink RX5 27 "SlewPlanner$Sphere" "adjacent" "[I", .fieldLink RX5 14 "SlewPlanner$Sphere" "hoods" "LSlewPlanner$CellSets;", .methodLink RX5 40 yX0_add, .instanceMethod yX0_add, .selects RX0 yX0_add yX0_add, .initialized RX0, .code yX0_add cX0_add 4 none, .fieldLink RX0 11 "SlewPlanner$CellSets" "words" "[J"], wsX50, wsX00]
theorem bi_X5_link : ∀ w ∈ bs_X5_link.flatten, w ∈ wsX5_link := by
  have h : bs_X5_link.flatten = wsX5_link := by simp only [bs_X5_link, wsX5_link, List.flatten_cons, List.flatten_nil, List.append_assoc, List.append_nil, List.nil_append, List.cons_append]
  intro w hw; rw [h] at hw; exact hw
set_option maxRecDepth 20000 in
theorem ggX5_link_X0_add : GoodIn wsX5_link wsX0_add := goodIn_bb bs_X5_link bi_X5_link _ [(1, 6), (1, 7), (3, 0)] rfl (by decide +kernel)
set_option maxRecDepth 20000 in
theorem gX5_link_X0_add : GoodIn wsX5_link (wsV RX5 40 RX0 yX0_add wsX0_add) := goodIn_app (goodIn_bb bs_X5_link bi_X5_link _ [(1, 2), (1, 3), (1, 4), (1, 5)] rfl (by decide +kernel)) ggX5_link_X0_add
theorem dX5_link_0 : decode cX5_link 0 = .ok (.iload_n 1, 1) := by decide +kernel
theorem dX5_link_1 : decode cX5_link 1 = .ok (.ifCond .lt 71, 3) := by decide +kernel
theorem dX5_link_4 : decode cX5_link 4 = .ok (.iload_n 1, 1) := by decide +kernel
theorem dX5_link_5 : decode cX5_link 5 = .ok (.sipush 150, 3) := by decide +kernel
theorem dX5_link_8 : decode cX5_link 8 = .ok (.if_icmp .ge 64, 3) := by decide +kernel
theorem dX5_link_11 : decode cX5_link 11 = .ok (.iload_n 1, 1) := by decide +kernel
theorem dX5_link_12 : decode cX5_link 12 = .ok (.aload_n 3, 1) := by decide +kernel
theorem dX5_link_13 : decode cX5_link 13 = .ok (.arraylength, 1) := by decide +kernel
theorem dX5_link_14 : decode cX5_link 14 = .ok (.if_icmp .ge 58, 3) := by decide +kernel
theorem dX5_link_17 : decode cX5_link 17 = .ok (.aload_n 3, 1) := by decide +kernel
theorem dX5_link_18 : decode cX5_link 18 = .ok (.iload_n 1, 1) := by decide +kernel
theorem dX5_link_19 : decode cX5_link 19 = .ok (.iaload, 1) := by decide +kernel
theorem dX5_link_20 : decode cX5_link 20 = .ok (.iconst 4, 1) := by decide +kernel
theorem dX5_link_21 : decode cX5_link 21 = .ok (.if_icmp .ge 51, 3) := by decide +kernel
theorem dX5_link_24 : decode cX5_link 24 = .ok (.iconst 4, 1) := by decide +kernel
theorem dX5_link_25 : decode cX5_link 25 = .ok (.iload_n 1, 1) := by decide +kernel
theorem dX5_link_26 : decode cX5_link 26 = .ok (.imul, 1) := by decide +kernel
theorem dX5_link_27 : decode cX5_link 27 = .ok (.aload_n 3, 1) := by decide +kernel
theorem dX5_link_28 : decode cX5_link 28 = .ok (.iload_n 1, 1) := by decide +kernel
theorem dX5_link_29 : decode cX5_link 29 = .ok (.iaload, 1) := by decide +kernel
theorem dX5_link_30 : decode cX5_link 30 = .ok (.iadd, 1) := by decide +kernel
theorem dX5_link_31 : decode cX5_link 31 = .ok (.istore 4, 2) := by decide +kernel
theorem dX5_link_33 : decode cX5_link 33 = .ok (.iload 4, 2) := by decide +kernel
theorem dX5_link_35 : decode cX5_link 35 = .ok (.ifCond .lt 37, 3) := by decide +kernel
theorem dX5_link_38 : decode cX5_link 38 = .ok (.iload 4, 2) := by decide +kernel
theorem dX5_link_40 : decode cX5_link 40 = .ok (.aload_n 0, 1) := by decide +kernel
theorem dX5_link_41 : decode cX5_link 41 = .ok (.getfield 27, 3) := by decide +kernel
theorem dX5_link_44 : decode cX5_link 44 = .ok (.arraylength, 1) := by decide +kernel
theorem dX5_link_45 : decode cX5_link 45 = .ok (.if_icmp .ge 27, 3) := by decide +kernel
theorem dX5_link_48 : decode cX5_link 48 = .ok (.aload_n 0, 1) := by decide +kernel
theorem dX5_link_49 : decode cX5_link 49 = .ok (.getfield 27, 3) := by decide +kernel
theorem dX5_link_52 : decode cX5_link 52 = .ok (.iload 4, 2) := by decide +kernel
theorem dX5_link_54 : decode cX5_link 54 = .ok (.iload_n 2, 1) := by decide +kernel
theorem dX5_link_55 : decode cX5_link 55 = .ok (.iastore, 1) := by decide +kernel
theorem dX5_link_56 : decode cX5_link 56 = .ok (.aload_n 3, 1) := by decide +kernel
theorem dX5_link_57 : decode cX5_link 57 = .ok (.iload_n 1, 1) := by decide +kernel
theorem dX5_link_58 : decode cX5_link 58 = .ok (.dup2, 1) := by decide +kernel
theorem dX5_link_59 : decode cX5_link 59 = .ok (.iaload, 1) := by decide +kernel
theorem dX5_link_60 : decode cX5_link 60 = .ok (.iconst 1, 1) := by decide +kernel
theorem dX5_link_61 : decode cX5_link 61 = .ok (.iadd, 1) := by decide +kernel
theorem dX5_link_62 : decode cX5_link 62 = .ok (.iastore, 1) := by decide +kernel
theorem dX5_link_63 : decode cX5_link 63 = .ok (.aload_n 0, 1) := by decide +kernel
theorem dX5_link_64 : decode cX5_link 64 = .ok (.getfield 14, 3) := by decide +kernel
theorem dX5_link_67 : decode cX5_link 67 = .ok (.iload_n 1, 1) := by decide +kernel
theorem dX5_link_68 : decode cX5_link 68 = .ok (.iload_n 2, 1) := by decide +kernel
theorem dX5_link_69 : decode cX5_link 69 = .ok (.invokevirtual 40, 3) := by decide +kernel
theorem dX5_link_72 : decode cX5_link 72 = .ok (.return_, 1) := by decide +kernel
def bs_X5_distance : List (List Cond) := [[.code yX5_distance cX5_distance 6 (some .int)], [.methodLink RX5 52 yX5_part, .instanceMethod yX5_part, .selects RX5 yX5_part yX5_part, .initialized RX5, .code yX5_part cX5_part 4 (some .int), .fieldLink RX5 20 "SlewPlanner$Sphere" "vectors" "[I"], wsX50]
theorem bi_X5_distance : ∀ w ∈ bs_X5_distance.flatten, w ∈ wsX5_distance := by
  have h : bs_X5_distance.flatten = wsX5_distance := by simp only [bs_X5_distance, wsX5_distance, List.flatten_cons, List.flatten_nil, List.append_assoc, List.append_nil, List.nil_append, List.cons_append]
  intro w hw; rw [h] at hw; exact hw
set_option maxRecDepth 20000 in
theorem ggX5_distance_X5_part : GoodIn wsX5_distance wsX5_part := goodIn_bb bs_X5_distance bi_X5_distance _ [(1, 4), (1, 5), (2, 0), (2, 1), (2, 2), (2, 3)] rfl (by decide +kernel)
set_option maxRecDepth 20000 in
theorem gX5_distance_X5_part : GoodIn wsX5_distance (wsV RX5 52 RX5 yX5_part wsX5_part) := goodIn_app (goodIn_bb bs_X5_distance bi_X5_distance _ [(1, 0), (1, 1), (1, 2), (1, 3)] rfl (by decide +kernel)) ggX5_distance_X5_part
theorem dX5_distance_0 : decode cX5_distance 0 = .ok (.aload_n 0, 1) := by decide +kernel
theorem dX5_distance_1 : decode cX5_distance 1 = .ok (.iload_n 1, 1) := by decide +kernel
theorem dX5_distance_2 : decode cX5_distance 2 = .ok (.iconst 0, 1) := by decide +kernel
theorem dX5_distance_3 : decode cX5_distance 3 = .ok (.invokevirtual 52, 3) := by decide +kernel
theorem dX5_distance_6 : decode cX5_distance 6 = .ok (.aload_n 0, 1) := by decide +kernel
theorem dX5_distance_7 : decode cX5_distance 7 = .ok (.iload_n 2, 1) := by decide +kernel
theorem dX5_distance_8 : decode cX5_distance 8 = .ok (.iconst 0, 1) := by decide +kernel
theorem dX5_distance_9 : decode cX5_distance 9 = .ok (.invokevirtual 52, 3) := by decide +kernel
theorem dX5_distance_12 : decode cX5_distance 12 = .ok (.isub, 1) := by decide +kernel
theorem dX5_distance_13 : decode cX5_distance 13 = .ok (.istore_n 3, 1) := by decide +kernel
theorem dX5_distance_14 : decode cX5_distance 14 = .ok (.aload_n 0, 1) := by decide +kernel
theorem dX5_distance_15 : decode cX5_distance 15 = .ok (.iload_n 1, 1) := by decide +kernel
theorem dX5_distance_16 : decode cX5_distance 16 = .ok (.iconst 1, 1) := by decide +kernel
theorem dX5_distance_17 : decode cX5_distance 17 = .ok (.invokevirtual 52, 3) := by decide +kernel
theorem dX5_distance_20 : decode cX5_distance 20 = .ok (.aload_n 0, 1) := by decide +kernel
theorem dX5_distance_21 : decode cX5_distance 21 = .ok (.iload_n 2, 1) := by decide +kernel
theorem dX5_distance_22 : decode cX5_distance 22 = .ok (.iconst 1, 1) := by decide +kernel
theorem dX5_distance_23 : decode cX5_distance 23 = .ok (.invokevirtual 52, 3) := by decide +kernel
theorem dX5_distance_26 : decode cX5_distance 26 = .ok (.isub, 1) := by decide +kernel
theorem dX5_distance_27 : decode cX5_distance 27 = .ok (.istore 4, 2) := by decide +kernel
theorem dX5_distance_29 : decode cX5_distance 29 = .ok (.aload_n 0, 1) := by decide +kernel
theorem dX5_distance_30 : decode cX5_distance 30 = .ok (.iload_n 1, 1) := by decide +kernel
theorem dX5_distance_31 : decode cX5_distance 31 = .ok (.iconst 2, 1) := by decide +kernel
theorem dX5_distance_32 : decode cX5_distance 32 = .ok (.invokevirtual 52, 3) := by decide +kernel
theorem dX5_distance_35 : decode cX5_distance 35 = .ok (.aload_n 0, 1) := by decide +kernel
theorem dX5_distance_36 : decode cX5_distance 36 = .ok (.iload_n 2, 1) := by decide +kernel
theorem dX5_distance_37 : decode cX5_distance 37 = .ok (.iconst 2, 1) := by decide +kernel
theorem dX5_distance_38 : decode cX5_distance 38 = .ok (.invokevirtual 52, 3) := by decide +kernel
theorem dX5_distance_41 : decode cX5_distance 41 = .ok (.isub, 1) := by decide +kernel
theorem dX5_distance_42 : decode cX5_distance 42 = .ok (.istore 5, 2) := by decide +kernel
theorem dX5_distance_44 : decode cX5_distance 44 = .ok (.iload_n 3, 1) := by decide +kernel
theorem dX5_distance_45 : decode cX5_distance 45 = .ok (.iload_n 3, 1) := by decide +kernel
theorem dX5_distance_46 : decode cX5_distance 46 = .ok (.imul, 1) := by decide +kernel
theorem dX5_distance_47 : decode cX5_distance 47 = .ok (.iload 4, 2) := by decide +kernel
theorem dX5_distance_49 : decode cX5_distance 49 = .ok (.iload 4, 2) := by decide +kernel
theorem dX5_distance_51 : decode cX5_distance 51 = .ok (.imul, 1) := by decide +kernel
theorem dX5_distance_52 : decode cX5_distance 52 = .ok (.iadd, 1) := by decide +kernel
theorem dX5_distance_53 : decode cX5_distance 53 = .ok (.iload 5, 2) := by decide +kernel
theorem dX5_distance_55 : decode cX5_distance 55 = .ok (.iload 5, 2) := by decide +kernel
theorem dX5_distance_57 : decode cX5_distance 57 = .ok (.imul, 1) := by decide +kernel
theorem dX5_distance_58 : decode cX5_distance 58 = .ok (.iadd, 1) := by decide +kernel
theorem dX5_distance_59 : decode cX5_distance 59 = .ok (.ireturn, 1) := by decide +kernel
def bs_X5_isVector : List (List Cond) := [[.code yX5_isVector cX5_isVector 3 (some .boolean)], [.methodLink RX5 55 yX5_isFace, .static yX5_isFace, .initialized RX5, .code yX5_isFace cX5_isFace 1 (some .boolean), .methodLink RX5 59 yX5_isInner, .static yX5_isInner, .code yX5_isInner cX5_isInner 1 (some .boolean)]]
theorem bi_X5_isVector : ∀ w ∈ bs_X5_isVector.flatten, w ∈ wsX5_isVector := by
  have h : bs_X5_isVector.flatten = wsX5_isVector := by simp only [bs_X5_isVector, wsX5_isVector, List.flatten_cons, List.flatten_nil, List.append_assoc, List.append_nil, List.nil_append, List.cons_append]
  intro w hw; rw [h] at hw; exact hw
set_option maxRecDepth 20000 in
theorem ggX5_isVector_X5_isFace : GoodIn wsX5_isVector wsX5_isFace := goodIn_bb bs_X5_isVector bi_X5_isVector _ [(1, 3)] rfl (by decide +kernel)
set_option maxRecDepth 20000 in
theorem gX5_isVector_X5_isFace : GoodIn wsX5_isVector (va_wsS RX5 55 yX5_isFace wsX5_isFace) := goodIn_app (goodIn_bb bs_X5_isVector bi_X5_isVector _ [(1, 0), (1, 1), (1, 2)] rfl (by decide +kernel)) ggX5_isVector_X5_isFace
set_option maxRecDepth 20000 in
theorem ggX5_isVector_X5_isInner : GoodIn wsX5_isVector wsX5_isInner := goodIn_bb bs_X5_isVector bi_X5_isVector _ [(1, 6)] rfl (by decide +kernel)
set_option maxRecDepth 20000 in
theorem gX5_isVector_X5_isInner : GoodIn wsX5_isVector (va_wsS RX5 59 yX5_isInner wsX5_isInner) := goodIn_app (goodIn_bb bs_X5_isVector bi_X5_isVector _ [(1, 4), (1, 5), (1, 2)] rfl (by decide +kernel)) ggX5_isVector_X5_isInner
theorem dX5_isVector_0 : decode cX5_isVector 0 = .ok (.iload_n 0, 1) := by decide +kernel
theorem dX5_isVector_1 : decode cX5_isVector 1 = .ok (.invokestatic 55, 3) := by decide +kernel
theorem dX5_isVector_4 : decode cX5_isVector 4 = .ok (.ifCond .eq 23, 3) := by decide +kernel
theorem dX5_isVector_7 : decode cX5_isVector 7 = .ok (.iload_n 1, 1) := by decide +kernel
theorem dX5_isVector_8 : decode cX5_isVector 8 = .ok (.invokestatic 59, 3) := by decide +kernel
theorem dX5_isVector_11 : decode cX5_isVector 11 = .ok (.ifCond .eq 14, 3) := by decide +kernel
theorem dX5_isVector_14 : decode cX5_isVector 14 = .ok (.iload_n 2, 1) := by decide +kernel
theorem dX5_isVector_15 : decode cX5_isVector 15 = .ok (.invokestatic 59, 3) := by decide +kernel
theorem dX5_isVector_18 : decode cX5_isVector 18 = .ok (.ifCond .eq 7, 3) := by decide +kernel
theorem dX5_isVector_21 : decode cX5_isVector 21 = .ok (.iconst 1, 1) := by decide +kernel
theorem dX5_isVector_22 : decode cX5_isVector 22 = .ok (.goto 4, 3) := by decide +kernel
theorem dX5_isVector_25 : decode cX5_isVector 25 = .ok (.iconst 0, 1) := by decide +kernel
theorem dX5_isVector_26 : decode cX5_isVector 26 = .ok (.ireturn, 1) := by decide +kernel
theorem dX5_isVector_27 : decode cX5_isVector 27 = .ok (.iload_n 1, 1) := by decide +kernel
theorem dX5_isVector_28 : decode cX5_isVector 28 = .ok (.invokestatic 55, 3) := by decide +kernel
theorem dX5_isVector_31 : decode cX5_isVector 31 = .ok (.ifCond .eq 23, 3) := by decide +kernel
theorem dX5_isVector_34 : decode cX5_isVector 34 = .ok (.iload_n 0, 1) := by decide +kernel
theorem dX5_isVector_35 : decode cX5_isVector 35 = .ok (.invokestatic 59, 3) := by decide +kernel
theorem dX5_isVector_38 : decode cX5_isVector 38 = .ok (.ifCond .eq 14, 3) := by decide +kernel
theorem dX5_isVector_41 : decode cX5_isVector 41 = .ok (.iload_n 2, 1) := by decide +kernel
theorem dX5_isVector_42 : decode cX5_isVector 42 = .ok (.invokestatic 59, 3) := by decide +kernel
theorem dX5_isVector_45 : decode cX5_isVector 45 = .ok (.ifCond .eq 7, 3) := by decide +kernel
theorem dX5_isVector_48 : decode cX5_isVector 48 = .ok (.iconst 1, 1) := by decide +kernel
theorem dX5_isVector_49 : decode cX5_isVector 49 = .ok (.goto 4, 3) := by decide +kernel
theorem dX5_isVector_52 : decode cX5_isVector 52 = .ok (.iconst 0, 1) := by decide +kernel
theorem dX5_isVector_53 : decode cX5_isVector 53 = .ok (.ireturn, 1) := by decide +kernel
theorem dX5_isVector_54 : decode cX5_isVector 54 = .ok (.iload_n 2, 1) := by decide +kernel
theorem dX5_isVector_55 : decode cX5_isVector 55 = .ok (.invokestatic 55, 3) := by decide +kernel
theorem dX5_isVector_58 : decode cX5_isVector 58 = .ok (.ifCond .eq 21, 3) := by decide +kernel
theorem dX5_isVector_61 : decode cX5_isVector 61 = .ok (.iload_n 0, 1) := by decide +kernel
theorem dX5_isVector_62 : decode cX5_isVector 62 = .ok (.invokestatic 59, 3) := by decide +kernel
theorem dX5_isVector_65 : decode cX5_isVector 65 = .ok (.ifCond .eq 14, 3) := by decide +kernel
theorem dX5_isVector_68 : decode cX5_isVector 68 = .ok (.iload_n 1, 1) := by decide +kernel
theorem dX5_isVector_69 : decode cX5_isVector 69 = .ok (.invokestatic 59, 3) := by decide +kernel
theorem dX5_isVector_72 : decode cX5_isVector 72 = .ok (.ifCond .eq 7, 3) := by decide +kernel
theorem dX5_isVector_75 : decode cX5_isVector 75 = .ok (.iconst 1, 1) := by decide +kernel
theorem dX5_isVector_76 : decode cX5_isVector 76 = .ok (.goto 4, 3) := by decide +kernel
theorem dX5_isVector_79 : decode cX5_isVector 79 = .ok (.iconst 0, 1) := by decide +kernel
theorem dX5_isVector_80 : decode cX5_isVector 80 = .ok (.ireturn, 1) := by decide +kernel
theorem dX5_isFace_0 : decode cX5_isFace 0 = .ok (.iload_n 0, 1) := by decide +kernel
theorem dX5_isFace_1 : decode cX5_isFace 1 = .ok (.iconst 5, 1) := by decide +kernel
theorem dX5_isFace_2 : decode cX5_isFace 2 = .ok (.if_icmp .eq 9, 3) := by decide +kernel
theorem dX5_isFace_5 : decode cX5_isFace 5 = .ok (.iload_n 0, 1) := by decide +kernel
theorem dX5_isFace_6 : decode cX5_isFace 6 = .ok (.bipush (-5), 2) := by decide +kernel
theorem dX5_isFace_8 : decode cX5_isFace 8 = .ok (.if_icmp .ne 7, 3) := by decide +kernel
theorem dX5_isFace_11 : decode cX5_isFace 11 = .ok (.iconst 1, 1) := by decide +kernel
theorem dX5_isFace_12 : decode cX5_isFace 12 = .ok (.goto 4, 3) := by decide +kernel
theorem dX5_isFace_15 : decode cX5_isFace 15 = .ok (.iconst 0, 1) := by decide +kernel
theorem dX5_isFace_16 : decode cX5_isFace 16 = .ok (.ireturn, 1) := by decide +kernel
theorem dX5_isInner_0 : decode cX5_isInner 0 = .ok (.iload_n 0, 1) := by decide +kernel
theorem dX5_isInner_1 : decode cX5_isInner 1 = .ok (.bipush (-5), 2) := by decide +kernel
theorem dX5_isInner_3 : decode cX5_isInner 3 = .ok (.if_icmp .le 18, 3) := by decide +kernel
theorem dX5_isInner_6 : decode cX5_isInner 6 = .ok (.iload_n 0, 1) := by decide +kernel
theorem dX5_isInner_7 : decode cX5_isInner 7 = .ok (.iconst 5, 1) := by decide +kernel
theorem dX5_isInner_8 : decode cX5_isInner 8 = .ok (.if_icmp .ge 13, 3) := by decide +kernel
theorem dX5_isInner_11 : decode cX5_isInner 11 = .ok (.iload_n 0, 1) := by decide +kernel
theorem dX5_isInner_12 : decode cX5_isInner 12 = .ok (.iconst 1, 1) := by decide +kernel
theorem dX5_isInner_13 : decode cX5_isInner 13 = .ok (.iand, 1) := by decide +kernel
theorem dX5_isInner_14 : decode cX5_isInner 14 = .ok (.ifCond .ne 7, 3) := by decide +kernel
theorem dX5_isInner_17 : decode cX5_isInner 17 = .ok (.iconst 1, 1) := by decide +kernel
theorem dX5_isInner_18 : decode cX5_isInner 18 = .ok (.goto 4, 3) := by decide +kernel
theorem dX5_isInner_21 : decode cX5_isInner 21 = .ok (.iconst 0, 1) := by decide +kernel
theorem dX5_isInner_22 : decode cX5_isInner 22 = .ok (.ireturn, 1) := by decide +kernel
theorem dX5_part_0 : decode cX5_part 0 = .ok (.iconst 3, 1) := by decide +kernel
theorem dX5_part_1 : decode cX5_part 1 = .ok (.iload_n 1, 1) := by decide +kernel
theorem dX5_part_2 : decode cX5_part 2 = .ok (.imul, 1) := by decide +kernel
theorem dX5_part_3 : decode cX5_part 3 = .ok (.iload_n 2, 1) := by decide +kernel
theorem dX5_part_4 : decode cX5_part 4 = .ok (.iadd, 1) := by decide +kernel
theorem dX5_part_5 : decode cX5_part 5 = .ok (.istore_n 3, 1) := by decide +kernel
theorem dX5_part_6 : decode cX5_part 6 = .ok (.iload_n 3, 1) := by decide +kernel
theorem dX5_part_7 : decode cX5_part 7 = .ok (.ifCond .lt 21, 3) := by decide +kernel
theorem dX5_part_10 : decode cX5_part 10 = .ok (.iload_n 3, 1) := by decide +kernel
theorem dX5_part_11 : decode cX5_part 11 = .ok (.aload_n 0, 1) := by decide +kernel
theorem dX5_part_12 : decode cX5_part 12 = .ok (.getfield 20, 3) := by decide +kernel
theorem dX5_part_15 : decode cX5_part 15 = .ok (.arraylength, 1) := by decide +kernel
theorem dX5_part_16 : decode cX5_part 16 = .ok (.if_icmp .ge 12, 3) := by decide +kernel
theorem dX5_part_19 : decode cX5_part 19 = .ok (.aload_n 0, 1) := by decide +kernel
theorem dX5_part_20 : decode cX5_part 20 = .ok (.getfield 20, 3) := by decide +kernel
theorem dX5_part_23 : decode cX5_part 23 = .ok (.iload_n 3, 1) := by decide +kernel
theorem dX5_part_24 : decode cX5_part 24 = .ok (.iaload, 1) := by decide +kernel
theorem dX5_part_25 : decode cX5_part 25 = .ok (.goto 4, 3) := by decide +kernel
theorem dX5_part_28 : decode cX5_part 28 = .ok (.iconst 0, 1) := by decide +kernel
theorem dX5_part_29 : decode cX5_part 29 = .ok (.ireturn, 1) := by decide +kernel
def bs_X5_find : List (List Cond) := [[.code yX5_find cX5_find 5 (some .int)], [.methodLink RX5 52 yX5_part, .instanceMethod yX5_part, .selects RX5 yX5_part yX5_part, .initialized RX5, .code yX5_part cX5_part 4 (some .int), .fieldLink RX5 20 "SlewPlanner$Sphere" "vectors" "[I"], wsX50]
theorem bi_X5_find : ∀ w ∈ bs_X5_find.flatten, w ∈ wsX5_find := by
  have h : bs_X5_find.flatten = wsX5_find := by simp only [bs_X5_find, wsX5_find, List.flatten_cons, List.flatten_nil, List.append_assoc, List.append_nil, List.nil_append, List.cons_append]
  intro w hw; rw [h] at hw; exact hw
set_option maxRecDepth 20000 in
theorem ggX5_find_X5_part : GoodIn wsX5_find wsX5_part := goodIn_bb bs_X5_find bi_X5_find _ [(1, 4), (1, 5), (2, 0), (2, 1), (2, 2), (2, 3)] rfl (by decide +kernel)
set_option maxRecDepth 20000 in
theorem gX5_find_X5_part : GoodIn wsX5_find (wsV RX5 52 RX5 yX5_part wsX5_part) := goodIn_app (goodIn_bb bs_X5_find bi_X5_find _ [(1, 0), (1, 1), (1, 2), (1, 3)] rfl (by decide +kernel)) ggX5_find_X5_part
theorem dX5_find_0 : decode cX5_find 0 = .ok (.iconst 0, 1) := by decide +kernel
theorem dX5_find_1 : decode cX5_find 1 = .ok (.istore 4, 2) := by decide +kernel
theorem dX5_find_3 : decode cX5_find 3 = .ok (.iload 4, 2) := by decide +kernel
theorem dX5_find_5 : decode cX5_find 5 = .ok (.sipush 150, 3) := by decide +kernel
theorem dX5_find_8 : decode cX5_find 8 = .ok (.if_icmp .ge 45, 3) := by decide +kernel
theorem dX5_find_11 : decode cX5_find 11 = .ok (.aload_n 0, 1) := by decide +kernel
theorem dX5_find_12 : decode cX5_find 12 = .ok (.iload 4, 2) := by decide +kernel
theorem dX5_find_14 : decode cX5_find 14 = .ok (.iconst 0, 1) := by decide +kernel
theorem dX5_find_15 : decode cX5_find 15 = .ok (.invokevirtual 52, 3) := by decide +kernel
theorem dX5_find_18 : decode cX5_find 18 = .ok (.iload_n 1, 1) := by decide +kernel
theorem dX5_find_19 : decode cX5_find 19 = .ok (.if_icmp .ne 28, 3) := by decide +kernel
theorem dX5_find_22 : decode cX5_find 22 = .ok (.aload_n 0, 1) := by decide +kernel
theorem dX5_find_23 : decode cX5_find 23 = .ok (.iload 4, 2) := by decide +kernel
theorem dX5_find_25 : decode cX5_find 25 = .ok (.iconst 1, 1) := by decide +kernel
theorem dX5_find_26 : decode cX5_find 26 = .ok (.invokevirtual 52, 3) := by decide +kernel
theorem dX5_find_29 : decode cX5_find 29 = .ok (.iload_n 2, 1) := by decide +kernel
theorem dX5_find_30 : decode cX5_find 30 = .ok (.if_icmp .ne 17, 3) := by decide +kernel
theorem dX5_find_33 : decode cX5_find 33 = .ok (.aload_n 0, 1) := by decide +kernel
theorem dX5_find_34 : decode cX5_find 34 = .ok (.iload 4, 2) := by decide +kernel
theorem dX5_find_36 : decode cX5_find 36 = .ok (.iconst 2, 1) := by decide +kernel
theorem dX5_find_37 : decode cX5_find 37 = .ok (.invokevirtual 52, 3) := by decide +kernel
theorem dX5_find_40 : decode cX5_find 40 = .ok (.iload_n 3, 1) := by decide +kernel
theorem dX5_find_41 : decode cX5_find 41 = .ok (.if_icmp .ne 6, 3) := by decide +kernel
theorem dX5_find_44 : decode cX5_find 44 = .ok (.iload 4, 2) := by decide +kernel
theorem dX5_find_46 : decode cX5_find 46 = .ok (.ireturn, 1) := by decide +kernel
theorem dX5_find_47 : decode cX5_find 47 = .ok (.iinc 4 1, 3) := by decide +kernel
theorem dX5_find_50 : decode cX5_find 50 = .ok (.goto (-47), 3) := by decide +kernel
theorem dX5_find_53 : decode cX5_find 53 = .ok (.bipush (-9), 2) := by decide +kernel
theorem dX5_find_55 : decode cX5_find 55 = .ok (.ireturn, 1) := by decide +kernel
theorem dX5_beside_0 : decode cX5_beside 0 = .ok (.iconst 4, 1) := by decide +kernel
theorem dX5_beside_1 : decode cX5_beside 1 = .ok (.iload_n 1, 1) := by decide +kernel
theorem dX5_beside_2 : decode cX5_beside 2 = .ok (.imul, 1) := by decide +kernel
theorem dX5_beside_3 : decode cX5_beside 3 = .ok (.iload_n 2, 1) := by decide +kernel
theorem dX5_beside_4 : decode cX5_beside 4 = .ok (.iadd, 1) := by decide +kernel
theorem dX5_beside_5 : decode cX5_beside 5 = .ok (.istore_n 3, 1) := by decide +kernel
theorem dX5_beside_6 : decode cX5_beside 6 = .ok (.iload_n 3, 1) := by decide +kernel
theorem dX5_beside_7 : decode cX5_beside 7 = .ok (.ifCond .lt 21, 3) := by decide +kernel
theorem dX5_beside_10 : decode cX5_beside 10 = .ok (.iload_n 3, 1) := by decide +kernel
theorem dX5_beside_11 : decode cX5_beside 11 = .ok (.aload_n 0, 1) := by decide +kernel
theorem dX5_beside_12 : decode cX5_beside 12 = .ok (.getfield 27, 3) := by decide +kernel
theorem dX5_beside_15 : decode cX5_beside 15 = .ok (.arraylength, 1) := by decide +kernel
theorem dX5_beside_16 : decode cX5_beside 16 = .ok (.if_icmp .ge 12, 3) := by decide +kernel
theorem dX5_beside_19 : decode cX5_beside 19 = .ok (.aload_n 0, 1) := by decide +kernel
theorem dX5_beside_20 : decode cX5_beside 20 = .ok (.getfield 27, 3) := by decide +kernel
theorem dX5_beside_23 : decode cX5_beside 23 = .ok (.iload_n 3, 1) := by decide +kernel
theorem dX5_beside_24 : decode cX5_beside 24 = .ok (.iaload, 1) := by decide +kernel
theorem dX5_beside_25 : decode cX5_beside 25 = .ok (.goto 5, 3) := by decide +kernel
theorem dX5_beside_28 : decode cX5_beside 28 = .ok (.bipush (-9), 2) := by decide +kernel
theorem dX5_beside_30 : decode cX5_beside 30 = .ok (.ireturn, 1) := by decide +kernel
def bs_X5_isStep : List (List Cond) := [[.code yX5_isStep cX5_isStep 3 (some .boolean)], [.fieldLink RX5 14 "SlewPlanner$Sphere" "hoods" "LSlewPlanner$CellSets;", .methodLink RX5 62 yX0_has, .instanceMethod yX0_has, .selects RX0 yX0_has yX0_has, .initialized RX0, .code yX0_has cX0_has 3 (some .boolean), .methodLink RX0 15 yX0_word, .instanceMethod yX0_word, .selects RX0 yX0_word yX0_word, .code yX0_word cX0_word 4 (some .long), .fieldLink RX0 11 "SlewPlanner$CellSets" "words" "[J"], wsX50, wsX00]
theorem bi_X5_isStep : ∀ w ∈ bs_X5_isStep.flatten, w ∈ wsX5_isStep := by
  have h : bs_X5_isStep.flatten = wsX5_isStep := by simp only [bs_X5_isStep, wsX5_isStep, List.flatten_cons, List.flatten_nil, List.append_assoc, List.append_nil, List.nil_append, List.cons_append]
  intro w hw; rw [h] at hw; exact hw
set_option maxRecDepth 20000 in
theorem ggX5_isStep_X0_has : GoodIn wsX5_isStep wsX0_has := goodIn_bb bs_X5_isStep bi_X5_isStep _ [(1, 5), (1, 6), (1, 7), (1, 8), (1, 4), (1, 9), (1, 10), (3, 0)] rfl (by decide +kernel)
set_option maxRecDepth 20000 in
theorem gX5_isStep_X0_has : GoodIn wsX5_isStep (wsV RX5 62 RX0 yX0_has wsX0_has) := goodIn_app (goodIn_bb bs_X5_isStep bi_X5_isStep _ [(1, 1), (1, 2), (1, 3), (1, 4)] rfl (by decide +kernel)) ggX5_isStep_X0_has
theorem dX5_isStep_0 : decode cX5_isStep 0 = .ok (.aload_n 0, 1) := by decide +kernel
theorem dX5_isStep_1 : decode cX5_isStep 1 = .ok (.getfield 14, 3) := by decide +kernel
theorem dX5_isStep_4 : decode cX5_isStep 4 = .ok (.iload_n 1, 1) := by decide +kernel
theorem dX5_isStep_5 : decode cX5_isStep 5 = .ok (.iload_n 2, 1) := by decide +kernel
theorem dX5_isStep_6 : decode cX5_isStep 6 = .ok (.invokevirtual 62, 3) := by decide +kernel
theorem dX5_isStep_9 : decode cX5_isStep 9 = .ok (.ireturn, 1) := by decide +kernel
theorem dX5_scalar_0 : decode cX5_scalar 0 = .ok (.iconst 3, 1) := by decide +kernel
theorem dX5_scalar_1 : decode cX5_scalar 1 = .ok (.iload_n 1, 1) := by decide +kernel
theorem dX5_scalar_2 : decode cX5_scalar 2 = .ok (.imul, 1) := by decide +kernel
theorem dX5_scalar_3 : decode cX5_scalar 3 = .ok (.istore 5, 2) := by decide +kernel
theorem dX5_scalar_5 : decode cX5_scalar 5 = .ok (.iload 5, 2) := by decide +kernel
theorem dX5_scalar_7 : decode cX5_scalar 7 = .ok (.ifCond .lt 15, 3) := by decide +kernel
theorem dX5_scalar_10 : decode cX5_scalar 10 = .ok (.iload 5, 2) := by decide +kernel
theorem dX5_scalar_12 : decode cX5_scalar 12 = .ok (.aload_n 0, 1) := by decide +kernel
theorem dX5_scalar_13 : decode cX5_scalar 13 = .ok (.getfield 20, 3) := by decide +kernel
theorem dX5_scalar_16 : decode cX5_scalar 16 = .ok (.arraylength, 1) := by decide +kernel
theorem dX5_scalar_17 : decode cX5_scalar 17 = .ok (.iconst 3, 1) := by decide +kernel
theorem dX5_scalar_18 : decode cX5_scalar 18 = .ok (.isub, 1) := by decide +kernel
theorem dX5_scalar_19 : decode cX5_scalar 19 = .ok (.if_icmp .le 5, 3) := by decide +kernel
theorem dX5_scalar_22 : decode cX5_scalar 22 = .ok (.iconst 0, 1) := by decide +kernel
theorem dX5_scalar_23 : decode cX5_scalar 23 = .ok (.ireturn, 1) := by decide +kernel
theorem dX5_scalar_24 : decode cX5_scalar 24 = .ok (.aload_n 0, 1) := by decide +kernel
theorem dX5_scalar_25 : decode cX5_scalar 25 = .ok (.getfield 20, 3) := by decide +kernel
theorem dX5_scalar_28 : decode cX5_scalar 28 = .ok (.iload 5, 2) := by decide +kernel
theorem dX5_scalar_30 : decode cX5_scalar 30 = .ok (.iaload, 1) := by decide +kernel
theorem dX5_scalar_31 : decode cX5_scalar 31 = .ok (.iload_n 2, 1) := by decide +kernel
theorem dX5_scalar_32 : decode cX5_scalar 32 = .ok (.imul, 1) := by decide +kernel
theorem dX5_scalar_33 : decode cX5_scalar 33 = .ok (.aload_n 0, 1) := by decide +kernel
theorem dX5_scalar_34 : decode cX5_scalar 34 = .ok (.getfield 20, 3) := by decide +kernel
theorem dX5_scalar_37 : decode cX5_scalar 37 = .ok (.iload 5, 2) := by decide +kernel
theorem dX5_scalar_39 : decode cX5_scalar 39 = .ok (.iconst 1, 1) := by decide +kernel
theorem dX5_scalar_40 : decode cX5_scalar 40 = .ok (.iadd, 1) := by decide +kernel
theorem dX5_scalar_41 : decode cX5_scalar 41 = .ok (.iaload, 1) := by decide +kernel
theorem dX5_scalar_42 : decode cX5_scalar 42 = .ok (.iload_n 3, 1) := by decide +kernel
theorem dX5_scalar_43 : decode cX5_scalar 43 = .ok (.imul, 1) := by decide +kernel
theorem dX5_scalar_44 : decode cX5_scalar 44 = .ok (.iadd, 1) := by decide +kernel
theorem dX5_scalar_45 : decode cX5_scalar 45 = .ok (.aload_n 0, 1) := by decide +kernel
theorem dX5_scalar_46 : decode cX5_scalar 46 = .ok (.getfield 20, 3) := by decide +kernel
theorem dX5_scalar_49 : decode cX5_scalar 49 = .ok (.iload 5, 2) := by decide +kernel
theorem dX5_scalar_51 : decode cX5_scalar 51 = .ok (.iconst 2, 1) := by decide +kernel
theorem dX5_scalar_52 : decode cX5_scalar 52 = .ok (.iadd, 1) := by decide +kernel
theorem dX5_scalar_53 : decode cX5_scalar 53 = .ok (.iaload, 1) := by decide +kernel
theorem dX5_scalar_54 : decode cX5_scalar 54 = .ok (.iload 4, 2) := by decide +kernel
theorem dX5_scalar_56 : decode cX5_scalar 56 = .ok (.imul, 1) := by decide +kernel
theorem dX5_scalar_57 : decode cX5_scalar 57 = .ok (.iadd, 1) := by decide +kernel
theorem dX5_scalar_58 : decode cX5_scalar 58 = .ok (.ireturn, 1) := by decide +kernel
theorem dX5_square_0 : decode cX5_square 0 = .ok (.iload_n 1, 1) := by decide +kernel
theorem dX5_square_1 : decode cX5_square 1 = .ok (.ifCond .lt 21, 3) := by decide +kernel
theorem dX5_square_4 : decode cX5_square 4 = .ok (.iload_n 1, 1) := by decide +kernel
theorem dX5_square_5 : decode cX5_square 5 = .ok (.aload_n 0, 1) := by decide +kernel
theorem dX5_square_6 : decode cX5_square 6 = .ok (.getfield 24, 3) := by decide +kernel
theorem dX5_square_9 : decode cX5_square 9 = .ok (.arraylength, 1) := by decide +kernel
theorem dX5_square_10 : decode cX5_square 10 = .ok (.if_icmp .ge 12, 3) := by decide +kernel
theorem dX5_square_13 : decode cX5_square 13 = .ok (.aload_n 0, 1) := by decide +kernel
theorem dX5_square_14 : decode cX5_square 14 = .ok (.getfield 24, 3) := by decide +kernel
theorem dX5_square_17 : decode cX5_square 17 = .ok (.iload_n 1, 1) := by decide +kernel
theorem dX5_square_18 : decode cX5_square 18 = .ok (.iaload, 1) := by decide +kernel
theorem dX5_square_19 : decode cX5_square 19 = .ok (.goto 4, 3) := by decide +kernel
theorem dX5_square_22 : decode cX5_square 22 = .ok (.iconst 0, 1) := by decide +kernel
theorem dX5_square_23 : decode cX5_square 23 = .ok (.ireturn, 1) := by decide +kernel
theorem dX6_init_0 : decode cX6_init 0 = .ok (.aload_n 0, 1) := by decide +kernel
theorem dX6_init_1 : decode cX6_init 1 = .ok (.invokespecial 3, 3) := by decide +kernel
theorem dX6_init_4 : decode cX6_init 4 = .ok (.aload_n 0, 1) := by decide +kernel
theorem dX6_init_5 : decode cX6_init 5 = .ok (.bipush 21, 2) := by decide +kernel
theorem dX6_init_7 : decode cX6_init 7 = .ok (.newarray .int, 2) := by decide +kernel
theorem dX6_init_9 : decode cX6_init 9 = .ok (.putfield 9, 3) := by decide +kernel
theorem dX6_init_12 : decode cX6_init 12 = .ok (.aload_n 0, 1) := by decide +kernel
theorem dX6_init_13 : decode cX6_init 13 = .ok (.bipush 12, 2) := by decide +kernel
theorem dX6_init_15 : decode cX6_init 15 = .ok (.newarray .int, 2) := by decide +kernel
theorem dX6_init_17 : decode cX6_init 17 = .ok (.putfield 15, 3) := by decide +kernel
theorem dX6_init_20 : decode cX6_init 20 = .ok (.iconst 0, 1) := by decide +kernel
theorem dX6_init_21 : decode cX6_init 21 = .ok (.istore_n 1, 1) := by decide +kernel
theorem dX6_init_22 : decode cX6_init 22 = .ok (.iload_n 1, 1) := by decide +kernel
theorem dX6_init_23 : decode cX6_init 23 = .ok (.iconst 3, 1) := by decide +kernel
theorem dX6_init_24 : decode cX6_init 24 = .ok (.if_icmp .ge 28, 3) := by decide +kernel
theorem dX6_init_27 : decode cX6_init 27 = .ok (.iload_n 1, 1) := by decide +kernel
theorem dX6_init_28 : decode cX6_init 28 = .ok (.iconst 3, 1) := by decide +kernel
theorem dX6_init_29 : decode cX6_init 29 = .ok (.if_icmp .ge 23, 3) := by decide +kernel
theorem dX6_init_32 : decode cX6_init 32 = .ok (.aload_n 0, 1) := by decide +kernel
theorem dX6_init_33 : decode cX6_init 33 = .ok (.getfield 9, 3) := by decide +kernel
theorem dX6_init_36 : decode cX6_init 36 = .ok (.bipush 7, 2) := by decide +kernel
theorem dX6_init_38 : decode cX6_init 38 = .ok (.iload_n 1, 1) := by decide +kernel
theorem dX6_init_39 : decode cX6_init 39 = .ok (.imul, 1) := by decide +kernel
theorem dX6_init_40 : decode cX6_init 40 = .ok (.iconst 0, 1) := by decide +kernel
theorem dX6_init_41 : decode cX6_init 41 = .ok (.iadd, 1) := by decide +kernel
theorem dX6_init_42 : decode cX6_init 42 = .ok (.iload_n 1, 1) := by decide +kernel
theorem dX6_init_43 : decode cX6_init 43 = .ok (.iadd, 1) := by decide +kernel
theorem dX6_init_44 : decode cX6_init 44 = .ok (.iconst 1, 1) := by decide +kernel
theorem dX6_init_45 : decode cX6_init 45 = .ok (.iastore, 1) := by decide +kernel
theorem dX6_init_46 : decode cX6_init 46 = .ok (.iinc 1 1, 3) := by decide +kernel
theorem dX6_init_49 : decode cX6_init 49 = .ok (.goto (-27), 3) := by decide +kernel
theorem dX6_init_52 : decode cX6_init 52 = .ok (.return_, 1) := by decide +kernel
def bs_X6_copyFrom : List (List Cond) := [[.code yX6_copyFrom cX6_copyFrom 2 none], [.fieldLink RX6 18 "SlewPlanner$State" "clock" "I", .fieldLink RX6 22 "SlewPlanner$State" "position" "I", .fieldLink RX6 25 "SlewPlanner$State" "shut" "Z", .fieldLink RX6 29 "SlewPlanner$State" "requestTotal" "I", .fieldLink RX6 15 "SlewPlanner$State" "requests" "[I", .methodLink RX6 32 arraycopyName, .native arraycopyName, .static arraycopyName, .initialized "java/lang/System", .methodLink RX6 38 yX6_copyObjects, .instanceMethod yX6_copyObjects, .selects RX6 yX6_copyObjects yX6_copyObjects, .initialized RX6, .code yX6_copyObjects cX6_copyObjects 2 none, .fieldLink RX6 9 "SlewPlanner$State" "objects" "[I"], wsX60]
theorem bi_X6_copyFrom : ∀ w ∈ bs_X6_copyFrom.flatten, w ∈ wsX6_copyFrom := by
  have h : bs_X6_copyFrom.flatten = wsX6_copyFrom := by simp only [bs_X6_copyFrom, wsX6_copyFrom, List.flatten_cons, List.flatten_nil, List.append_assoc, List.append_nil, List.nil_append, List.cons_append]
  intro w hw; rw [h] at hw; exact hw
set_option maxRecDepth 20000 in
theorem ggX6_copyFrom_X6_copyObjects : GoodIn wsX6_copyFrom wsX6_copyObjects := goodIn_bb bs_X6_copyFrom bi_X6_copyFrom _ [(1, 13), (1, 14), (1, 5), (1, 6), (1, 7), (1, 8), (2, 0), (2, 1), (2, 2), (2, 3), (2, 4), (2, 5)] rfl (by decide +kernel)
set_option maxRecDepth 20000 in
theorem gX6_copyFrom_X6_copyObjects : GoodIn wsX6_copyFrom (wsV RX6 38 RX6 yX6_copyObjects wsX6_copyObjects) := goodIn_app (goodIn_bb bs_X6_copyFrom bi_X6_copyFrom _ [(1, 9), (1, 10), (1, 11), (1, 12)] rfl (by decide +kernel)) ggX6_copyFrom_X6_copyObjects
theorem dX6_copyFrom_0 : decode cX6_copyFrom 0 = .ok (.aload_n 0, 1) := by decide +kernel
theorem dX6_copyFrom_1 : decode cX6_copyFrom 1 = .ok (.aload_n 1, 1) := by decide +kernel
theorem dX6_copyFrom_2 : decode cX6_copyFrom 2 = .ok (.getfield 18, 3) := by decide +kernel
theorem dX6_copyFrom_5 : decode cX6_copyFrom 5 = .ok (.putfield 18, 3) := by decide +kernel
theorem dX6_copyFrom_8 : decode cX6_copyFrom 8 = .ok (.aload_n 0, 1) := by decide +kernel
theorem dX6_copyFrom_9 : decode cX6_copyFrom 9 = .ok (.aload_n 1, 1) := by decide +kernel
theorem dX6_copyFrom_10 : decode cX6_copyFrom 10 = .ok (.getfield 22, 3) := by decide +kernel
theorem dX6_copyFrom_13 : decode cX6_copyFrom 13 = .ok (.putfield 22, 3) := by decide +kernel
theorem dX6_copyFrom_16 : decode cX6_copyFrom 16 = .ok (.aload_n 0, 1) := by decide +kernel
theorem dX6_copyFrom_17 : decode cX6_copyFrom 17 = .ok (.aload_n 1, 1) := by decide +kernel
theorem dX6_copyFrom_18 : decode cX6_copyFrom 18 = .ok (.getfield 25, 3) := by decide +kernel
theorem dX6_copyFrom_21 : decode cX6_copyFrom 21 = .ok (.putfield 25, 3) := by decide +kernel
theorem dX6_copyFrom_24 : decode cX6_copyFrom 24 = .ok (.aload_n 0, 1) := by decide +kernel
theorem dX6_copyFrom_25 : decode cX6_copyFrom 25 = .ok (.aload_n 1, 1) := by decide +kernel
theorem dX6_copyFrom_26 : decode cX6_copyFrom 26 = .ok (.getfield 29, 3) := by decide +kernel
theorem dX6_copyFrom_29 : decode cX6_copyFrom 29 = .ok (.putfield 29, 3) := by decide +kernel
theorem dX6_copyFrom_32 : decode cX6_copyFrom 32 = .ok (.aload_n 1, 1) := by decide +kernel
theorem dX6_copyFrom_33 : decode cX6_copyFrom 33 = .ok (.getfield 15, 3) := by decide +kernel
theorem dX6_copyFrom_36 : decode cX6_copyFrom 36 = .ok (.iconst 0, 1) := by decide +kernel
theorem dX6_copyFrom_37 : decode cX6_copyFrom 37 = .ok (.aload_n 0, 1) := by decide +kernel
theorem dX6_copyFrom_38 : decode cX6_copyFrom 38 = .ok (.getfield 15, 3) := by decide +kernel
theorem dX6_copyFrom_41 : decode cX6_copyFrom 41 = .ok (.iconst 0, 1) := by decide +kernel
theorem dX6_copyFrom_42 : decode cX6_copyFrom 42 = .ok (.bipush 12, 2) := by decide +kernel
theorem dX6_copyFrom_44 : decode cX6_copyFrom 44 = .ok (.invokestatic 32, 3) := by decide +kernel
theorem dX6_copyFrom_47 : decode cX6_copyFrom 47 = .ok (.aload_n 0, 1) := by decide +kernel
theorem dX6_copyFrom_48 : decode cX6_copyFrom 48 = .ok (.aload_n 1, 1) := by decide +kernel
theorem dX6_copyFrom_49 : decode cX6_copyFrom 49 = .ok (.invokevirtual 38, 3) := by decide +kernel
theorem dX6_copyFrom_52 : decode cX6_copyFrom 52 = .ok (.return_, 1) := by decide +kernel
theorem dX6_copyObjects_0 : decode cX6_copyObjects 0 = .ok (.aload_n 1, 1) := by decide +kernel
theorem dX6_copyObjects_1 : decode cX6_copyObjects 1 = .ok (.getfield 9, 3) := by decide +kernel
theorem dX6_copyObjects_4 : decode cX6_copyObjects 4 = .ok (.iconst 0, 1) := by decide +kernel
theorem dX6_copyObjects_5 : decode cX6_copyObjects 5 = .ok (.aload_n 0, 1) := by decide +kernel
theorem dX6_copyObjects_6 : decode cX6_copyObjects 6 = .ok (.getfield 9, 3) := by decide +kernel
theorem dX6_copyObjects_9 : decode cX6_copyObjects 9 = .ok (.iconst 0, 1) := by decide +kernel
theorem dX6_copyObjects_10 : decode cX6_copyObjects 10 = .ok (.bipush 21, 2) := by decide +kernel
theorem dX6_copyObjects_12 : decode cX6_copyObjects 12 = .ok (.invokestatic 32, 3) := by decide +kernel
theorem dX6_copyObjects_15 : decode cX6_copyObjects 15 = .ok (.return_, 1) := by decide +kernel
theorem dX6_hasObjectsOf_0 : decode cX6_hasObjectsOf 0 = .ok (.iconst 0, 1) := by decide +kernel
theorem dX6_hasObjectsOf_1 : decode cX6_hasObjectsOf 1 = .ok (.istore_n 2, 1) := by decide +kernel
theorem dX6_hasObjectsOf_2 : decode cX6_hasObjectsOf 2 = .ok (.iload_n 2, 1) := by decide +kernel
theorem dX6_hasObjectsOf_3 : decode cX6_hasObjectsOf 3 = .ok (.aload_n 0, 1) := by decide +kernel
theorem dX6_hasObjectsOf_4 : decode cX6_hasObjectsOf 4 = .ok (.getfield 9, 3) := by decide +kernel
theorem dX6_hasObjectsOf_7 : decode cX6_hasObjectsOf 7 = .ok (.arraylength, 1) := by decide +kernel
theorem dX6_hasObjectsOf_8 : decode cX6_hasObjectsOf 8 = .ok (.if_icmp .ge 35, 3) := by decide +kernel
theorem dX6_hasObjectsOf_11 : decode cX6_hasObjectsOf 11 = .ok (.iload_n 2, 1) := by decide +kernel
theorem dX6_hasObjectsOf_12 : decode cX6_hasObjectsOf 12 = .ok (.aload_n 1, 1) := by decide +kernel
theorem dX6_hasObjectsOf_13 : decode cX6_hasObjectsOf 13 = .ok (.getfield 9, 3) := by decide +kernel
theorem dX6_hasObjectsOf_16 : decode cX6_hasObjectsOf 16 = .ok (.arraylength, 1) := by decide +kernel
theorem dX6_hasObjectsOf_17 : decode cX6_hasObjectsOf 17 = .ok (.if_icmp .ge 26, 3) := by decide +kernel
theorem dX6_hasObjectsOf_20 : decode cX6_hasObjectsOf 20 = .ok (.aload_n 0, 1) := by decide +kernel
theorem dX6_hasObjectsOf_21 : decode cX6_hasObjectsOf 21 = .ok (.getfield 9, 3) := by decide +kernel
theorem dX6_hasObjectsOf_24 : decode cX6_hasObjectsOf 24 = .ok (.iload_n 2, 1) := by decide +kernel
theorem dX6_hasObjectsOf_25 : decode cX6_hasObjectsOf 25 = .ok (.iaload, 1) := by decide +kernel
theorem dX6_hasObjectsOf_26 : decode cX6_hasObjectsOf 26 = .ok (.aload_n 1, 1) := by decide +kernel
theorem dX6_hasObjectsOf_27 : decode cX6_hasObjectsOf 27 = .ok (.getfield 9, 3) := by decide +kernel
theorem dX6_hasObjectsOf_30 : decode cX6_hasObjectsOf 30 = .ok (.iload_n 2, 1) := by decide +kernel
theorem dX6_hasObjectsOf_31 : decode cX6_hasObjectsOf 31 = .ok (.iaload, 1) := by decide +kernel
theorem dX6_hasObjectsOf_32 : decode cX6_hasObjectsOf 32 = .ok (.if_icmp .eq 5, 3) := by decide +kernel
theorem dX6_hasObjectsOf_35 : decode cX6_hasObjectsOf 35 = .ok (.iconst 0, 1) := by decide +kernel
theorem dX6_hasObjectsOf_36 : decode cX6_hasObjectsOf 36 = .ok (.ireturn, 1) := by decide +kernel
theorem dX6_hasObjectsOf_37 : decode cX6_hasObjectsOf 37 = .ok (.iinc 2 1, 3) := by decide +kernel
theorem dX6_hasObjectsOf_40 : decode cX6_hasObjectsOf 40 = .ok (.goto (-38), 3) := by decide +kernel
theorem dX6_hasObjectsOf_43 : decode cX6_hasObjectsOf 43 = .ok (.iconst 1, 1) := by decide +kernel
theorem dX6_hasObjectsOf_44 : decode cX6_hasObjectsOf 44 = .ok (.ireturn, 1) := by decide +kernel
theorem dX6_ofObject_0 : decode cX6_ofObject 0 = .ok (.bipush 7, 2) := by decide +kernel
theorem dX6_ofObject_2 : decode cX6_ofObject 2 = .ok (.iload_n 1, 1) := by decide +kernel
theorem dX6_ofObject_3 : decode cX6_ofObject 3 = .ok (.imul, 1) := by decide +kernel
theorem dX6_ofObject_4 : decode cX6_ofObject 4 = .ok (.iload_n 2, 1) := by decide +kernel
theorem dX6_ofObject_5 : decode cX6_ofObject 5 = .ok (.iadd, 1) := by decide +kernel
theorem dX6_ofObject_6 : decode cX6_ofObject 6 = .ok (.istore_n 3, 1) := by decide +kernel
theorem dX6_ofObject_7 : decode cX6_ofObject 7 = .ok (.iload_n 3, 1) := by decide +kernel
theorem dX6_ofObject_8 : decode cX6_ofObject 8 = .ok (.ifCond .lt 21, 3) := by decide +kernel
theorem dX6_ofObject_11 : decode cX6_ofObject 11 = .ok (.iload_n 3, 1) := by decide +kernel
theorem dX6_ofObject_12 : decode cX6_ofObject 12 = .ok (.aload_n 0, 1) := by decide +kernel
theorem dX6_ofObject_13 : decode cX6_ofObject 13 = .ok (.getfield 9, 3) := by decide +kernel
theorem dX6_ofObject_16 : decode cX6_ofObject 16 = .ok (.arraylength, 1) := by decide +kernel
theorem dX6_ofObject_17 : decode cX6_ofObject 17 = .ok (.if_icmp .ge 12, 3) := by decide +kernel
theorem dX6_ofObject_20 : decode cX6_ofObject 20 = .ok (.aload_n 0, 1) := by decide +kernel
theorem dX6_ofObject_21 : decode cX6_ofObject 21 = .ok (.getfield 9, 3) := by decide +kernel
theorem dX6_ofObject_24 : decode cX6_ofObject 24 = .ok (.iload_n 3, 1) := by decide +kernel
theorem dX6_ofObject_25 : decode cX6_ofObject 25 = .ok (.iaload, 1) := by decide +kernel
theorem dX6_ofObject_26 : decode cX6_ofObject 26 = .ok (.goto 4, 3) := by decide +kernel
theorem dX6_ofObject_29 : decode cX6_ofObject 29 = .ok (.iconst 0, 1) := by decide +kernel
theorem dX6_ofObject_30 : decode cX6_ofObject 30 = .ok (.ireturn, 1) := by decide +kernel
theorem dX6_setObject_0 : decode cX6_setObject 0 = .ok (.bipush 7, 2) := by decide +kernel
theorem dX6_setObject_2 : decode cX6_setObject 2 = .ok (.iload_n 1, 1) := by decide +kernel
theorem dX6_setObject_3 : decode cX6_setObject 3 = .ok (.imul, 1) := by decide +kernel
theorem dX6_setObject_4 : decode cX6_setObject 4 = .ok (.iload_n 2, 1) := by decide +kernel
theorem dX6_setObject_5 : decode cX6_setObject 5 = .ok (.iadd, 1) := by decide +kernel
theorem dX6_setObject_6 : decode cX6_setObject 6 = .ok (.istore 4, 2) := by decide +kernel
theorem dX6_setObject_8 : decode cX6_setObject 8 = .ok (.iload 4, 2) := by decide +kernel
theorem dX6_setObject_10 : decode cX6_setObject 10 = .ok (.ifCond .lt 21, 3) := by decide +kernel
theorem dX6_setObject_13 : decode cX6_setObject 13 = .ok (.iload 4, 2) := by decide +kernel
theorem dX6_setObject_15 : decode cX6_setObject 15 = .ok (.aload_n 0, 1) := by decide +kernel
theorem dX6_setObject_16 : decode cX6_setObject 16 = .ok (.getfield 9, 3) := by decide +kernel
theorem dX6_setObject_19 : decode cX6_setObject 19 = .ok (.arraylength, 1) := by decide +kernel
theorem dX6_setObject_20 : decode cX6_setObject 20 = .ok (.if_icmp .ge 11, 3) := by decide +kernel
theorem dX6_setObject_23 : decode cX6_setObject 23 = .ok (.aload_n 0, 1) := by decide +kernel
theorem dX6_setObject_24 : decode cX6_setObject 24 = .ok (.getfield 9, 3) := by decide +kernel
theorem dX6_setObject_27 : decode cX6_setObject 27 = .ok (.iload 4, 2) := by decide +kernel
theorem dX6_setObject_29 : decode cX6_setObject 29 = .ok (.iload_n 3, 1) := by decide +kernel
theorem dX6_setObject_30 : decode cX6_setObject 30 = .ok (.iastore, 1) := by decide +kernel
theorem dX6_setObject_31 : decode cX6_setObject 31 = .ok (.return_, 1) := by decide +kernel
def bs_X6_setVector : List (List Cond) := [[.code yX6_setVector cX6_setVector 6 none], [.methodLink RX6 42 yX6_setObject, .instanceMethod yX6_setObject, .selects RX6 yX6_setObject yX6_setObject, .initialized RX6, .code yX6_setObject cX6_setObject 5 none, .fieldLink RX6 9 "SlewPlanner$State" "objects" "[I"], wsX60]
theorem bi_X6_setVector : ∀ w ∈ bs_X6_setVector.flatten, w ∈ wsX6_setVector := by
  have h : bs_X6_setVector.flatten = wsX6_setVector := by simp only [bs_X6_setVector, wsX6_setVector, List.flatten_cons, List.flatten_nil, List.append_assoc, List.append_nil, List.nil_append, List.cons_append]
  intro w hw; rw [h] at hw; exact hw
set_option maxRecDepth 20000 in
theorem ggX6_setVector_X6_setObject : GoodIn wsX6_setVector wsX6_setObject := goodIn_bb bs_X6_setVector bi_X6_setVector _ [(1, 4), (1, 5), (2, 0), (2, 1), (2, 2), (2, 3), (2, 4), (2, 5)] rfl (by decide +kernel)
set_option maxRecDepth 20000 in
theorem gX6_setVector_X6_setObject : GoodIn wsX6_setVector (wsV RX6 42 RX6 yX6_setObject wsX6_setObject) := goodIn_app (goodIn_bb bs_X6_setVector bi_X6_setVector _ [(1, 0), (1, 1), (1, 2), (1, 3)] rfl (by decide +kernel)) ggX6_setVector_X6_setObject
theorem dX6_setVector_0 : decode cX6_setVector 0 = .ok (.aload_n 0, 1) := by decide +kernel
theorem dX6_setVector_1 : decode cX6_setVector 1 = .ok (.iload_n 1, 1) := by decide +kernel
theorem dX6_setVector_2 : decode cX6_setVector 2 = .ok (.iload_n 2, 1) := by decide +kernel
theorem dX6_setVector_3 : decode cX6_setVector 3 = .ok (.iload_n 3, 1) := by decide +kernel
theorem dX6_setVector_4 : decode cX6_setVector 4 = .ok (.invokevirtual 42, 3) := by decide +kernel
theorem dX6_setVector_7 : decode cX6_setVector 7 = .ok (.aload_n 0, 1) := by decide +kernel
theorem dX6_setVector_8 : decode cX6_setVector 8 = .ok (.iload_n 1, 1) := by decide +kernel
theorem dX6_setVector_9 : decode cX6_setVector 9 = .ok (.iload_n 2, 1) := by decide +kernel
theorem dX6_setVector_10 : decode cX6_setVector 10 = .ok (.iconst 1, 1) := by decide +kernel
theorem dX6_setVector_11 : decode cX6_setVector 11 = .ok (.iadd, 1) := by decide +kernel
theorem dX6_setVector_12 : decode cX6_setVector 12 = .ok (.iload 4, 2) := by decide +kernel
theorem dX6_setVector_14 : decode cX6_setVector 14 = .ok (.invokevirtual 42, 3) := by decide +kernel
theorem dX6_setVector_17 : decode cX6_setVector 17 = .ok (.aload_n 0, 1) := by decide +kernel
theorem dX6_setVector_18 : decode cX6_setVector 18 = .ok (.iload_n 1, 1) := by decide +kernel
theorem dX6_setVector_19 : decode cX6_setVector 19 = .ok (.iload_n 2, 1) := by decide +kernel
theorem dX6_setVector_20 : decode cX6_setVector 20 = .ok (.iconst 2, 1) := by decide +kernel
theorem dX6_setVector_21 : decode cX6_setVector 21 = .ok (.iadd, 1) := by decide +kernel
theorem dX6_setVector_22 : decode cX6_setVector 22 = .ok (.iload 5, 2) := by decide +kernel
theorem dX6_setVector_24 : decode cX6_setVector 24 = .ok (.invokevirtual 42, 3) := by decide +kernel
theorem dX6_setVector_27 : decode cX6_setVector 27 = .ok (.return_, 1) := by decide +kernel
theorem dX6_aimOf_0 : decode cX6_aimOf 0 = .ok (.bipush 7, 2) := by decide +kernel
theorem dX6_aimOf_2 : decode cX6_aimOf 2 = .ok (.iload_n 1, 1) := by decide +kernel
theorem dX6_aimOf_3 : decode cX6_aimOf 3 = .ok (.imul, 1) := by decide +kernel
theorem dX6_aimOf_4 : decode cX6_aimOf 4 = .ok (.iload_n 2, 1) := by decide +kernel
theorem dX6_aimOf_5 : decode cX6_aimOf 5 = .ok (.iadd, 1) := by decide +kernel
theorem dX6_aimOf_6 : decode cX6_aimOf 6 = .ok (.istore 4, 2) := by decide +kernel
theorem dX6_aimOf_8 : decode cX6_aimOf 8 = .ok (.iload 4, 2) := by decide +kernel
theorem dX6_aimOf_10 : decode cX6_aimOf 10 = .ok (.ifCond .lt 15, 3) := by decide +kernel
theorem dX6_aimOf_13 : decode cX6_aimOf 13 = .ok (.iload 4, 2) := by decide +kernel
theorem dX6_aimOf_15 : decode cX6_aimOf 15 = .ok (.aload_n 0, 1) := by decide +kernel
theorem dX6_aimOf_16 : decode cX6_aimOf 16 = .ok (.getfield 9, 3) := by decide +kernel
theorem dX6_aimOf_19 : decode cX6_aimOf 19 = .ok (.arraylength, 1) := by decide +kernel
theorem dX6_aimOf_20 : decode cX6_aimOf 20 = .ok (.iconst 3, 1) := by decide +kernel
theorem dX6_aimOf_21 : decode cX6_aimOf 21 = .ok (.isub, 1) := by decide +kernel
theorem dX6_aimOf_22 : decode cX6_aimOf 22 = .ok (.if_icmp .lt 5, 3) := by decide +kernel
theorem dX6_aimOf_25 : decode cX6_aimOf 25 = .ok (.iconst 0, 1) := by decide +kernel
theorem dX6_aimOf_26 : decode cX6_aimOf 26 = .ok (.ireturn, 1) := by decide +kernel
theorem dX6_aimOf_27 : decode cX6_aimOf 27 = .ok (.aload_n 0, 1) := by decide +kernel
theorem dX6_aimOf_28 : decode cX6_aimOf 28 = .ok (.getfield 9, 3) := by decide +kernel
theorem dX6_aimOf_31 : decode cX6_aimOf 31 = .ok (.iload 4, 2) := by decide +kernel
theorem dX6_aimOf_33 : decode cX6_aimOf 33 = .ok (.iconst 0, 1) := by decide +kernel
theorem dX6_aimOf_34 : decode cX6_aimOf 34 = .ok (.iadd, 1) := by decide +kernel
theorem dX6_aimOf_35 : decode cX6_aimOf 35 = .ok (.iaload, 1) := by decide +kernel
theorem dX6_aimOf_36 : decode cX6_aimOf 36 = .ok (.iload_n 3, 1) := by decide +kernel
theorem dX6_aimOf_37 : decode cX6_aimOf 37 = .ok (.aload_n 0, 1) := by decide +kernel
theorem dX6_aimOf_38 : decode cX6_aimOf 38 = .ok (.getfield 9, 3) := by decide +kernel
theorem dX6_aimOf_41 : decode cX6_aimOf 41 = .ok (.iload 4, 2) := by decide +kernel
theorem dX6_aimOf_43 : decode cX6_aimOf 43 = .ok (.iconst 3, 1) := by decide +kernel
theorem dX6_aimOf_44 : decode cX6_aimOf 44 = .ok (.iadd, 1) := by decide +kernel
theorem dX6_aimOf_45 : decode cX6_aimOf 45 = .ok (.iaload, 1) := by decide +kernel
theorem dX6_aimOf_46 : decode cX6_aimOf 46 = .ok (.imul, 1) := by decide +kernel
theorem dX6_aimOf_47 : decode cX6_aimOf 47 = .ok (.iadd, 1) := by decide +kernel
theorem dX6_aimOf_48 : decode cX6_aimOf 48 = .ok (.ireturn, 1) := by decide +kernel
theorem dX6_ofRequest_0 : decode cX6_ofRequest 0 = .ok (.iconst 3, 1) := by decide +kernel
theorem dX6_ofRequest_1 : decode cX6_ofRequest 1 = .ok (.iload_n 1, 1) := by decide +kernel
theorem dX6_ofRequest_2 : decode cX6_ofRequest 2 = .ok (.imul, 1) := by decide +kernel
theorem dX6_ofRequest_3 : decode cX6_ofRequest 3 = .ok (.iload_n 2, 1) := by decide +kernel
theorem dX6_ofRequest_4 : decode cX6_ofRequest 4 = .ok (.iadd, 1) := by decide +kernel
theorem dX6_ofRequest_5 : decode cX6_ofRequest 5 = .ok (.istore_n 3, 1) := by decide +kernel
theorem dX6_ofRequest_6 : decode cX6_ofRequest 6 = .ok (.iload_n 3, 1) := by decide +kernel
theorem dX6_ofRequest_7 : decode cX6_ofRequest 7 = .ok (.ifCond .lt 21, 3) := by decide +kernel
theorem dX6_ofRequest_10 : decode cX6_ofRequest 10 = .ok (.iload_n 3, 1) := by decide +kernel
theorem dX6_ofRequest_11 : decode cX6_ofRequest 11 = .ok (.aload_n 0, 1) := by decide +kernel
theorem dX6_ofRequest_12 : decode cX6_ofRequest 12 = .ok (.getfield 15, 3) := by decide +kernel
theorem dX6_ofRequest_15 : decode cX6_ofRequest 15 = .ok (.arraylength, 1) := by decide +kernel
theorem dX6_ofRequest_16 : decode cX6_ofRequest 16 = .ok (.if_icmp .ge 12, 3) := by decide +kernel
theorem dX6_ofRequest_19 : decode cX6_ofRequest 19 = .ok (.aload_n 0, 1) := by decide +kernel
theorem dX6_ofRequest_20 : decode cX6_ofRequest 20 = .ok (.getfield 15, 3) := by decide +kernel
theorem dX6_ofRequest_23 : decode cX6_ofRequest 23 = .ok (.iload_n 3, 1) := by decide +kernel
theorem dX6_ofRequest_24 : decode cX6_ofRequest 24 = .ok (.iaload, 1) := by decide +kernel
theorem dX6_ofRequest_25 : decode cX6_ofRequest 25 = .ok (.goto 4, 3) := by decide +kernel
theorem dX6_ofRequest_28 : decode cX6_ofRequest 28 = .ok (.iconst 0, 1) := by decide +kernel
theorem dX6_ofRequest_29 : decode cX6_ofRequest 29 = .ok (.ireturn, 1) := by decide +kernel
theorem dX6_setRequest_0 : decode cX6_setRequest 0 = .ok (.iconst 3, 1) := by decide +kernel
theorem dX6_setRequest_1 : decode cX6_setRequest 1 = .ok (.iload_n 1, 1) := by decide +kernel
theorem dX6_setRequest_2 : decode cX6_setRequest 2 = .ok (.imul, 1) := by decide +kernel
theorem dX6_setRequest_3 : decode cX6_setRequest 3 = .ok (.iload_n 2, 1) := by decide +kernel
theorem dX6_setRequest_4 : decode cX6_setRequest 4 = .ok (.iadd, 1) := by decide +kernel
theorem dX6_setRequest_5 : decode cX6_setRequest 5 = .ok (.istore 4, 2) := by decide +kernel
theorem dX6_setRequest_7 : decode cX6_setRequest 7 = .ok (.iload 4, 2) := by decide +kernel
theorem dX6_setRequest_9 : decode cX6_setRequest 9 = .ok (.ifCond .lt 21, 3) := by decide +kernel
theorem dX6_setRequest_12 : decode cX6_setRequest 12 = .ok (.iload 4, 2) := by decide +kernel
theorem dX6_setRequest_14 : decode cX6_setRequest 14 = .ok (.aload_n 0, 1) := by decide +kernel
theorem dX6_setRequest_15 : decode cX6_setRequest 15 = .ok (.getfield 15, 3) := by decide +kernel
theorem dX6_setRequest_18 : decode cX6_setRequest 18 = .ok (.arraylength, 1) := by decide +kernel
theorem dX6_setRequest_19 : decode cX6_setRequest 19 = .ok (.if_icmp .ge 11, 3) := by decide +kernel
theorem dX6_setRequest_22 : decode cX6_setRequest 22 = .ok (.aload_n 0, 1) := by decide +kernel
theorem dX6_setRequest_23 : decode cX6_setRequest 23 = .ok (.getfield 15, 3) := by decide +kernel
theorem dX6_setRequest_26 : decode cX6_setRequest 26 = .ok (.iload 4, 2) := by decide +kernel
theorem dX6_setRequest_28 : decode cX6_setRequest 28 = .ok (.iload_n 3, 1) := by decide +kernel
theorem dX6_setRequest_29 : decode cX6_setRequest 29 = .ok (.iastore, 1) := by decide +kernel
theorem dX6_setRequest_30 : decode cX6_setRequest 30 = .ok (.return_, 1) := by decide +kernel
def bs_X6_appendRequest : List (List Cond) := [[.code yX6_appendRequest cX6_appendRequest 4 none], [.fieldLink RX6 29 "SlewPlanner$State" "requestTotal" "I", .methodLink RX6 46 yX6_setRequest, .instanceMethod yX6_setRequest, .selects RX6 yX6_setRequest yX6_setRequest, .initialized RX6, .code yX6_setRequest cX6_setRequest 5 none, .fieldLink RX6 15 "SlewPlanner$State" "requests" "[I"], wsX60]
theorem bi_X6_appendRequest : ∀ w ∈ bs_X6_appendRequest.flatten, w ∈ wsX6_appendRequest := by
  have h : bs_X6_appendRequest.flatten = wsX6_appendRequest := by simp only [bs_X6_appendRequest, wsX6_appendRequest, List.flatten_cons, List.flatten_nil, List.append_assoc, List.append_nil, List.nil_append, List.cons_append]
  intro w hw; rw [h] at hw; exact hw
set_option maxRecDepth 20000 in
theorem ggX6_appendRequest_X6_setRequest : GoodIn wsX6_appendRequest wsX6_setRequest := goodIn_bb bs_X6_appendRequest bi_X6_appendRequest _ [(1, 5), (1, 6), (2, 0), (2, 1), (2, 2), (2, 3), (2, 4), (2, 5)] rfl (by decide +kernel)
set_option maxRecDepth 20000 in
theorem gX6_appendRequest_X6_setRequest : GoodIn wsX6_appendRequest (wsV RX6 46 RX6 yX6_setRequest wsX6_setRequest) := goodIn_app (goodIn_bb bs_X6_appendRequest bi_X6_appendRequest _ [(1, 1), (1, 2), (1, 3), (1, 4)] rfl (by decide +kernel)) ggX6_appendRequest_X6_setRequest
theorem dX6_appendRequest_0 : decode cX6_appendRequest 0 = .ok (.aload_n 0, 1) := by decide +kernel
theorem dX6_appendRequest_1 : decode cX6_appendRequest 1 = .ok (.aload_n 0, 1) := by decide +kernel
theorem dX6_appendRequest_2 : decode cX6_appendRequest 2 = .ok (.getfield 29, 3) := by decide +kernel
theorem dX6_appendRequest_5 : decode cX6_appendRequest 5 = .ok (.iconst 0, 1) := by decide +kernel
theorem dX6_appendRequest_6 : decode cX6_appendRequest 6 = .ok (.iload_n 1, 1) := by decide +kernel
theorem dX6_appendRequest_7 : decode cX6_appendRequest 7 = .ok (.invokevirtual 46, 3) := by decide +kernel
theorem dX6_appendRequest_10 : decode cX6_appendRequest 10 = .ok (.aload_n 0, 1) := by decide +kernel
theorem dX6_appendRequest_11 : decode cX6_appendRequest 11 = .ok (.aload_n 0, 1) := by decide +kernel
theorem dX6_appendRequest_12 : decode cX6_appendRequest 12 = .ok (.getfield 29, 3) := by decide +kernel
theorem dX6_appendRequest_15 : decode cX6_appendRequest 15 = .ok (.iconst 1, 1) := by decide +kernel
theorem dX6_appendRequest_16 : decode cX6_appendRequest 16 = .ok (.iload_n 2, 1) := by decide +kernel
theorem dX6_appendRequest_17 : decode cX6_appendRequest 17 = .ok (.invokevirtual 46, 3) := by decide +kernel
theorem dX6_appendRequest_20 : decode cX6_appendRequest 20 = .ok (.aload_n 0, 1) := by decide +kernel
theorem dX6_appendRequest_21 : decode cX6_appendRequest 21 = .ok (.aload_n 0, 1) := by decide +kernel
theorem dX6_appendRequest_22 : decode cX6_appendRequest 22 = .ok (.getfield 29, 3) := by decide +kernel
theorem dX6_appendRequest_25 : decode cX6_appendRequest 25 = .ok (.iconst 2, 1) := by decide +kernel
theorem dX6_appendRequest_26 : decode cX6_appendRequest 26 = .ok (.iload_n 3, 1) := by decide +kernel
theorem dX6_appendRequest_27 : decode cX6_appendRequest 27 = .ok (.invokevirtual 46, 3) := by decide +kernel
theorem dX6_appendRequest_30 : decode cX6_appendRequest 30 = .ok (.aload_n 0, 1) := by decide +kernel
theorem dX6_appendRequest_31 : decode cX6_appendRequest 31 = .ok (.dup, 1) := by decide +kernel
theorem dX6_appendRequest_32 : decode cX6_appendRequest 32 = .ok (.getfield 29, 3) := by decide +kernel
theorem dX6_appendRequest_35 : decode cX6_appendRequest 35 = .ok (.iconst 1, 1) := by decide +kernel
theorem dX6_appendRequest_36 : decode cX6_appendRequest 36 = .ok (.iadd, 1) := by decide +kernel
theorem dX6_appendRequest_37 : decode cX6_appendRequest 37 = .ok (.putfield 29, 3) := by decide +kernel
theorem dX6_appendRequest_40 : decode cX6_appendRequest 40 = .ok (.return_, 1) := by decide +kernel
def bs_X6_dropRequest : List (List Cond) := [[.code yX6_dropRequest cX6_dropRequest 4 none], [.fieldLink RX6 29 "SlewPlanner$State" "requestTotal" "I", .methodLink RX6 49 yX6_ofRequest, .instanceMethod yX6_ofRequest, .selects RX6 yX6_ofRequest yX6_ofRequest, .initialized RX6, .code yX6_ofRequest cX6_ofRequest 4 (some .int), .fieldLink RX6 15 "SlewPlanner$State" "requests" "[I", .methodLink RX6 46 yX6_setRequest, .instanceMethod yX6_setRequest, .selects RX6 yX6_setRequest yX6_setRequest, .code yX6_setRequest cX6_setRequest 5 none], wsX60]
theorem bi_X6_dropRequest : ∀ w ∈ bs_X6_dropRequest.flatten, w ∈ wsX6_dropRequest := by
  have h : bs_X6_dropRequest.flatten = wsX6_dropRequest := by simp only [bs_X6_dropRequest, wsX6_dropRequest, List.flatten_cons, List.flatten_nil, List.append_assoc, List.append_nil, List.nil_append, List.cons_append]
  intro w hw; rw [h] at hw; exact hw
set_option maxRecDepth 20000 in
theorem ggX6_dropRequest_X6_ofRequest : GoodIn wsX6_dropRequest wsX6_ofRequest := goodIn_bb bs_X6_dropRequest bi_X6_dropRequest _ [(1, 5), (1, 6), (2, 0), (2, 1), (2, 2), (2, 3), (2, 4), (2, 5)] rfl (by decide +kernel)
set_option maxRecDepth 20000 in
theorem gX6_dropRequest_X6_ofRequest : GoodIn wsX6_dropRequest (wsV RX6 49 RX6 yX6_ofRequest wsX6_ofRequest) := goodIn_app (goodIn_bb bs_X6_dropRequest bi_X6_dropRequest _ [(1, 1), (1, 2), (1, 3), (1, 4)] rfl (by decide +kernel)) ggX6_dropRequest_X6_ofRequest
set_option maxRecDepth 20000 in
theorem ggX6_dropRequest_X6_setRequest : GoodIn wsX6_dropRequest wsX6_setRequest := goodIn_bb bs_X6_dropRequest bi_X6_dropRequest _ [(1, 10), (1, 6), (2, 0), (2, 1), (2, 2), (2, 3), (2, 4), (2, 5)] rfl (by decide +kernel)
set_option maxRecDepth 20000 in
theorem gX6_dropRequest_X6_setRequest : GoodIn wsX6_dropRequest (wsV RX6 46 RX6 yX6_setRequest wsX6_setRequest) := goodIn_app (goodIn_bb bs_X6_dropRequest bi_X6_dropRequest _ [(1, 7), (1, 8), (1, 9), (1, 4)] rfl (by decide +kernel)) ggX6_dropRequest_X6_setRequest
theorem dX6_dropRequest_0 : decode cX6_dropRequest 0 = .ok (.iload_n 1, 1) := by decide +kernel
theorem dX6_dropRequest_1 : decode cX6_dropRequest 1 = .ok (.istore_n 2, 1) := by decide +kernel
theorem dX6_dropRequest_2 : decode cX6_dropRequest 2 = .ok (.iload_n 2, 1) := by decide +kernel
theorem dX6_dropRequest_3 : decode cX6_dropRequest 3 = .ok (.aload_n 0, 1) := by decide +kernel
theorem dX6_dropRequest_4 : decode cX6_dropRequest 4 = .ok (.getfield 29, 3) := by decide +kernel
theorem dX6_dropRequest_7 : decode cX6_dropRequest 7 = .ok (.iconst 1, 1) := by decide +kernel
theorem dX6_dropRequest_8 : decode cX6_dropRequest 8 = .ok (.isub, 1) := by decide +kernel
theorem dX6_dropRequest_9 : decode cX6_dropRequest 9 = .ok (.if_icmp .ge 36, 3) := by decide +kernel
theorem dX6_dropRequest_12 : decode cX6_dropRequest 12 = .ok (.iconst 0, 1) := by decide +kernel
theorem dX6_dropRequest_13 : decode cX6_dropRequest 13 = .ok (.istore_n 3, 1) := by decide +kernel
theorem dX6_dropRequest_14 : decode cX6_dropRequest 14 = .ok (.iload_n 3, 1) := by decide +kernel
theorem dX6_dropRequest_15 : decode cX6_dropRequest 15 = .ok (.iconst 3, 1) := by decide +kernel
theorem dX6_dropRequest_16 : decode cX6_dropRequest 16 = .ok (.if_icmp .ge 23, 3) := by decide +kernel
theorem dX6_dropRequest_19 : decode cX6_dropRequest 19 = .ok (.aload_n 0, 1) := by decide +kernel
theorem dX6_dropRequest_20 : decode cX6_dropRequest 20 = .ok (.iload_n 2, 1) := by decide +kernel
theorem dX6_dropRequest_21 : decode cX6_dropRequest 21 = .ok (.iload_n 3, 1) := by decide +kernel
theorem dX6_dropRequest_22 : decode cX6_dropRequest 22 = .ok (.aload_n 0, 1) := by decide +kernel
theorem dX6_dropRequest_23 : decode cX6_dropRequest 23 = .ok (.iload_n 2, 1) := by decide +kernel
theorem dX6_dropRequest_24 : decode cX6_dropRequest 24 = .ok (.iconst 1, 1) := by decide +kernel
theorem dX6_dropRequest_25 : decode cX6_dropRequest 25 = .ok (.iadd, 1) := by decide +kernel
theorem dX6_dropRequest_26 : decode cX6_dropRequest 26 = .ok (.iload_n 3, 1) := by decide +kernel
theorem dX6_dropRequest_27 : decode cX6_dropRequest 27 = .ok (.invokevirtual 49, 3) := by decide +kernel
theorem dX6_dropRequest_30 : decode cX6_dropRequest 30 = .ok (.invokevirtual 46, 3) := by decide +kernel
theorem dX6_dropRequest_33 : decode cX6_dropRequest 33 = .ok (.iinc 3 1, 3) := by decide +kernel
theorem dX6_dropRequest_36 : decode cX6_dropRequest 36 = .ok (.goto (-22), 3) := by decide +kernel
theorem dX6_dropRequest_39 : decode cX6_dropRequest 39 = .ok (.iinc 2 1, 3) := by decide +kernel
theorem dX6_dropRequest_42 : decode cX6_dropRequest 42 = .ok (.goto (-40), 3) := by decide +kernel
theorem dX6_dropRequest_45 : decode cX6_dropRequest 45 = .ok (.aload_n 0, 1) := by decide +kernel
theorem dX6_dropRequest_46 : decode cX6_dropRequest 46 = .ok (.dup, 1) := by decide +kernel
theorem dX6_dropRequest_47 : decode cX6_dropRequest 47 = .ok (.getfield 29, 3) := by decide +kernel
theorem dX6_dropRequest_50 : decode cX6_dropRequest 50 = .ok (.iconst 1, 1) := by decide +kernel
theorem dX6_dropRequest_51 : decode cX6_dropRequest 51 = .ok (.isub, 1) := by decide +kernel
theorem dX6_dropRequest_52 : decode cX6_dropRequest 52 = .ok (.putfield 29, 3) := by decide +kernel
theorem dX6_dropRequest_55 : decode cX6_dropRequest 55 = .ok (.return_, 1) := by decide +kernel
