theorem dJ13_bitCount_95d88_0 : decode cJ13_bitCount_95d88 0 = .ok (.lload_n 0, 1) := by decide +kernel
theorem dJ13_bitCount_95d88_1 : decode cJ13_bitCount_95d88 1 = .ok (.lload_n 0, 1) := by decide +kernel
theorem dJ13_bitCount_95d88_2 : decode cJ13_bitCount_95d88 2 = .ok (.iconst 1, 1) := by decide +kernel
theorem dJ13_bitCount_95d88_3 : decode cJ13_bitCount_95d88 3 = .ok (.lushr, 1) := by decide +kernel
theorem dJ13_bitCount_95d88_4 : decode cJ13_bitCount_95d88 4 = .ok (.ldc2_w 314, 3) := by decide +kernel
theorem dJ13_bitCount_95d88_7 : decode cJ13_bitCount_95d88 7 = .ok (.land, 1) := by decide +kernel
theorem dJ13_bitCount_95d88_8 : decode cJ13_bitCount_95d88 8 = .ok (.lsub, 1) := by decide +kernel
theorem dJ13_bitCount_95d88_9 : decode cJ13_bitCount_95d88 9 = .ok (.lstore_n 0, 1) := by decide +kernel
theorem dJ13_bitCount_95d88_10 : decode cJ13_bitCount_95d88 10 = .ok (.lload_n 0, 1) := by decide +kernel
theorem dJ13_bitCount_95d88_11 : decode cJ13_bitCount_95d88 11 = .ok (.ldc2_w 316, 3) := by decide +kernel
theorem dJ13_bitCount_95d88_14 : decode cJ13_bitCount_95d88 14 = .ok (.land, 1) := by decide +kernel
theorem dJ13_bitCount_95d88_15 : decode cJ13_bitCount_95d88 15 = .ok (.lload_n 0, 1) := by decide +kernel
theorem dJ13_bitCount_95d88_16 : decode cJ13_bitCount_95d88 16 = .ok (.iconst 2, 1) := by decide +kernel
theorem dJ13_bitCount_95d88_17 : decode cJ13_bitCount_95d88 17 = .ok (.lushr, 1) := by decide +kernel
theorem dJ13_bitCount_95d88_18 : decode cJ13_bitCount_95d88 18 = .ok (.ldc2_w 316, 3) := by decide +kernel
theorem dJ13_bitCount_95d88_21 : decode cJ13_bitCount_95d88 21 = .ok (.land, 1) := by decide +kernel
theorem dJ13_bitCount_95d88_22 : decode cJ13_bitCount_95d88 22 = .ok (.ladd, 1) := by decide +kernel
theorem dJ13_bitCount_95d88_23 : decode cJ13_bitCount_95d88 23 = .ok (.lstore_n 0, 1) := by decide +kernel
theorem dJ13_bitCount_95d88_24 : decode cJ13_bitCount_95d88 24 = .ok (.lload_n 0, 1) := by decide +kernel
theorem dJ13_bitCount_95d88_25 : decode cJ13_bitCount_95d88 25 = .ok (.lload_n 0, 1) := by decide +kernel
theorem dJ13_bitCount_95d88_26 : decode cJ13_bitCount_95d88 26 = .ok (.iconst 4, 1) := by decide +kernel
theorem dJ13_bitCount_95d88_27 : decode cJ13_bitCount_95d88 27 = .ok (.lushr, 1) := by decide +kernel
theorem dJ13_bitCount_95d88_28 : decode cJ13_bitCount_95d88 28 = .ok (.ladd, 1) := by decide +kernel
theorem dJ13_bitCount_95d88_29 : decode cJ13_bitCount_95d88 29 = .ok (.ldc2_w 318, 3) := by decide +kernel
theorem dJ13_bitCount_95d88_32 : decode cJ13_bitCount_95d88 32 = .ok (.land, 1) := by decide +kernel
theorem dJ13_bitCount_95d88_33 : decode cJ13_bitCount_95d88 33 = .ok (.lstore_n 0, 1) := by decide +kernel
theorem dJ13_bitCount_95d88_34 : decode cJ13_bitCount_95d88 34 = .ok (.lload_n 0, 1) := by decide +kernel
theorem dJ13_bitCount_95d88_35 : decode cJ13_bitCount_95d88 35 = .ok (.lload_n 0, 1) := by decide +kernel
theorem dJ13_bitCount_95d88_36 : decode cJ13_bitCount_95d88 36 = .ok (.bipush 8, 2) := by decide +kernel
theorem dJ13_bitCount_95d88_38 : decode cJ13_bitCount_95d88 38 = .ok (.lushr, 1) := by decide +kernel
theorem dJ13_bitCount_95d88_39 : decode cJ13_bitCount_95d88 39 = .ok (.ladd, 1) := by decide +kernel
theorem dJ13_bitCount_95d88_40 : decode cJ13_bitCount_95d88 40 = .ok (.lstore_n 0, 1) := by decide +kernel
theorem dJ13_bitCount_95d88_41 : decode cJ13_bitCount_95d88 41 = .ok (.lload_n 0, 1) := by decide +kernel
theorem dJ13_bitCount_95d88_42 : decode cJ13_bitCount_95d88 42 = .ok (.lload_n 0, 1) := by decide +kernel
theorem dJ13_bitCount_95d88_43 : decode cJ13_bitCount_95d88 43 = .ok (.bipush 16, 2) := by decide +kernel
theorem dJ13_bitCount_95d88_45 : decode cJ13_bitCount_95d88 45 = .ok (.lushr, 1) := by decide +kernel
theorem dJ13_bitCount_95d88_46 : decode cJ13_bitCount_95d88 46 = .ok (.ladd, 1) := by decide +kernel
theorem dJ13_bitCount_95d88_47 : decode cJ13_bitCount_95d88 47 = .ok (.lstore_n 0, 1) := by decide +kernel
theorem dJ13_bitCount_95d88_48 : decode cJ13_bitCount_95d88 48 = .ok (.lload_n 0, 1) := by decide +kernel
theorem dJ13_bitCount_95d88_49 : decode cJ13_bitCount_95d88 49 = .ok (.lload_n 0, 1) := by decide +kernel
theorem dJ13_bitCount_95d88_50 : decode cJ13_bitCount_95d88 50 = .ok (.bipush 32, 2) := by decide +kernel
theorem dJ13_bitCount_95d88_52 : decode cJ13_bitCount_95d88 52 = .ok (.lushr, 1) := by decide +kernel
theorem dJ13_bitCount_95d88_53 : decode cJ13_bitCount_95d88 53 = .ok (.ladd, 1) := by decide +kernel
theorem dJ13_bitCount_95d88_54 : decode cJ13_bitCount_95d88 54 = .ok (.lstore_n 0, 1) := by decide +kernel
theorem dJ13_bitCount_95d88_55 : decode cJ13_bitCount_95d88 55 = .ok (.lload_n 0, 1) := by decide +kernel
theorem dJ13_bitCount_95d88_56 : decode cJ13_bitCount_95d88 56 = .ok (.l2i, 1) := by decide +kernel
theorem dJ13_bitCount_95d88_57 : decode cJ13_bitCount_95d88 57 = .ok (.bipush 127, 2) := by decide +kernel
theorem dJ13_bitCount_95d88_59 : decode cJ13_bitCount_95d88 59 = .ok (.iand, 1) := by decide +kernel
theorem dJ13_bitCount_95d88_60 : decode cJ13_bitCount_95d88 60 = .ok (.ireturn, 1) := by decide +kernel
def bs_L_coordinate : List (List Cond) := [[.codeWith yL_coordinate cL_coordinate 5 (some .int) [(0, 10, 13, 13)]], [.classLink RL 13 "java/lang/IndexOutOfBoundsException", .methodLink RL 7 yX7_coordinate, .instanceMethod yX7_coordinate, .selects RX7 yX7_coordinate yX7_coordinate, .initialized RX7, .code yX7_coordinate cX7_coordinate 3 (some .int), .fieldLink RX7 10 "SlewPlanner" "sphere" "LSlewPlanner$Sphere;", .methodLink RX7 64 yX7_requireCell, .static yX7_requireCell, .code yX7_requireCell cX7_requireCell 1 none, .classLink RX7 285 "java/lang/IndexOutOfBoundsException", .initialized "java/lang/IndexOutOfBoundsException", .methodLink RX7 68 yX7_requireCoordinate, .static yX7_requireCoordinate, .code yX7_requireCoordinate cX7_requireCoordinate 1 none, .methodLink RX7 71 yX5_part, .instanceMethod yX5_part, .selects RX5 yX5_part yX5_part, .initialized RX5, .code yX5_part cX5_part 4 (some .int), .fieldLink RX5 20 "SlewPlanner$Sphere" "vectors" "[I"], wsX70, wsX50, (vx_atS RX7 289 "java/lang/IndexOutOfBoundsException" ["java/lang/RuntimeException", "java/lang/Exception"]).filter goodWord]
theorem bi_L_coordinate : ∀ w ∈ bs_L_coordinate.flatten, w ∈ wsL_coordinate := by
  have h : bs_L_coordinate.flatten = wsL_coordinate := by simp only [bs_L_coordinate, wsL_coordinate, List.flatten_cons, List.flatten_nil, List.append_assoc, List.append_nil, List.nil_append, List.cons_append]
  intro w hw; rw [h] at hw; exact hw
set_option maxRecDepth 20000 in
theorem ggL_coordinate_X7_coordinate : GoodIn wsL_coordinate wsX7_coordinate := goodIn_ca (goodIn_bb bs_L_coordinate bi_L_coordinate _ [(1, 5), (1, 6), (1, 7), (1, 8), (1, 4), (1, 9), (1, 10), (1, 11), (1, 12), (1, 13), (1, 14), (1, 15), (1, 16), (1, 17), (1, 18), (1, 19), (1, 20), (2, 0), (2, 1), (2, 2), (2, 3), (2, 4), (2, 5), (2, 6), (2, 7), (3, 0), (3, 1), (3, 2), (3, 3)] rfl (by decide +kernel)) (goodIn_sub (fun _ h => List.mem_cons_of_mem _ (List.mem_append_right _ h)) (by decide +kernel))
set_option maxRecDepth 20000 in
theorem gL_coordinate_X7_coordinate : GoodIn wsL_coordinate (wsV RL 7 RX7 yX7_coordinate wsX7_coordinate) := goodIn_app (goodIn_bb bs_L_coordinate bi_L_coordinate _ [(1, 1), (1, 2), (1, 3), (1, 4)] rfl (by decide +kernel)) ggL_coordinate_X7_coordinate
theorem dL_coordinate_0 : decode cL_coordinate 0 = .ok (.aload_n 3, 1) := by decide +kernel
theorem dL_coordinate_1 : decode cL_coordinate 1 = .ok (.iconst 0, 1) := by decide +kernel
theorem dL_coordinate_2 : decode cL_coordinate 2 = .ok (.aload_n 0, 1) := by decide +kernel
theorem dL_coordinate_3 : decode cL_coordinate 3 = .ok (.iload_n 1, 1) := by decide +kernel
theorem dL_coordinate_4 : decode cL_coordinate 4 = .ok (.iload_n 2, 1) := by decide +kernel
theorem dL_coordinate_5 : decode cL_coordinate 5 = .ok (.invokevirtual 7, 3) := by decide +kernel
theorem dL_coordinate_8 : decode cL_coordinate 8 = .ok (.i2l, 1) := by decide +kernel
theorem dL_coordinate_9 : decode cL_coordinate 9 = .ok (.lastore, 1) := by decide +kernel
theorem dL_coordinate_10 : decode cL_coordinate 10 = .ok (.goto 7, 3) := by decide +kernel
theorem dL_coordinate_13 : decode cL_coordinate 13 = .ok (.astore 4, 2) := by decide +kernel
theorem dL_coordinate_15 : decode cL_coordinate 15 = .ok (.iconst 1, 1) := by decide +kernel
theorem dL_coordinate_16 : decode cL_coordinate 16 = .ok (.ireturn, 1) := by decide +kernel
theorem dL_coordinate_17 : decode cL_coordinate 17 = .ok (.iconst 0, 1) := by decide +kernel
theorem dL_coordinate_18 : decode cL_coordinate 18 = .ok (.ireturn, 1) := by decide +kernel
def bs_L_neighbour : List (List Cond) := [[.codeWith yL_neighbour cL_neighbour 5 (some .int) [(0, 10, 13, 13), (0, 10, 17, 18)]], [.classLink RL 13 "java/lang/IndexOutOfBoundsException", .classLink RL 18 "java/lang/IllegalArgumentException", .methodLink RL 15 yX7_neighbour, .instanceMethod yX7_neighbour, .selects RX7 yX7_neighbour yX7_neighbour, .initialized RX7, .code yX7_neighbour cX7_neighbour 3 (some .int), .fieldLink RX7 10 "SlewPlanner" "sphere" "LSlewPlanner$Sphere;", .methodLink RX7 64 yX7_requireCell, .static yX7_requireCell, .code yX7_requireCell cX7_requireCell 1 none, .classLink RX7 285 "java/lang/IndexOutOfBoundsException", .initialized "java/lang/IndexOutOfBoundsException", .methodLink RX7 79 yX7_requireRange, .static yX7_requireRange, .code yX7_requireRange cX7_requireRange 3 none, .classLink RX7 146 "java/lang/IllegalArgumentException", .initialized "java/lang/IllegalArgumentException", .methodLink RX7 83 yX5_beside, .instanceMethod yX5_beside, .selects RX5 yX5_beside yX5_beside, .initialized RX5, .code yX5_beside cX5_beside 4 (some .int), .fieldLink RX5 27 "SlewPlanner$Sphere" "adjacent" "[I"], wsX70, wsX50, (vx_atS RX7 289 "java/lang/IndexOutOfBoundsException" ["java/lang/RuntimeException", "java/lang/Exception"]).filter goodWord, (vx_atS RX7 150 "java/lang/IllegalArgumentException" ["java/lang/RuntimeException", "java/lang/Exception"]).filter goodWord]
theorem bi_L_neighbour : ∀ w ∈ bs_L_neighbour.flatten, w ∈ wsL_neighbour := by
  have h : bs_L_neighbour.flatten = wsL_neighbour := by simp only [bs_L_neighbour, wsL_neighbour, List.flatten_cons, List.flatten_nil, List.append_assoc, List.append_nil, List.nil_append, List.cons_append]
  intro w hw; rw [h] at hw; exact hw
set_option maxRecDepth 20000 in
theorem ggL_neighbour_X7_neighbour : GoodIn wsL_neighbour wsX7_neighbour := goodIn_ca (goodIn_ca (goodIn_bb bs_L_neighbour bi_L_neighbour _ [(1, 6), (1, 7), (1, 8), (1, 9), (1, 5), (1, 10), (1, 11), (1, 12), (1, 13), (1, 14), (1, 15), (1, 16), (1, 17), (1, 18), (1, 19), (1, 20), (1, 21), (1, 22), (1, 23), (2, 0), (2, 1), (2, 2), (2, 3), (2, 4), (2, 5), (2, 6), (2, 7), (3, 0), (3, 1), (3, 2), (3, 3)] rfl (by decide +kernel)) (goodIn_sub (fun _ h => List.mem_cons_of_mem _ (List.mem_append_left _ (List.mem_append_right _ h))) (by decide +kernel))) (goodIn_sub (fun _ h => List.mem_cons_of_mem _ (List.mem_append_right _ h)) (by decide +kernel))
set_option maxRecDepth 20000 in
theorem gL_neighbour_X7_neighbour : GoodIn wsL_neighbour (wsV RL 15 RX7 yX7_neighbour wsX7_neighbour) := goodIn_app (goodIn_bb bs_L_neighbour bi_L_neighbour _ [(1, 2), (1, 3), (1, 4), (1, 5)] rfl (by decide +kernel)) ggL_neighbour_X7_neighbour
theorem dL_neighbour_0 : decode cL_neighbour 0 = .ok (.aload_n 3, 1) := by decide +kernel
theorem dL_neighbour_1 : decode cL_neighbour 1 = .ok (.iconst 0, 1) := by decide +kernel
theorem dL_neighbour_2 : decode cL_neighbour 2 = .ok (.aload_n 0, 1) := by decide +kernel
theorem dL_neighbour_3 : decode cL_neighbour 3 = .ok (.iload_n 1, 1) := by decide +kernel
theorem dL_neighbour_4 : decode cL_neighbour 4 = .ok (.iload_n 2, 1) := by decide +kernel
theorem dL_neighbour_5 : decode cL_neighbour 5 = .ok (.invokevirtual 15, 3) := by decide +kernel
theorem dL_neighbour_8 : decode cL_neighbour 8 = .ok (.i2l, 1) := by decide +kernel
theorem dL_neighbour_9 : decode cL_neighbour 9 = .ok (.lastore, 1) := by decide +kernel
theorem dL_neighbour_10 : decode cL_neighbour 10 = .ok (.goto 11, 3) := by decide +kernel
theorem dL_neighbour_13 : decode cL_neighbour 13 = .ok (.astore 4, 2) := by decide +kernel
theorem dL_neighbour_15 : decode cL_neighbour 15 = .ok (.iconst 1, 1) := by decide +kernel
theorem dL_neighbour_16 : decode cL_neighbour 16 = .ok (.ireturn, 1) := by decide +kernel
theorem dL_neighbour_17 : decode cL_neighbour 17 = .ok (.astore 4, 2) := by decide +kernel
theorem dL_neighbour_19 : decode cL_neighbour 19 = .ok (.iconst 2, 1) := by decide +kernel
theorem dL_neighbour_20 : decode cL_neighbour 20 = .ok (.ireturn, 1) := by decide +kernel
theorem dL_neighbour_21 : decode cL_neighbour 21 = .ok (.iconst 0, 1) := by decide +kernel
theorem dL_neighbour_22 : decode cL_neighbour 22 = .ok (.ireturn, 1) := by decide +kernel
def bs_L_direction : List (List Cond) := [[.codeWith yL_direction cL_direction 6 (some .int) [(0, 12, 15, 13), (0, 12, 19, 18)]], wsL_direction_r1, wsL_direction_r2, wsX70, wsX60, (vx_atS RX7 289 "java/lang/IndexOutOfBoundsException" ["java/lang/RuntimeException", "java/lang/Exception"]).filter goodWord, (vx_atS RX7 150 "java/lang/IllegalArgumentException" ["java/lang/RuntimeException", "java/lang/Exception"]).filter goodWord]
theorem bi_L_direction : ∀ w ∈ bs_L_direction.flatten, w ∈ wsL_direction := by
  have h : bs_L_direction.flatten = wsL_direction := by simp only [bs_L_direction, wsL_direction, List.flatten_cons, List.flatten_nil, List.append_assoc, List.append_nil, List.nil_append, List.cons_append]
  intro w hw; rw [h] at hw; exact hw
set_option maxRecDepth 20000 in
theorem ggL_direction_X7_direction : GoodIn wsL_direction wsX7_direction := goodIn_ca (goodIn_ca (goodIn_bb bs_L_direction bi_L_direction _ [(1, 6), (1, 7), (1, 8), (1, 9), (1, 5), (1, 10), (1, 11), (1, 12), (1, 13), (1, 14), (1, 15), (1, 16), (1, 17), (1, 18), (1, 19), (1, 20), (1, 21), (1, 22), (1, 23), (2, 0), (2, 1), (2, 2), (2, 3), (2, 4), (2, 5), (3, 0), (3, 1), (3, 2), (3, 3), (3, 4), (3, 5), (3, 6), (3, 7), (4, 0), (4, 1), (4, 2), (4, 3), (4, 4), (4, 5)] rfl (by decide +kernel)) (goodIn_sub (fun _ h => List.mem_cons_of_mem _ (List.mem_append_left _ (List.mem_append_right _ h))) (by decide +kernel))) (goodIn_sub (fun _ h => List.mem_cons_of_mem _ (List.mem_append_right _ h)) (by decide +kernel))
set_option maxRecDepth 20000 in
theorem gL_direction_X7_direction : GoodIn wsL_direction (wsV RL 20 RX7 yX7_direction wsX7_direction) := goodIn_app (goodIn_bb bs_L_direction bi_L_direction _ [(1, 2), (1, 3), (1, 4), (1, 5)] rfl (by decide +kernel)) ggL_direction_X7_direction
theorem dL_direction_0 : decode cL_direction 0 = .ok (.aload 4, 2) := by decide +kernel
theorem dL_direction_2 : decode cL_direction 2 = .ok (.iconst 0, 1) := by decide +kernel
theorem dL_direction_3 : decode cL_direction 3 = .ok (.aload_n 0, 1) := by decide +kernel
theorem dL_direction_4 : decode cL_direction 4 = .ok (.iload_n 1, 1) := by decide +kernel
theorem dL_direction_5 : decode cL_direction 5 = .ok (.iload_n 2, 1) := by decide +kernel
theorem dL_direction_6 : decode cL_direction 6 = .ok (.iload_n 3, 1) := by decide +kernel
theorem dL_direction_7 : decode cL_direction 7 = .ok (.invokevirtual 20, 3) := by decide +kernel
theorem dL_direction_10 : decode cL_direction 10 = .ok (.i2l, 1) := by decide +kernel
theorem dL_direction_11 : decode cL_direction 11 = .ok (.lastore, 1) := by decide +kernel
theorem dL_direction_12 : decode cL_direction 12 = .ok (.goto 11, 3) := by decide +kernel
theorem dL_direction_15 : decode cL_direction 15 = .ok (.astore 5, 2) := by decide +kernel
theorem dL_direction_17 : decode cL_direction 17 = .ok (.iconst 1, 1) := by decide +kernel
theorem dL_direction_18 : decode cL_direction 18 = .ok (.ireturn, 1) := by decide +kernel
theorem dL_direction_19 : decode cL_direction 19 = .ok (.astore 5, 2) := by decide +kernel
theorem dL_direction_21 : decode cL_direction 21 = .ok (.iconst 2, 1) := by decide +kernel
theorem dL_direction_22 : decode cL_direction 22 = .ok (.ireturn, 1) := by decide +kernel
theorem dL_direction_23 : decode cL_direction 23 = .ok (.iconst 0, 1) := by decide +kernel
theorem dL_direction_24 : decode cL_direction 24 = .ok (.ireturn, 1) := by decide +kernel
def bs_L_cone : List (List Cond) := [[.codeWith yL_cone cL_cone 4 (some .int) [(0, 9, 12, 13)]], [.classLink RL 13 "java/lang/IndexOutOfBoundsException", .methodLink RL 24 yX7_cone, .instanceMethod yX7_cone, .selects RX7 yX7_cone yX7_cone, .initialized RX7, .code yX7_cone cX7_cone 2 (some .int), .fieldLink RX7 19 "SlewPlanner" "state" "LSlewPlanner$State;", .methodLink RX7 86 yX7_requireObject, .static yX7_requireObject, .code yX7_requireObject cX7_requireObject 1 none, .classLink RX7 285 "java/lang/IndexOutOfBoundsException", .initialized "java/lang/IndexOutOfBoundsException", .methodLink RX7 95 yX6_ofObject, .instanceMethod yX6_ofObject, .selects RX6 yX6_ofObject yX6_ofObject, .initialized RX6, .code yX6_ofObject cX6_ofObject 4 (some .int), .fieldLink RX6 9 "SlewPlanner$State" "objects" "[I"], wsX70, wsX60, (vx_atS RX7 289 "java/lang/IndexOutOfBoundsException" ["java/lang/RuntimeException", "java/lang/Exception"]).filter goodWord]
theorem bi_L_cone : ∀ w ∈ bs_L_cone.flatten, w ∈ wsL_cone := by
  have h : bs_L_cone.flatten = wsL_cone := by simp only [bs_L_cone, wsL_cone, List.flatten_cons, List.flatten_nil, List.append_assoc, List.append_nil, List.nil_append, List.cons_append]
  intro w hw; rw [h] at hw; exact hw
set_option maxRecDepth 20000 in
theorem ggL_cone_X7_cone : GoodIn wsL_cone wsX7_cone := goodIn_ca (goodIn_bb bs_L_cone bi_L_cone _ [(1, 5), (1, 6), (1, 7), (1, 8), (1, 4), (1, 9), (1, 10), (1, 11), (1, 12), (1, 13), (1, 14), (1, 15), (1, 16), (1, 17), (2, 0), (2, 1), (2, 2), (2, 3), (2, 4), (2, 5), (2, 6), (2, 7), (3, 0), (3, 1), (3, 2), (3, 3), (3, 4), (3, 5)] rfl (by decide +kernel)) (goodIn_sub (fun _ h => List.mem_cons_of_mem _ (List.mem_append_right _ h)) (by decide +kernel))
set_option maxRecDepth 20000 in
theorem gL_cone_X7_cone : GoodIn wsL_cone (wsV RL 24 RX7 yX7_cone wsX7_cone) := goodIn_app (goodIn_bb bs_L_cone bi_L_cone _ [(1, 1), (1, 2), (1, 3), (1, 4)] rfl (by decide +kernel)) ggL_cone_X7_cone
theorem dL_cone_0 : decode cL_cone 0 = .ok (.aload_n 2, 1) := by decide +kernel
theorem dL_cone_1 : decode cL_cone 1 = .ok (.iconst 0, 1) := by decide +kernel
theorem dL_cone_2 : decode cL_cone 2 = .ok (.aload_n 0, 1) := by decide +kernel
theorem dL_cone_3 : decode cL_cone 3 = .ok (.iload_n 1, 1) := by decide +kernel
theorem dL_cone_4 : decode cL_cone 4 = .ok (.invokevirtual 24, 3) := by decide +kernel
theorem dL_cone_7 : decode cL_cone 7 = .ok (.i2l, 1) := by decide +kernel
theorem dL_cone_8 : decode cL_cone 8 = .ok (.lastore, 1) := by decide +kernel
theorem dL_cone_9 : decode cL_cone 9 = .ok (.goto 6, 3) := by decide +kernel
theorem dL_cone_12 : decode cL_cone 12 = .ok (.astore_n 3, 1) := by decide +kernel
theorem dL_cone_13 : decode cL_cone 13 = .ok (.iconst 1, 1) := by decide +kernel
theorem dL_cone_14 : decode cL_cone 14 = .ok (.ireturn, 1) := by decide +kernel
theorem dL_cone_15 : decode cL_cone 15 = .ok (.iconst 0, 1) := by decide +kernel
theorem dL_cone_16 : decode cL_cone 16 = .ok (.ireturn, 1) := by decide +kernel
def bs_L_cosine : List (List Cond) := [[.codeWith yL_cosine cL_cosine 6 (some .int) [(0, 11, 14, 13), (0, 11, 18, 18)]], wsL_cosine_r1, wsL_cosine_r2, wsX70, wsX60, wsX50, (vx_atS RX7 289 "java/lang/IndexOutOfBoundsException" ["java/lang/RuntimeException", "java/lang/Exception"]).filter goodWord, (vx_atS RX7 150 "java/lang/IllegalArgumentException" ["java/lang/RuntimeException", "java/lang/Exception"]).filter goodWord]
theorem bi_L_cosine : ∀ w ∈ bs_L_cosine.flatten, w ∈ wsL_cosine := by
  have h : bs_L_cosine.flatten = wsL_cosine := by simp only [bs_L_cosine, wsL_cosine, List.flatten_cons, List.flatten_nil, List.append_assoc, List.append_nil, List.nil_append, List.cons_append]
  intro w hw; rw [h] at hw; exact hw
set_option maxRecDepth 20000 in
theorem ggL_cosine_X7_cosine : GoodIn wsL_cosine wsX7_cosine := goodIn_ca (goodIn_ca (goodIn_bb bs_L_cosine bi_L_cosine _ [(1, 6), (1, 7), (1, 8), (1, 9), (1, 10), (1, 11), (1, 5), (1, 12), (1, 13), (1, 14), (1, 15), (1, 16), (1, 17), (1, 18), (1, 19), (1, 20), (1, 21), (1, 22), (1, 23), (2, 0), (2, 1), (2, 2), (2, 3), (2, 4), (2, 5), (2, 6), (2, 7), (2, 8), (2, 9), (2, 10), (2, 11), (2, 12), (2, 13), (2, 14), (2, 15), (2, 16), (2, 17), (2, 18), (2, 19), (2, 20), (2, 21), (2, 22), (2, 23), (3, 0), (3, 1), (3, 2), (3, 3), (3, 4), (3, 5), (3, 6), (3, 7), (4, 0), (4, 1), (4, 2), (4, 3), (4, 4), (4, 5), (5, 0), (5, 1), (5, 2), (5, 3)] rfl (by decide +kernel)) (goodIn_sub (fun _ h => List.mem_cons_of_mem _ (List.mem_append_left _ (List.mem_append_right _ h))) (by decide +kernel))) (goodIn_sub (fun _ h => List.mem_cons_of_mem _ (List.mem_append_right _ h)) (by decide +kernel))
set_option maxRecDepth 20000 in
theorem gL_cosine_X7_cosine : GoodIn wsL_cosine (wsV RL 28 RX7 yX7_cosine wsX7_cosine) := goodIn_app (goodIn_bb bs_L_cosine bi_L_cosine _ [(1, 2), (1, 3), (1, 4), (1, 5)] rfl (by decide +kernel)) ggL_cosine_X7_cosine
theorem dL_cosine_0 : decode cL_cosine 0 = .ok (.aload 4, 2) := by decide +kernel
theorem dL_cosine_2 : decode cL_cosine 2 = .ok (.iconst 0, 1) := by decide +kernel
theorem dL_cosine_3 : decode cL_cosine 3 = .ok (.aload_n 0, 1) := by decide +kernel
theorem dL_cosine_4 : decode cL_cosine 4 = .ok (.iload_n 1, 1) := by decide +kernel
theorem dL_cosine_5 : decode cL_cosine 5 = .ok (.iload_n 2, 1) := by decide +kernel
theorem dL_cosine_6 : decode cL_cosine 6 = .ok (.iload_n 3, 1) := by decide +kernel
theorem dL_cosine_7 : decode cL_cosine 7 = .ok (.invokevirtual 28, 3) := by decide +kernel
theorem dL_cosine_10 : decode cL_cosine 10 = .ok (.dastore, 1) := by decide +kernel
theorem dL_cosine_11 : decode cL_cosine 11 = .ok (.goto 11, 3) := by decide +kernel
theorem dL_cosine_14 : decode cL_cosine 14 = .ok (.astore 5, 2) := by decide +kernel
theorem dL_cosine_16 : decode cL_cosine 16 = .ok (.iconst 1, 1) := by decide +kernel
theorem dL_cosine_17 : decode cL_cosine 17 = .ok (.ireturn, 1) := by decide +kernel
theorem dL_cosine_18 : decode cL_cosine 18 = .ok (.astore 5, 2) := by decide +kernel
theorem dL_cosine_20 : decode cL_cosine 20 = .ok (.iconst 2, 1) := by decide +kernel
theorem dL_cosine_21 : decode cL_cosine 21 = .ok (.ireturn, 1) := by decide +kernel
theorem dL_cosine_22 : decode cL_cosine 22 = .ok (.iconst 0, 1) := by decide +kernel
theorem dL_cosine_23 : decode cL_cosine 23 = .ok (.ireturn, 1) := by decide +kernel
def bs_L_isBright : List (List Cond) := [[.codeWith yL_isBright cL_isBright 5 (some .int) [(0, 17, 20, 13), (0, 17, 24, 18)]], wsL_isBright_r1, wsL_isBright_r2, wsL_isBright_r3, wsL_isBright_r4, wsX70, wsX40, wsX60, wsX00, wsX50, (vx_atS RX7 289 "java/lang/IndexOutOfBoundsException" ["java/lang/RuntimeException", "java/lang/Exception"]).filter goodWord, (vx_atS RX7 150 "java/lang/IllegalArgumentException" ["java/lang/RuntimeException", "java/lang/Exception"]).filter goodWord]
theorem bi_L_isBright : ∀ w ∈ bs_L_isBright.flatten, w ∈ wsL_isBright := by
  have h : bs_L_isBright.flatten = wsL_isBright := by simp only [bs_L_isBright, wsL_isBright, List.flatten_cons, List.flatten_nil, List.append_assoc, List.append_nil, List.nil_append, List.cons_append]
  intro w hw; rw [h] at hw; exact hw
set_option maxRecDepth 20000 in
theorem ggL_isBright_X7_isBright : GoodIn wsL_isBright wsX7_isBright := goodIn_ca (goodIn_ca (goodIn_bb bs_L_isBright bi_L_isBright _ [(1, 6), (1, 7), (1, 8), (1, 5), (1, 9), (1, 10), (1, 11), (1, 12), (1, 13), (1, 14), (1, 15), (1, 16), (1, 17), (1, 18), (1, 19), (1, 20), (1, 21), (1, 22), (1, 23), (2, 0), (2, 1), (2, 2), (2, 3), (2, 4), (2, 5), (2, 6), (2, 7), (2, 8), (2, 9), (2, 10), (2, 11), (2, 12), (2, 13), (2, 14), (2, 15), (2, 16), (2, 17), (2, 18), (2, 19), (2, 20), (2, 21), (2, 22), (2, 23), (3, 0), (3, 1), (3, 2), (3, 3), (3, 4), (3, 5), (3, 6), (3, 7), (3, 8), (3, 9), (3, 10), (3, 11), (3, 12), (3, 13), (3, 14), (3, 15), (3, 16), (3, 17), (3, 18), (3, 19), (3, 20), (3, 21), (3, 22), (3, 23), (4, 0), (4, 1), (4, 2), (4, 3), (4, 4), (4, 5), (4, 6), (4, 7), (4, 8), (4, 9), (4, 10), (4, 11), (4, 12), (4, 13), (4, 14), (4, 15), (4, 16), (4, 17), (4, 18), (4, 19), (4, 20), (4, 21), (4, 22), (5, 0), (5, 1), (5, 2), (5, 3), (5, 4), (5, 5), (5, 6), (5, 7), (6, 0), (6, 1), (6, 2), (6, 3), (6, 4), (6, 5), (6, 6), (6, 7), (7, 0), (7, 1), (7, 2), (7, 3), (7, 4), (7, 5), (8, 0), (9, 0), (9, 1), (9, 2), (9, 3)] rfl (by decide +kernel)) (goodIn_sub (fun _ h => List.mem_cons_of_mem _ (List.mem_append_left _ (List.mem_append_right _ h))) (by decide +kernel))) (goodIn_sub (fun _ h => List.mem_cons_of_mem _ (List.mem_append_right _ h)) (by decide +kernel))
set_option maxRecDepth 20000 in
theorem gL_isBright_X7_isBright : GoodIn wsL_isBright (wsV RL 32 RX7 yX7_isBright wsX7_isBright) := goodIn_app (goodIn_bb bs_L_isBright bi_L_isBright _ [(1, 2), (1, 3), (1, 4), (1, 5)] rfl (by decide +kernel)) ggL_isBright_X7_isBright
theorem dL_isBright_0 : decode cL_isBright 0 = .ok (.aload_n 3, 1) := by decide +kernel
theorem dL_isBright_1 : decode cL_isBright 1 = .ok (.iconst 0, 1) := by decide +kernel
theorem dL_isBright_2 : decode cL_isBright 2 = .ok (.aload_n 0, 1) := by decide +kernel
theorem dL_isBright_3 : decode cL_isBright 3 = .ok (.iload_n 1, 1) := by decide +kernel
theorem dL_isBright_4 : decode cL_isBright 4 = .ok (.iload_n 2, 1) := by decide +kernel
theorem dL_isBright_5 : decode cL_isBright 5 = .ok (.invokevirtual 32, 3) := by decide +kernel
theorem dL_isBright_8 : decode cL_isBright 8 = .ok (.ifCond .eq 7, 3) := by decide +kernel
theorem dL_isBright_11 : decode cL_isBright 11 = .ok (.lconst 1, 1) := by decide +kernel
theorem dL_isBright_12 : decode cL_isBright 12 = .ok (.goto 4, 3) := by decide +kernel
theorem dL_isBright_15 : decode cL_isBright 15 = .ok (.lconst 0, 1) := by decide +kernel
theorem dL_isBright_16 : decode cL_isBright 16 = .ok (.lastore, 1) := by decide +kernel
theorem dL_isBright_17 : decode cL_isBright 17 = .ok (.goto 11, 3) := by decide +kernel
theorem dL_isBright_20 : decode cL_isBright 20 = .ok (.astore 4, 2) := by decide +kernel
theorem dL_isBright_22 : decode cL_isBright 22 = .ok (.iconst 1, 1) := by decide +kernel
theorem dL_isBright_23 : decode cL_isBright 23 = .ok (.ireturn, 1) := by decide +kernel
theorem dL_isBright_24 : decode cL_isBright 24 = .ok (.astore 4, 2) := by decide +kernel
theorem dL_isBright_26 : decode cL_isBright 26 = .ok (.iconst 2, 1) := by decide +kernel
theorem dL_isBright_27 : decode cL_isBright 27 = .ok (.ireturn, 1) := by decide +kernel
theorem dL_isBright_28 : decode cL_isBright 28 = .ok (.iconst 0, 1) := by decide +kernel
theorem dL_isBright_29 : decode cL_isBright 29 = .ok (.ireturn, 1) := by decide +kernel
def bs_L_brightCells : List (List Cond) := [[.codeWith yL_brightCells cL_brightCells 4 (some .int) [(0, 9, 12, 18)]], wsL_brightCells_r1, wsL_brightCells_r2, wsL_brightCells_r3, wsL_brightCells_r4, wsL_brightCells_r5, wsX70, wsX40, wsX60, wsX00, wsX50, (vx_atS RX7 150 "java/lang/IllegalArgumentException" ["java/lang/RuntimeException", "java/lang/Exception"]).filter goodWord]
theorem bi_L_brightCells : ∀ w ∈ bs_L_brightCells.flatten, w ∈ wsL_brightCells := by
  have h : bs_L_brightCells.flatten = wsL_brightCells := by simp only [bs_L_brightCells, wsL_brightCells, List.flatten_cons, List.flatten_nil, List.append_assoc, List.append_nil, List.nil_append, List.cons_append]
  intro w hw; rw [h] at hw; exact hw
set_option maxRecDepth 20000 in
theorem ggL_brightCells_X7_brightCells : GoodIn wsL_brightCells wsX7_brightCells := goodIn_ca (goodIn_bb bs_L_brightCells bi_L_brightCells _ [(1, 5), (1, 6), (1, 7), (1, 4), (1, 8), (1, 9), (1, 10), (1, 11), (1, 12), (1, 13), (1, 14), (1, 15), (1, 16), (1, 17), (1, 18), (1, 19), (1, 20), (1, 21), (1, 22), (1, 23), (2, 0), (2, 1), (2, 2), (2, 3), (2, 4), (2, 5), (2, 6), (2, 7), (2, 8), (2, 9), (2, 10), (2, 11), (2, 12), (2, 13), (2, 14), (2, 15), (2, 16), (2, 17), (2, 18), (2, 19), (2, 20), (2, 21), (2, 22), (2, 23), (3, 0), (3, 1), (3, 2), (3, 3), (3, 4), (3, 5), (3, 6), (3, 7), (3, 8), (3, 9), (3, 10), (3, 11), (3, 12), (3, 13), (3, 14), (3, 15), (3, 16), (3, 17), (3, 18), (3, 19), (3, 20), (3, 21), (3, 22), (3, 23), (4, 0), (4, 1), (4, 2), (4, 3), (4, 4), (4, 5), (4, 6), (4, 7), (4, 8), (4, 9), (4, 10), (4, 11), (4, 12), (4, 13), (4, 14), (4, 15), (4, 16), (4, 17), (4, 18), (4, 19), (4, 20), (4, 21), (4, 22), (4, 23), (5, 0), (5, 1), (5, 2), (5, 3), (5, 4), (5, 5), (5, 6), (5, 7), (5, 8), (5, 9), (5, 10), (5, 11), (5, 12), (5, 13), (5, 14), (5, 15), (6, 0), (6, 1), (6, 2), (6, 3), (6, 4), (6, 5), (6, 6), (6, 7), (7, 0), (7, 1), (7, 2), (7, 3), (7, 4), (7, 5), (7, 6), (7, 7), (8, 0), (8, 1), (8, 2), (8, 3), (8, 4), (8, 5), (9, 0), (10, 0), (10, 1), (10, 2), (10, 3)] rfl (by decide +kernel)) (goodIn_sub (fun _ h => List.mem_cons_of_mem _ (List.mem_append_right _ h)) (by decide +kernel))
set_option maxRecDepth 20000 in
theorem gL_brightCells_X7_brightCells : GoodIn wsL_brightCells (wsV RL 36 RX7 yX7_brightCells wsX7_brightCells) := goodIn_app (goodIn_bb bs_L_brightCells bi_L_brightCells _ [(1, 1), (1, 2), (1, 3), (1, 4)] rfl (by decide +kernel)) ggL_brightCells_X7_brightCells
theorem dL_brightCells_0 : decode cL_brightCells 0 = .ok (.aload_n 2, 1) := by decide +kernel
theorem dL_brightCells_1 : decode cL_brightCells 1 = .ok (.iconst 0, 1) := by decide +kernel
theorem dL_brightCells_2 : decode cL_brightCells 2 = .ok (.aload_n 0, 1) := by decide +kernel
theorem dL_brightCells_3 : decode cL_brightCells 3 = .ok (.iload_n 1, 1) := by decide +kernel
theorem dL_brightCells_4 : decode cL_brightCells 4 = .ok (.invokevirtual 36, 3) := by decide +kernel
theorem dL_brightCells_7 : decode cL_brightCells 7 = .ok (.i2l, 1) := by decide +kernel
theorem dL_brightCells_8 : decode cL_brightCells 8 = .ok (.lastore, 1) := by decide +kernel
theorem dL_brightCells_9 : decode cL_brightCells 9 = .ok (.goto 6, 3) := by decide +kernel
theorem dL_brightCells_12 : decode cL_brightCells 12 = .ok (.astore_n 3, 1) := by decide +kernel
theorem dL_brightCells_13 : decode cL_brightCells 13 = .ok (.iconst 1, 1) := by decide +kernel
theorem dL_brightCells_14 : decode cL_brightCells 14 = .ok (.ireturn, 1) := by decide +kernel
theorem dL_brightCells_15 : decode cL_brightCells 15 = .ok (.iconst 0, 1) := by decide +kernel
theorem dL_brightCells_16 : decode cL_brightCells 16 = .ok (.ireturn, 1) := by decide +kernel
def bs_L_firstBright : List (List Cond) := [[.codeWith yL_firstBright cL_firstBright 5 (some .int) [(0, 10, 13, 13), (0, 10, 17, 18)]], wsL_firstBright_r1, wsL_firstBright_r2, wsL_firstBright_r3, wsL_firstBright_r4, wsL_firstBright_r5, wsX70, wsX40, wsX60, wsX00, wsX50, (vx_atS RX7 289 "java/lang/IndexOutOfBoundsException" ["java/lang/RuntimeException", "java/lang/Exception"]).filter goodWord, (vx_atS RX7 150 "java/lang/IllegalArgumentException" ["java/lang/RuntimeException", "java/lang/Exception"]).filter goodWord]
theorem bi_L_firstBright : ∀ w ∈ bs_L_firstBright.flatten, w ∈ wsL_firstBright := by
  have h : bs_L_firstBright.flatten = wsL_firstBright := by simp only [bs_L_firstBright, wsL_firstBright, List.flatten_cons, List.flatten_nil, List.append_assoc, List.append_nil, List.nil_append, List.cons_append]
  intro w hw; rw [h] at hw; exact hw
set_option maxRecDepth 20000 in
theorem ggL_firstBright_X7_firstBright : GoodIn wsL_firstBright wsX7_firstBright := goodIn_ca (goodIn_ca (goodIn_bb bs_L_firstBright bi_L_firstBright _ [(1, 6), (1, 7), (1, 8), (1, 5), (1, 9), (1, 10), (1, 11), (1, 12), (1, 13), (1, 14), (1, 15), (1, 16), (1, 17), (1, 18), (1, 19), (1, 20), (1, 21), (1, 22), (1, 23), (2, 0), (2, 1), (2, 2), (2, 3), (2, 4), (2, 5), (2, 6), (2, 7), (2, 8), (2, 9), (2, 10), (2, 11), (2, 12), (2, 13), (2, 14), (2, 15), (2, 16), (2, 17), (2, 18), (2, 19), (2, 20), (2, 21), (2, 22), (2, 23), (3, 0), (3, 1), (3, 2), (3, 3), (3, 4), (3, 5), (3, 6), (3, 7), (3, 8), (3, 9), (3, 10), (3, 11), (3, 12), (3, 13), (3, 14), (3, 15), (3, 16), (3, 17), (3, 18), (3, 19), (3, 20), (3, 21), (3, 22), (3, 23), (4, 0), (4, 1), (4, 2), (4, 3), (4, 4), (4, 5), (4, 6), (4, 7), (4, 8), (4, 9), (4, 10), (4, 11), (4, 12), (4, 13), (4, 14), (4, 15), (4, 16), (4, 17), (4, 18), (4, 19), (4, 20), (4, 21), (4, 22), (4, 23), (5, 0), (5, 1), (5, 2), (6, 0), (6, 1), (6, 2), (6, 3), (6, 4), (6, 5), (6, 6), (6, 7), (7, 0), (7, 1), (7, 2), (7, 3), (7, 4), (7, 5), (7, 6), (7, 7), (8, 0), (8, 1), (8, 2), (8, 3), (8, 4), (8, 5), (9, 0), (10, 0), (10, 1), (10, 2), (10, 3)] rfl (by decide +kernel)) (goodIn_sub (fun _ h => List.mem_cons_of_mem _ (List.mem_append_left _ (List.mem_append_right _ h))) (by decide +kernel))) (goodIn_sub (fun _ h => List.mem_cons_of_mem _ (List.mem_append_right _ h)) (by decide +kernel))
set_option maxRecDepth 20000 in
theorem gL_firstBright_X7_firstBright : GoodIn wsL_firstBright (wsV RL 39 RX7 yX7_firstBright wsX7_firstBright) := goodIn_app (goodIn_bb bs_L_firstBright bi_L_firstBright _ [(1, 2), (1, 3), (1, 4), (1, 5)] rfl (by decide +kernel)) ggL_firstBright_X7_firstBright
theorem dL_firstBright_0 : decode cL_firstBright 0 = .ok (.aload_n 3, 1) := by decide +kernel
theorem dL_firstBright_1 : decode cL_firstBright 1 = .ok (.iconst 0, 1) := by decide +kernel
theorem dL_firstBright_2 : decode cL_firstBright 2 = .ok (.aload_n 0, 1) := by decide +kernel
theorem dL_firstBright_3 : decode cL_firstBright 3 = .ok (.iload_n 1, 1) := by decide +kernel
theorem dL_firstBright_4 : decode cL_firstBright 4 = .ok (.iload_n 2, 1) := by decide +kernel
theorem dL_firstBright_5 : decode cL_firstBright 5 = .ok (.invokevirtual 39, 3) := by decide +kernel
theorem dL_firstBright_8 : decode cL_firstBright 8 = .ok (.i2l, 1) := by decide +kernel
theorem dL_firstBright_9 : decode cL_firstBright 9 = .ok (.lastore, 1) := by decide +kernel
theorem dL_firstBright_10 : decode cL_firstBright 10 = .ok (.goto 11, 3) := by decide +kernel
theorem dL_firstBright_13 : decode cL_firstBright 13 = .ok (.astore 4, 2) := by decide +kernel
theorem dL_firstBright_15 : decode cL_firstBright 15 = .ok (.iconst 1, 1) := by decide +kernel
theorem dL_firstBright_16 : decode cL_firstBright 16 = .ok (.ireturn, 1) := by decide +kernel
theorem dL_firstBright_17 : decode cL_firstBright 17 = .ok (.astore 4, 2) := by decide +kernel
theorem dL_firstBright_19 : decode cL_firstBright 19 = .ok (.iconst 2, 1) := by decide +kernel
theorem dL_firstBright_20 : decode cL_firstBright 20 = .ok (.ireturn, 1) := by decide +kernel
theorem dL_firstBright_21 : decode cL_firstBright 21 = .ok (.iconst 0, 1) := by decide +kernel
theorem dL_firstBright_22 : decode cL_firstBright 22 = .ok (.ireturn, 1) := by decide +kernel
def bs_L_setAxis : List (List Cond) := [[.codeWith yL_setAxis cL_setAxis 7 (some .int) [(0, 14, 17, 13), (0, 14, 21, 18), (0, 14, 25, 46)]], wsL_setAxis_r1, wsL_setAxis_r2, wsL_setAxis_r3, wsL_setAxis_r4, wsL_setAxis_r5, wsL_setAxis_r6, wsL_setAxis_r7, wsL_setAxis_r8, wsX70, wsX60, wsX40, wsX00, wsX50, wsX10, (vx_atS RX7 150 "java/lang/IllegalArgumentException" ["java/lang/RuntimeException", "java/lang/Exception"]).filter goodWord, (vx_atS RX7 289 "java/lang/IndexOutOfBoundsException" ["java/lang/RuntimeException", "java/lang/Exception"]).filter goodWord, (vx_atS RX7 180 "java/lang/IllegalStateException" ["java/lang/RuntimeException", "java/lang/Exception"]).filter goodWord]
theorem bi_L_setAxis : ∀ w ∈ bs_L_setAxis.flatten, w ∈ wsL_setAxis := by
  have h : bs_L_setAxis.flatten = wsL_setAxis := by simp only [bs_L_setAxis, wsL_setAxis, List.flatten_cons, List.flatten_nil, List.append_assoc, List.append_nil, List.nil_append, List.cons_append]
  intro w hw; rw [h] at hw; exact hw
set_option maxRecDepth 20000 in
theorem ggL_setAxis_X7_setAxis : GoodIn wsL_setAxis wsX7_setAxis := goodIn_ca (goodIn_ca (goodIn_ca (goodIn_bb bs_L_setAxis bi_L_setAxis _ [(1, 7), (1, 8), (1, 9), (1, 10), (1, 11), (1, 12), (1, 13), (1, 6), (1, 14), (1, 15), (1, 16), (1, 17), (1, 18), (1, 19), (1, 20), (1, 21), (1, 22), (1, 23), (2, 0), (2, 1), (2, 2), (2, 3), (2, 4), (2, 5), (2, 6), (2, 7), (2, 8), (2, 9), (2, 10), (2, 11), (2, 12), (2, 13), (2, 14), (2, 15), (2, 16), (2, 17), (2, 18), (2, 19), (2, 20), (2, 21), (2, 22), (2, 23), (3, 0), (3, 1), (3, 2), (3, 3), (3, 4), (3, 5), (3, 6), (3, 7), (3, 8), (3, 9), (3, 10), (3, 11), (3, 12), (3, 13), (3, 14), (3, 15), (3, 16), (3, 17), (3, 18), (3, 19), (3, 20), (3, 21), (3, 22), (3, 23), (4, 0), (4, 1), (4, 2), (4, 3), (4, 4), (4, 5), (4, 6), (4, 7), (4, 8), (4, 9), (4, 10), (4, 11), (4, 12), (4, 13), (4, 14), (4, 15), (4, 16), (4, 17), (4, 18), (4, 19), (4, 20), (4, 21), (4, 22), (4, 23), (5, 0), (5, 1), (5, 2), (5, 3), (5, 4), (5, 5), (5, 6), (5, 7), (5, 8), (5, 9), (5, 10), (5, 11), (5, 12), (5, 13), (5, 14), (5, 15), (5, 16), (5, 17), (5, 18), (5, 19), (5, 20), (5, 21), (5, 22), (5, 23), (6, 0), (6, 1), (6, 2), (6, 3), (6, 4), (6, 5), (6, 6), (6, 7), (6, 8), (6, 9), (6, 10), (6, 11), (6, 12), (6, 13), (6, 14), (6, 15), (6, 16), (6, 17), (6, 18), (6, 19), (6, 20), (6, 21), (6, 22), (6, 23), (7, 0), (7, 1), (7, 2), (7, 3), (7, 4), (7, 5), (7, 6), (7, 7), (7, 8), (7, 9), (7, 10), (7, 11), (7, 12), (7, 13), (7, 14), (7, 15), (7, 16), (7, 17), (7, 18), (7, 19), (7, 20), (7, 21), (7, 22), (7, 23), (8, 0), (8, 1), (9, 0), (9, 1), (9, 2), (9, 3), (9, 4), (9, 5), (9, 6), (9, 7), (10, 0), (10, 1), (10, 2), (10, 3), (10, 4), (10, 5), (11, 0), (11, 1), (11, 2), (11, 3), (11, 4), (11, 5), (11, 6), (11, 7), (12, 0), (13, 0), (13, 1), (13, 2), (13, 3), (14, 0), (14, 1), (14, 2)] rfl (by decide +kernel)) (goodIn_sub (fun _ h => List.mem_cons_of_mem _ (List.mem_append_left _ (List.mem_append_left _ (List.mem_append_right _ h)))) (by decide +kernel))) (goodIn_sub (fun _ h => List.mem_cons_of_mem _ (List.mem_append_left _ (List.mem_append_right _ h))) (by decide +kernel))) (goodIn_sub (fun _ h => List.mem_cons_of_mem _ (List.mem_append_right _ h)) (by decide +kernel))
set_option maxRecDepth 20000 in
theorem gL_setAxis_X7_setAxis : GoodIn wsL_setAxis (wsV RL 42 RX7 yX7_setAxis wsX7_setAxis) := goodIn_app (goodIn_bb bs_L_setAxis bi_L_setAxis _ [(1, 3), (1, 4), (1, 5), (1, 6)] rfl (by decide +kernel)) ggL_setAxis_X7_setAxis
theorem dL_setAxis_0 : decode cL_setAxis 0 = .ok (.aload 5, 2) := by decide +kernel
theorem dL_setAxis_2 : decode cL_setAxis 2 = .ok (.iconst 0, 1) := by decide +kernel
theorem dL_setAxis_3 : decode cL_setAxis 3 = .ok (.aload_n 0, 1) := by decide +kernel
theorem dL_setAxis_4 : decode cL_setAxis 4 = .ok (.iload_n 1, 1) := by decide +kernel
theorem dL_setAxis_5 : decode cL_setAxis 5 = .ok (.iload_n 2, 1) := by decide +kernel
theorem dL_setAxis_6 : decode cL_setAxis 6 = .ok (.iload_n 3, 1) := by decide +kernel
theorem dL_setAxis_7 : decode cL_setAxis 7 = .ok (.iload 4, 2) := by decide +kernel
theorem dL_setAxis_9 : decode cL_setAxis 9 = .ok (.invokevirtual 42, 3) := by decide +kernel
theorem dL_setAxis_12 : decode cL_setAxis 12 = .ok (.i2l, 1) := by decide +kernel
theorem dL_setAxis_13 : decode cL_setAxis 13 = .ok (.lastore, 1) := by decide +kernel
theorem dL_setAxis_14 : decode cL_setAxis 14 = .ok (.goto 15, 3) := by decide +kernel
theorem dL_setAxis_17 : decode cL_setAxis 17 = .ok (.astore 6, 2) := by decide +kernel
theorem dL_setAxis_19 : decode cL_setAxis 19 = .ok (.iconst 1, 1) := by decide +kernel
theorem dL_setAxis_20 : decode cL_setAxis 20 = .ok (.ireturn, 1) := by decide +kernel
theorem dL_setAxis_21 : decode cL_setAxis 21 = .ok (.astore 6, 2) := by decide +kernel
theorem dL_setAxis_23 : decode cL_setAxis 23 = .ok (.iconst 2, 1) := by decide +kernel
theorem dL_setAxis_24 : decode cL_setAxis 24 = .ok (.ireturn, 1) := by decide +kernel
theorem dL_setAxis_25 : decode cL_setAxis 25 = .ok (.astore 6, 2) := by decide +kernel
theorem dL_setAxis_27 : decode cL_setAxis 27 = .ok (.iconst 3, 1) := by decide +kernel
theorem dL_setAxis_28 : decode cL_setAxis 28 = .ok (.ireturn, 1) := by decide +kernel
theorem dL_setAxis_29 : decode cL_setAxis 29 = .ok (.iconst 0, 1) := by decide +kernel
theorem dL_setAxis_30 : decode cL_setAxis 30 = .ok (.ireturn, 1) := by decide +kernel
def bs_L_setDrift : List (List Cond) := [[.codeWith yL_setDrift cL_setDrift 7 (some .int) [(0, 14, 17, 13), (0, 14, 21, 18), (0, 14, 25, 46)]], wsL_setDrift_r1, wsL_setDrift_r2, wsL_setDrift_r3, wsL_setDrift_r4, wsL_setDrift_r5, wsL_setDrift_r6, wsL_setDrift_r7, wsL_setDrift_r8, wsX70, wsX60, wsX40, wsX00, wsX50, wsX10, (vx_atS RX7 289 "java/lang/IndexOutOfBoundsException" ["java/lang/RuntimeException", "java/lang/Exception"]).filter goodWord, (vx_atS RX7 150 "java/lang/IllegalArgumentException" ["java/lang/RuntimeException", "java/lang/Exception"]).filter goodWord, (vx_atS RX7 180 "java/lang/IllegalStateException" ["java/lang/RuntimeException", "java/lang/Exception"]).filter goodWord]
theorem bi_L_setDrift : ∀ w ∈ bs_L_setDrift.flatten, w ∈ wsL_setDrift := by
  have h : bs_L_setDrift.flatten = wsL_setDrift := by simp only [bs_L_setDrift, wsL_setDrift, List.flatten_cons, List.flatten_nil, List.append_assoc, List.append_nil, List.nil_append, List.cons_append]
  intro w hw; rw [h] at hw; exact hw
set_option maxRecDepth 20000 in
theorem ggL_setDrift_X7_setDrift : GoodIn wsL_setDrift wsX7_setDrift := goodIn_ca (goodIn_ca (goodIn_ca (goodIn_bb bs_L_setDrift bi_L_setDrift _ [(1, 7), (1, 8), (1, 9), (1, 10), (1, 11), (1, 6), (1, 12), (1, 13), (1, 14), (1, 15), (1, 16), (1, 17), (1, 18), (1, 19), (1, 20), (1, 21), (1, 22), (1, 23), (2, 0), (2, 1), (2, 2), (2, 3), (2, 4), (2, 5), (2, 6), (2, 7), (2, 8), (2, 9), (2, 10), (2, 11), (2, 12), (2, 13), (2, 14), (2, 15), (2, 16), (2, 17), (2, 18), (2, 19), (2, 20), (2, 21), (2, 22), (2, 23), (3, 0), (3, 1), (3, 2), (3, 3), (3, 4), (3, 5), (3, 6), (3, 7), (3, 8), (3, 9), (3, 10), (3, 11), (3, 12), (3, 13), (3, 14), (3, 15), (3, 16), (3, 17), (3, 18), (3, 19), (3, 20), (3, 21), (3, 22), (3, 23), (4, 0), (4, 1), (4, 2), (4, 3), (4, 4), (4, 5), (4, 6), (4, 7), (4, 8), (4, 9), (4, 10), (4, 11), (4, 12), (4, 13), (4, 14), (4, 15), (4, 16), (4, 17), (4, 18), (4, 19), (4, 20), (4, 21), (4, 22), (4, 23), (5, 0), (5, 1), (5, 2), (5, 3), (5, 4), (5, 5), (5, 6), (5, 7), (5, 8), (5, 9), (5, 10), (5, 11), (5, 12), (5, 13), (5, 14), (5, 15), (5, 16), (5, 17), (5, 18), (5, 19), (5, 20), (5, 21), (5, 22), (5, 23), (6, 0), (6, 1), (6, 2), (6, 3), (6, 4), (6, 5), (6, 6), (6, 7), (6, 8), (6, 9), (6, 10), (6, 11), (6, 12), (6, 13), (6, 14), (6, 15), (6, 16), (6, 17), (6, 18), (6, 19), (6, 20), (6, 21), (6, 22), (6, 23), (7, 0), (7, 1), (7, 2), (7, 3), (7, 4), (7, 5), (7, 6), (7, 7), (7, 8), (7, 9), (7, 10), (7, 11), (7, 12), (7, 13), (7, 14), (7, 15), (7, 16), (7, 17), (7, 18), (7, 19), (7, 20), (7, 21), (7, 22), (7, 23), (8, 0), (8, 1), (9, 0), (9, 1), (9, 2), (9, 3), (9, 4), (9, 5), (9, 6), (9, 7), (10, 0), (10, 1), (10, 2), (10, 3), (10, 4), (10, 5), (11, 0), (11, 1), (11, 2), (11, 3), (11, 4), (11, 5), (11, 6), (11, 7), (12, 0), (13, 0), (13, 1), (13, 2), (13, 3), (14, 0), (14, 1), (14, 2)] rfl (by decide +kernel)) (goodIn_sub (fun _ h => List.mem_cons_of_mem _ (List.mem_append_left _ (List.mem_append_left _ (List.mem_append_right _ h)))) (by decide +kernel))) (goodIn_sub (fun _ h => List.mem_cons_of_mem _ (List.mem_append_left _ (List.mem_append_right _ h))) (by decide +kernel))) (goodIn_sub (fun _ h => List.mem_cons_of_mem _ (List.mem_append_right _ h)) (by decide +kernel))
set_option maxRecDepth 20000 in
theorem gL_setDrift_X7_setDrift : GoodIn wsL_setDrift (wsV RL 48 RX7 yX7_setDrift wsX7_setDrift) := goodIn_app (goodIn_bb bs_L_setDrift bi_L_setDrift _ [(1, 3), (1, 4), (1, 5), (1, 6)] rfl (by decide +kernel)) ggL_setDrift_X7_setDrift
theorem dL_setDrift_0 : decode cL_setDrift 0 = .ok (.aload 5, 2) := by decide +kernel
theorem dL_setDrift_2 : decode cL_setDrift 2 = .ok (.iconst 0, 1) := by decide +kernel
theorem dL_setDrift_3 : decode cL_setDrift 3 = .ok (.aload_n 0, 1) := by decide +kernel
theorem dL_setDrift_4 : decode cL_setDrift 4 = .ok (.iload_n 1, 1) := by decide +kernel
theorem dL_setDrift_5 : decode cL_setDrift 5 = .ok (.iload_n 2, 1) := by decide +kernel
theorem dL_setDrift_6 : decode cL_setDrift 6 = .ok (.iload_n 3, 1) := by decide +kernel
theorem dL_setDrift_7 : decode cL_setDrift 7 = .ok (.iload 4, 2) := by decide +kernel
theorem dL_setDrift_9 : decode cL_setDrift 9 = .ok (.invokevirtual 48, 3) := by decide +kernel
theorem dL_setDrift_12 : decode cL_setDrift 12 = .ok (.i2l, 1) := by decide +kernel
theorem dL_setDrift_13 : decode cL_setDrift 13 = .ok (.lastore, 1) := by decide +kernel
theorem dL_setDrift_14 : decode cL_setDrift 14 = .ok (.goto 15, 3) := by decide +kernel
theorem dL_setDrift_17 : decode cL_setDrift 17 = .ok (.astore 6, 2) := by decide +kernel
theorem dL_setDrift_19 : decode cL_setDrift 19 = .ok (.iconst 1, 1) := by decide +kernel
theorem dL_setDrift_20 : decode cL_setDrift 20 = .ok (.ireturn, 1) := by decide +kernel
theorem dL_setDrift_21 : decode cL_setDrift 21 = .ok (.astore 6, 2) := by decide +kernel
theorem dL_setDrift_23 : decode cL_setDrift 23 = .ok (.iconst 2, 1) := by decide +kernel
theorem dL_setDrift_24 : decode cL_setDrift 24 = .ok (.ireturn, 1) := by decide +kernel
theorem dL_setDrift_25 : decode cL_setDrift 25 = .ok (.astore 6, 2) := by decide +kernel
theorem dL_setDrift_27 : decode cL_setDrift 27 = .ok (.iconst 3, 1) := by decide +kernel
theorem dL_setDrift_28 : decode cL_setDrift 28 = .ok (.ireturn, 1) := by decide +kernel
theorem dL_setDrift_29 : decode cL_setDrift 29 = .ok (.iconst 0, 1) := by decide +kernel
theorem dL_setDrift_30 : decode cL_setDrift 30 = .ok (.ireturn, 1) := by decide +kernel
def bs_L_setCone : List (List Cond) := [[.codeWith yL_setCone cL_setCone 5 (some .int) [(0, 10, 13, 13), (0, 10, 17, 18), (0, 10, 21, 46)]], wsL_setCone_r1, wsL_setCone_r2, wsL_setCone_r3, wsL_setCone_r4, wsL_setCone_r5, wsL_setCone_r6, wsL_setCone_r7, wsX70, wsX60, wsX40, wsX00, wsX50, wsX10, (vx_atS RX7 289 "java/lang/IndexOutOfBoundsException" ["java/lang/RuntimeException", "java/lang/Exception"]).filter goodWord, (vx_atS RX7 150 "java/lang/IllegalArgumentException" ["java/lang/RuntimeException", "java/lang/Exception"]).filter goodWord, (vx_atS RX7 180 "java/lang/IllegalStateException" ["java/lang/RuntimeException", "java/lang/Exception"]).filter goodWord]
theorem bi_L_setCone : ∀ w ∈ bs_L_setCone.flatten, w ∈ wsL_setCone := by
  have h : bs_L_setCone.flatten = wsL_setCone := by simp only [bs_L_setCone, wsL_setCone, List.flatten_cons, List.flatten_nil, List.append_assoc, List.append_nil, List.nil_append, List.cons_append]
  intro w hw; rw [h] at hw; exact hw
set_option maxRecDepth 20000 in
theorem ggL_setCone_X7_setCone : GoodIn wsL_setCone wsX7_setCone := goodIn_ca (goodIn_ca (goodIn_ca (goodIn_bb bs_L_setCone bi_L_setCone _ [(1, 7), (1, 8), (1, 9), (1, 10), (1, 11), (1, 6), (1, 12), (1, 13), (1, 14), (1, 15), (1, 16), (1, 17), (1, 18), (1, 19), (1, 20), (1, 21), (1, 22), (1, 23), (2, 0), (2, 1), (2, 2), (2, 3), (2, 4), (2, 5), (2, 6), (2, 7), (2, 8), (2, 9), (2, 10), (2, 11), (2, 12), (2, 13), (2, 14), (2, 15), (2, 16), (2, 17), (2, 18), (2, 19), (2, 20), (2, 21), (2, 22), (2, 23), (3, 0), (3, 1), (3, 2), (3, 3), (3, 4), (3, 5), (3, 6), (3, 7), (3, 8), (3, 9), (3, 10), (3, 11), (3, 12), (3, 13), (3, 14), (3, 15), (3, 16), (3, 17), (3, 18), (3, 19), (3, 20), (3, 21), (3, 22), (3, 23), (4, 0), (4, 1), (4, 2), (4, 3), (4, 4), (4, 5), (4, 6), (4, 7), (4, 8), (4, 9), (4, 10), (4, 11), (4, 12), (4, 13), (4, 14), (4, 15), (4, 16), (4, 17), (4, 18), (4, 19), (4, 20), (4, 21), (4, 22), (4, 23), (5, 0), (5, 1), (5, 2), (5, 3), (5, 4), (5, 5), (5, 6), (5, 7), (5, 8), (5, 9), (5, 10), (5, 11), (5, 12), (5, 13), (5, 14), (5, 15), (5, 16), (5, 17), (5, 18), (5, 19), (5, 20), (5, 21), (5, 22), (5, 23), (6, 0), (6, 1), (6, 2), (6, 3), (6, 4), (6, 5), (6, 6), (6, 7), (6, 8), (6, 9), (6, 10), (6, 11), (6, 12), (6, 13), (6, 14), (6, 15), (6, 16), (6, 17), (6, 18), (6, 19), (6, 20), (6, 21), (6, 22), (6, 23), (7, 0), (7, 1), (7, 2), (7, 3), (7, 4), (7, 5), (7, 6), (7, 7), (7, 8), (7, 9), (7, 10), (7, 11), (7, 12), (7, 13), (7, 14), (7, 15), (7, 16), (7, 17), (7, 18), (8, 0), (8, 1), (8, 2), (8, 3), (8, 4), (8, 5), (8, 6), (8, 7), (9, 0), (9, 1), (9, 2), (9, 3), (9, 4), (9, 5), (10, 0), (10, 1), (10, 2), (10, 3), (10, 4), (10, 5), (10, 6), (10, 7), (11, 0), (12, 0), (12, 1), (12, 2), (12, 3), (13, 0), (13, 1), (13, 2)] rfl (by decide +kernel)) (goodIn_sub (fun _ h => List.mem_cons_of_mem _ (List.mem_append_left _ (List.mem_append_left _ (List.mem_append_right _ h)))) (by decide +kernel))) (goodIn_sub (fun _ h => List.mem_cons_of_mem _ (List.mem_append_left _ (List.mem_append_right _ h))) (by decide +kernel))) (goodIn_sub (fun _ h => List.mem_cons_of_mem _ (List.mem_append_right _ h)) (by decide +kernel))
set_option maxRecDepth 20000 in
theorem gL_setCone_X7_setCone : GoodIn wsL_setCone (wsV RL 51 RX7 yX7_setCone wsX7_setCone) := goodIn_app (goodIn_bb bs_L_setCone bi_L_setCone _ [(1, 3), (1, 4), (1, 5), (1, 6)] rfl (by decide +kernel)) ggL_setCone_X7_setCone
theorem dL_setCone_0 : decode cL_setCone 0 = .ok (.aload_n 3, 1) := by decide +kernel
theorem dL_setCone_1 : decode cL_setCone 1 = .ok (.iconst 0, 1) := by decide +kernel
theorem dL_setCone_2 : decode cL_setCone 2 = .ok (.aload_n 0, 1) := by decide +kernel
theorem dL_setCone_3 : decode cL_setCone 3 = .ok (.iload_n 1, 1) := by decide +kernel
theorem dL_setCone_4 : decode cL_setCone 4 = .ok (.iload_n 2, 1) := by decide +kernel
theorem dL_setCone_5 : decode cL_setCone 5 = .ok (.invokevirtual 51, 3) := by decide +kernel
theorem dL_setCone_8 : decode cL_setCone 8 = .ok (.i2l, 1) := by decide +kernel
theorem dL_setCone_9 : decode cL_setCone 9 = .ok (.lastore, 1) := by decide +kernel
theorem dL_setCone_10 : decode cL_setCone 10 = .ok (.goto 15, 3) := by decide +kernel
theorem dL_setCone_13 : decode cL_setCone 13 = .ok (.astore 4, 2) := by decide +kernel
theorem dL_setCone_15 : decode cL_setCone 15 = .ok (.iconst 1, 1) := by decide +kernel
theorem dL_setCone_16 : decode cL_setCone 16 = .ok (.ireturn, 1) := by decide +kernel
theorem dL_setCone_17 : decode cL_setCone 17 = .ok (.astore 4, 2) := by decide +kernel
theorem dL_setCone_19 : decode cL_setCone 19 = .ok (.iconst 2, 1) := by decide +kernel
theorem dL_setCone_20 : decode cL_setCone 20 = .ok (.ireturn, 1) := by decide +kernel
theorem dL_setCone_21 : decode cL_setCone 21 = .ok (.astore 4, 2) := by decide +kernel
theorem dL_setCone_23 : decode cL_setCone 23 = .ok (.iconst 3, 1) := by decide +kernel
theorem dL_setCone_24 : decode cL_setCone 24 = .ok (.ireturn, 1) := by decide +kernel
theorem dL_setCone_25 : decode cL_setCone 25 = .ok (.iconst 0, 1) := by decide +kernel
theorem dL_setCone_26 : decode cL_setCone 26 = .ok (.ireturn, 1) := by decide +kernel
def bs_L_step : List (List Cond) := [[.codeWith yL_step cL_step 4 (some .int) [(0, 9, 12, 13), (0, 9, 15, 18), (0, 9, 18, 46)]], wsL_step_r1, wsL_step_r2, wsL_step_r3, wsL_step_r4, wsL_step_r5, wsL_step_r6, wsX70, wsX60, wsX50, wsX00, wsX40, wsX10, (vx_atS RX7 150 "java/lang/IllegalArgumentException" ["java/lang/RuntimeException", "java/lang/Exception"]).filter goodWord, (vx_atS RX7 180 "java/lang/IllegalStateException" ["java/lang/RuntimeException", "java/lang/Exception"]).filter goodWord, (vx_atS RX7 289 "java/lang/IndexOutOfBoundsException" ["java/lang/RuntimeException", "java/lang/Exception"]).filter goodWord]
theorem bi_L_step : ∀ w ∈ bs_L_step.flatten, w ∈ wsL_step := by
  have h : bs_L_step.flatten = wsL_step := by simp only [bs_L_step, wsL_step, List.flatten_cons, List.flatten_nil, List.append_assoc, List.append_nil, List.nil_append, List.cons_append]
  intro w hw; rw [h] at hw; exact hw
set_option maxRecDepth 20000 in
theorem ggL_step_X7_step : GoodIn wsL_step wsX7_step := goodIn_ca (goodIn_ca (goodIn_ca (goodIn_bb bs_L_step bi_L_step _ [(1, 7), (1, 8), (1, 9), (1, 10), (1, 11), (1, 12), (1, 13), (1, 14), (1, 15), (1, 16), (1, 17), (1, 18), (1, 6), (1, 19), (1, 20), (1, 21), (1, 22), (1, 23), (2, 0), (2, 1), (2, 2), (2, 3), (2, 4), (2, 5), (2, 6), (2, 7), (2, 8), (2, 9), (2, 10), (2, 11), (2, 12), (2, 13), (2, 14), (2, 15), (2, 16), (2, 17), (2, 18), (2, 19), (2, 20), (2, 21), (2, 22), (2, 23), (3, 0), (3, 1), (3, 2), (3, 3), (3, 4), (3, 5), (3, 6), (3, 7), (3, 8), (3, 9), (3, 10), (3, 11), (3, 12), (3, 13), (3, 14), (3, 15), (3, 16), (3, 17), (3, 18), (3, 19), (3, 20), (3, 21), (3, 22), (3, 23), (4, 0), (4, 1), (4, 2), (4, 3), (4, 4), (4, 5), (4, 6), (4, 7), (4, 8), (4, 9), (4, 10), (4, 11), (4, 12), (4, 13), (4, 14), (4, 15), (4, 16), (4, 17), (4, 18), (4, 19), (4, 20), (4, 21), (4, 22), (4, 23), (5, 0), (5, 1), (5, 2), (5, 3), (5, 4), (5, 5), (5, 6), (5, 7), (5, 8), (5, 9), (5, 10), (5, 11), (5, 12), (5, 13), (5, 14), (5, 15), (5, 16), (5, 17), (5, 18), (5, 19), (5, 20), (5, 21), (5, 22), (5, 23), (6, 0), (6, 1), (6, 2), (6, 3), (6, 4), (6, 5), (6, 6), (6, 7), (6, 8), (6, 9), (6, 10), (6, 11), (6, 12), (6, 13), (7, 0), (7, 1), (7, 2), (7, 3), (7, 4), (7, 5), (7, 6), (7, 7), (8, 0), (8, 1), (8, 2), (8, 3), (8, 4), (8, 5), (9, 0), (9, 1), (9, 2), (9, 3), (10, 0), (11, 0), (11, 1), (11, 2), (11, 3), (11, 4), (11, 5), (11, 6), (11, 7), (12, 0), (12, 1), (12, 2)] rfl (by decide +kernel)) (goodIn_sub (fun _ h => List.mem_cons_of_mem _ (List.mem_append_left _ (List.mem_append_left _ (List.mem_append_right _ h)))) (by decide +kernel))) (goodIn_sub (fun _ h => List.mem_cons_of_mem _ (List.mem_append_left _ (List.mem_append_right _ h))) (by decide +kernel))) (goodIn_sub (fun _ h => List.mem_cons_of_mem _ (List.mem_append_right _ h)) (by decide +kernel))
set_option maxRecDepth 20000 in
theorem gL_step_X7_step : GoodIn wsL_step (wsV RL 54 RX7 yX7_step wsX7_step) := goodIn_app (goodIn_bb bs_L_step bi_L_step _ [(1, 3), (1, 4), (1, 5), (1, 6)] rfl (by decide +kernel)) ggL_step_X7_step
theorem dL_step_0 : decode cL_step 0 = .ok (.aload_n 2, 1) := by decide +kernel
theorem dL_step_1 : decode cL_step 1 = .ok (.iconst 0, 1) := by decide +kernel
theorem dL_step_2 : decode cL_step 2 = .ok (.aload_n 0, 1) := by decide +kernel
theorem dL_step_3 : decode cL_step 3 = .ok (.iload_n 1, 1) := by decide +kernel
theorem dL_step_4 : decode cL_step 4 = .ok (.invokevirtual 54, 3) := by decide +kernel
theorem dL_step_7 : decode cL_step 7 = .ok (.i2l, 1) := by decide +kernel
theorem dL_step_8 : decode cL_step 8 = .ok (.lastore, 1) := by decide +kernel
theorem dL_step_9 : decode cL_step 9 = .ok (.goto 12, 3) := by decide +kernel
theorem dL_step_12 : decode cL_step 12 = .ok (.astore_n 3, 1) := by decide +kernel
theorem dL_step_13 : decode cL_step 13 = .ok (.iconst 1, 1) := by decide +kernel
theorem dL_step_14 : decode cL_step 14 = .ok (.ireturn, 1) := by decide +kernel
theorem dL_step_15 : decode cL_step 15 = .ok (.astore_n 3, 1) := by decide +kernel
theorem dL_step_16 : decode cL_step 16 = .ok (.iconst 2, 1) := by decide +kernel
theorem dL_step_17 : decode cL_step 17 = .ok (.ireturn, 1) := by decide +kernel
theorem dL_step_18 : decode cL_step 18 = .ok (.astore_n 3, 1) := by decide +kernel
theorem dL_step_19 : decode cL_step 19 = .ok (.iconst 3, 1) := by decide +kernel
theorem dL_step_20 : decode cL_step 20 = .ok (.ireturn, 1) := by decide +kernel
theorem dL_step_21 : decode cL_step 21 = .ok (.iconst 0, 1) := by decide +kernel
theorem dL_step_22 : decode cL_step 22 = .ok (.ireturn, 1) := by decide +kernel
def bs_L_slew : List (List Cond) := [[.codeWith yL_slew cL_slew 4 (some .int) [(0, 9, 12, 13), (0, 9, 15, 46)]], wsL_slew_r1, wsL_slew_r2, wsL_slew_r3, wsL_slew_r4, wsL_slew_r5, wsL_slew_r6, wsL_slew_r7, wsL_slew_r8, wsX70, wsX60, wsX40, wsX30, wsX00, wsX50, wsX10, (vx_atS RX7 180 "java/lang/IllegalStateException" ["java/lang/RuntimeException", "java/lang/Exception"]).filter goodWord, (vx_atS RX7 289 "java/lang/IndexOutOfBoundsException" ["java/lang/RuntimeException", "java/lang/Exception"]).filter goodWord]
theorem bi_L_slew : ∀ w ∈ bs_L_slew.flatten, w ∈ wsL_slew := by
  have h : bs_L_slew.flatten = wsL_slew := by simp only [bs_L_slew, wsL_slew, List.flatten_cons, List.flatten_nil, List.append_assoc, List.append_nil, List.nil_append, List.cons_append]
  intro w hw; rw [h] at hw; exact hw
set_option maxRecDepth 20000 in
theorem ggL_slew_X7_slew : GoodIn wsL_slew wsX7_slew := goodIn_ca (goodIn_ca (goodIn_bb bs_L_slew bi_L_slew _ [(1, 6), (1, 7), (1, 8), (1, 9), (1, 10), (1, 11), (1, 12), (1, 13), (1, 14), (1, 5), (1, 15), (1, 16), (1, 17), (1, 18), (1, 19), (1, 20), (1, 21), (1, 22), (1, 23), (2, 0), (2, 1), (2, 2), (2, 3), (2, 4), (2, 5), (2, 6), (2, 7), (2, 8), (2, 9), (2, 10), (2, 11), (2, 12), (2, 13), (2, 14), (2, 15), (2, 16), (2, 17), (2, 18), (2, 19), (2, 20), (2, 21), (2, 22), (2, 23), (3, 0), (3, 1), (3, 2), (3, 3), (3, 4), (3, 5), (3, 6), (3, 7), (3, 8), (3, 9), (3, 10), (3, 11), (3, 12), (3, 13), (3, 14), (3, 15), (3, 16), (3, 17), (3, 18), (3, 19), (3, 20), (3, 21), (3, 22), (3, 23), (4, 0), (4, 1), (4, 2), (4, 3), (4, 4), (4, 5), (4, 6), (4, 7), (4, 8), (4, 9), (4, 10), (4, 11), (4, 12), (4, 13), (4, 14), (4, 15), (4, 16), (4, 17), (4, 18), (4, 19), (4, 20), (4, 21), (4, 22), (4, 23), (5, 0), (5, 1), (5, 2), (5, 3), (5, 4), (5, 5), (5, 6), (5, 7), (5, 8), (5, 9), (5, 10), (5, 11), (5, 12), (5, 13), (5, 14), (5, 15), (5, 16), (5, 17), (5, 18), (5, 19), (5, 20), (5, 21), (5, 22), (5, 23), (6, 0), (6, 1), (6, 2), (6, 3), (6, 4), (6, 5), (6, 6), (6, 7), (6, 8), (6, 9), (6, 10), (6, 11), (6, 12), (6, 13), (6, 14), (6, 15), (6, 16), (6, 17), (6, 18), (6, 19), (6, 20), (6, 21), (6, 22), (6, 23), (7, 0), (7, 1), (7, 2), (7, 3), (7, 4), (7, 5), (7, 6), (7, 7), (7, 8), (7, 9), (7, 10), (7, 11), (7, 12), (7, 13), (7, 14), (7, 15), (7, 16), (7, 17), (7, 18), (7, 19), (7, 20), (7, 21), (7, 22), (7, 23), (8, 0), (8, 1), (8, 2), (8, 3), (8, 4), (8, 5), (9, 0), (9, 1), (9, 2), (9, 3), (9, 4), (9, 5), (9, 6), (9, 7), (10, 0), (10, 1), (10, 2), (10, 3), (10, 4), (10, 5), (11, 0), (11, 1), (11, 2), (11, 3), (11, 4), (11, 5), (11, 6), (11, 7), (12, 0), (12, 1), (12, 2), (12, 3), (12, 4), (12, 5), (12, 6), (12, 7), (13, 0), (14, 0), (14, 1), (14, 2), (14, 3), (15, 0), (15, 1), (15, 2)] rfl (by decide +kernel)) (goodIn_sub (fun _ h => List.mem_cons_of_mem _ (List.mem_append_left _ (List.mem_append_right _ h))) (by decide +kernel))) (goodIn_sub (fun _ h => List.mem_cons_of_mem _ (List.mem_append_right _ h)) (by decide +kernel))
set_option maxRecDepth 20000 in
theorem gL_slew_X7_slew : GoodIn wsL_slew (wsV RL 57 RX7 yX7_slew wsX7_slew) := goodIn_app (goodIn_bb bs_L_slew bi_L_slew _ [(1, 2), (1, 3), (1, 4), (1, 5)] rfl (by decide +kernel)) ggL_slew_X7_slew
theorem dL_slew_0 : decode cL_slew 0 = .ok (.aload_n 2, 1) := by decide +kernel
theorem dL_slew_1 : decode cL_slew 1 = .ok (.iconst 0, 1) := by decide +kernel
theorem dL_slew_2 : decode cL_slew 2 = .ok (.aload_n 0, 1) := by decide +kernel
theorem dL_slew_3 : decode cL_slew 3 = .ok (.iload_n 1, 1) := by decide +kernel
theorem dL_slew_4 : decode cL_slew 4 = .ok (.invokevirtual 57, 3) := by decide +kernel
theorem dL_slew_7 : decode cL_slew 7 = .ok (.i2l, 1) := by decide +kernel
theorem dL_slew_8 : decode cL_slew 8 = .ok (.lastore, 1) := by decide +kernel
theorem dL_slew_9 : decode cL_slew 9 = .ok (.goto 9, 3) := by decide +kernel
theorem dL_slew_12 : decode cL_slew 12 = .ok (.astore_n 3, 1) := by decide +kernel
theorem dL_slew_13 : decode cL_slew 13 = .ok (.iconst 1, 1) := by decide +kernel
theorem dL_slew_14 : decode cL_slew 14 = .ok (.ireturn, 1) := by decide +kernel
theorem dL_slew_15 : decode cL_slew 15 = .ok (.astore_n 3, 1) := by decide +kernel
theorem dL_slew_16 : decode cL_slew 16 = .ok (.iconst 2, 1) := by decide +kernel
theorem dL_slew_17 : decode cL_slew 17 = .ok (.ireturn, 1) := by decide +kernel
theorem dL_slew_18 : decode cL_slew 18 = .ok (.iconst 0, 1) := by decide +kernel
theorem dL_slew_19 : decode cL_slew 19 = .ok (.ireturn, 1) := by decide +kernel
def bs_L_close : List (List Cond) := [[.codeWith yL_close cL_close 3 (some .int) [(0, 8, 11, 46)]], wsL_close_r1, wsL_close_r2, wsL_close_r3, wsX70, wsX60, wsX10, (vx_atS RX7 180 "java/lang/IllegalStateException" ["java/lang/RuntimeException", "java/lang/Exception"]).filter goodWord]
theorem bi_L_close : ∀ w ∈ bs_L_close.flatten, w ∈ wsL_close := by
  have h : bs_L_close.flatten = wsL_close := by simp only [bs_L_close, wsL_close, List.flatten_cons, List.flatten_nil, List.append_assoc, List.append_nil, List.nil_append, List.cons_append]
  intro w hw; rw [h] at hw; exact hw
set_option maxRecDepth 20000 in
theorem ggL_close_X7_close : GoodIn wsL_close wsX7_close := goodIn_ca (goodIn_bb bs_L_close bi_L_close _ [(1, 5), (1, 6), (1, 7), (1, 8), (1, 9), (1, 10), (1, 11), (1, 12), (1, 4), (1, 13), (1, 14), (1, 15), (1, 16), (1, 17), (1, 18), (1, 19), (1, 20), (1, 21), (1, 22), (1, 23), (2, 0), (2, 1), (2, 2), (2, 3), (2, 4), (2, 5), (2, 6), (2, 7), (2, 8), (2, 9), (2, 10), (2, 11), (2, 12), (2, 13), (2, 14), (2, 15), (2, 16), (2, 17), (2, 18), (2, 19), (2, 20), (2, 21), (2, 22), (2, 23), (3, 0), (3, 1), (3, 2), (3, 3), (4, 0), (4, 1), (4, 2), (4, 3), (4, 4), (4, 5), (4, 6), (4, 7), (5, 0), (5, 1), (5, 2), (5, 3), (5, 4), (5, 5), (6, 0), (6, 1), (6, 2)] rfl (by decide +kernel)) (goodIn_sub (fun _ h => List.mem_cons_of_mem _ (List.mem_append_right _ h)) (by decide +kernel))
set_option maxRecDepth 20000 in
theorem gL_close_X7_close : GoodIn wsL_close (wsV RL 60 RX7 yX7_close wsX7_close) := goodIn_app (goodIn_bb bs_L_close bi_L_close _ [(1, 1), (1, 2), (1, 3), (1, 4)] rfl (by decide +kernel)) ggL_close_X7_close
theorem dL_close_0 : decode cL_close 0 = .ok (.aload_n 1, 1) := by decide +kernel
theorem dL_close_1 : decode cL_close 1 = .ok (.iconst 0, 1) := by decide +kernel
theorem dL_close_2 : decode cL_close 2 = .ok (.aload_n 0, 1) := by decide +kernel
theorem dL_close_3 : decode cL_close 3 = .ok (.invokevirtual 60, 3) := by decide +kernel
theorem dL_close_6 : decode cL_close 6 = .ok (.i2l, 1) := by decide +kernel
theorem dL_close_7 : decode cL_close 7 = .ok (.lastore, 1) := by decide +kernel
theorem dL_close_8 : decode cL_close 8 = .ok (.goto 6, 3) := by decide +kernel
theorem dL_close_11 : decode cL_close 11 = .ok (.astore_n 2, 1) := by decide +kernel
theorem dL_close_12 : decode cL_close 12 = .ok (.iconst 1, 1) := by decide +kernel
theorem dL_close_13 : decode cL_close 13 = .ok (.ireturn, 1) := by decide +kernel
theorem dL_close_14 : decode cL_close 14 = .ok (.iconst 0, 1) := by decide +kernel
theorem dL_close_15 : decode cL_close 15 = .ok (.ireturn, 1) := by decide +kernel
def bs_L_open : List (List Cond) := [[.codeWith yL_open cL_open 3 (some .int) [(0, 8, 11, 46)]], wsL_open_r1, wsL_open_r2, wsL_open_r3, wsL_open_r4, wsL_open_r5, wsX70, wsX60, wsX40, wsX00, wsX50, wsX10, (vx_atS RX7 180 "java/lang/IllegalStateException" ["java/lang/RuntimeException", "java/lang/Exception"]).filter goodWord]
theorem bi_L_open : ∀ w ∈ bs_L_open.flatten, w ∈ wsL_open := by
  have h : bs_L_open.flatten = wsL_open := by simp only [bs_L_open, wsL_open, List.flatten_cons, List.flatten_nil, List.append_assoc, List.append_nil, List.nil_append, List.cons_append]
  intro w hw; rw [h] at hw; exact hw
set_option maxRecDepth 20000 in
theorem ggL_open_X7_open : GoodIn wsL_open wsX7_open := goodIn_ca (goodIn_bb bs_L_open bi_L_open _ [(1, 5), (1, 6), (1, 7), (1, 8), (1, 9), (1, 10), (1, 11), (1, 12), (1, 13), (1, 14), (1, 15), (1, 4), (1, 16), (1, 17), (1, 18), (1, 19), (1, 20), (1, 21), (1, 22), (1, 23), (2, 0), (2, 1), (2, 2), (2, 3), (2, 4), (2, 5), (2, 6), (2, 7), (2, 8), (2, 9), (2, 10), (2, 11), (2, 12), (2, 13), (2, 14), (2, 15), (2, 16), (2, 17), (2, 18), (2, 19), (2, 20), (2, 21), (2, 22), (2, 23), (3, 0), (3, 1), (3, 2), (3, 3), (3, 4), (3, 5), (3, 6), (3, 7), (3, 8), (3, 9), (3, 10), (3, 11), (3, 12), (3, 13), (3, 14), (3, 15), (3, 16), (3, 17), (3, 18), (3, 19), (3, 20), (3, 21), (3, 22), (3, 23), (4, 0), (4, 1), (4, 2), (4, 3), (4, 4), (4, 5), (4, 6), (4, 7), (4, 8), (4, 9), (4, 10), (4, 11), (4, 12), (4, 13), (4, 14), (4, 15), (4, 16), (4, 17), (4, 18), (4, 19), (4, 20), (4, 21), (4, 22), (4, 23), (5, 0), (5, 1), (5, 2), (5, 3), (5, 4), (5, 5), (5, 6), (5, 7), (5, 8), (5, 9), (5, 10), (5, 11), (5, 12), (5, 13), (5, 14), (5, 15), (5, 16), (5, 17), (5, 18), (5, 19), (5, 20), (5, 21), (6, 0), (6, 1), (6, 2), (6, 3), (6, 4), (6, 5), (6, 6), (6, 7), (7, 0), (7, 1), (7, 2), (7, 3), (7, 4), (7, 5), (8, 0), (8, 1), (8, 2), (8, 3), (8, 4), (8, 5), (8, 6), (8, 7), (9, 0), (10, 0), (10, 1), (10, 2), (10, 3), (11, 0), (11, 1), (11, 2)] rfl (by decide +kernel)) (goodIn_sub (fun _ h => List.mem_cons_of_mem _ (List.mem_append_right _ h)) (by decide +kernel))
set_option maxRecDepth 20000 in
theorem gL_open_X7_open : GoodIn wsL_open (wsV RL 64 RX7 yX7_open wsX7_open) := goodIn_app (goodIn_bb bs_L_open bi_L_open _ [(1, 1), (1, 2), (1, 3), (1, 4)] rfl (by decide +kernel)) ggL_open_X7_open
theorem dL_open_0 : decode cL_open 0 = .ok (.aload_n 1, 1) := by decide +kernel
theorem dL_open_1 : decode cL_open 1 = .ok (.iconst 0, 1) := by decide +kernel
theorem dL_open_2 : decode cL_open 2 = .ok (.aload_n 0, 1) := by decide +kernel
theorem dL_open_3 : decode cL_open 3 = .ok (.invokevirtual 64, 3) := by decide +kernel
theorem dL_open_6 : decode cL_open 6 = .ok (.i2l, 1) := by decide +kernel
theorem dL_open_7 : decode cL_open 7 = .ok (.lastore, 1) := by decide +kernel
theorem dL_open_8 : decode cL_open 8 = .ok (.goto 6, 3) := by decide +kernel
theorem dL_open_11 : decode cL_open 11 = .ok (.astore_n 2, 1) := by decide +kernel
theorem dL_open_12 : decode cL_open 12 = .ok (.iconst 1, 1) := by decide +kernel
theorem dL_open_13 : decode cL_open 13 = .ok (.ireturn, 1) := by decide +kernel
theorem dL_open_14 : decode cL_open 14 = .ok (.iconst 0, 1) := by decide +kernel
theorem dL_open_15 : decode cL_open 15 = .ok (.ireturn, 1) := by decide +kernel
def bs_L_pass : List (List Cond) := [[.codeWith yL_pass cL_pass 4 (some .int) [(0, 9, 12, 18), (0, 9, 15, 46)]], wsL_pass_r1, wsL_pass_r2, wsL_pass_r3, wsX70, wsX60, wsX10, (vx_atS RX7 180 "java/lang/IllegalStateException" ["java/lang/RuntimeException", "java/lang/Exception"]).filter goodWord, (vx_atS RX7 150 "java/lang/IllegalArgumentException" ["java/lang/RuntimeException", "java/lang/Exception"]).filter goodWord]
theorem bi_L_pass : ∀ w ∈ bs_L_pass.flatten, w ∈ wsL_pass := by
  have h : bs_L_pass.flatten = wsL_pass := by simp only [bs_L_pass, wsL_pass, List.flatten_cons, List.flatten_nil, List.append_assoc, List.append_nil, List.nil_append, List.cons_append]
  intro w hw; rw [h] at hw; exact hw
set_option maxRecDepth 20000 in
theorem ggL_pass_X7_pass : GoodIn wsL_pass wsX7_pass := goodIn_ca (goodIn_ca (goodIn_bb bs_L_pass bi_L_pass _ [(1, 6), (1, 7), (1, 8), (1, 9), (1, 10), (1, 11), (1, 12), (1, 13), (1, 5), (1, 14), (1, 15), (1, 16), (1, 17), (1, 18), (1, 19), (1, 20), (1, 21), (1, 22), (1, 23), (2, 0), (2, 1), (2, 2), (2, 3), (2, 4), (2, 5), (2, 6), (2, 7), (2, 8), (2, 9), (2, 10), (2, 11), (2, 12), (2, 13), (2, 14), (2, 15), (2, 16), (2, 17), (2, 18), (2, 19), (2, 20), (2, 21), (2, 22), (2, 23), (3, 0), (3, 1), (3, 2), (3, 3), (3, 4), (3, 5), (3, 6), (3, 7), (3, 8), (3, 9), (4, 0), (4, 1), (4, 2), (4, 3), (4, 4), (4, 5), (4, 6), (4, 7), (5, 0), (5, 1), (5, 2), (5, 3), (5, 4), (5, 5), (6, 0), (6, 1), (6, 2)] rfl (by decide +kernel)) (goodIn_sub (fun _ h => List.mem_cons_of_mem _ (List.mem_append_left _ (List.mem_append_right _ h))) (by decide +kernel))) (goodIn_sub (fun _ h => List.mem_cons_of_mem _ (List.mem_append_right _ h)) (by decide +kernel))
set_option maxRecDepth 20000 in
theorem gL_pass_X7_pass : GoodIn wsL_pass (wsV RL 67 RX7 yX7_pass wsX7_pass) := goodIn_app (goodIn_bb bs_L_pass bi_L_pass _ [(1, 2), (1, 3), (1, 4), (1, 5)] rfl (by decide +kernel)) ggL_pass_X7_pass
theorem dL_pass_0 : decode cL_pass 0 = .ok (.aload_n 2, 1) := by decide +kernel
theorem dL_pass_1 : decode cL_pass 1 = .ok (.iconst 0, 1) := by decide +kernel
theorem dL_pass_2 : decode cL_pass 2 = .ok (.aload_n 0, 1) := by decide +kernel
theorem dL_pass_3 : decode cL_pass 3 = .ok (.iload_n 1, 1) := by decide +kernel
theorem dL_pass_4 : decode cL_pass 4 = .ok (.invokevirtual 67, 3) := by decide +kernel
theorem dL_pass_7 : decode cL_pass 7 = .ok (.i2l, 1) := by decide +kernel
theorem dL_pass_8 : decode cL_pass 8 = .ok (.lastore, 1) := by decide +kernel
theorem dL_pass_9 : decode cL_pass 9 = .ok (.goto 9, 3) := by decide +kernel
theorem dL_pass_12 : decode cL_pass 12 = .ok (.astore_n 3, 1) := by decide +kernel
theorem dL_pass_13 : decode cL_pass 13 = .ok (.iconst 1, 1) := by decide +kernel
theorem dL_pass_14 : decode cL_pass 14 = .ok (.ireturn, 1) := by decide +kernel
theorem dL_pass_15 : decode cL_pass 15 = .ok (.astore_n 3, 1) := by decide +kernel
theorem dL_pass_16 : decode cL_pass 16 = .ok (.iconst 2, 1) := by decide +kernel
theorem dL_pass_17 : decode cL_pass 17 = .ok (.ireturn, 1) := by decide +kernel
theorem dL_pass_18 : decode cL_pass 18 = .ok (.iconst 0, 1) := by decide +kernel
theorem dL_pass_19 : decode cL_pass 19 = .ok (.ireturn, 1) := by decide +kernel
def bs_L_addRequest : List (List Cond) := [[.codeWith yL_addRequest cL_addRequest 6 (some .int) [(0, 12, 15, 13), (0, 12, 19, 18), (0, 12, 23, 46)]], wsL_addRequest_r1, wsL_addRequest_r2, wsL_addRequest_r3, wsX70, wsX60, wsX10, (vx_atS RX7 180 "java/lang/IllegalStateException" ["java/lang/RuntimeException", "java/lang/Exception"]).filter goodWord, (vx_atS RX7 289 "java/lang/IndexOutOfBoundsException" ["java/lang/RuntimeException", "java/lang/Exception"]).filter goodWord, (vx_atS RX7 150 "java/lang/IllegalArgumentException" ["java/lang/RuntimeException", "java/lang/Exception"]).filter goodWord]
theorem bi_L_addRequest : ∀ w ∈ bs_L_addRequest.flatten, w ∈ wsL_addRequest := by
  have h : bs_L_addRequest.flatten = wsL_addRequest := by simp only [bs_L_addRequest, wsL_addRequest, List.flatten_cons, List.flatten_nil, List.append_assoc, List.append_nil, List.nil_append, List.cons_append]
  intro w hw; rw [h] at hw; exact hw
set_option maxRecDepth 20000 in
theorem ggL_addRequest_X7_addRequest : GoodIn wsL_addRequest wsX7_addRequest := goodIn_ca (goodIn_ca (goodIn_ca (goodIn_bb bs_L_addRequest bi_L_addRequest _ [(1, 7), (1, 8), (1, 9), (1, 10), (1, 11), (1, 12), (1, 13), (1, 14), (1, 6), (1, 15), (1, 16), (1, 17), (1, 18), (1, 19), (1, 20), (1, 21), (1, 22), (1, 23), (2, 0), (2, 1), (2, 2), (2, 3), (2, 4), (2, 5), (2, 6), (2, 7), (2, 8), (2, 9), (2, 10), (2, 11), (2, 12), (2, 13), (2, 14), (2, 15), (2, 16), (2, 17), (2, 18), (2, 19), (2, 20), (2, 21), (2, 22), (2, 23), (3, 0), (3, 1), (3, 2), (3, 3), (3, 4), (3, 5), (3, 6), (3, 7), (3, 8), (3, 9), (3, 10), (3, 11), (3, 12), (3, 13), (3, 14), (3, 15), (3, 16), (3, 17), (3, 18), (4, 0), (4, 1), (4, 2), (4, 3), (4, 4), (4, 5), (4, 6), (4, 7), (5, 0), (5, 1), (5, 2), (5, 3), (5, 4), (5, 5), (6, 0), (6, 1), (6, 2)] rfl (by decide +kernel)) (goodIn_sub (fun _ h => List.mem_cons_of_mem _ (List.mem_append_left _ (List.mem_append_left _ (List.mem_append_right _ h)))) (by decide +kernel))) (goodIn_sub (fun _ h => List.mem_cons_of_mem _ (List.mem_append_left _ (List.mem_append_right _ h))) (by decide +kernel))) (goodIn_sub (fun _ h => List.mem_cons_of_mem _ (List.mem_append_right _ h)) (by decide +kernel))
set_option maxRecDepth 20000 in
theorem gL_addRequest_X7_addRequest : GoodIn wsL_addRequest (wsV RL 70 RX7 yX7_addRequest wsX7_addRequest) := goodIn_app (goodIn_bb bs_L_addRequest bi_L_addRequest _ [(1, 3), (1, 4), (1, 5), (1, 6)] rfl (by decide +kernel)) ggL_addRequest_X7_addRequest
theorem dL_addRequest_0 : decode cL_addRequest 0 = .ok (.aload 4, 2) := by decide +kernel
theorem dL_addRequest_2 : decode cL_addRequest 2 = .ok (.iconst 0, 1) := by decide +kernel
theorem dL_addRequest_3 : decode cL_addRequest 3 = .ok (.aload_n 0, 1) := by decide +kernel
theorem dL_addRequest_4 : decode cL_addRequest 4 = .ok (.iload_n 1, 1) := by decide +kernel
theorem dL_addRequest_5 : decode cL_addRequest 5 = .ok (.iload_n 2, 1) := by decide +kernel
theorem dL_addRequest_6 : decode cL_addRequest 6 = .ok (.iload_n 3, 1) := by decide +kernel
theorem dL_addRequest_7 : decode cL_addRequest 7 = .ok (.invokevirtual 70, 3) := by decide +kernel
theorem dL_addRequest_10 : decode cL_addRequest 10 = .ok (.i2l, 1) := by decide +kernel
theorem dL_addRequest_11 : decode cL_addRequest 11 = .ok (.lastore, 1) := by decide +kernel
theorem dL_addRequest_12 : decode cL_addRequest 12 = .ok (.goto 15, 3) := by decide +kernel
theorem dL_addRequest_15 : decode cL_addRequest 15 = .ok (.astore 5, 2) := by decide +kernel
theorem dL_addRequest_17 : decode cL_addRequest 17 = .ok (.iconst 1, 1) := by decide +kernel
theorem dL_addRequest_18 : decode cL_addRequest 18 = .ok (.ireturn, 1) := by decide +kernel
theorem dL_addRequest_19 : decode cL_addRequest 19 = .ok (.astore 5, 2) := by decide +kernel
theorem dL_addRequest_21 : decode cL_addRequest 21 = .ok (.iconst 2, 1) := by decide +kernel
theorem dL_addRequest_22 : decode cL_addRequest 22 = .ok (.ireturn, 1) := by decide +kernel
theorem dL_addRequest_23 : decode cL_addRequest 23 = .ok (.astore 5, 2) := by decide +kernel
theorem dL_addRequest_25 : decode cL_addRequest 25 = .ok (.iconst 3, 1) := by decide +kernel
theorem dL_addRequest_26 : decode cL_addRequest 26 = .ok (.ireturn, 1) := by decide +kernel
theorem dL_addRequest_27 : decode cL_addRequest 27 = .ok (.iconst 0, 1) := by decide +kernel
theorem dL_addRequest_28 : decode cL_addRequest 28 = .ok (.ireturn, 1) := by decide +kernel
def bs_L_removeRequest : List (List Cond) := [[.codeWith yL_removeRequest cL_removeRequest 4 (some .int) [(0, 9, 12, 13)]], wsL_removeRequest_r1, wsL_removeRequest_r2, wsL_removeRequest_r3, wsX70, wsX60, wsX10, (vx_atS RX7 289 "java/lang/IndexOutOfBoundsException" ["java/lang/RuntimeException", "java/lang/Exception"]).filter goodWord]
theorem bi_L_removeRequest : ∀ w ∈ bs_L_removeRequest.flatten, w ∈ wsL_removeRequest := by
  have h : bs_L_removeRequest.flatten = wsL_removeRequest := by simp only [bs_L_removeRequest, wsL_removeRequest, List.flatten_cons, List.flatten_nil, List.append_assoc, List.append_nil, List.nil_append, List.cons_append]
  intro w hw; rw [h] at hw; exact hw
set_option maxRecDepth 20000 in
theorem ggL_removeRequest_X7_removeRequest : GoodIn wsL_removeRequest wsX7_removeRequest := goodIn_ca (goodIn_bb bs_L_removeRequest bi_L_removeRequest _ [(1, 5), (1, 6), (1, 7), (1, 8), (1, 9), (1, 10), (1, 11), (1, 4), (1, 12), (1, 13), (1, 14), (1, 15), (1, 16), (1, 17), (1, 18), (1, 19), (1, 20), (1, 21), (1, 22), (1, 23), (2, 0), (2, 1), (2, 2), (2, 3), (2, 4), (2, 5), (2, 6), (2, 7), (2, 8), (2, 9), (2, 10), (2, 11), (2, 12), (2, 13), (2, 14), (2, 15), (2, 16), (2, 17), (2, 18), (2, 19), (2, 20), (2, 21), (2, 22), (2, 23), (3, 0), (3, 1), (3, 2), (3, 3), (3, 4), (3, 5), (3, 6), (3, 7), (3, 8), (3, 9), (3, 10), (3, 11), (3, 12), (3, 13), (3, 14), (4, 0), (4, 1), (4, 2), (4, 3), (4, 4), (4, 5), (4, 6), (4, 7), (5, 0), (5, 1), (5, 2), (5, 3), (5, 4), (5, 5), (6, 0), (6, 1), (6, 2)] rfl (by decide +kernel)) (goodIn_sub (fun _ h => List.mem_cons_of_mem _ (List.mem_append_right _ h)) (by decide +kernel))
set_option maxRecDepth 20000 in
theorem gL_removeRequest_X7_removeRequest : GoodIn wsL_removeRequest (wsV RL 73 RX7 yX7_removeRequest wsX7_removeRequest) := goodIn_app (goodIn_bb bs_L_removeRequest bi_L_removeRequest _ [(1, 1), (1, 2), (1, 3), (1, 4)] rfl (by decide +kernel)) ggL_removeRequest_X7_removeRequest
theorem dL_removeRequest_0 : decode cL_removeRequest 0 = .ok (.aload_n 2, 1) := by decide +kernel
theorem dL_removeRequest_1 : decode cL_removeRequest 1 = .ok (.iconst 0, 1) := by decide +kernel
theorem dL_removeRequest_2 : decode cL_removeRequest 2 = .ok (.aload_n 0, 1) := by decide +kernel
theorem dL_removeRequest_3 : decode cL_removeRequest 3 = .ok (.iload_n 1, 1) := by decide +kernel
theorem dL_removeRequest_4 : decode cL_removeRequest 4 = .ok (.invokevirtual 73, 3) := by decide +kernel
theorem dL_removeRequest_7 : decode cL_removeRequest 7 = .ok (.i2l, 1) := by decide +kernel
theorem dL_removeRequest_8 : decode cL_removeRequest 8 = .ok (.lastore, 1) := by decide +kernel
theorem dL_removeRequest_9 : decode cL_removeRequest 9 = .ok (.goto 6, 3) := by decide +kernel
theorem dL_removeRequest_12 : decode cL_removeRequest 12 = .ok (.astore_n 3, 1) := by decide +kernel
theorem dL_removeRequest_13 : decode cL_removeRequest 13 = .ok (.iconst 1, 1) := by decide +kernel
theorem dL_removeRequest_14 : decode cL_removeRequest 14 = .ok (.ireturn, 1) := by decide +kernel
theorem dL_removeRequest_15 : decode cL_removeRequest 15 = .ok (.iconst 0, 1) := by decide +kernel
theorem dL_removeRequest_16 : decode cL_removeRequest 16 = .ok (.ireturn, 1) := by decide +kernel
def bs_L_undo : List (List Cond) := [[.codeWith yL_undo cL_undo 3 (some .int) [(0, 8, 11, 46)]], wsL_undo_r1, wsL_undo_r2, wsX70, wsX10, wsX60, (vx_atS RX7 180 "java/lang/IllegalStateException" ["java/lang/RuntimeException", "java/lang/Exception"]).filter goodWord]
theorem bi_L_undo : ∀ w ∈ bs_L_undo.flatten, w ∈ wsL_undo := by
  have h : bs_L_undo.flatten = wsL_undo := by simp only [bs_L_undo, wsL_undo, List.flatten_cons, List.flatten_nil, List.append_assoc, List.append_nil, List.nil_append, List.cons_append]
  intro w hw; rw [h] at hw; exact hw
set_option maxRecDepth 20000 in
theorem ggL_undo_X7_undo : GoodIn wsL_undo wsX7_undo := goodIn_ca (goodIn_bb bs_L_undo bi_L_undo _ [(1, 5), (1, 6), (1, 7), (1, 8), (1, 9), (1, 10), (1, 11), (1, 12), (1, 13), (1, 14), (1, 15), (1, 16), (1, 17), (1, 18), (1, 19), (1, 20), (1, 21), (1, 22), (1, 23), (2, 0), (2, 1), (2, 2), (2, 3), (2, 4), (2, 5), (2, 6), (2, 7), (2, 8), (2, 9), (2, 10), (2, 11), (2, 12), (2, 13), (3, 0), (3, 1), (3, 2), (3, 3), (3, 4), (3, 5), (3, 6), (3, 7), (4, 0), (4, 1), (4, 2), (5, 0), (5, 1), (5, 2), (5, 3), (5, 4), (5, 5)] rfl (by decide +kernel)) (goodIn_sub (fun _ h => List.mem_cons_of_mem _ (List.mem_append_right _ h)) (by decide +kernel))
set_option maxRecDepth 20000 in
theorem gL_undo_X7_undo : GoodIn wsL_undo (wsV RL 76 RX7 yX7_undo wsX7_undo) := goodIn_app (goodIn_bb bs_L_undo bi_L_undo _ [(1, 1), (1, 2), (1, 3), (1, 4)] rfl (by decide +kernel)) ggL_undo_X7_undo
theorem dL_undo_0 : decode cL_undo 0 = .ok (.aload_n 1, 1) := by decide +kernel
theorem dL_undo_1 : decode cL_undo 1 = .ok (.iconst 0, 1) := by decide +kernel
theorem dL_undo_2 : decode cL_undo 2 = .ok (.aload_n 0, 1) := by decide +kernel
theorem dL_undo_3 : decode cL_undo 3 = .ok (.invokevirtual 76, 3) := by decide +kernel
theorem dL_undo_6 : decode cL_undo 6 = .ok (.i2l, 1) := by decide +kernel
theorem dL_undo_7 : decode cL_undo 7 = .ok (.lastore, 1) := by decide +kernel
theorem dL_undo_8 : decode cL_undo 8 = .ok (.goto 6, 3) := by decide +kernel
theorem dL_undo_11 : decode cL_undo 11 = .ok (.astore_n 2, 1) := by decide +kernel
theorem dL_undo_12 : decode cL_undo 12 = .ok (.iconst 1, 1) := by decide +kernel
theorem dL_undo_13 : decode cL_undo 13 = .ok (.ireturn, 1) := by decide +kernel
theorem dL_undo_14 : decode cL_undo 14 = .ok (.iconst 0, 1) := by decide +kernel
theorem dL_undo_15 : decode cL_undo 15 = .ok (.ireturn, 1) := by decide +kernel
def bs_L_arrival : List (List Cond) := [[.codeWith yL_arrival cL_arrival 4 (some .int) [(0, 9, 12, 13), (0, 9, 15, 46)]], wsL_arrival_r1, wsL_arrival_r2, wsL_arrival_r3, wsL_arrival_r4, wsL_arrival_r5, wsL_arrival_r6, wsL_arrival_r7, wsX70, wsX60, wsX40, wsX30, wsX00, wsX50, (vx_atS RX7 289 "java/lang/IndexOutOfBoundsException" ["java/lang/RuntimeException", "java/lang/Exception"]).filter goodWord, (vx_atS RX7 180 "java/lang/IllegalStateException" ["java/lang/RuntimeException", "java/lang/Exception"]).filter goodWord]
theorem bi_L_arrival : ∀ w ∈ bs_L_arrival.flatten, w ∈ wsL_arrival := by
  have h : bs_L_arrival.flatten = wsL_arrival := by simp only [bs_L_arrival, wsL_arrival, List.flatten_cons, List.flatten_nil, List.append_assoc, List.append_nil, List.nil_append, List.cons_append]
  intro w hw; rw [h] at hw; exact hw
set_option maxRecDepth 20000 in
theorem ggL_arrival_X7_arrival : GoodIn wsL_arrival wsX7_arrival := goodIn_ca (goodIn_ca (goodIn_bb bs_L_arrival bi_L_arrival _ [(1, 6), (1, 7), (1, 8), (1, 5), (1, 9), (1, 10), (1, 11), (1, 12), (1, 13), (1, 14), (1, 15), (1, 16), (1, 17), (1, 18), (1, 19), (1, 20), (1, 21), (1, 22), (1, 23), (2, 0), (2, 1), (2, 2), (2, 3), (2, 4), (2, 5), (2, 6), (2, 7), (2, 8), (2, 9), (2, 10), (2, 11), (2, 12), (2, 13), (2, 14), (2, 15), (2, 16), (2, 17), (2, 18), (2, 19), (2, 20), (2, 21), (2, 22), (2, 23), (3, 0), (3, 1), (3, 2), (3, 3), (3, 4), (3, 5), (3, 6), (3, 7), (3, 8), (3, 9), (3, 10), (3, 11), (3, 12), (3, 13), (3, 14), (3, 15), (3, 16), (3, 17), (3, 18), (3, 19), (3, 20), (3, 21), (3, 22), (3, 23), (4, 0), (4, 1), (4, 2), (4, 3), (4, 4), (4, 5), (4, 6), (4, 7), (4, 8), (4, 9), (4, 10), (4, 11), (4, 12), (4, 13), (4, 14), (4, 15), (4, 16), (4, 17), (4, 18), (4, 19), (4, 20), (4, 21), (4, 22), (4, 23), (5, 0), (5, 1), (5, 2), (5, 3), (5, 4), (5, 5), (5, 6), (5, 7), (5, 8), (5, 9), (5, 10), (5, 11), (5, 12), (5, 13), (5, 14), (5, 15), (5, 16), (5, 17), (5, 18), (5, 19), (5, 20), (5, 21), (5, 22), (5, 23), (6, 0), (6, 1), (6, 2), (6, 3), (6, 4), (6, 5), (6, 6), (6, 7), (6, 8), (6, 9), (6, 10), (6, 11), (6, 12), (6, 13), (6, 14), (6, 15), (6, 16), (6, 17), (6, 18), (6, 19), (6, 20), (6, 21), (6, 22), (6, 23), (7, 0), (7, 1), (8, 0), (8, 1), (8, 2), (8, 3), (8, 4), (8, 5), (8, 6), (8, 7), (9, 0), (9, 1), (9, 2), (9, 3), (9, 4), (9, 5), (10, 0), (10, 1), (10, 2), (10, 3), (10, 4), (10, 5), (10, 6), (10, 7), (11, 0), (11, 1), (11, 2), (11, 3), (11, 4), (11, 5), (11, 6), (11, 7), (12, 0), (13, 0), (13, 1), (13, 2), (13, 3)] rfl (by decide +kernel)) (goodIn_sub (fun _ h => List.mem_cons_of_mem _ (List.mem_append_left _ (List.mem_append_right _ h))) (by decide +kernel))) (goodIn_sub (fun _ h => List.mem_cons_of_mem _ (List.mem_append_right _ h)) (by decide +kernel))
set_option maxRecDepth 20000 in
theorem gL_arrival_X7_arrival : GoodIn wsL_arrival (wsV RL 79 RX7 yX7_arrival wsX7_arrival) := goodIn_app (goodIn_bb bs_L_arrival bi_L_arrival _ [(1, 2), (1, 3), (1, 4), (1, 5)] rfl (by decide +kernel)) ggL_arrival_X7_arrival
theorem dL_arrival_0 : decode cL_arrival 0 = .ok (.aload_n 2, 1) := by decide +kernel
theorem dL_arrival_1 : decode cL_arrival 1 = .ok (.iconst 0, 1) := by decide +kernel
theorem dL_arrival_2 : decode cL_arrival 2 = .ok (.aload_n 0, 1) := by decide +kernel
theorem dL_arrival_3 : decode cL_arrival 3 = .ok (.iload_n 1, 1) := by decide +kernel
theorem dL_arrival_4 : decode cL_arrival 4 = .ok (.invokevirtual 79, 3) := by decide +kernel
theorem dL_arrival_7 : decode cL_arrival 7 = .ok (.i2l, 1) := by decide +kernel
theorem dL_arrival_8 : decode cL_arrival 8 = .ok (.lastore, 1) := by decide +kernel
theorem dL_arrival_9 : decode cL_arrival 9 = .ok (.goto 9, 3) := by decide +kernel
theorem dL_arrival_12 : decode cL_arrival 12 = .ok (.astore_n 3, 1) := by decide +kernel
theorem dL_arrival_13 : decode cL_arrival 13 = .ok (.iconst 1, 1) := by decide +kernel
theorem dL_arrival_14 : decode cL_arrival 14 = .ok (.ireturn, 1) := by decide +kernel
theorem dL_arrival_15 : decode cL_arrival 15 = .ok (.astore_n 3, 1) := by decide +kernel
theorem dL_arrival_16 : decode cL_arrival 16 = .ok (.iconst 2, 1) := by decide +kernel
theorem dL_arrival_17 : decode cL_arrival 17 = .ok (.ireturn, 1) := by decide +kernel
theorem dL_arrival_18 : decode cL_arrival 18 = .ok (.iconst 0, 1) := by decide +kernel
theorem dL_arrival_19 : decode cL_arrival 19 = .ok (.ireturn, 1) := by decide +kernel
def bs_L_planCell : List (List Cond) := [[.codeWith yL_planCell cL_planCell 5 (some .int) [(0, 10, 13, 13), (0, 10, 17, 18), (0, 10, 21, 46)]], wsL_planCell_r1, wsL_planCell_r2, wsL_planCell_r3, wsL_planCell_r4, wsL_planCell_r5, wsL_planCell_r6, wsL_planCell_r7, wsL_planCell_r8, wsX70, wsX60, wsX40, wsX30, wsX00, wsX50, (vx_atS RX7 289 "java/lang/IndexOutOfBoundsException" ["java/lang/RuntimeException", "java/lang/Exception"]).filter goodWord, (vx_atS RX7 150 "java/lang/IllegalArgumentException" ["java/lang/RuntimeException", "java/lang/Exception"]).filter goodWord, (vx_atS RX7 180 "java/lang/IllegalStateException" ["java/lang/RuntimeException", "java/lang/Exception"]).filter goodWord]
theorem bi_L_planCell : ∀ w ∈ bs_L_planCell.flatten, w ∈ wsL_planCell := by
  have h : bs_L_planCell.flatten = wsL_planCell := by simp only [bs_L_planCell, wsL_planCell, List.flatten_cons, List.flatten_nil, List.append_assoc, List.append_nil, List.nil_append, List.cons_append]
  intro w hw; rw [h] at hw; exact hw
set_option maxRecDepth 20000 in
theorem ggL_planCell_X7_planCell : GoodIn wsL_planCell wsX7_planCell := goodIn_ca (goodIn_ca (goodIn_ca (goodIn_bb bs_L_planCell bi_L_planCell _ [(1, 7), (1, 8), (1, 9), (1, 6), (1, 10), (1, 11), (1, 12), (1, 13), (1, 14), (1, 15), (1, 16), (1, 17), (1, 18), (1, 19), (1, 20), (1, 21), (1, 22), (1, 23), (2, 0), (2, 1), (2, 2), (2, 3), (2, 4), (2, 5), (2, 6), (2, 7), (2, 8), (2, 9), (2, 10), (2, 11), (2, 12), (2, 13), (2, 14), (2, 15), (2, 16), (2, 17), (2, 18), (2, 19), (2, 20), (2, 21), (2, 22), (2, 23), (3, 0), (3, 1), (3, 2), (3, 3), (3, 4), (3, 5), (3, 6), (3, 7), (3, 8), (3, 9), (3, 10), (3, 11), (3, 12), (3, 13), (3, 14), (3, 15), (3, 16), (3, 17), (3, 18), (3, 19), (3, 20), (3, 21), (3, 22), (3, 23), (4, 0), (4, 1), (4, 2), (4, 3), (4, 4), (4, 5), (4, 6), (4, 7), (4, 8), (4, 9), (4, 10), (4, 11), (4, 12), (4, 13), (4, 14), (4, 15), (4, 16), (4, 17), (4, 18), (4, 19), (4, 20), (4, 21), (4, 22), (4, 23), (5, 0), (5, 1), (5, 2), (5, 3), (5, 4), (5, 5), (5, 6), (5, 7), (5, 8), (5, 9), (5, 10), (5, 11), (5, 12), (5, 13), (5, 14), (5, 15), (5, 16), (5, 17), (5, 18), (5, 19), (5, 20), (5, 21), (5, 22), (5, 23), (6, 0), (6, 1), (6, 2), (6, 3), (6, 4), (6, 5), (6, 6), (6, 7), (6, 8), (6, 9), (6, 10), (6, 11), (6, 12), (6, 13), (6, 14), (6, 15), (6, 16), (6, 17), (6, 18), (6, 19), (6, 20), (6, 21), (6, 22), (6, 23), (7, 0), (7, 1), (7, 2), (7, 3), (7, 4), (7, 5), (7, 6), (7, 7), (7, 8), (7, 9), (7, 10), (7, 11), (7, 12), (7, 13), (7, 14), (7, 15), (7, 16), (7, 17), (7, 18), (7, 19), (7, 20), (7, 21), (7, 22), (7, 23), (8, 0), (8, 1), (8, 2), (8, 3), (9, 0), (9, 1), (9, 2), (9, 3), (9, 4), (9, 5), (9, 6), (9, 7), (10, 0), (10, 1), (10, 2), (10, 3), (10, 4), (10, 5), (11, 0), (11, 1), (11, 2), (11, 3), (11, 4), (11, 5), (11, 6), (11, 7), (12, 0), (12, 1), (12, 2), (12, 3), (12, 4), (12, 5), (12, 6), (12, 7), (13, 0), (14, 0), (14, 1), (14, 2), (14, 3)] rfl (by decide +kernel)) (goodIn_sub (fun _ h => List.mem_cons_of_mem _ (List.mem_append_left _ (List.mem_append_left _ (List.mem_append_right _ h)))) (by decide +kernel))) (goodIn_sub (fun _ h => List.mem_cons_of_mem _ (List.mem_append_left _ (List.mem_append_right _ h))) (by decide +kernel))) (goodIn_sub (fun _ h => List.mem_cons_of_mem _ (List.mem_append_right _ h)) (by decide +kernel))
set_option maxRecDepth 20000 in
theorem gL_planCell_X7_planCell : GoodIn wsL_planCell (wsV RL 82 RX7 yX7_planCell wsX7_planCell) := goodIn_app (goodIn_bb bs_L_planCell bi_L_planCell _ [(1, 3), (1, 4), (1, 5), (1, 6)] rfl (by decide +kernel)) ggL_planCell_X7_planCell
theorem dL_planCell_0 : decode cL_planCell 0 = .ok (.aload_n 3, 1) := by decide +kernel
theorem dL_planCell_1 : decode cL_planCell 1 = .ok (.iconst 0, 1) := by decide +kernel
theorem dL_planCell_2 : decode cL_planCell 2 = .ok (.aload_n 0, 1) := by decide +kernel
theorem dL_planCell_3 : decode cL_planCell 3 = .ok (.iload_n 1, 1) := by decide +kernel
theorem dL_planCell_4 : decode cL_planCell 4 = .ok (.iload_n 2, 1) := by decide +kernel
theorem dL_planCell_5 : decode cL_planCell 5 = .ok (.invokevirtual 82, 3) := by decide +kernel
theorem dL_planCell_8 : decode cL_planCell 8 = .ok (.i2l, 1) := by decide +kernel
theorem dL_planCell_9 : decode cL_planCell 9 = .ok (.lastore, 1) := by decide +kernel
theorem dL_planCell_10 : decode cL_planCell 10 = .ok (.goto 15, 3) := by decide +kernel
theorem dL_planCell_13 : decode cL_planCell 13 = .ok (.astore 4, 2) := by decide +kernel
theorem dL_planCell_15 : decode cL_planCell 15 = .ok (.iconst 1, 1) := by decide +kernel
theorem dL_planCell_16 : decode cL_planCell 16 = .ok (.ireturn, 1) := by decide +kernel
theorem dL_planCell_17 : decode cL_planCell 17 = .ok (.astore 4, 2) := by decide +kernel
theorem dL_planCell_19 : decode cL_planCell 19 = .ok (.iconst 2, 1) := by decide +kernel
theorem dL_planCell_20 : decode cL_planCell 20 = .ok (.ireturn, 1) := by decide +kernel
theorem dL_planCell_21 : decode cL_planCell 21 = .ok (.astore 4, 2) := by decide +kernel
theorem dL_planCell_23 : decode cL_planCell 23 = .ok (.iconst 3, 1) := by decide +kernel
theorem dL_planCell_24 : decode cL_planCell 24 = .ok (.ireturn, 1) := by decide +kernel
theorem dL_planCell_25 : decode cL_planCell 25 = .ok (.iconst 0, 1) := by decide +kernel
theorem dL_planCell_26 : decode cL_planCell 26 = .ok (.ireturn, 1) := by decide +kernel
def bs_L_reachableCells : List (List Cond) := [[.codeWith yL_reachableCells cL_reachableCells 4 (some .int) [(0, 9, 12, 18), (0, 9, 15, 46)]], wsL_reachableCells_r1, wsL_reachableCells_r2, wsL_reachableCells_r3, wsL_reachableCells_r4, wsL_reachableCells_r5, wsL_reachableCells_r6, wsL_reachableCells_r7, wsX70, wsX60, wsX40, wsX30, wsX00, wsX50, (vx_atS RX7 150 "java/lang/IllegalArgumentException" ["java/lang/RuntimeException", "java/lang/Exception"]).filter goodWord, (vx_atS RX7 180 "java/lang/IllegalStateException" ["java/lang/RuntimeException", "java/lang/Exception"]).filter goodWord]
theorem bi_L_reachableCells : ∀ w ∈ bs_L_reachableCells.flatten, w ∈ wsL_reachableCells := by
  have h : bs_L_reachableCells.flatten = wsL_reachableCells := by simp only [bs_L_reachableCells, wsL_reachableCells, List.flatten_cons, List.flatten_nil, List.append_assoc, List.append_nil, List.nil_append, List.cons_append]
  intro w hw; rw [h] at hw; exact hw
set_option maxRecDepth 20000 in
theorem ggL_reachableCells_X7_reachableCells : GoodIn wsL_reachableCells wsX7_reachableCells := goodIn_ca (goodIn_ca (goodIn_bb bs_L_reachableCells bi_L_reachableCells _ [(1, 6), (1, 7), (1, 8), (1, 5), (1, 9), (1, 10), (1, 11), (1, 12), (1, 13), (1, 14), (1, 15), (1, 16), (1, 17), (1, 18), (1, 19), (1, 20), (1, 21), (1, 22), (1, 23), (2, 0), (2, 1), (2, 2), (2, 3), (2, 4), (2, 5), (2, 6), (2, 7), (2, 8), (2, 9), (2, 10), (2, 11), (2, 12), (2, 13), (2, 14), (2, 15), (2, 16), (2, 17), (2, 18), (2, 19), (2, 20), (2, 21), (2, 22), (2, 23), (3, 0), (3, 1), (3, 2), (3, 3), (3, 4), (3, 5), (3, 6), (3, 7), (3, 8), (3, 9), (3, 10), (3, 11), (3, 12), (3, 13), (3, 14), (3, 15), (3, 16), (3, 17), (3, 18), (3, 19), (3, 20), (3, 21), (3, 22), (3, 23), (4, 0), (4, 1), (4, 2), (4, 3), (4, 4), (4, 5), (4, 6), (4, 7), (4, 8), (4, 9), (4, 10), (4, 11), (4, 12), (4, 13), (4, 14), (4, 15), (4, 16), (4, 17), (4, 18), (4, 19), (4, 20), (4, 21), (4, 22), (4, 23), (5, 0), (5, 1), (5, 2), (5, 3), (5, 4), (5, 5), (5, 6), (5, 7), (5, 8), (5, 9), (5, 10), (5, 11), (5, 12), (5, 13), (5, 14), (5, 15), (5, 16), (5, 17), (5, 18), (5, 19), (5, 20), (5, 21), (5, 22), (5, 23), (6, 0), (6, 1), (6, 2), (6, 3), (6, 4), (6, 5), (6, 6), (6, 7), (6, 8), (6, 9), (6, 10), (6, 11), (6, 12), (6, 13), (6, 14), (6, 15), (6, 16), (6, 17), (6, 18), (6, 19), (6, 20), (6, 21), (6, 22), (6, 23), (7, 0), (7, 1), (7, 2), (7, 3), (7, 4), (7, 5), (7, 6), (7, 7), (7, 8), (8, 0), (8, 1), (8, 2), (8, 3), (8, 4), (8, 5), (8, 6), (8, 7), (9, 0), (9, 1), (9, 2), (9, 3), (9, 4), (9, 5), (10, 0), (10, 1), (10, 2), (10, 3), (10, 4), (10, 5), (10, 6), (10, 7), (11, 0), (11, 1), (11, 2), (11, 3), (11, 4), (11, 5), (11, 6), (11, 7), (12, 0), (13, 0), (13, 1), (13, 2), (13, 3)] rfl (by decide +kernel)) (goodIn_sub (fun _ h => List.mem_cons_of_mem _ (List.mem_append_left _ (List.mem_append_right _ h))) (by decide +kernel))) (goodIn_sub (fun _ h => List.mem_cons_of_mem _ (List.mem_append_right _ h)) (by decide +kernel))
set_option maxRecDepth 20000 in
theorem gL_reachableCells_X7_reachableCells : GoodIn wsL_reachableCells (wsV RL 85 RX7 yX7_reachableCells wsX7_reachableCells) := goodIn_app (goodIn_bb bs_L_reachableCells bi_L_reachableCells _ [(1, 2), (1, 3), (1, 4), (1, 5)] rfl (by decide +kernel)) ggL_reachableCells_X7_reachableCells
theorem dL_reachableCells_0 : decode cL_reachableCells 0 = .ok (.aload_n 2, 1) := by decide +kernel
theorem dL_reachableCells_1 : decode cL_reachableCells 1 = .ok (.iconst 0, 1) := by decide +kernel
theorem dL_reachableCells_2 : decode cL_reachableCells 2 = .ok (.aload_n 0, 1) := by decide +kernel
theorem dL_reachableCells_3 : decode cL_reachableCells 3 = .ok (.iload_n 1, 1) := by decide +kernel
theorem dL_reachableCells_4 : decode cL_reachableCells 4 = .ok (.invokevirtual 85, 3) := by decide +kernel
theorem dL_reachableCells_7 : decode cL_reachableCells 7 = .ok (.i2l, 1) := by decide +kernel
theorem dL_reachableCells_8 : decode cL_reachableCells 8 = .ok (.lastore, 1) := by decide +kernel
theorem dL_reachableCells_9 : decode cL_reachableCells 9 = .ok (.goto 9, 3) := by decide +kernel
theorem dL_reachableCells_12 : decode cL_reachableCells 12 = .ok (.astore_n 3, 1) := by decide +kernel
theorem dL_reachableCells_13 : decode cL_reachableCells 13 = .ok (.iconst 1, 1) := by decide +kernel
theorem dL_reachableCells_14 : decode cL_reachableCells 14 = .ok (.ireturn, 1) := by decide +kernel
theorem dL_reachableCells_15 : decode cL_reachableCells 15 = .ok (.astore_n 3, 1) := by decide +kernel
theorem dL_reachableCells_16 : decode cL_reachableCells 16 = .ok (.iconst 2, 1) := by decide +kernel
theorem dL_reachableCells_17 : decode cL_reachableCells 17 = .ok (.ireturn, 1) := by decide +kernel
theorem dL_reachableCells_18 : decode cL_reachableCells 18 = .ok (.iconst 0, 1) := by decide +kernel
theorem dL_reachableCells_19 : decode cL_reachableCells 19 = .ok (.ireturn, 1) := by decide +kernel
def bs_L_parkingCell : List (List Cond) := [[.codeWith yL_parkingCell cL_parkingCell 4 (some .int) [(0, 9, 12, 18), (0, 9, 15, 46)]], wsL_parkingCell_r1, wsL_parkingCell_r2, wsL_parkingCell_r3, wsL_parkingCell_r4, wsL_parkingCell_r5, wsL_parkingCell_r6, wsL_parkingCell_r7, wsX70, wsX60, wsX40, wsX30, wsX00, wsX50, (vx_atS RX7 150 "java/lang/IllegalArgumentException" ["java/lang/RuntimeException", "java/lang/Exception"]).filter goodWord, (vx_atS RX7 180 "java/lang/IllegalStateException" ["java/lang/RuntimeException", "java/lang/Exception"]).filter goodWord]
theorem bi_L_parkingCell : ∀ w ∈ bs_L_parkingCell.flatten, w ∈ wsL_parkingCell := by
  have h : bs_L_parkingCell.flatten = wsL_parkingCell := by simp only [bs_L_parkingCell, wsL_parkingCell, List.flatten_cons, List.flatten_nil, List.append_assoc, List.append_nil, List.nil_append, List.cons_append]
  intro w hw; rw [h] at hw; exact hw
set_option maxRecDepth 20000 in
theorem ggL_parkingCell_X7_parkingCell : GoodIn wsL_parkingCell wsX7_parkingCell := goodIn_ca (goodIn_ca (goodIn_bb bs_L_parkingCell bi_L_parkingCell _ [(1, 6), (1, 7), (1, 8), (1, 5), (1, 9), (1, 10), (1, 11), (1, 12), (1, 13), (1, 14), (1, 15), (1, 16), (1, 17), (1, 18), (1, 19), (1, 20), (1, 21), (1, 22), (1, 23), (2, 0), (2, 1), (2, 2), (2, 3), (2, 4), (2, 5), (2, 6), (2, 7), (2, 8), (2, 9), (2, 10), (2, 11), (2, 12), (2, 13), (2, 14), (2, 15), (2, 16), (2, 17), (2, 18), (2, 19), (2, 20), (2, 21), (2, 22), (2, 23), (3, 0), (3, 1), (3, 2), (3, 3), (3, 4), (3, 5), (3, 6), (3, 7), (3, 8), (3, 9), (3, 10), (3, 11), (3, 12), (3, 13), (3, 14), (3, 15), (3, 16), (3, 17), (3, 18), (3, 19), (3, 20), (3, 21), (3, 22), (3, 23), (4, 0), (4, 1), (4, 2), (4, 3), (4, 4), (4, 5), (4, 6), (4, 7), (4, 8), (4, 9), (4, 10), (4, 11), (4, 12), (4, 13), (4, 14), (4, 15), (4, 16), (4, 17), (4, 18), (4, 19), (4, 20), (4, 21), (4, 22), (4, 23), (5, 0), (5, 1), (5, 2), (5, 3), (5, 4), (5, 5), (5, 6), (5, 7), (5, 8), (5, 9), (5, 10), (5, 11), (5, 12), (5, 13), (5, 14), (5, 15), (5, 16), (5, 17), (5, 18), (5, 19), (5, 20), (5, 21), (5, 22), (5, 23), (6, 0), (6, 1), (6, 2), (6, 3), (6, 4), (6, 5), (6, 6), (6, 7), (6, 8), (6, 9), (6, 10), (6, 11), (6, 12), (6, 13), (6, 14), (6, 15), (6, 16), (6, 17), (6, 18), (6, 19), (6, 20), (6, 21), (6, 22), (6, 23), (7, 0), (7, 1), (7, 2), (7, 3), (7, 4), (7, 5), (7, 6), (7, 7), (7, 8), (7, 9), (7, 10), (7, 11), (7, 12), (7, 13), (7, 14), (7, 15), (8, 0), (8, 1), (8, 2), (8, 3), (8, 4), (8, 5), (8, 6), (8, 7), (9, 0), (9, 1), (9, 2), (9, 3), (9, 4), (9, 5), (10, 0), (10, 1), (10, 2), (10, 3), (10, 4), (10, 5), (10, 6), (10, 7), (11, 0), (11, 1), (11, 2), (11, 3), (11, 4), (11, 5), (11, 6), (11, 7), (12, 0), (13, 0), (13, 1), (13, 2), (13, 3)] rfl (by decide +kernel)) (goodIn_sub (fun _ h => List.mem_cons_of_mem _ (List.mem_append_left _ (List.mem_append_right _ h))) (by decide +kernel))) (goodIn_sub (fun _ h => List.mem_cons_of_mem _ (List.mem_append_right _ h)) (by decide +kernel))
set_option maxRecDepth 20000 in
theorem gL_parkingCell_X7_parkingCell : GoodIn wsL_parkingCell (wsV RL 88 RX7 yX7_parkingCell wsX7_parkingCell) := goodIn_app (goodIn_bb bs_L_parkingCell bi_L_parkingCell _ [(1, 2), (1, 3), (1, 4), (1, 5)] rfl (by decide +kernel)) ggL_parkingCell_X7_parkingCell
theorem dL_parkingCell_0 : decode cL_parkingCell 0 = .ok (.aload_n 2, 1) := by decide +kernel
theorem dL_parkingCell_1 : decode cL_parkingCell 1 = .ok (.iconst 0, 1) := by decide +kernel
theorem dL_parkingCell_2 : decode cL_parkingCell 2 = .ok (.aload_n 0, 1) := by decide +kernel
theorem dL_parkingCell_3 : decode cL_parkingCell 3 = .ok (.iload_n 1, 1) := by decide +kernel
theorem dL_parkingCell_4 : decode cL_parkingCell 4 = .ok (.invokevirtual 88, 3) := by decide +kernel
theorem dL_parkingCell_7 : decode cL_parkingCell 7 = .ok (.i2l, 1) := by decide +kernel
theorem dL_parkingCell_8 : decode cL_parkingCell 8 = .ok (.lastore, 1) := by decide +kernel
theorem dL_parkingCell_9 : decode cL_parkingCell 9 = .ok (.goto 9, 3) := by decide +kernel
theorem dL_parkingCell_12 : decode cL_parkingCell 12 = .ok (.astore_n 3, 1) := by decide +kernel
theorem dL_parkingCell_13 : decode cL_parkingCell 13 = .ok (.iconst 1, 1) := by decide +kernel
theorem dL_parkingCell_14 : decode cL_parkingCell 14 = .ok (.ireturn, 1) := by decide +kernel
theorem dL_parkingCell_15 : decode cL_parkingCell 15 = .ok (.astore_n 3, 1) := by decide +kernel
theorem dL_parkingCell_16 : decode cL_parkingCell 16 = .ok (.iconst 2, 1) := by decide +kernel
theorem dL_parkingCell_17 : decode cL_parkingCell 17 = .ok (.ireturn, 1) := by decide +kernel
theorem dL_parkingCell_18 : decode cL_parkingCell 18 = .ok (.iconst 0, 1) := by decide +kernel
theorem dL_parkingCell_19 : decode cL_parkingCell 19 = .ok (.ireturn, 1) := by decide +kernel
def bs_L_parkingSteps : List (List Cond) := [[.codeWith yL_parkingSteps cL_parkingSteps 4 (some .int) [(0, 9, 12, 18), (0, 9, 15, 46)]], wsL_parkingSteps_r1, wsL_parkingSteps_r2, wsL_parkingSteps_r3, wsL_parkingSteps_r4, wsL_parkingSteps_r5, wsL_parkingSteps_r6, wsL_parkingSteps_r7, wsX70, wsX60, wsX40, wsX30, wsX00, wsX50, (vx_atS RX7 150 "java/lang/IllegalArgumentException" ["java/lang/RuntimeException", "java/lang/Exception"]).filter goodWord, (vx_atS RX7 180 "java/lang/IllegalStateException" ["java/lang/RuntimeException", "java/lang/Exception"]).filter goodWord]
theorem bi_L_parkingSteps : ∀ w ∈ bs_L_parkingSteps.flatten, w ∈ wsL_parkingSteps := by
  have h : bs_L_parkingSteps.flatten = wsL_parkingSteps := by simp only [bs_L_parkingSteps, wsL_parkingSteps, List.flatten_cons, List.flatten_nil, List.append_assoc, List.append_nil, List.nil_append, List.cons_append]
  intro w hw; rw [h] at hw; exact hw
set_option maxRecDepth 20000 in
theorem ggL_parkingSteps_X7_parkingSteps : GoodIn wsL_parkingSteps wsX7_parkingSteps := goodIn_ca (goodIn_ca (goodIn_bb bs_L_parkingSteps bi_L_parkingSteps _ [(1, 6), (1, 7), (1, 8), (1, 5), (1, 9), (1, 10), (1, 11), (1, 12), (1, 13), (1, 14), (1, 15), (1, 16), (1, 17), (1, 18), (1, 19), (1, 20), (1, 21), (1, 22), (1, 23), (2, 0), (2, 1), (2, 2), (2, 3), (2, 4), (2, 5), (2, 6), (2, 7), (2, 8), (2, 9), (2, 10), (2, 11), (2, 12), (2, 13), (2, 14), (2, 15), (2, 16), (2, 17), (2, 18), (2, 19), (2, 20), (2, 21), (2, 22), (2, 23), (3, 0), (3, 1), (3, 2), (3, 3), (3, 4), (3, 5), (3, 6), (3, 7), (3, 8), (3, 9), (3, 10), (3, 11), (3, 12), (3, 13), (3, 14), (3, 15), (3, 16), (3, 17), (3, 18), (3, 19), (3, 20), (3, 21), (3, 22), (3, 23), (4, 0), (4, 1), (4, 2), (4, 3), (4, 4), (4, 5), (4, 6), (4, 7), (4, 8), (4, 9), (4, 10), (4, 11), (4, 12), (4, 13), (4, 14), (4, 15), (4, 16), (4, 17), (4, 18), (4, 19), (4, 20), (4, 21), (4, 22), (4, 23), (5, 0), (5, 1), (5, 2), (5, 3), (5, 4), (5, 5), (5, 6), (5, 7), (5, 8), (5, 9), (5, 10), (5, 11), (5, 12), (5, 13), (5, 14), (5, 15), (5, 16), (5, 17), (5, 18), (5, 19), (5, 20), (5, 21), (5, 22), (5, 23), (6, 0), (6, 1), (6, 2), (6, 3), (6, 4), (6, 5), (6, 6), (6, 7), (6, 8), (6, 9), (6, 10), (6, 11), (6, 12), (6, 13), (6, 14), (6, 15), (6, 16), (6, 17), (6, 18), (6, 19), (6, 20), (6, 21), (6, 22), (6, 23), (7, 0), (7, 1), (7, 2), (7, 3), (7, 4), (7, 5), (7, 6), (7, 7), (7, 8), (7, 9), (7, 10), (7, 11), (7, 12), (7, 13), (7, 14), (8, 0), (8, 1), (8, 2), (8, 3), (8, 4), (8, 5), (8, 6), (8, 7), (9, 0), (9, 1), (9, 2), (9, 3), (9, 4), (9, 5), (10, 0), (10, 1), (10, 2), (10, 3), (10, 4), (10, 5), (10, 6), (10, 7), (11, 0), (11, 1), (11, 2), (11, 3), (11, 4), (11, 5), (11, 6), (11, 7), (12, 0), (13, 0), (13, 1), (13, 2), (13, 3)] rfl (by decide +kernel)) (goodIn_sub (fun _ h => List.mem_cons_of_mem _ (List.mem_append_left _ (List.mem_append_right _ h))) (by decide +kernel))) (goodIn_sub (fun _ h => List.mem_cons_of_mem _ (List.mem_append_right _ h)) (by decide +kernel))
set_option maxRecDepth 20000 in
theorem gL_parkingSteps_X7_parkingSteps : GoodIn wsL_parkingSteps (wsV RL 91 RX7 yX7_parkingSteps wsX7_parkingSteps) := goodIn_app (goodIn_bb bs_L_parkingSteps bi_L_parkingSteps _ [(1, 2), (1, 3), (1, 4), (1, 5)] rfl (by decide +kernel)) ggL_parkingSteps_X7_parkingSteps
theorem dL_parkingSteps_0 : decode cL_parkingSteps 0 = .ok (.aload_n 2, 1) := by decide +kernel
theorem dL_parkingSteps_1 : decode cL_parkingSteps 1 = .ok (.iconst 0, 1) := by decide +kernel
theorem dL_parkingSteps_2 : decode cL_parkingSteps 2 = .ok (.aload_n 0, 1) := by decide +kernel
theorem dL_parkingSteps_3 : decode cL_parkingSteps 3 = .ok (.iload_n 1, 1) := by decide +kernel
theorem dL_parkingSteps_4 : decode cL_parkingSteps 4 = .ok (.invokevirtual 91, 3) := by decide +kernel
theorem dL_parkingSteps_7 : decode cL_parkingSteps 7 = .ok (.i2l, 1) := by decide +kernel
theorem dL_parkingSteps_8 : decode cL_parkingSteps 8 = .ok (.lastore, 1) := by decide +kernel
theorem dL_parkingSteps_9 : decode cL_parkingSteps 9 = .ok (.goto 9, 3) := by decide +kernel
theorem dL_parkingSteps_12 : decode cL_parkingSteps 12 = .ok (.astore_n 3, 1) := by decide +kernel
theorem dL_parkingSteps_13 : decode cL_parkingSteps 13 = .ok (.iconst 1, 1) := by decide +kernel
theorem dL_parkingSteps_14 : decode cL_parkingSteps 14 = .ok (.ireturn, 1) := by decide +kernel
theorem dL_parkingSteps_15 : decode cL_parkingSteps 15 = .ok (.astore_n 3, 1) := by decide +kernel
theorem dL_parkingSteps_16 : decode cL_parkingSteps 16 = .ok (.iconst 2, 1) := by decide +kernel
theorem dL_parkingSteps_17 : decode cL_parkingSteps 17 = .ok (.ireturn, 1) := by decide +kernel
theorem dL_parkingSteps_18 : decode cL_parkingSteps 18 = .ok (.iconst 0, 1) := by decide +kernel
theorem dL_parkingSteps_19 : decode cL_parkingSteps 19 = .ok (.ireturn, 1) := by decide +kernel
def bs_L_requestFinish : List (List Cond) := [[.codeWith yL_requestFinish cL_requestFinish 4 (some .int) [(0, 9, 12, 13), (0, 9, 15, 46)]], wsL_requestFinish_r1, wsL_requestFinish_r2, wsL_requestFinish_r3, wsL_requestFinish_r4, wsL_requestFinish_r5, wsL_requestFinish_r6, wsL_requestFinish_r7, wsX70, wsX60, wsX40, wsX30, wsX00, wsX50, (vx_atS RX7 289 "java/lang/IndexOutOfBoundsException" ["java/lang/RuntimeException", "java/lang/Exception"]).filter goodWord, (vx_atS RX7 180 "java/lang/IllegalStateException" ["java/lang/RuntimeException", "java/lang/Exception"]).filter goodWord]
theorem bi_L_requestFinish : ∀ w ∈ bs_L_requestFinish.flatten, w ∈ wsL_requestFinish := by
  have h : bs_L_requestFinish.flatten = wsL_requestFinish := by simp only [bs_L_requestFinish, wsL_requestFinish, List.flatten_cons, List.flatten_nil, List.append_assoc, List.append_nil, List.nil_append, List.cons_append]
  intro w hw; rw [h] at hw; exact hw
set_option maxRecDepth 20000 in
theorem ggL_requestFinish_X7_requestFinish : GoodIn wsL_requestFinish wsX7_requestFinish := goodIn_ca (goodIn_ca (goodIn_bb bs_L_requestFinish bi_L_requestFinish _ [(1, 6), (1, 7), (1, 8), (1, 9), (1, 10), (1, 11), (1, 5), (1, 12), (1, 13), (1, 14), (1, 15), (1, 16), (1, 17), (1, 18), (1, 19), (1, 20), (1, 21), (1, 22), (1, 23), (2, 0), (2, 1), (2, 2), (2, 3), (2, 4), (2, 5), (2, 6), (2, 7), (2, 8), (2, 9), (2, 10), (2, 11), (2, 12), (2, 13), (2, 14), (2, 15), (2, 16), (2, 17), (2, 18), (2, 19), (2, 20), (2, 21), (2, 22), (2, 23), (3, 0), (3, 1), (3, 2), (3, 3), (3, 4), (3, 5), (3, 6), (3, 7), (3, 8), (3, 9), (3, 10), (3, 11), (3, 12), (3, 13), (3, 14), (3, 15), (3, 16), (3, 17), (3, 18), (3, 19), (3, 20), (3, 21), (3, 22), (3, 23), (4, 0), (4, 1), (4, 2), (4, 3), (4, 4), (4, 5), (4, 6), (4, 7), (4, 8), (4, 9), (4, 10), (4, 11), (4, 12), (4, 13), (4, 14), (4, 15), (4, 16), (4, 17), (4, 18), (4, 19), (4, 20), (4, 21), (4, 22), (4, 23), (5, 0), (5, 1), (5, 2), (5, 3), (5, 4), (5, 5), (5, 6), (5, 7), (5, 8), (5, 9), (5, 10), (5, 11), (5, 12), (5, 13), (5, 14), (5, 15), (5, 16), (5, 17), (5, 18), (5, 19), (5, 20), (5, 21), (5, 22), (5, 23), (6, 0), (6, 1), (6, 2), (6, 3), (6, 4), (6, 5), (6, 6), (6, 7), (6, 8), (6, 9), (6, 10), (6, 11), (6, 12), (6, 13), (6, 14), (6, 15), (6, 16), (6, 17), (6, 18), (6, 19), (6, 20), (6, 21), (6, 22), (6, 23), (7, 0), (7, 1), (7, 2), (7, 3), (7, 4), (7, 5), (7, 6), (7, 7), (7, 8), (7, 9), (7, 10), (7, 11), (7, 12), (7, 13), (7, 14), (7, 15), (7, 16), (7, 17), (8, 0), (8, 1), (8, 2), (8, 3), (8, 4), (8, 5), (8, 6), (8, 7), (9, 0), (9, 1), (9, 2), (9, 3), (9, 4), (9, 5), (10, 0), (10, 1), (10, 2), (10, 3), (10, 4), (10, 5), (10, 6), (10, 7), (11, 0), (11, 1), (11, 2), (11, 3), (11, 4), (11, 5), (11, 6), (11, 7), (12, 0), (13, 0), (13, 1), (13, 2), (13, 3)] rfl (by decide +kernel)) (goodIn_sub (fun _ h => List.mem_cons_of_mem _ (List.mem_append_left _ (List.mem_append_right _ h))) (by decide +kernel))) (goodIn_sub (fun _ h => List.mem_cons_of_mem _ (List.mem_append_right _ h)) (by decide +kernel))
set_option maxRecDepth 20000 in
theorem gL_requestFinish_X7_requestFinish : GoodIn wsL_requestFinish (wsV RL 94 RX7 yX7_requestFinish wsX7_requestFinish) := goodIn_app (goodIn_bb bs_L_requestFinish bi_L_requestFinish _ [(1, 2), (1, 3), (1, 4), (1, 5)] rfl (by decide +kernel)) ggL_requestFinish_X7_requestFinish
theorem dL_requestFinish_0 : decode cL_requestFinish 0 = .ok (.aload_n 2, 1) := by decide +kernel
theorem dL_requestFinish_1 : decode cL_requestFinish 1 = .ok (.iconst 0, 1) := by decide +kernel
theorem dL_requestFinish_2 : decode cL_requestFinish 2 = .ok (.aload_n 0, 1) := by decide +kernel
theorem dL_requestFinish_3 : decode cL_requestFinish 3 = .ok (.iload_n 1, 1) := by decide +kernel
theorem dL_requestFinish_4 : decode cL_requestFinish 4 = .ok (.invokevirtual 94, 3) := by decide +kernel
theorem dL_requestFinish_7 : decode cL_requestFinish 7 = .ok (.i2l, 1) := by decide +kernel
theorem dL_requestFinish_8 : decode cL_requestFinish 8 = .ok (.lastore, 1) := by decide +kernel
theorem dL_requestFinish_9 : decode cL_requestFinish 9 = .ok (.goto 9, 3) := by decide +kernel
theorem dL_requestFinish_12 : decode cL_requestFinish 12 = .ok (.astore_n 3, 1) := by decide +kernel
theorem dL_requestFinish_13 : decode cL_requestFinish 13 = .ok (.iconst 1, 1) := by decide +kernel
theorem dL_requestFinish_14 : decode cL_requestFinish 14 = .ok (.ireturn, 1) := by decide +kernel
theorem dL_requestFinish_15 : decode cL_requestFinish 15 = .ok (.astore_n 3, 1) := by decide +kernel
theorem dL_requestFinish_16 : decode cL_requestFinish 16 = .ok (.iconst 2, 1) := by decide +kernel
theorem dL_requestFinish_17 : decode cL_requestFinish 17 = .ok (.ireturn, 1) := by decide +kernel
theorem dL_requestFinish_18 : decode cL_requestFinish 18 = .ok (.iconst 0, 1) := by decide +kernel
theorem dL_requestFinish_19 : decode cL_requestFinish 19 = .ok (.ireturn, 1) := by decide +kernel
def bs_L_bestValue : List (List Cond) := [[.codeWith yL_bestValue cL_bestValue 3 (some .int) [(0, 8, 11, 46)]], wsL_bestValue_r1, wsL_bestValue_r2, wsL_bestValue_r3, wsL_bestValue_r4, wsL_bestValue_r5, wsL_bestValue_r6, wsL_bestValue_r7, wsL_bestValue_r8, wsX20, wsX70, wsX60, wsX40, wsX30, wsX00, wsX50, (vx_atS RX7 180 "java/lang/IllegalStateException" ["java/lang/RuntimeException", "java/lang/Exception"]).filter goodWord]
theorem bi_L_bestValue : ∀ w ∈ bs_L_bestValue.flatten, w ∈ wsL_bestValue := by
  have h : bs_L_bestValue.flatten = wsL_bestValue := by simp only [bs_L_bestValue, wsL_bestValue, List.flatten_cons, List.flatten_nil, List.append_assoc, List.append_nil, List.nil_append, List.cons_append]
  intro w hw; rw [h] at hw; exact hw
set_option maxRecDepth 20000 in
theorem ggL_bestValue_X7_bestValue : GoodIn wsL_bestValue wsX7_bestValue := goodIn_ca (goodIn_bb bs_L_bestValue bi_L_bestValue _ [(1, 5), (1, 6), (1, 7), (1, 8), (1, 9), (1, 4), (1, 10), (1, 11), (1, 12), (1, 13), (1, 14), (1, 15), (1, 16), (1, 17), (1, 18), (1, 19), (1, 20), (1, 21), (1, 22), (1, 23), (2, 0), (2, 1), (2, 2), (2, 3), (2, 4), (2, 5), (2, 6), (2, 7), (2, 8), (2, 9), (2, 10), (2, 11), (2, 12), (2, 13), (2, 14), (2, 15), (2, 16), (2, 17), (2, 18), (2, 19), (2, 20), (2, 21), (2, 22), (2, 23), (3, 0), (3, 1), (3, 2), (3, 3), (3, 4), (3, 5), (3, 6), (3, 7), (3, 8), (3, 9), (3, 10), (3, 11), (3, 12), (3, 13), (3, 14), (3, 15), (3, 16), (3, 17), (3, 18), (3, 19), (3, 20), (3, 21), (3, 22), (3, 23), (4, 0), (4, 1), (4, 2), (4, 3), (4, 4), (4, 5), (4, 6), (4, 7), (4, 8), (4, 9), (4, 10), (4, 11), (4, 12), (4, 13), (4, 14), (4, 15), (4, 16), (4, 17), (4, 18), (4, 19), (4, 20), (4, 21), (4, 22), (4, 23), (5, 0), (5, 1), (5, 2), (5, 3), (5, 4), (5, 5), (5, 6), (5, 7), (5, 8), (5, 9), (5, 10), (5, 11), (5, 12), (5, 13), (5, 14), (5, 15), (5, 16), (5, 17), (5, 18), (5, 19), (5, 20), (5, 21), (5, 22), (5, 23), (6, 0), (6, 1), (6, 2), (6, 3), (6, 4), (6, 5), (6, 6), (6, 7), (6, 8), (6, 9), (6, 10), (6, 11), (6, 12), (6, 13), (6, 14), (6, 15), (6, 16), (6, 17), (6, 18), (6, 19), (6, 20), (6, 21), (6, 22), (6, 23), (7, 0), (7, 1), (7, 2), (7, 3), (7, 4), (7, 5), (7, 6), (7, 7), (7, 8), (7, 9), (7, 10), (7, 11), (7, 12), (7, 13), (7, 14), (7, 15), (7, 16), (7, 17), (7, 18), (7, 19), (7, 20), (7, 21), (7, 22), (7, 23), (8, 0), (8, 1), (8, 2), (8, 3), (8, 4), (8, 5), (8, 6), (8, 7), (8, 8), (8, 9), (9, 0), (9, 1), (9, 2), (9, 3), (10, 0), (10, 1), (10, 2), (10, 3), (10, 4), (10, 5), (10, 6), (10, 7), (11, 0), (11, 1), (11, 2), (11, 3), (11, 4), (11, 5), (12, 0), (12, 1), (12, 2), (12, 3), (12, 4), (12, 5), (12, 6), (12, 7), (13, 0), (13, 1), (13, 2), (13, 3), (13, 4), (13, 5), (13, 6), (13, 7), (14, 0), (15, 0), (15, 1), (15, 2), (15, 3)] rfl (by decide +kernel)) (goodIn_sub (fun _ h => List.mem_cons_of_mem _ (List.mem_append_right _ h)) (by decide +kernel))
set_option maxRecDepth 20000 in
theorem gL_bestValue_X7_bestValue : GoodIn wsL_bestValue (wsV RL 97 RX7 yX7_bestValue wsX7_bestValue) := goodIn_app (goodIn_bb bs_L_bestValue bi_L_bestValue _ [(1, 1), (1, 2), (1, 3), (1, 4)] rfl (by decide +kernel)) ggL_bestValue_X7_bestValue
theorem dL_bestValue_0 : decode cL_bestValue 0 = .ok (.aload_n 1, 1) := by decide +kernel
theorem dL_bestValue_1 : decode cL_bestValue 1 = .ok (.iconst 0, 1) := by decide +kernel
theorem dL_bestValue_2 : decode cL_bestValue 2 = .ok (.aload_n 0, 1) := by decide +kernel
theorem dL_bestValue_3 : decode cL_bestValue 3 = .ok (.invokevirtual 97, 3) := by decide +kernel
theorem dL_bestValue_6 : decode cL_bestValue 6 = .ok (.i2l, 1) := by decide +kernel
theorem dL_bestValue_7 : decode cL_bestValue 7 = .ok (.lastore, 1) := by decide +kernel
theorem dL_bestValue_8 : decode cL_bestValue 8 = .ok (.goto 6, 3) := by decide +kernel
theorem dL_bestValue_11 : decode cL_bestValue 11 = .ok (.astore_n 2, 1) := by decide +kernel
theorem dL_bestValue_12 : decode cL_bestValue 12 = .ok (.iconst 1, 1) := by decide +kernel
theorem dL_bestValue_13 : decode cL_bestValue 13 = .ok (.ireturn, 1) := by decide +kernel
theorem dL_bestValue_14 : decode cL_bestValue 14 = .ok (.iconst 0, 1) := by decide +kernel
theorem dL_bestValue_15 : decode cL_bestValue 15 = .ok (.ireturn, 1) := by decide +kernel
def bs_L_bestOrder : List (List Cond) := [[.codeWith yL_bestOrder cL_bestOrder 3 (some .int) [(0, 8, 11, 46)]], wsL_bestOrder_r1, wsL_bestOrder_r2, wsL_bestOrder_r3, wsL_bestOrder_r4, wsL_bestOrder_r5, wsL_bestOrder_r6, wsL_bestOrder_r7, wsL_bestOrder_r8, wsX20, wsX70, wsX60, wsX40, wsX30, wsX00, wsX50, (vx_atS RX7 180 "java/lang/IllegalStateException" ["java/lang/RuntimeException", "java/lang/Exception"]).filter goodWord]
theorem bi_L_bestOrder : ∀ w ∈ bs_L_bestOrder.flatten, w ∈ wsL_bestOrder := by
  have h : bs_L_bestOrder.flatten = wsL_bestOrder := by simp only [bs_L_bestOrder, wsL_bestOrder, List.flatten_cons, List.flatten_nil, List.append_assoc, List.append_nil, List.nil_append, List.cons_append]
  intro w hw; rw [h] at hw; exact hw
set_option maxRecDepth 20000 in
theorem ggL_bestOrder_X7_bestOrder : GoodIn wsL_bestOrder wsX7_bestOrder := goodIn_ca (goodIn_bb bs_L_bestOrder bi_L_bestOrder _ [(1, 5), (1, 6), (1, 7), (1, 8), (1, 9), (1, 4), (1, 10), (1, 11), (1, 12), (1, 13), (1, 14), (1, 15), (1, 16), (1, 17), (1, 18), (1, 19), (1, 20), (1, 21), (1, 22), (1, 23), (2, 0), (2, 1), (2, 2), (2, 3), (2, 4), (2, 5), (2, 6), (2, 7), (2, 8), (2, 9), (2, 10), (2, 11), (2, 12), (2, 13), (2, 14), (2, 15), (2, 16), (2, 17), (2, 18), (2, 19), (2, 20), (2, 21), (2, 22), (2, 23), (3, 0), (3, 1), (3, 2), (3, 3), (3, 4), (3, 5), (3, 6), (3, 7), (3, 8), (3, 9), (3, 10), (3, 11), (3, 12), (3, 13), (3, 14), (3, 15), (3, 16), (3, 17), (3, 18), (3, 19), (3, 20), (3, 21), (3, 22), (3, 23), (4, 0), (4, 1), (4, 2), (4, 3), (4, 4), (4, 5), (4, 6), (4, 7), (4, 8), (4, 9), (4, 10), (4, 11), (4, 12), (4, 13), (4, 14), (4, 15), (4, 16), (4, 17), (4, 18), (4, 19), (4, 20), (4, 21), (4, 22), (4, 23), (5, 0), (5, 1), (5, 2), (5, 3), (5, 4), (5, 5), (5, 6), (5, 7), (5, 8), (5, 9), (5, 10), (5, 11), (5, 12), (5, 13), (5, 14), (5, 15), (5, 16), (5, 17), (5, 18), (5, 19), (5, 20), (5, 21), (5, 22), (5, 23), (6, 0), (6, 1), (6, 2), (6, 3), (6, 4), (6, 5), (6, 6), (6, 7), (6, 8), (6, 9), (6, 10), (6, 11), (6, 12), (6, 13), (6, 14), (6, 15), (6, 16), (6, 17), (6, 18), (6, 19), (6, 20), (6, 21), (6, 22), (6, 23), (7, 0), (7, 1), (7, 2), (7, 3), (7, 4), (7, 5), (7, 6), (7, 7), (7, 8), (7, 9), (7, 10), (7, 11), (7, 12), (7, 13), (7, 14), (7, 15), (7, 16), (7, 17), (7, 18), (7, 19), (7, 20), (7, 21), (7, 22), (7, 23), (8, 0), (8, 1), (8, 2), (8, 3), (8, 4), (8, 5), (8, 6), (8, 7), (8, 8), (8, 9), (9, 0), (9, 1), (9, 2), (9, 3), (10, 0), (10, 1), (10, 2), (10, 3), (10, 4), (10, 5), (10, 6), (10, 7), (11, 0), (11, 1), (11, 2), (11, 3), (11, 4), (11, 5), (12, 0), (12, 1), (12, 2), (12, 3), (12, 4), (12, 5), (12, 6), (12, 7), (13, 0), (13, 1), (13, 2), (13, 3), (13, 4), (13, 5), (13, 6), (13, 7), (14, 0), (15, 0), (15, 1), (15, 2), (15, 3)] rfl (by decide +kernel)) (goodIn_sub (fun _ h => List.mem_cons_of_mem _ (List.mem_append_right _ h)) (by decide +kernel))
set_option maxRecDepth 20000 in
theorem gL_bestOrder_X7_bestOrder : GoodIn wsL_bestOrder (wsV RL 100 RX7 yX7_bestOrder wsX7_bestOrder) := goodIn_app (goodIn_bb bs_L_bestOrder bi_L_bestOrder _ [(1, 1), (1, 2), (1, 3), (1, 4)] rfl (by decide +kernel)) ggL_bestOrder_X7_bestOrder
theorem dL_bestOrder_0 : decode cL_bestOrder 0 = .ok (.aload_n 1, 1) := by decide +kernel
theorem dL_bestOrder_1 : decode cL_bestOrder 1 = .ok (.iconst 0, 1) := by decide +kernel
theorem dL_bestOrder_2 : decode cL_bestOrder 2 = .ok (.aload_n 0, 1) := by decide +kernel
theorem dL_bestOrder_3 : decode cL_bestOrder 3 = .ok (.invokevirtual 100, 3) := by decide +kernel
theorem dL_bestOrder_6 : decode cL_bestOrder 6 = .ok (.i2l, 1) := by decide +kernel
theorem dL_bestOrder_7 : decode cL_bestOrder 7 = .ok (.lastore, 1) := by decide +kernel
theorem dL_bestOrder_8 : decode cL_bestOrder 8 = .ok (.goto 6, 3) := by decide +kernel
theorem dL_bestOrder_11 : decode cL_bestOrder 11 = .ok (.astore_n 2, 1) := by decide +kernel
theorem dL_bestOrder_12 : decode cL_bestOrder 12 = .ok (.iconst 1, 1) := by decide +kernel
theorem dL_bestOrder_13 : decode cL_bestOrder 13 = .ok (.ireturn, 1) := by decide +kernel
theorem dL_bestOrder_14 : decode cL_bestOrder 14 = .ok (.iconst 0, 1) := by decide +kernel
theorem dL_bestOrder_15 : decode cL_bestOrder 15 = .ok (.ireturn, 1) := by decide +kernel
def bs_L_randomWalk : List (List Cond) := [[.codeWith yL_randomWalk cL_randomWalk 6 (some .int) [(0, 11, 14, 18), (0, 11, 18, 46)]], wsL_randomWalk_r1, wsL_randomWalk_r2, wsL_randomWalk_r3, wsL_randomWalk_r4, wsL_randomWalk_r5, wsX70, wsX60, wsX40, wsX50, wsX00, (vx_atS RX7 150 "java/lang/IllegalArgumentException" ["java/lang/RuntimeException", "java/lang/Exception"]).filter goodWord, (vx_atS RX7 180 "java/lang/IllegalStateException" ["java/lang/RuntimeException", "java/lang/Exception"]).filter goodWord]
theorem bi_L_randomWalk : ∀ w ∈ bs_L_randomWalk.flatten, w ∈ wsL_randomWalk := by
  have h : bs_L_randomWalk.flatten = wsL_randomWalk := by simp only [bs_L_randomWalk, wsL_randomWalk, List.flatten_cons, List.flatten_nil, List.append_assoc, List.append_nil, List.nil_append, List.cons_append]
  intro w hw; rw [h] at hw; exact hw
set_option maxRecDepth 20000 in
theorem ggL_randomWalk_X7_randomWalk : GoodIn wsL_randomWalk wsX7_randomWalk := goodIn_ca (goodIn_ca (goodIn_bb bs_L_randomWalk bi_L_randomWalk _ [(1, 6), (1, 7), (1, 8), (1, 9), (1, 10), (1, 11), (1, 12), (1, 13), (1, 14), (1, 5), (1, 15), (1, 16), (1, 17), (1, 18), (1, 19), (1, 20), (1, 21), (1, 22), (1, 23), (2, 0), (2, 1), (2, 2), (2, 3), (2, 4), (2, 5), (2, 6), (2, 7), (2, 8), (2, 9), (2, 10), (2, 11), (2, 12), (2, 13), (2, 14), (2, 15), (2, 16), (2, 17), (2, 18), (2, 19), (2, 20), (2, 21), (2, 22), (2, 23), (3, 0), (3, 1), (3, 2), (3, 3), (3, 4), (3, 5), (3, 6), (3, 7), (3, 8), (3, 9), (3, 10), (3, 11), (3, 12), (3, 13), (3, 14), (3, 15), (3, 16), (3, 17), (3, 18), (3, 19), (3, 20), (3, 21), (3, 22), (3, 23), (4, 0), (4, 1), (4, 2), (4, 3), (4, 4), (4, 5), (4, 6), (4, 7), (4, 8), (4, 9), (4, 10), (4, 11), (4, 12), (4, 13), (4, 14), (4, 15), (4, 16), (4, 17), (4, 18), (4, 19), (4, 20), (4, 21), (4, 22), (4, 23), (5, 0), (5, 1), (5, 2), (5, 3), (5, 4), (5, 5), (5, 6), (5, 7), (6, 0), (6, 1), (6, 2), (6, 3), (6, 4), (6, 5), (6, 6), (6, 7), (7, 0), (7, 1), (7, 2), (7, 3), (7, 4), (7, 5), (8, 0), (8, 1), (8, 2), (8, 3), (8, 4), (8, 5), (8, 6), (8, 7), (9, 0), (9, 1), (9, 2), (9, 3), (10, 0)] rfl (by decide +kernel)) (goodIn_sub (fun _ h => List.mem_cons_of_mem _ (List.mem_append_left _ (List.mem_append_right _ h))) (by decide +kernel))) (goodIn_sub (fun _ h => List.mem_cons_of_mem _ (List.mem_append_right _ h)) (by decide +kernel))
set_option maxRecDepth 20000 in
theorem gL_randomWalk_X7_randomWalk : GoodIn wsL_randomWalk (wsV RL 103 RX7 yX7_randomWalk wsX7_randomWalk) := goodIn_app (goodIn_bb bs_L_randomWalk bi_L_randomWalk _ [(1, 2), (1, 3), (1, 4), (1, 5)] rfl (by decide +kernel)) ggL_randomWalk_X7_randomWalk
theorem dL_randomWalk_0 : decode cL_randomWalk 0 = .ok (.aload 4, 2) := by decide +kernel
theorem dL_randomWalk_2 : decode cL_randomWalk 2 = .ok (.iconst 0, 1) := by decide +kernel
theorem dL_randomWalk_3 : decode cL_randomWalk 3 = .ok (.aload_n 0, 1) := by decide +kernel
theorem dL_randomWalk_4 : decode cL_randomWalk 4 = .ok (.lload_n 1, 1) := by decide +kernel
theorem dL_randomWalk_5 : decode cL_randomWalk 5 = .ok (.iload_n 3, 1) := by decide +kernel
theorem dL_randomWalk_6 : decode cL_randomWalk 6 = .ok (.invokevirtual 103, 3) := by decide +kernel
theorem dL_randomWalk_9 : decode cL_randomWalk 9 = .ok (.i2l, 1) := by decide +kernel
theorem dL_randomWalk_10 : decode cL_randomWalk 10 = .ok (.lastore, 1) := by decide +kernel
theorem dL_randomWalk_11 : decode cL_randomWalk 11 = .ok (.goto 11, 3) := by decide +kernel
theorem dL_randomWalk_14 : decode cL_randomWalk 14 = .ok (.astore 5, 2) := by decide +kernel
theorem dL_randomWalk_16 : decode cL_randomWalk 16 = .ok (.iconst 1, 1) := by decide +kernel
theorem dL_randomWalk_17 : decode cL_randomWalk 17 = .ok (.ireturn, 1) := by decide +kernel
theorem dL_randomWalk_18 : decode cL_randomWalk 18 = .ok (.astore 5, 2) := by decide +kernel
theorem dL_randomWalk_20 : decode cL_randomWalk 20 = .ok (.iconst 2, 1) := by decide +kernel
theorem dL_randomWalk_21 : decode cL_randomWalk 21 = .ok (.ireturn, 1) := by decide +kernel
theorem dL_randomWalk_22 : decode cL_randomWalk 22 = .ok (.iconst 0, 1) := by decide +kernel
theorem dL_randomWalk_23 : decode cL_randomWalk 23 = .ok (.ireturn, 1) := by decide +kernel
def bs_L_save : List (List Cond) := [[.codeWith yL_save cL_save 4 (some .int) [(0, 9, 12, 13)]], wsL_save_r1, wsL_save_r2, wsX70, wsX60, (vx_atS RX7 289 "java/lang/IndexOutOfBoundsException" ["java/lang/RuntimeException", "java/lang/Exception"]).filter goodWord]
theorem bi_L_save : ∀ w ∈ bs_L_save.flatten, w ∈ wsL_save := by
  have h : bs_L_save.flatten = wsL_save := by simp only [bs_L_save, wsL_save, List.flatten_cons, List.flatten_nil, List.append_assoc, List.append_nil, List.nil_append, List.cons_append]
  intro w hw; rw [h] at hw; exact hw
set_option maxRecDepth 20000 in
theorem ggL_save_X7_save : GoodIn wsL_save wsX7_save := goodIn_ca (goodIn_bb bs_L_save bi_L_save _ [(1, 5), (1, 6), (1, 7), (1, 8), (1, 9), (1, 10), (1, 11), (1, 12), (1, 13), (1, 4), (1, 14), (1, 15), (1, 16), (1, 17), (1, 18), (1, 19), (1, 20), (1, 21), (1, 22), (1, 23), (2, 0), (2, 1), (2, 2), (2, 3), (2, 4), (2, 5), (2, 6), (2, 7), (2, 8), (2, 9), (2, 10), (2, 11), (2, 12), (2, 13), (2, 14), (2, 15), (2, 16), (2, 17), (3, 0), (3, 1), (3, 2), (3, 3), (3, 4), (3, 5), (3, 6), (3, 7), (4, 0), (4, 1), (4, 2), (4, 3), (4, 4), (4, 5)] rfl (by decide +kernel)) (goodIn_sub (fun _ h => List.mem_cons_of_mem _ (List.mem_append_right _ h)) (by decide +kernel))
set_option maxRecDepth 20000 in
theorem gL_save_X7_save : GoodIn wsL_save (wsV RL 107 RX7 yX7_save wsX7_save) := goodIn_app (goodIn_bb bs_L_save bi_L_save _ [(1, 1), (1, 2), (1, 3), (1, 4)] rfl (by decide +kernel)) ggL_save_X7_save
theorem dL_save_0 : decode cL_save 0 = .ok (.aload_n 2, 1) := by decide +kernel
theorem dL_save_1 : decode cL_save 1 = .ok (.iconst 0, 1) := by decide +kernel
theorem dL_save_2 : decode cL_save 2 = .ok (.aload_n 0, 1) := by decide +kernel
theorem dL_save_3 : decode cL_save 3 = .ok (.iload_n 1, 1) := by decide +kernel
theorem dL_save_4 : decode cL_save 4 = .ok (.invokevirtual 107, 3) := by decide +kernel
theorem dL_save_7 : decode cL_save 7 = .ok (.i2l, 1) := by decide +kernel
theorem dL_save_8 : decode cL_save 8 = .ok (.lastore, 1) := by decide +kernel
theorem dL_save_9 : decode cL_save 9 = .ok (.goto 6, 3) := by decide +kernel
theorem dL_save_12 : decode cL_save 12 = .ok (.astore_n 3, 1) := by decide +kernel
theorem dL_save_13 : decode cL_save 13 = .ok (.iconst 1, 1) := by decide +kernel
theorem dL_save_14 : decode cL_save 14 = .ok (.ireturn, 1) := by decide +kernel
theorem dL_save_15 : decode cL_save 15 = .ok (.iconst 0, 1) := by decide +kernel
theorem dL_save_16 : decode cL_save 16 = .ok (.ireturn, 1) := by decide +kernel
def bs_L_restore : List (List Cond) := [[.codeWith yL_restore cL_restore 4 (some .int) [(0, 9, 12, 13), (0, 9, 15, 46)]], wsL_restore_r1, wsL_restore_r2, wsX70, wsX60, wsX10, (vx_atS RX7 180 "java/lang/IllegalStateException" ["java/lang/RuntimeException", "java/lang/Exception"]).filter goodWord, (vx_atS RX7 289 "java/lang/IndexOutOfBoundsException" ["java/lang/RuntimeException", "java/lang/Exception"]).filter goodWord]
theorem bi_L_restore : ∀ w ∈ bs_L_restore.flatten, w ∈ wsL_restore := by
  have h : bs_L_restore.flatten = wsL_restore := by simp only [bs_L_restore, wsL_restore, List.flatten_cons, List.flatten_nil, List.append_assoc, List.append_nil, List.nil_append, List.cons_append]
  intro w hw; rw [h] at hw; exact hw
set_option maxRecDepth 20000 in
theorem ggL_restore_X7_restore : GoodIn wsL_restore wsX7_restore := goodIn_ca (goodIn_ca (goodIn_bb bs_L_restore bi_L_restore _ [(1, 6), (1, 7), (1, 8), (1, 9), (1, 10), (1, 11), (1, 12), (1, 13), (1, 14), (1, 5), (1, 15), (1, 16), (1, 17), (1, 18), (1, 19), (1, 20), (1, 21), (1, 22), (1, 23), (2, 0), (2, 1), (2, 2), (2, 3), (2, 4), (2, 5), (2, 6), (2, 7), (2, 8), (2, 9), (2, 10), (2, 11), (2, 12), (2, 13), (2, 14), (2, 15), (2, 16), (2, 17), (2, 18), (2, 19), (3, 0), (3, 1), (3, 2), (3, 3), (3, 4), (3, 5), (3, 6), (3, 7), (4, 0), (4, 1), (4, 2), (4, 3), (4, 4), (4, 5), (5, 0), (5, 1), (5, 2)] rfl (by decide +kernel)) (goodIn_sub (fun _ h => List.mem_cons_of_mem _ (List.mem_append_left _ (List.mem_append_right _ h))) (by decide +kernel))) (goodIn_sub (fun _ h => List.mem_cons_of_mem _ (List.mem_append_right _ h)) (by decide +kernel))
set_option maxRecDepth 20000 in
theorem gL_restore_X7_restore : GoodIn wsL_restore (wsV RL 110 RX7 yX7_restore wsX7_restore) := goodIn_app (goodIn_bb bs_L_restore bi_L_restore _ [(1, 2), (1, 3), (1, 4), (1, 5)] rfl (by decide +kernel)) ggL_restore_X7_restore
theorem dL_restore_0 : decode cL_restore 0 = .ok (.aload_n 2, 1) := by decide +kernel
theorem dL_restore_1 : decode cL_restore 1 = .ok (.iconst 0, 1) := by decide +kernel
theorem dL_restore_2 : decode cL_restore 2 = .ok (.aload_n 0, 1) := by decide +kernel
theorem dL_restore_3 : decode cL_restore 3 = .ok (.iload_n 1, 1) := by decide +kernel
theorem dL_restore_4 : decode cL_restore 4 = .ok (.invokevirtual 110, 3) := by decide +kernel
theorem dL_restore_7 : decode cL_restore 7 = .ok (.i2l, 1) := by decide +kernel
theorem dL_restore_8 : decode cL_restore 8 = .ok (.lastore, 1) := by decide +kernel
theorem dL_restore_9 : decode cL_restore 9 = .ok (.goto 9, 3) := by decide +kernel
theorem dL_restore_12 : decode cL_restore 12 = .ok (.astore_n 3, 1) := by decide +kernel
theorem dL_restore_13 : decode cL_restore 13 = .ok (.iconst 1, 1) := by decide +kernel
theorem dL_restore_14 : decode cL_restore 14 = .ok (.ireturn, 1) := by decide +kernel
theorem dL_restore_15 : decode cL_restore 15 = .ok (.astore_n 3, 1) := by decide +kernel
theorem dL_restore_16 : decode cL_restore 16 = .ok (.iconst 2, 1) := by decide +kernel
theorem dL_restore_17 : decode cL_restore 17 = .ok (.ireturn, 1) := by decide +kernel
theorem dL_restore_18 : decode cL_restore 18 = .ok (.iconst 0, 1) := by decide +kernel
theorem dL_restore_19 : decode cL_restore 19 = .ok (.ireturn, 1) := by decide +kernel
