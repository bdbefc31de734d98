def bs_X7_init : List (List Cond) := [[.code yX7_init cX7_init 1 none], wsX7_init_r1, wsX7_init_r2, wsX7_init_r3, wsX7_init_r4, wsX7_init_r5, wsX7_init_r6, wsX50, wsX70, wsX60, wsX10, wsX40, wsX30, wsX20, wsX00]
theorem bi_X7_init : ∀ w ∈ bs_X7_init.flatten, w ∈ wsX7_init := by
  have h : bs_X7_init.flatten = wsX7_init := by simp only [bs_X7_init, wsX7_init, List.flatten_cons, List.flatten_nil, List.append_assoc, List.append_nil, List.nil_append, List.cons_append]
  intro w hw; rw [h] at hw; exact hw
set_option maxRecDepth 20000 in
theorem ggX7_init_X5_init : GoodIn wsX7_init wsX5_init := goodIn_bb bs_X7_init bi_X7_init _ [(2, 7), (2, 8), (1, 1), (1, 2), (2, 9), (2, 10), (2, 11), (2, 12), (2, 13), (2, 14), (2, 15), (2, 16), (2, 17), (2, 18), (2, 19), (2, 20), (2, 21), (2, 22), (2, 23), (3, 0), (3, 1), (1, 5), (3, 2), (3, 3), (3, 4), (3, 5), (3, 6), (3, 7), (3, 8), (3, 9), (3, 10), (3, 11), (3, 12), (3, 13), (3, 14), (3, 15), (3, 16), (3, 17), (3, 18), (3, 19), (3, 20), (3, 21), (3, 22), (3, 23), (4, 0), (4, 1), (4, 2), (4, 3), (4, 4), (4, 5), (4, 6), (4, 7), (14, 0), (7, 0), (7, 1), (7, 2), (7, 3)] rfl (by decide +kernel)
set_option maxRecDepth 20000 in
theorem gX7_init_X5_init : GoodIn wsX7_init (wsX5_init) := ggX7_init_X5_init
set_option maxRecDepth 20000 in
theorem ggX7_init_X6_init : GoodIn wsX7_init wsX6_init := goodIn_bb bs_X7_init bi_X7_init _ [(4, 10), (4, 11), (1, 1), (1, 2), (2, 13), (4, 12), (4, 13), (9, 0), (9, 1), (9, 2), (9, 3), (9, 4), (9, 5)] rfl (by decide +kernel)
set_option maxRecDepth 20000 in
theorem gX7_init_X6_init : GoodIn wsX7_init (wsX6_init) := ggX7_init_X6_init
set_option maxRecDepth 20000 in
theorem ggX7_init_X1_init : GoodIn wsX7_init wsX1_init := goodIn_bb bs_X7_init bi_X7_init _ [(4, 15), (4, 16), (1, 1), (1, 2), (4, 17), (4, 18), (10, 0), (10, 1), (10, 2)] rfl (by decide +kernel)
set_option maxRecDepth 20000 in
theorem gX7_init_X1_init_n28 : GoodIn wsX7_init (wsX1_init) := ggX7_init_X1_init
set_option maxRecDepth 20000 in
theorem ggX7_init_X4_init : GoodIn wsX7_init wsX4_init := goodIn_bb bs_X7_init bi_X7_init _ [(4, 21), (4, 22), (1, 1), (1, 2), (4, 23), (1, 8), (1, 9), (5, 0), (5, 1), (2, 10), (2, 11), (5, 2), (5, 3), (5, 4), (5, 5), (5, 6), (4, 9), (4, 10), (4, 11), (2, 13), (4, 12), (4, 13), (5, 7), (2, 18), (2, 19), (2, 20), (2, 21), (2, 22), (9, 0), (9, 1), (9, 2), (9, 3), (9, 4), (9, 5), (11, 0), (11, 1), (11, 2), (11, 3), (11, 4), (11, 5), (11, 6), (11, 7), (14, 0)] rfl (by decide +kernel)
set_option maxRecDepth 20000 in
theorem gX7_init_X4_init : GoodIn wsX7_init (wsX4_init) := ggX7_init_X4_init
set_option maxRecDepth 20000 in
theorem ggX7_init_X3_init : GoodIn wsX7_init wsX3_init := goodIn_bb bs_X7_init bi_X7_init _ [(5, 10), (5, 11), (1, 1), (1, 2), (5, 12), (2, 10), (2, 11), (5, 13), (5, 14), (5, 15), (5, 16), (5, 17), (5, 18), (2, 18), (2, 19), (2, 20), (2, 21), (2, 22), (14, 0), (12, 0), (12, 1), (12, 2), (12, 3), (12, 4), (12, 5), (12, 6), (12, 7)] rfl (by decide +kernel)
set_option maxRecDepth 20000 in
theorem gX7_init_X3_init : GoodIn wsX7_init (wsX3_init) := ggX7_init_X3_init
set_option maxRecDepth 20000 in
theorem ggX7_init_X2_init : GoodIn wsX7_init wsX2_init := goodIn_bb bs_X7_init bi_X7_init _ [(5, 21), (5, 22), (1, 1), (1, 2), (5, 23), (1, 8), (1, 9), (6, 0), (6, 1), (6, 2), (4, 9), (4, 10), (4, 11), (2, 13), (4, 12), (4, 13), (9, 0), (9, 1), (9, 2), (9, 3), (9, 4), (9, 5), (13, 0), (13, 1), (13, 2), (13, 3)] rfl (by decide +kernel)
set_option maxRecDepth 20000 in
theorem gX7_init_X2_init : GoodIn wsX7_init (wsX2_init) := ggX7_init_X2_init
theorem dX7_init_0 : decode cX7_init 0 = .ok (.aload_n 0, 1) := by decide +kernel
theorem dX7_init_1 : decode cX7_init 1 = .ok (.invokespecial 1, 3) := by decide +kernel
theorem dX7_init_4 : decode cX7_init 4 = .ok (.aload_n 0, 1) := by decide +kernel
theorem dX7_init_5 : decode cX7_init 5 = .ok (.new 7, 3) := by decide +kernel
theorem dX7_init_8 : decode cX7_init 8 = .ok (.dup, 1) := by decide +kernel
theorem dX7_init_9 : decode cX7_init 9 = .ok (.invokespecial 9, 3) := by decide +kernel
theorem dX7_init_12 : decode cX7_init 12 = .ok (.putfield 10, 3) := by decide +kernel
theorem dX7_init_15 : decode cX7_init 15 = .ok (.aload_n 0, 1) := by decide +kernel
theorem dX7_init_16 : decode cX7_init 16 = .ok (.new 16, 3) := by decide +kernel
theorem dX7_init_19 : decode cX7_init 19 = .ok (.dup, 1) := by decide +kernel
theorem dX7_init_20 : decode cX7_init 20 = .ok (.invokespecial 18, 3) := by decide +kernel
theorem dX7_init_23 : decode cX7_init 23 = .ok (.putfield 19, 3) := by decide +kernel
theorem dX7_init_26 : decode cX7_init 26 = .ok (.aload_n 0, 1) := by decide +kernel
theorem dX7_init_27 : decode cX7_init 27 = .ok (.new 16, 3) := by decide +kernel
theorem dX7_init_30 : decode cX7_init 30 = .ok (.dup, 1) := by decide +kernel
theorem dX7_init_31 : decode cX7_init 31 = .ok (.invokespecial 18, 3) := by decide +kernel
theorem dX7_init_34 : decode cX7_init 34 = .ok (.putfield 23, 3) := by decide +kernel
theorem dX7_init_37 : decode cX7_init 37 = .ok (.aload_n 0, 1) := by decide +kernel
theorem dX7_init_38 : decode cX7_init 38 = .ok (.new 26, 3) := by decide +kernel
theorem dX7_init_41 : decode cX7_init 41 = .ok (.dup, 1) := by decide +kernel
theorem dX7_init_42 : decode cX7_init 42 = .ok (.invokespecial 28, 3) := by decide +kernel
theorem dX7_init_45 : decode cX7_init 45 = .ok (.putfield 29, 3) := by decide +kernel
theorem dX7_init_48 : decode cX7_init 48 = .ok (.aload_n 0, 1) := by decide +kernel
theorem dX7_init_49 : decode cX7_init 49 = .ok (.iconst 2, 1) := by decide +kernel
theorem dX7_init_50 : decode cX7_init 50 = .ok (.anewarray 16, 3) := by decide +kernel
theorem dX7_init_53 : decode cX7_init 53 = .ok (.putfield 33, 3) := by decide +kernel
theorem dX7_init_56 : decode cX7_init 56 = .ok (.aload_n 0, 1) := by decide +kernel
theorem dX7_init_57 : decode cX7_init 57 = .ok (.new 37, 3) := by decide +kernel
theorem dX7_init_60 : decode cX7_init 60 = .ok (.dup, 1) := by decide +kernel
theorem dX7_init_61 : decode cX7_init 61 = .ok (.aload_n 0, 1) := by decide +kernel
theorem dX7_init_62 : decode cX7_init 62 = .ok (.getfield 10, 3) := by decide +kernel
theorem dX7_init_65 : decode cX7_init 65 = .ok (.invokespecial 39, 3) := by decide +kernel
theorem dX7_init_68 : decode cX7_init 68 = .ok (.putfield 42, 3) := by decide +kernel
theorem dX7_init_71 : decode cX7_init 71 = .ok (.aload_n 0, 1) := by decide +kernel
theorem dX7_init_72 : decode cX7_init 72 = .ok (.new 46, 3) := by decide +kernel
theorem dX7_init_75 : decode cX7_init 75 = .ok (.dup, 1) := by decide +kernel
theorem dX7_init_76 : decode cX7_init 76 = .ok (.aload_n 0, 1) := by decide +kernel
theorem dX7_init_77 : decode cX7_init 77 = .ok (.getfield 10, 3) := by decide +kernel
theorem dX7_init_80 : decode cX7_init 80 = .ok (.aload_n 0, 1) := by decide +kernel
theorem dX7_init_81 : decode cX7_init 81 = .ok (.getfield 42, 3) := by decide +kernel
theorem dX7_init_84 : decode cX7_init 84 = .ok (.invokespecial 48, 3) := by decide +kernel
theorem dX7_init_87 : decode cX7_init 87 = .ok (.putfield 51, 3) := by decide +kernel
theorem dX7_init_90 : decode cX7_init 90 = .ok (.aload_n 0, 1) := by decide +kernel
theorem dX7_init_91 : decode cX7_init 91 = .ok (.new 55, 3) := by decide +kernel
theorem dX7_init_94 : decode cX7_init 94 = .ok (.dup, 1) := by decide +kernel
theorem dX7_init_95 : decode cX7_init 95 = .ok (.aload_n 0, 1) := by decide +kernel
theorem dX7_init_96 : decode cX7_init 96 = .ok (.getfield 51, 3) := by decide +kernel
theorem dX7_init_99 : decode cX7_init 99 = .ok (.invokespecial 57, 3) := by decide +kernel
theorem dX7_init_102 : decode cX7_init 102 = .ok (.putfield 60, 3) := by decide +kernel
theorem dX7_init_105 : decode cX7_init 105 = .ok (.return_, 1) := by decide +kernel
def bs_X7_coordinate : List (List Cond) := [[.code yX7_coordinate cX7_coordinate 3 (some .int)], [.fieldLink RX7 10 "SlewPlanner" "sphere" "LSlewPlanner$Sphere;", .methodLink RX7 64 yX7_requireCell, .static yX7_requireCell, .initialized RX7, .code yX7_requireCell cX7_requireCell 1 none, .classLink RX7 285 "java/lang/IndexOutOfBoundsException", .initialized "java/lang/IndexOutOfBoundsException", .methodLink RX7 68 yX7_requireCoordinate, .static yX7_requireCoordinate, .code yX7_requireCoordinate cX7_requireCoordinate 1 none, .methodLink RX7 71 yX5_part, .instanceMethod yX5_part, .selects RX5 yX5_part yX5_part, .initialized RX5, .code yX5_part cX5_part 4 (some .int), .fieldLink RX5 20 "SlewPlanner$Sphere" "vectors" "[I"], wsX70, wsX50, (vx_atS RX7 289 "java/lang/IndexOutOfBoundsException" ["java/lang/RuntimeException", "java/lang/Exception"]).filter goodWord]
theorem bi_X7_coordinate : ∀ w ∈ bs_X7_coordinate.flatten, w ∈ wsX7_coordinate := by
  have h : bs_X7_coordinate.flatten = wsX7_coordinate := by simp only [bs_X7_coordinate, wsX7_coordinate, List.flatten_cons, List.flatten_nil, List.append_assoc, List.append_nil, List.nil_append, List.cons_append]
  intro w hw; rw [h] at hw; exact hw
set_option maxRecDepth 20000 in
theorem ggX7_coordinate_X7_requireCell : GoodIn wsX7_coordinate wsX7_requireCell := goodIn_ca (goodIn_bb bs_X7_coordinate bi_X7_coordinate _ [(1, 4), (1, 5), (1, 6)] rfl (by decide +kernel)) (goodIn_sub (fun _ h => List.mem_cons_of_mem _ (List.mem_append_right _ h)) (by decide +kernel))
set_option maxRecDepth 20000 in
theorem gX7_coordinate_X7_requireCell : GoodIn wsX7_coordinate (va_wsS RX7 64 yX7_requireCell wsX7_requireCell) := goodIn_app (goodIn_bb bs_X7_coordinate bi_X7_coordinate _ [(1, 1), (1, 2), (1, 3)] rfl (by decide +kernel)) ggX7_coordinate_X7_requireCell
set_option maxRecDepth 20000 in
theorem ggX7_coordinate_X7_requireCoordinate : GoodIn wsX7_coordinate wsX7_requireCoordinate := goodIn_ca (goodIn_bb bs_X7_coordinate bi_X7_coordinate _ [(1, 9), (1, 5), (1, 6)] rfl (by decide +kernel)) (goodIn_sub (fun _ h => List.mem_cons_of_mem _ (List.mem_append_right _ h)) (by decide +kernel))
set_option maxRecDepth 20000 in
theorem gX7_coordinate_X7_requireCoordinate : GoodIn wsX7_coordinate (va_wsS RX7 68 yX7_requireCoordinate wsX7_requireCoordinate) := goodIn_app (goodIn_bb bs_X7_coordinate bi_X7_coordinate _ [(1, 7), (1, 8), (1, 3)] rfl (by decide +kernel)) ggX7_coordinate_X7_requireCoordinate
set_option maxRecDepth 20000 in
theorem ggX7_coordinate_X5_part : GoodIn wsX7_coordinate wsX5_part := goodIn_bb bs_X7_coordinate bi_X7_coordinate _ [(1, 14), (1, 15), (3, 0), (3, 1), (3, 2), (3, 3)] rfl (by decide +kernel)
set_option maxRecDepth 20000 in
theorem gX7_coordinate_X5_part : GoodIn wsX7_coordinate (wsV RX7 71 RX5 yX5_part wsX5_part) := goodIn_app (goodIn_bb bs_X7_coordinate bi_X7_coordinate _ [(1, 10), (1, 11), (1, 12), (1, 13)] rfl (by decide +kernel)) ggX7_coordinate_X5_part
theorem dX7_coordinate_0 : decode cX7_coordinate 0 = .ok (.iload_n 1, 1) := by decide +kernel
theorem dX7_coordinate_1 : decode cX7_coordinate 1 = .ok (.invokestatic 64, 3) := by decide +kernel
theorem dX7_coordinate_4 : decode cX7_coordinate 4 = .ok (.iload_n 2, 1) := by decide +kernel
theorem dX7_coordinate_5 : decode cX7_coordinate 5 = .ok (.invokestatic 68, 3) := by decide +kernel
theorem dX7_coordinate_8 : decode cX7_coordinate 8 = .ok (.aload_n 0, 1) := by decide +kernel
theorem dX7_coordinate_9 : decode cX7_coordinate 9 = .ok (.getfield 10, 3) := by decide +kernel
theorem dX7_coordinate_12 : decode cX7_coordinate 12 = .ok (.iload_n 1, 1) := by decide +kernel
theorem dX7_coordinate_13 : decode cX7_coordinate 13 = .ok (.iload_n 2, 1) := by decide +kernel
theorem dX7_coordinate_14 : decode cX7_coordinate 14 = .ok (.invokevirtual 71, 3) := by decide +kernel
theorem dX7_coordinate_17 : decode cX7_coordinate 17 = .ok (.ireturn, 1) := by decide +kernel
def bs_X7_cellOf : List (List Cond) := [[.code yX7_cellOf cX7_cellOf 4 (some .int)], [.fieldLink RX7 10 "SlewPlanner" "sphere" "LSlewPlanner$Sphere;", .methodLink RX7 75 yX5_find, .instanceMethod yX5_find, .selects RX5 yX5_find yX5_find, .initialized RX5, .code yX5_find cX5_find 5 (some .int), .methodLink RX5 52 yX5_part, .instanceMethod yX5_part, .selects RX5 yX5_part yX5_part, .code yX5_part cX5_part 4 (some .int), .fieldLink RX5 20 "SlewPlanner$Sphere" "vectors" "[I"], wsX70, wsX50]
theorem bi_X7_cellOf : ∀ w ∈ bs_X7_cellOf.flatten, w ∈ wsX7_cellOf := by
  have h : bs_X7_cellOf.flatten = wsX7_cellOf := by simp only [bs_X7_cellOf, wsX7_cellOf, List.flatten_cons, List.flatten_nil, List.append_assoc, List.append_nil, List.nil_append, List.cons_append]
  intro w hw; rw [h] at hw; exact hw
set_option maxRecDepth 20000 in
theorem ggX7_cellOf_X5_find : GoodIn wsX7_cellOf wsX5_find := goodIn_bb bs_X7_cellOf bi_X7_cellOf _ [(1, 5), (1, 6), (1, 7), (1, 8), (1, 4), (1, 9), (1, 10), (3, 0), (3, 1), (3, 2), (3, 3)] rfl (by decide +kernel)
set_option maxRecDepth 20000 in
theorem gX7_cellOf_X5_find : GoodIn wsX7_cellOf (wsV RX7 75 RX5 yX5_find wsX5_find) := goodIn_app (goodIn_bb bs_X7_cellOf bi_X7_cellOf _ [(1, 1), (1, 2), (1, 3), (1, 4)] rfl (by decide +kernel)) ggX7_cellOf_X5_find
theorem dX7_cellOf_0 : decode cX7_cellOf 0 = .ok (.aload_n 0, 1) := by decide +kernel
theorem dX7_cellOf_1 : decode cX7_cellOf 1 = .ok (.getfield 10, 3) := by decide +kernel
theorem dX7_cellOf_4 : decode cX7_cellOf 4 = .ok (.iload_n 1, 1) := by decide +kernel
theorem dX7_cellOf_5 : decode cX7_cellOf 5 = .ok (.iload_n 2, 1) := by decide +kernel
theorem dX7_cellOf_6 : decode cX7_cellOf 6 = .ok (.iload_n 3, 1) := by decide +kernel
theorem dX7_cellOf_7 : decode cX7_cellOf 7 = .ok (.invokevirtual 75, 3) := by decide +kernel
theorem dX7_cellOf_10 : decode cX7_cellOf 10 = .ok (.ireturn, 1) := by decide +kernel
def bs_X7_neighbour : List (List Cond) := [[.code yX7_neighbour cX7_neighbour 3 (some .int)], [.fieldLink RX7 10 "SlewPlanner" "sphere" "LSlewPlanner$Sphere;", .methodLink RX7 64 yX7_requireCell, .static yX7_requireCell, .initialized RX7, .code yX7_requireCell cX7_requireCell 1 none, .classLink RX7 285 "java/lang/IndexOutOfBoundsException", .initialized "java/lang/IndexOutOfBoundsException", .methodLink RX7 79 yX7_requireRange, .static yX7_requireRange, .code yX7_requireRange cX7_requireRange 3 none, .classLink RX7 146 "java/lang/IllegalArgumentException", .initialized "java/lang/IllegalArgumentException", .methodLink RX7 83 yX5_beside, .instanceMethod yX5_beside, .selects RX5 yX5_beside yX5_beside, .initialized RX5, .code yX5_beside cX5_beside 4 (some .int), .fieldLink RX5 27 "SlewPlanner$Sphere" "adjacent" "[I"], wsX70, wsX50, (vx_atS RX7 289 "java/lang/IndexOutOfBoundsException" ["java/lang/RuntimeException", "java/lang/Exception"]).filter goodWord, (vx_atS RX7 150 "java/lang/IllegalArgumentException" ["java/lang/RuntimeException", "java/lang/Exception"]).filter goodWord]
theorem bi_X7_neighbour : ∀ w ∈ bs_X7_neighbour.flatten, w ∈ wsX7_neighbour := by
  have h : bs_X7_neighbour.flatten = wsX7_neighbour := by simp only [bs_X7_neighbour, wsX7_neighbour, List.flatten_cons, List.flatten_nil, List.append_assoc, List.append_nil, List.nil_append, List.cons_append]
  intro w hw; rw [h] at hw; exact hw
set_option maxRecDepth 20000 in
theorem ggX7_neighbour_X7_requireCell : GoodIn wsX7_neighbour wsX7_requireCell := goodIn_ca (goodIn_bb bs_X7_neighbour bi_X7_neighbour _ [(1, 4), (1, 5), (1, 6)] rfl (by decide +kernel)) (goodIn_sub (fun _ h => List.mem_cons_of_mem _ (List.mem_append_left _ (List.mem_append_right _ h))) (by decide +kernel))
set_option maxRecDepth 20000 in
theorem gX7_neighbour_X7_requireCell : GoodIn wsX7_neighbour (va_wsS RX7 64 yX7_requireCell wsX7_requireCell) := goodIn_app (goodIn_bb bs_X7_neighbour bi_X7_neighbour _ [(1, 1), (1, 2), (1, 3)] rfl (by decide +kernel)) ggX7_neighbour_X7_requireCell
set_option maxRecDepth 20000 in
theorem ggX7_neighbour_X7_requireRange : GoodIn wsX7_neighbour wsX7_requireRange := goodIn_ca (goodIn_bb bs_X7_neighbour bi_X7_neighbour _ [(1, 9), (1, 10), (1, 11)] rfl (by decide +kernel)) (goodIn_sub (fun _ h => List.mem_cons_of_mem _ (List.mem_append_right _ h)) (by decide +kernel))
set_option maxRecDepth 20000 in
theorem gX7_neighbour_X7_requireRange : GoodIn wsX7_neighbour (va_wsS RX7 79 yX7_requireRange wsX7_requireRange) := goodIn_app (goodIn_bb bs_X7_neighbour bi_X7_neighbour _ [(1, 7), (1, 8), (1, 3)] rfl (by decide +kernel)) ggX7_neighbour_X7_requireRange
set_option maxRecDepth 20000 in
theorem ggX7_neighbour_X5_beside : GoodIn wsX7_neighbour wsX5_beside := goodIn_bb bs_X7_neighbour bi_X7_neighbour _ [(1, 16), (1, 17), (3, 0), (3, 1), (3, 2), (3, 3)] rfl (by decide +kernel)
set_option maxRecDepth 20000 in
theorem gX7_neighbour_X5_beside : GoodIn wsX7_neighbour (wsV RX7 83 RX5 yX5_beside wsX5_beside) := goodIn_app (goodIn_bb bs_X7_neighbour bi_X7_neighbour _ [(1, 12), (1, 13), (1, 14), (1, 15)] rfl (by decide +kernel)) ggX7_neighbour_X5_beside
theorem dX7_neighbour_0 : decode cX7_neighbour 0 = .ok (.iload_n 1, 1) := by decide +kernel
theorem dX7_neighbour_1 : decode cX7_neighbour 1 = .ok (.invokestatic 64, 3) := by decide +kernel
theorem dX7_neighbour_4 : decode cX7_neighbour 4 = .ok (.iload_n 2, 1) := by decide +kernel
theorem dX7_neighbour_5 : decode cX7_neighbour 5 = .ok (.iconst 0, 1) := by decide +kernel
theorem dX7_neighbour_6 : decode cX7_neighbour 6 = .ok (.iconst 3, 1) := by decide +kernel
theorem dX7_neighbour_7 : decode cX7_neighbour 7 = .ok (.invokestatic 79, 3) := by decide +kernel
theorem dX7_neighbour_10 : decode cX7_neighbour 10 = .ok (.aload_n 0, 1) := by decide +kernel
theorem dX7_neighbour_11 : decode cX7_neighbour 11 = .ok (.getfield 10, 3) := by decide +kernel
theorem dX7_neighbour_14 : decode cX7_neighbour 14 = .ok (.iload_n 1, 1) := by decide +kernel
theorem dX7_neighbour_15 : decode cX7_neighbour 15 = .ok (.iload_n 2, 1) := by decide +kernel
theorem dX7_neighbour_16 : decode cX7_neighbour 16 = .ok (.invokevirtual 83, 3) := by decide +kernel
theorem dX7_neighbour_19 : decode cX7_neighbour 19 = .ok (.ireturn, 1) := by decide +kernel
def bs_X7_direction : List (List Cond) := [[.code yX7_direction cX7_direction 4 (some .int)], [.fieldLink RX7 19 "SlewPlanner" "state" "LSlewPlanner$State;", .methodLink RX7 86 yX7_requireObject, .static yX7_requireObject, .initialized RX7, .code yX7_requireObject cX7_requireObject 1 none, .classLink RX7 285 "java/lang/IndexOutOfBoundsException", .initialized "java/lang/IndexOutOfBoundsException", .methodLink RX7 68 yX7_requireCoordinate, .static yX7_requireCoordinate, .code yX7_requireCoordinate cX7_requireCoordinate 1 none, .methodLink RX7 89 yX7_requireTime, .static yX7_requireTime, .code yX7_requireTime cX7_requireTime 1 none, .methodLink RX7 79 yX7_requireRange, .static yX7_requireRange, .code yX7_requireRange cX7_requireRange 3 none, .classLink RX7 146 "java/lang/IllegalArgumentException", .initialized "java/lang/IllegalArgumentException", .methodLink RX7 92 yX6_aimOf, .instanceMethod yX6_aimOf, .selects RX6 yX6_aimOf yX6_aimOf, .initialized RX6, .code yX6_aimOf cX6_aimOf 5 (some .int), .fieldLink RX6 9 "SlewPlanner$State" "objects" "[I"], wsX70, wsX60, (vx_atS RX7 289 "java/lang/IndexOutOfBoundsException" ["java/lang/RuntimeException", "java/lang/Exception"]).filter goodWord, (vx_atS RX7 150 "java/lang/IllegalArgumentException" ["java/lang/RuntimeException", "java/lang/Exception"]).filter goodWord]
theorem bi_X7_direction : ∀ w ∈ bs_X7_direction.flatten, w ∈ wsX7_direction := by
  have h : bs_X7_direction.flatten = wsX7_direction := by simp only [bs_X7_direction, wsX7_direction, List.flatten_cons, List.flatten_nil, List.append_assoc, List.append_nil, List.nil_append, List.cons_append]
  intro w hw; rw [h] at hw; exact hw
set_option maxRecDepth 20000 in
theorem ggX7_direction_X7_requireObject : GoodIn wsX7_direction wsX7_requireObject := goodIn_ca (goodIn_bb bs_X7_direction bi_X7_direction _ [(1, 4), (1, 5), (1, 6)] rfl (by decide +kernel)) (goodIn_sub (fun _ h => List.mem_cons_of_mem _ (List.mem_append_left _ (List.mem_append_right _ h))) (by decide +kernel))
set_option maxRecDepth 20000 in
theorem gX7_direction_X7_requireObject : GoodIn wsX7_direction (va_wsS RX7 86 yX7_requireObject wsX7_requireObject) := goodIn_app (goodIn_bb bs_X7_direction bi_X7_direction _ [(1, 1), (1, 2), (1, 3)] rfl (by decide +kernel)) ggX7_direction_X7_requireObject
set_option maxRecDepth 20000 in
theorem ggX7_direction_X7_requireCoordinate : GoodIn wsX7_direction wsX7_requireCoordinate := goodIn_ca (goodIn_bb bs_X7_direction bi_X7_direction _ [(1, 9), (1, 5), (1, 6)] rfl (by decide +kernel)) (goodIn_sub (fun _ h => List.mem_cons_of_mem _ (List.mem_append_left _ (List.mem_append_right _ h))) (by decide +kernel))
set_option maxRecDepth 20000 in
theorem gX7_direction_X7_requireCoordinate : GoodIn wsX7_direction (va_wsS RX7 68 yX7_requireCoordinate wsX7_requireCoordinate) := goodIn_app (goodIn_bb bs_X7_direction bi_X7_direction _ [(1, 7), (1, 8), (1, 3)] rfl (by decide +kernel)) ggX7_direction_X7_requireCoordinate
set_option maxRecDepth 20000 in
theorem ggX7_direction_X7_requireTime : GoodIn wsX7_direction wsX7_requireTime := goodIn_ca (goodIn_bb bs_X7_direction bi_X7_direction _ [(1, 12), (1, 13), (1, 14), (1, 3), (1, 15), (1, 16), (1, 17)] rfl (by decide +kernel)) (goodIn_sub (fun _ h => List.mem_cons_of_mem _ (List.mem_append_right _ h)) (by decide +kernel))
set_option maxRecDepth 20000 in
theorem gX7_direction_X7_requireTime : GoodIn wsX7_direction (va_wsS RX7 89 yX7_requireTime wsX7_requireTime) := goodIn_app (goodIn_bb bs_X7_direction bi_X7_direction _ [(1, 10), (1, 11), (1, 3)] rfl (by decide +kernel)) ggX7_direction_X7_requireTime
set_option maxRecDepth 20000 in
theorem ggX7_direction_X6_aimOf : GoodIn wsX7_direction wsX6_aimOf := goodIn_bb bs_X7_direction bi_X7_direction _ [(1, 22), (1, 23), (3, 0), (3, 1), (3, 2), (3, 3), (3, 4), (3, 5)] rfl (by decide +kernel)
set_option maxRecDepth 20000 in
theorem gX7_direction_X6_aimOf : GoodIn wsX7_direction (wsV RX7 92 RX6 yX6_aimOf wsX6_aimOf) := goodIn_app (goodIn_bb bs_X7_direction bi_X7_direction _ [(1, 18), (1, 19), (1, 20), (1, 21)] rfl (by decide +kernel)) ggX7_direction_X6_aimOf
theorem dX7_direction_0 : decode cX7_direction 0 = .ok (.iload_n 1, 1) := by decide +kernel
theorem dX7_direction_1 : decode cX7_direction 1 = .ok (.invokestatic 86, 3) := by decide +kernel
theorem dX7_direction_4 : decode cX7_direction 4 = .ok (.iload_n 2, 1) := by decide +kernel
theorem dX7_direction_5 : decode cX7_direction 5 = .ok (.invokestatic 68, 3) := by decide +kernel
theorem dX7_direction_8 : decode cX7_direction 8 = .ok (.iload_n 3, 1) := by decide +kernel
theorem dX7_direction_9 : decode cX7_direction 9 = .ok (.invokestatic 89, 3) := by decide +kernel
theorem dX7_direction_12 : decode cX7_direction 12 = .ok (.aload_n 0, 1) := by decide +kernel
theorem dX7_direction_13 : decode cX7_direction 13 = .ok (.getfield 19, 3) := by decide +kernel
theorem dX7_direction_16 : decode cX7_direction 16 = .ok (.iload_n 1, 1) := by decide +kernel
theorem dX7_direction_17 : decode cX7_direction 17 = .ok (.iload_n 2, 1) := by decide +kernel
theorem dX7_direction_18 : decode cX7_direction 18 = .ok (.iload_n 3, 1) := by decide +kernel
theorem dX7_direction_19 : decode cX7_direction 19 = .ok (.invokevirtual 92, 3) := by decide +kernel
theorem dX7_direction_22 : decode cX7_direction 22 = .ok (.ireturn, 1) := by decide +kernel
def bs_X7_cone : List (List Cond) := [[.code yX7_cone cX7_cone 2 (some .int)], [.fieldLink RX7 19 "SlewPlanner" "state" "LSlewPlanner$State;", .methodLink RX7 86 yX7_requireObject, .static yX7_requireObject, .initialized RX7, .code yX7_requireObject cX7_requireObject 1 none, .classLink RX7 285 "java/lang/IndexOutOfBoundsException", .initialized "java/lang/IndexOutOfBoundsException", .methodLink RX7 95 yX6_ofObject, .instanceMethod yX6_ofObject, .selects RX6 yX6_ofObject yX6_ofObject, .initialized RX6, .code yX6_ofObject cX6_ofObject 4 (some .int), .fieldLink RX6 9 "SlewPlanner$State" "objects" "[I"], wsX70, wsX60, (vx_atS RX7 289 "java/lang/IndexOutOfBoundsException" ["java/lang/RuntimeException", "java/lang/Exception"]).filter goodWord]
theorem bi_X7_cone : ∀ w ∈ bs_X7_cone.flatten, w ∈ wsX7_cone := by
  have h : bs_X7_cone.flatten = wsX7_cone := by simp only [bs_X7_cone, wsX7_cone, List.flatten_cons, List.flatten_nil, List.append_assoc, List.append_nil, List.nil_append, List.cons_append]
  intro w hw; rw [h] at hw; exact hw
set_option maxRecDepth 20000 in
theorem ggX7_cone_X7_requireObject : GoodIn wsX7_cone wsX7_requireObject := goodIn_ca (goodIn_bb bs_X7_cone bi_X7_cone _ [(1, 4), (1, 5), (1, 6)] rfl (by decide +kernel)) (goodIn_sub (fun _ h => List.mem_cons_of_mem _ (List.mem_append_right _ h)) (by decide +kernel))
set_option maxRecDepth 20000 in
theorem gX7_cone_X7_requireObject : GoodIn wsX7_cone (va_wsS RX7 86 yX7_requireObject wsX7_requireObject) := goodIn_app (goodIn_bb bs_X7_cone bi_X7_cone _ [(1, 1), (1, 2), (1, 3)] rfl (by decide +kernel)) ggX7_cone_X7_requireObject
set_option maxRecDepth 20000 in
theorem ggX7_cone_X6_ofObject : GoodIn wsX7_cone wsX6_ofObject := goodIn_bb bs_X7_cone bi_X7_cone _ [(1, 11), (1, 12), (3, 0), (3, 1), (3, 2), (3, 3), (3, 4), (3, 5)] rfl (by decide +kernel)
set_option maxRecDepth 20000 in
theorem gX7_cone_X6_ofObject : GoodIn wsX7_cone (wsV RX7 95 RX6 yX6_ofObject wsX6_ofObject) := goodIn_app (goodIn_bb bs_X7_cone bi_X7_cone _ [(1, 7), (1, 8), (1, 9), (1, 10)] rfl (by decide +kernel)) ggX7_cone_X6_ofObject
theorem dX7_cone_0 : decode cX7_cone 0 = .ok (.iload_n 1, 1) := by decide +kernel
theorem dX7_cone_1 : decode cX7_cone 1 = .ok (.invokestatic 86, 3) := by decide +kernel
theorem dX7_cone_4 : decode cX7_cone 4 = .ok (.aload_n 0, 1) := by decide +kernel
theorem dX7_cone_5 : decode cX7_cone 5 = .ok (.getfield 19, 3) := by decide +kernel
theorem dX7_cone_8 : decode cX7_cone 8 = .ok (.iload_n 1, 1) := by decide +kernel
theorem dX7_cone_9 : decode cX7_cone 9 = .ok (.bipush 6, 2) := by decide +kernel
theorem dX7_cone_11 : decode cX7_cone 11 = .ok (.invokevirtual 95, 3) := by decide +kernel
theorem dX7_cone_14 : decode cX7_cone 14 = .ok (.ireturn, 1) := by decide +kernel
def bs_X7_cosine : List (List Cond) := [[.code yX7_cosine cX7_cosine 10 (some .double)], wsX7_cosine_r1, wsX7_cosine_r2, wsX70, wsX60, wsX50, (vx_atS RX7 289 "java/lang/IndexOutOfBoundsException" ["java/lang/RuntimeException", "java/lang/Exception"]).filter goodWord, (vx_atS RX7 150 "java/lang/IllegalArgumentException" ["java/lang/RuntimeException", "java/lang/Exception"]).filter goodWord]
theorem bi_X7_cosine : ∀ w ∈ bs_X7_cosine.flatten, w ∈ wsX7_cosine := by
  have h : bs_X7_cosine.flatten = wsX7_cosine := by simp only [bs_X7_cosine, wsX7_cosine, List.flatten_cons, List.flatten_nil, List.append_assoc, List.append_nil, List.nil_append, List.cons_append]
  intro w hw; rw [h] at hw; exact hw
set_option maxRecDepth 20000 in
theorem ggX7_cosine_X7_requireCell : GoodIn wsX7_cosine wsX7_requireCell := goodIn_ca (goodIn_bb bs_X7_cosine bi_X7_cosine _ [(1, 6), (1, 7), (1, 8)] rfl (by decide +kernel)) (goodIn_sub (fun _ h => List.mem_cons_of_mem _ (List.mem_append_left _ (List.mem_append_right _ h))) (by decide +kernel))
set_option maxRecDepth 20000 in
theorem gX7_cosine_X7_requireCell : GoodIn wsX7_cosine (va_wsS RX7 64 yX7_requireCell wsX7_requireCell) := goodIn_app (goodIn_bb bs_X7_cosine bi_X7_cosine _ [(1, 3), (1, 4), (1, 5)] rfl (by decide +kernel)) ggX7_cosine_X7_requireCell
set_option maxRecDepth 20000 in
theorem ggX7_cosine_X7_requireObject : GoodIn wsX7_cosine wsX7_requireObject := goodIn_ca (goodIn_bb bs_X7_cosine bi_X7_cosine _ [(1, 11), (1, 7), (1, 8)] rfl (by decide +kernel)) (goodIn_sub (fun _ h => List.mem_cons_of_mem _ (List.mem_append_left _ (List.mem_append_right _ h))) (by decide +kernel))
set_option maxRecDepth 20000 in
theorem gX7_cosine_X7_requireObject : GoodIn wsX7_cosine (va_wsS RX7 86 yX7_requireObject wsX7_requireObject) := goodIn_app (goodIn_bb bs_X7_cosine bi_X7_cosine _ [(1, 9), (1, 10), (1, 5)] rfl (by decide +kernel)) ggX7_cosine_X7_requireObject
set_option maxRecDepth 20000 in
theorem ggX7_cosine_X7_requireTime : GoodIn wsX7_cosine wsX7_requireTime := goodIn_ca (goodIn_bb bs_X7_cosine bi_X7_cosine _ [(1, 14), (1, 15), (1, 16), (1, 5), (1, 17), (1, 18), (1, 19)] rfl (by decide +kernel)) (goodIn_sub (fun _ h => List.mem_cons_of_mem _ (List.mem_append_right _ h)) (by decide +kernel))
set_option maxRecDepth 20000 in
theorem gX7_cosine_X7_requireTime : GoodIn wsX7_cosine (va_wsS RX7 89 yX7_requireTime wsX7_requireTime) := goodIn_app (goodIn_bb bs_X7_cosine bi_X7_cosine _ [(1, 12), (1, 13), (1, 5)] rfl (by decide +kernel)) ggX7_cosine_X7_requireTime
set_option maxRecDepth 20000 in
theorem ggX7_cosine_X6_aimOf : GoodIn wsX7_cosine wsX6_aimOf := goodIn_bb bs_X7_cosine bi_X7_cosine _ [(2, 0), (2, 1), (4, 0), (4, 1), (4, 2), (4, 3), (4, 4), (4, 5)] rfl (by decide +kernel)
set_option maxRecDepth 20000 in
theorem gX7_cosine_X6_aimOf : GoodIn wsX7_cosine (wsV RX7 92 RX6 yX6_aimOf wsX6_aimOf) := goodIn_app (goodIn_bb bs_X7_cosine bi_X7_cosine _ [(1, 20), (1, 21), (1, 22), (1, 23)] rfl (by decide +kernel)) ggX7_cosine_X6_aimOf
set_option maxRecDepth 20000 in
theorem ggX7_cosine_X5_scalar : GoodIn wsX7_cosine wsX5_scalar := goodIn_bb bs_X7_cosine bi_X7_cosine _ [(2, 6), (2, 7), (5, 0), (5, 1), (5, 2), (5, 3)] rfl (by decide +kernel)
set_option maxRecDepth 20000 in
theorem gX7_cosine_X5_scalar : GoodIn wsX7_cosine (wsV RX7 102 RX5 yX5_scalar wsX5_scalar) := goodIn_app (goodIn_bb bs_X7_cosine bi_X7_cosine _ [(2, 2), (2, 3), (2, 4), (2, 5)] rfl (by decide +kernel)) ggX7_cosine_X5_scalar
set_option maxRecDepth 20000 in
theorem ggX7_cosine_X5_square : GoodIn wsX7_cosine wsX5_square := goodIn_bb bs_X7_cosine bi_X7_cosine _ [(2, 11), (2, 12), (5, 0), (5, 1), (5, 2), (5, 3)] rfl (by decide +kernel)
set_option maxRecDepth 20000 in
theorem gX7_cosine_X5_square : GoodIn wsX7_cosine (wsV RX7 106 RX5 yX5_square wsX5_square) := goodIn_app (goodIn_bb bs_X7_cosine bi_X7_cosine _ [(2, 8), (2, 9), (2, 10), (2, 5)] rfl (by decide +kernel)) ggX7_cosine_X5_square
set_option maxRecDepth 20000 in
theorem ggX7_cosine_X7_rootOf : GoodIn wsX7_cosine wsX7_rootOf := goodIn_bb bs_X7_cosine bi_X7_cosine _ [(2, 15), (2, 16), (2, 17)] rfl (by decide +kernel)
set_option maxRecDepth 20000 in
theorem gX7_cosine_X7_rootOf : GoodIn wsX7_cosine (va_wsS RX7 110 yX7_rootOf wsX7_rootOf) := goodIn_app (goodIn_bb bs_X7_cosine bi_X7_cosine _ [(2, 13), (2, 14), (1, 5)] rfl (by decide +kernel)) ggX7_cosine_X7_rootOf
theorem dX7_cosine_0 : decode cX7_cosine 0 = .ok (.iload_n 1, 1) := by decide +kernel
theorem dX7_cosine_1 : decode cX7_cosine 1 = .ok (.invokestatic 64, 3) := by decide +kernel
theorem dX7_cosine_4 : decode cX7_cosine 4 = .ok (.iload_n 2, 1) := by decide +kernel
theorem dX7_cosine_5 : decode cX7_cosine 5 = .ok (.invokestatic 86, 3) := by decide +kernel
theorem dX7_cosine_8 : decode cX7_cosine 8 = .ok (.iload_n 3, 1) := by decide +kernel
theorem dX7_cosine_9 : decode cX7_cosine 9 = .ok (.invokestatic 89, 3) := by decide +kernel
theorem dX7_cosine_12 : decode cX7_cosine 12 = .ok (.aload_n 0, 1) := by decide +kernel
theorem dX7_cosine_13 : decode cX7_cosine 13 = .ok (.getfield 19, 3) := by decide +kernel
theorem dX7_cosine_16 : decode cX7_cosine 16 = .ok (.iload_n 2, 1) := by decide +kernel
theorem dX7_cosine_17 : decode cX7_cosine 17 = .ok (.iconst 0, 1) := by decide +kernel
theorem dX7_cosine_18 : decode cX7_cosine 18 = .ok (.iload_n 3, 1) := by decide +kernel
theorem dX7_cosine_19 : decode cX7_cosine 19 = .ok (.invokevirtual 92, 3) := by decide +kernel
theorem dX7_cosine_22 : decode cX7_cosine 22 = .ok (.istore 4, 2) := by decide +kernel
theorem dX7_cosine_24 : decode cX7_cosine 24 = .ok (.aload_n 0, 1) := by decide +kernel
theorem dX7_cosine_25 : decode cX7_cosine 25 = .ok (.getfield 19, 3) := by decide +kernel
theorem dX7_cosine_28 : decode cX7_cosine 28 = .ok (.iload_n 2, 1) := by decide +kernel
theorem dX7_cosine_29 : decode cX7_cosine 29 = .ok (.iconst 1, 1) := by decide +kernel
theorem dX7_cosine_30 : decode cX7_cosine 30 = .ok (.iload_n 3, 1) := by decide +kernel
theorem dX7_cosine_31 : decode cX7_cosine 31 = .ok (.invokevirtual 92, 3) := by decide +kernel
theorem dX7_cosine_34 : decode cX7_cosine 34 = .ok (.istore 5, 2) := by decide +kernel
theorem dX7_cosine_36 : decode cX7_cosine 36 = .ok (.aload_n 0, 1) := by decide +kernel
theorem dX7_cosine_37 : decode cX7_cosine 37 = .ok (.getfield 19, 3) := by decide +kernel
theorem dX7_cosine_40 : decode cX7_cosine 40 = .ok (.iload_n 2, 1) := by decide +kernel
theorem dX7_cosine_41 : decode cX7_cosine 41 = .ok (.iconst 2, 1) := by decide +kernel
theorem dX7_cosine_42 : decode cX7_cosine 42 = .ok (.iload_n 3, 1) := by decide +kernel
theorem dX7_cosine_43 : decode cX7_cosine 43 = .ok (.invokevirtual 92, 3) := by decide +kernel
theorem dX7_cosine_46 : decode cX7_cosine 46 = .ok (.istore 6, 2) := by decide +kernel
theorem dX7_cosine_48 : decode cX7_cosine 48 = .ok (.iload 4, 2) := by decide +kernel
theorem dX7_cosine_50 : decode cX7_cosine 50 = .ok (.iload 4, 2) := by decide +kernel
theorem dX7_cosine_52 : decode cX7_cosine 52 = .ok (.imul, 1) := by decide +kernel
theorem dX7_cosine_53 : decode cX7_cosine 53 = .ok (.iload 5, 2) := by decide +kernel
theorem dX7_cosine_55 : decode cX7_cosine 55 = .ok (.iload 5, 2) := by decide +kernel
theorem dX7_cosine_57 : decode cX7_cosine 57 = .ok (.imul, 1) := by decide +kernel
theorem dX7_cosine_58 : decode cX7_cosine 58 = .ok (.iadd, 1) := by decide +kernel
theorem dX7_cosine_59 : decode cX7_cosine 59 = .ok (.iload 6, 2) := by decide +kernel
theorem dX7_cosine_61 : decode cX7_cosine 61 = .ok (.iload 6, 2) := by decide +kernel
theorem dX7_cosine_63 : decode cX7_cosine 63 = .ok (.imul, 1) := by decide +kernel
theorem dX7_cosine_64 : decode cX7_cosine 64 = .ok (.iadd, 1) := by decide +kernel
theorem dX7_cosine_65 : decode cX7_cosine 65 = .ok (.istore 7, 2) := by decide +kernel
theorem dX7_cosine_67 : decode cX7_cosine 67 = .ok (.iload 7, 2) := by decide +kernel
theorem dX7_cosine_69 : decode cX7_cosine 69 = .ok (.ifCond .ne 7, 3) := by decide +kernel
theorem dX7_cosine_72 : decode cX7_cosine 72 = .ok (.ldc2_w 100, 3) := by decide +kernel
theorem dX7_cosine_75 : decode cX7_cosine 75 = .ok (.dreturn, 1) := by decide +kernel
theorem dX7_cosine_76 : decode cX7_cosine 76 = .ok (.aload_n 0, 1) := by decide +kernel
theorem dX7_cosine_77 : decode cX7_cosine 77 = .ok (.getfield 10, 3) := by decide +kernel
theorem dX7_cosine_80 : decode cX7_cosine 80 = .ok (.iload_n 1, 1) := by decide +kernel
theorem dX7_cosine_81 : decode cX7_cosine 81 = .ok (.iload 4, 2) := by decide +kernel
theorem dX7_cosine_83 : decode cX7_cosine 83 = .ok (.iload 5, 2) := by decide +kernel
theorem dX7_cosine_85 : decode cX7_cosine 85 = .ok (.iload 6, 2) := by decide +kernel
theorem dX7_cosine_87 : decode cX7_cosine 87 = .ok (.invokevirtual 102, 3) := by decide +kernel
theorem dX7_cosine_90 : decode cX7_cosine 90 = .ok (.i2d, 1) := by decide +kernel
theorem dX7_cosine_91 : decode cX7_cosine 91 = .ok (.dstore 8, 2) := by decide +kernel
theorem dX7_cosine_93 : decode cX7_cosine 93 = .ok (.dload 8, 2) := by decide +kernel
theorem dX7_cosine_95 : decode cX7_cosine 95 = .ok (.aload_n 0, 1) := by decide +kernel
theorem dX7_cosine_96 : decode cX7_cosine 96 = .ok (.getfield 10, 3) := by decide +kernel
theorem dX7_cosine_99 : decode cX7_cosine 99 = .ok (.iload_n 1, 1) := by decide +kernel
theorem dX7_cosine_100 : decode cX7_cosine 100 = .ok (.invokevirtual 106, 3) := by decide +kernel
theorem dX7_cosine_103 : decode cX7_cosine 103 = .ok (.invokestatic 110, 3) := by decide +kernel
theorem dX7_cosine_106 : decode cX7_cosine 106 = .ok (.iload 7, 2) := by decide +kernel
theorem dX7_cosine_108 : decode cX7_cosine 108 = .ok (.invokestatic 110, 3) := by decide +kernel
theorem dX7_cosine_111 : decode cX7_cosine 111 = .ok (.dmul, 1) := by decide +kernel
theorem dX7_cosine_112 : decode cX7_cosine 112 = .ok (.ddiv, 1) := by decide +kernel
theorem dX7_cosine_113 : decode cX7_cosine 113 = .ok (.dreturn, 1) := by decide +kernel
def bs_X7_isBright : List (List Cond) := [[.code yX7_isBright cX7_isBright 3 (some .boolean)], wsX7_isBright_r1, wsX7_isBright_r2, wsX7_isBright_r3, wsX7_isBright_r4, wsX70, wsX40, wsX60, wsX00, wsX50, (vx_atS RX7 289 "java/lang/IndexOutOfBoundsException" ["java/lang/RuntimeException", "java/lang/Exception"]).filter goodWord, (vx_atS RX7 150 "java/lang/IllegalArgumentException" ["java/lang/RuntimeException", "java/lang/Exception"]).filter goodWord]
theorem bi_X7_isBright : ∀ w ∈ bs_X7_isBright.flatten, w ∈ wsX7_isBright := by
  have h : bs_X7_isBright.flatten = wsX7_isBright := by simp only [bs_X7_isBright, wsX7_isBright, List.flatten_cons, List.flatten_nil, List.append_assoc, List.append_nil, List.nil_append, List.cons_append]
  intro w hw; rw [h] at hw; exact hw
set_option maxRecDepth 20000 in
theorem ggX7_isBright_X7_requireCell : GoodIn wsX7_isBright wsX7_requireCell := goodIn_ca (goodIn_bb bs_X7_isBright bi_X7_isBright _ [(1, 3), (1, 4), (1, 5)] rfl (by decide +kernel)) (goodIn_sub (fun _ h => List.mem_cons_of_mem _ (List.mem_append_left _ (List.mem_append_right _ h))) (by decide +kernel))
set_option maxRecDepth 20000 in
theorem gX7_isBright_X7_requireCell : GoodIn wsX7_isBright (va_wsS RX7 64 yX7_requireCell wsX7_requireCell) := goodIn_app (goodIn_bb bs_X7_isBright bi_X7_isBright _ [(1, 0), (1, 1), (1, 2)] rfl (by decide +kernel)) ggX7_isBright_X7_requireCell
set_option maxRecDepth 20000 in
theorem ggX7_isBright_X7_requireTime : GoodIn wsX7_isBright wsX7_requireTime := goodIn_ca (goodIn_bb bs_X7_isBright bi_X7_isBright _ [(1, 8), (1, 9), (1, 10), (1, 2), (1, 11), (1, 12), (1, 13)] rfl (by decide +kernel)) (goodIn_sub (fun _ h => List.mem_cons_of_mem _ (List.mem_append_right _ h)) (by decide +kernel))
set_option maxRecDepth 20000 in
theorem gX7_isBright_X7_requireTime : GoodIn wsX7_isBright (va_wsS RX7 89 yX7_requireTime wsX7_requireTime) := goodIn_app (goodIn_bb bs_X7_isBright bi_X7_isBright _ [(1, 6), (1, 7), (1, 2)] rfl (by decide +kernel)) ggX7_isBright_X7_requireTime
set_option maxRecDepth 20000 in
theorem ggX7_isBright_X7_presentSky : GoodIn wsX7_isBright wsX7_presentSky := goodIn_bb bs_X7_isBright bi_X7_isBright _ [(1, 17), (1, 18), (1, 19), (1, 20), (1, 21), (1, 22), (1, 23), (2, 0), (2, 1), (2, 2), (2, 3), (2, 4), (2, 5), (2, 6), (2, 7), (2, 8), (2, 9), (2, 10), (2, 11), (2, 12), (2, 13), (2, 14), (2, 15), (2, 16), (5, 0), (5, 1), (5, 2), (5, 3), (5, 4), (5, 5), (5, 6), (5, 7), (6, 0), (6, 1), (6, 2), (6, 3), (6, 4), (6, 5), (6, 6), (6, 7), (7, 0), (7, 1), (7, 2), (7, 3), (7, 4), (7, 5)] rfl (by decide +kernel)
set_option maxRecDepth 20000 in
theorem gX7_isBright_X7_presentSky : GoodIn wsX7_isBright (wsV RX7 114 RX7 yX7_presentSky wsX7_presentSky) := goodIn_app (goodIn_bb bs_X7_isBright bi_X7_isBright _ [(1, 14), (1, 15), (1, 16), (1, 2)] rfl (by decide +kernel)) ggX7_isBright_X7_presentSky
set_option maxRecDepth 20000 in
theorem ggX7_isBright_X4_isLit : GoodIn wsX7_isBright wsX4_isLit := goodIn_bb bs_X7_isBright bi_X7_isBright _ [(2, 20), (2, 2), (2, 21), (2, 22), (2, 23), (3, 0), (3, 1), (3, 2), (3, 3), (3, 4), (3, 5), (3, 6), (3, 7), (3, 8), (3, 9), (3, 10), (1, 23), (3, 11), (2, 1), (3, 12), (3, 13), (3, 14), (3, 15), (3, 16), (3, 17), (3, 18), (2, 6), (3, 19), (2, 8), (3, 20), (3, 21), (3, 22), (3, 23), (4, 0), (4, 1), (4, 2), (4, 3), (4, 4), (4, 5), (4, 6), (4, 7), (4, 8), (4, 9), (4, 10), (4, 11), (4, 12), (4, 13), (4, 14), (4, 15), (4, 16), (6, 0), (6, 1), (6, 2), (6, 3), (6, 4), (6, 5), (6, 6), (6, 7), (8, 0), (7, 0), (7, 1), (7, 2), (7, 3), (7, 4), (7, 5), (9, 0), (9, 1), (9, 2), (9, 3)] rfl (by decide +kernel)
set_option maxRecDepth 20000 in
theorem gX7_isBright_X4_isLit : GoodIn wsX7_isBright (wsV RX7 118 RX4 yX4_isLit wsX4_isLit) := goodIn_app (goodIn_bb bs_X7_isBright bi_X7_isBright _ [(2, 17), (2, 18), (2, 19), (1, 23)] rfl (by decide +kernel)) ggX7_isBright_X4_isLit
theorem dX7_isBright_0 : decode cX7_isBright 0 = .ok (.iload_n 1, 1) := by decide +kernel
theorem dX7_isBright_1 : decode cX7_isBright 1 = .ok (.invokestatic 64, 3) := by decide +kernel
theorem dX7_isBright_4 : decode cX7_isBright 4 = .ok (.iload_n 2, 1) := by decide +kernel
theorem dX7_isBright_5 : decode cX7_isBright 5 = .ok (.invokestatic 89, 3) := by decide +kernel
theorem dX7_isBright_8 : decode cX7_isBright 8 = .ok (.aload_n 0, 1) := by decide +kernel
theorem dX7_isBright_9 : decode cX7_isBright 9 = .ok (.invokevirtual 114, 3) := by decide +kernel
theorem dX7_isBright_12 : decode cX7_isBright 12 = .ok (.iload_n 1, 1) := by decide +kernel
theorem dX7_isBright_13 : decode cX7_isBright 13 = .ok (.iload_n 2, 1) := by decide +kernel
theorem dX7_isBright_14 : decode cX7_isBright 14 = .ok (.invokevirtual 118, 3) := by decide +kernel
theorem dX7_isBright_17 : decode cX7_isBright 17 = .ok (.ireturn, 1) := by decide +kernel
def bs_X7_brightCells : List (List Cond) := [[.code yX7_brightCells cX7_brightCells 2 (some .int)], wsX7_brightCells_r1, wsX7_brightCells_r2, wsX7_brightCells_r3, wsX7_brightCells_r4, wsX7_brightCells_r5, wsX70, wsX40, wsX60, wsX00, wsX50, (vx_atS RX7 150 "java/lang/IllegalArgumentException" ["java/lang/RuntimeException", "java/lang/Exception"]).filter goodWord]
theorem bi_X7_brightCells : ∀ w ∈ bs_X7_brightCells.flatten, w ∈ wsX7_brightCells := by
  have h : bs_X7_brightCells.flatten = wsX7_brightCells := by simp only [bs_X7_brightCells, wsX7_brightCells, List.flatten_cons, List.flatten_nil, List.append_assoc, List.append_nil, List.nil_append, List.cons_append]
  intro w hw; rw [h] at hw; exact hw
set_option maxRecDepth 20000 in
theorem ggX7_brightCells_X7_requireTime : GoodIn wsX7_brightCells wsX7_requireTime := goodIn_ca (goodIn_bb bs_X7_brightCells bi_X7_brightCells _ [(1, 3), (1, 4), (1, 5), (1, 2), (1, 6), (1, 7), (1, 8)] rfl (by decide +kernel)) (goodIn_sub (fun _ h => List.mem_cons_of_mem _ (List.mem_append_right _ h)) (by decide +kernel))
set_option maxRecDepth 20000 in
theorem gX7_brightCells_X7_requireTime : GoodIn wsX7_brightCells (va_wsS RX7 89 yX7_requireTime wsX7_requireTime) := goodIn_app (goodIn_bb bs_X7_brightCells bi_X7_brightCells _ [(1, 0), (1, 1), (1, 2)] rfl (by decide +kernel)) ggX7_brightCells_X7_requireTime
set_option maxRecDepth 20000 in
theorem ggX7_brightCells_X7_presentSky : GoodIn wsX7_brightCells wsX7_presentSky := goodIn_bb bs_X7_brightCells bi_X7_brightCells _ [(1, 12), (1, 13), (1, 14), (1, 15), (1, 16), (1, 17), (1, 18), (1, 19), (1, 20), (1, 21), (1, 22), (1, 23), (2, 0), (2, 1), (2, 2), (2, 3), (2, 4), (2, 5), (2, 6), (2, 7), (2, 8), (2, 9), (2, 10), (2, 11), (6, 0), (6, 1), (6, 2), (6, 3), (6, 4), (6, 5), (6, 6), (6, 7), (7, 0), (7, 1), (7, 2), (7, 3), (7, 4), (7, 5), (7, 6), (7, 7), (8, 0), (8, 1), (8, 2), (8, 3), (8, 4), (8, 5)] rfl (by decide +kernel)
set_option maxRecDepth 20000 in
theorem gX7_brightCells_X7_presentSky : GoodIn wsX7_brightCells (wsV RX7 114 RX7 yX7_presentSky wsX7_presentSky) := goodIn_app (goodIn_bb bs_X7_brightCells bi_X7_brightCells _ [(1, 9), (1, 10), (1, 11), (1, 2)] rfl (by decide +kernel)) ggX7_brightCells_X7_presentSky
set_option maxRecDepth 20000 in
theorem ggX7_brightCells_X4_countLit : GoodIn wsX7_brightCells wsX4_countLit := goodIn_bb bs_X7_brightCells bi_X7_brightCells _ [(2, 15), (2, 16), (2, 17), (2, 18), (2, 19), (1, 18), (2, 20), (1, 21), (2, 21), (2, 22), (2, 23), (3, 0), (3, 1), (3, 2), (3, 3), (3, 4), (3, 5), (3, 6), (3, 7), (3, 8), (3, 9), (3, 10), (1, 20), (3, 11), (3, 12), (3, 13), (3, 14), (3, 15), (3, 16), (3, 17), (2, 1), (3, 18), (2, 3), (3, 19), (3, 20), (3, 21), (3, 22), (3, 23), (4, 0), (4, 1), (4, 2), (4, 3), (4, 4), (4, 5), (4, 6), (4, 7), (4, 8), (4, 9), (4, 10), (4, 11), (4, 12), (4, 13), (4, 14), (4, 15), (4, 16), (4, 17), (4, 18), (4, 19), (4, 20), (4, 21), (4, 22), (4, 23), (5, 0), (5, 1), (5, 2), (5, 3), (5, 4), (5, 5), (5, 6), (5, 7), (5, 8), (5, 9), (5, 10), (7, 0), (7, 1), (7, 2), (7, 3), (7, 4), (7, 5), (7, 6), (7, 7), (9, 0), (8, 0), (8, 1), (8, 2), (8, 3), (8, 4), (8, 5), (10, 0), (10, 1), (10, 2), (10, 3)] rfl (by decide +kernel)
set_option maxRecDepth 20000 in
theorem gX7_brightCells_X4_countLit : GoodIn wsX7_brightCells (wsV RX7 122 RX4 yX4_countLit wsX4_countLit) := goodIn_app (goodIn_bb bs_X7_brightCells bi_X7_brightCells _ [(2, 12), (2, 13), (2, 14), (1, 18)] rfl (by decide +kernel)) ggX7_brightCells_X4_countLit
theorem dX7_brightCells_0 : decode cX7_brightCells 0 = .ok (.iload_n 1, 1) := by decide +kernel
theorem dX7_brightCells_1 : decode cX7_brightCells 1 = .ok (.invokestatic 89, 3) := by decide +kernel
theorem dX7_brightCells_4 : decode cX7_brightCells 4 = .ok (.aload_n 0, 1) := by decide +kernel
theorem dX7_brightCells_5 : decode cX7_brightCells 5 = .ok (.invokevirtual 114, 3) := by decide +kernel
theorem dX7_brightCells_8 : decode cX7_brightCells 8 = .ok (.iload_n 1, 1) := by decide +kernel
theorem dX7_brightCells_9 : decode cX7_brightCells 9 = .ok (.invokevirtual 122, 3) := by decide +kernel
theorem dX7_brightCells_12 : decode cX7_brightCells 12 = .ok (.ireturn, 1) := by decide +kernel
def bs_X7_firstBright : List (List Cond) := [[.code yX7_firstBright cX7_firstBright 3 (some .int)], wsX7_firstBright_r1, wsX7_firstBright_r2, wsX7_firstBright_r3, wsX7_firstBright_r4, wsX70, wsX40, wsX60, wsX00, wsX50, (vx_atS RX7 289 "java/lang/IndexOutOfBoundsException" ["java/lang/RuntimeException", "java/lang/Exception"]).filter goodWord, (vx_atS RX7 150 "java/lang/IllegalArgumentException" ["java/lang/RuntimeException", "java/lang/Exception"]).filter goodWord]
theorem bi_X7_firstBright : ∀ w ∈ bs_X7_firstBright.flatten, w ∈ wsX7_firstBright := by
  have h : bs_X7_firstBright.flatten = wsX7_firstBright := by simp only [bs_X7_firstBright, wsX7_firstBright, List.flatten_cons, List.flatten_nil, List.append_assoc, List.append_nil, List.nil_append, List.cons_append]
  intro w hw; rw [h] at hw; exact hw
set_option maxRecDepth 20000 in
theorem ggX7_firstBright_X7_requireCell : GoodIn wsX7_firstBright wsX7_requireCell := goodIn_ca (goodIn_bb bs_X7_firstBright bi_X7_firstBright _ [(1, 3), (1, 4), (1, 5)] rfl (by decide +kernel)) (goodIn_sub (fun _ h => List.mem_cons_of_mem _ (List.mem_append_left _ (List.mem_append_right _ h))) (by decide +kernel))
set_option maxRecDepth 20000 in
theorem gX7_firstBright_X7_requireCell : GoodIn wsX7_firstBright (va_wsS RX7 64 yX7_requireCell wsX7_requireCell) := goodIn_app (goodIn_bb bs_X7_firstBright bi_X7_firstBright _ [(1, 0), (1, 1), (1, 2)] rfl (by decide +kernel)) ggX7_firstBright_X7_requireCell
set_option maxRecDepth 20000 in
theorem ggX7_firstBright_X7_requireTime : GoodIn wsX7_firstBright wsX7_requireTime := goodIn_ca (goodIn_bb bs_X7_firstBright bi_X7_firstBright _ [(1, 8), (1, 9), (1, 10), (1, 2), (1, 11), (1, 12), (1, 13)] rfl (by decide +kernel)) (goodIn_sub (fun _ h => List.mem_cons_of_mem _ (List.mem_append_right _ h)) (by decide +kernel))
set_option maxRecDepth 20000 in
theorem gX7_firstBright_X7_requireTime : GoodIn wsX7_firstBright (va_wsS RX7 89 yX7_requireTime wsX7_requireTime) := goodIn_app (goodIn_bb bs_X7_firstBright bi_X7_firstBright _ [(1, 6), (1, 7), (1, 2)] rfl (by decide +kernel)) ggX7_firstBright_X7_requireTime
set_option maxRecDepth 20000 in
theorem ggX7_firstBright_X7_presentSky : GoodIn wsX7_firstBright wsX7_presentSky := goodIn_bb bs_X7_firstBright bi_X7_firstBright _ [(1, 17), (1, 18), (1, 19), (1, 20), (1, 21), (1, 22), (1, 23), (2, 0), (2, 1), (2, 2), (2, 3), (2, 4), (2, 5), (2, 6), (2, 7), (2, 8), (2, 9), (2, 10), (2, 11), (2, 12), (2, 13), (2, 14), (2, 15), (2, 16), (5, 0), (5, 1), (5, 2), (5, 3), (5, 4), (5, 5), (5, 6), (5, 7), (6, 0), (6, 1), (6, 2), (6, 3), (6, 4), (6, 5), (6, 6), (6, 7), (7, 0), (7, 1), (7, 2), (7, 3), (7, 4), (7, 5)] rfl (by decide +kernel)
set_option maxRecDepth 20000 in
theorem gX7_firstBright_X7_presentSky : GoodIn wsX7_firstBright (wsV RX7 114 RX7 yX7_presentSky wsX7_presentSky) := goodIn_app (goodIn_bb bs_X7_firstBright bi_X7_firstBright _ [(1, 14), (1, 15), (1, 16), (1, 2)] rfl (by decide +kernel)) ggX7_firstBright_X7_presentSky
set_option maxRecDepth 20000 in
theorem ggX7_firstBright_X4_firstLit : GoodIn wsX7_firstBright wsX4_firstLit := goodIn_bb bs_X7_firstBright bi_X7_firstBright _ [(2, 20), (2, 21), (2, 22), (2, 23), (1, 23), (3, 0), (2, 2), (3, 1), (3, 2), (3, 3), (3, 4), (3, 5), (3, 6), (3, 7), (3, 8), (3, 9), (3, 10), (3, 11), (3, 12), (3, 13), (3, 14), (3, 15), (2, 1), (3, 16), (3, 17), (3, 18), (3, 19), (3, 20), (3, 21), (3, 22), (2, 6), (3, 23), (2, 8), (4, 0), (4, 1), (4, 2), (4, 3), (4, 4), (4, 5), (4, 6), (4, 7), (4, 8), (4, 9), (4, 10), (4, 11), (4, 12), (4, 13), (4, 14), (4, 15), (4, 16), (4, 17), (4, 18), (4, 19), (4, 20), (6, 0), (6, 1), (6, 2), (6, 3), (6, 4), (6, 5), (6, 6), (6, 7), (8, 0), (7, 0), (7, 1), (7, 2), (7, 3), (7, 4), (7, 5), (9, 0), (9, 1), (9, 2), (9, 3)] rfl (by decide +kernel)
set_option maxRecDepth 20000 in
theorem gX7_firstBright_X4_firstLit : GoodIn wsX7_firstBright (wsV RX7 125 RX4 yX4_firstLit wsX4_firstLit) := goodIn_app (goodIn_bb bs_X7_firstBright bi_X7_firstBright _ [(2, 17), (2, 18), (2, 19), (1, 23)] rfl (by decide +kernel)) ggX7_firstBright_X4_firstLit
theorem dX7_firstBright_0 : decode cX7_firstBright 0 = .ok (.iload_n 1, 1) := by decide +kernel
theorem dX7_firstBright_1 : decode cX7_firstBright 1 = .ok (.invokestatic 64, 3) := by decide +kernel
theorem dX7_firstBright_4 : decode cX7_firstBright 4 = .ok (.iload_n 2, 1) := by decide +kernel
theorem dX7_firstBright_5 : decode cX7_firstBright 5 = .ok (.invokestatic 89, 3) := by decide +kernel
theorem dX7_firstBright_8 : decode cX7_firstBright 8 = .ok (.aload_n 0, 1) := by decide +kernel
theorem dX7_firstBright_9 : decode cX7_firstBright 9 = .ok (.invokevirtual 114, 3) := by decide +kernel
theorem dX7_firstBright_12 : decode cX7_firstBright 12 = .ok (.iload_n 1, 1) := by decide +kernel
theorem dX7_firstBright_13 : decode cX7_firstBright 13 = .ok (.iload_n 2, 1) := by decide +kernel
theorem dX7_firstBright_14 : decode cX7_firstBright 14 = .ok (.sipush 300, 3) := by decide +kernel
theorem dX7_firstBright_17 : decode cX7_firstBright 17 = .ok (.invokevirtual 125, 3) := by decide +kernel
theorem dX7_firstBright_20 : decode cX7_firstBright 20 = .ok (.ireturn, 1) := by decide +kernel
theorem dX7_clock_0 : decode cX7_clock 0 = .ok (.aload_n 0, 1) := by decide +kernel
theorem dX7_clock_1 : decode cX7_clock 1 = .ok (.getfield 19, 3) := by decide +kernel
theorem dX7_clock_4 : decode cX7_clock 4 = .ok (.getfield 128, 3) := by decide +kernel
theorem dX7_clock_7 : decode cX7_clock 7 = .ok (.ireturn, 1) := by decide +kernel
theorem dX7_position_0 : decode cX7_position 0 = .ok (.aload_n 0, 1) := by decide +kernel
theorem dX7_position_1 : decode cX7_position 1 = .ok (.getfield 19, 3) := by decide +kernel
theorem dX7_position_4 : decode cX7_position 4 = .ok (.getfield 132, 3) := by decide +kernel
theorem dX7_position_7 : decode cX7_position 7 = .ok (.ireturn, 1) := by decide +kernel
theorem dX7_isClosed_0 : decode cX7_isClosed 0 = .ok (.aload_n 0, 1) := by decide +kernel
theorem dX7_isClosed_1 : decode cX7_isClosed 1 = .ok (.getfield 19, 3) := by decide +kernel
theorem dX7_isClosed_4 : decode cX7_isClosed 4 = .ok (.getfield 135, 3) := by decide +kernel
theorem dX7_isClosed_7 : decode cX7_isClosed 7 = .ok (.ireturn, 1) := by decide +kernel
theorem dX7_requestCount_0 : decode cX7_requestCount 0 = .ok (.aload_n 0, 1) := by decide +kernel
theorem dX7_requestCount_1 : decode cX7_requestCount 1 = .ok (.getfield 19, 3) := by decide +kernel
theorem dX7_requestCount_4 : decode cX7_requestCount 4 = .ok (.getfield 139, 3) := by decide +kernel
theorem dX7_requestCount_7 : decode cX7_requestCount 7 = .ok (.ireturn, 1) := by decide +kernel
def bs_X7_setAxis : List (List Cond) := [[.code yX7_setAxis cX7_setAxis 5 (some .int)], wsX7_setAxis_r1, wsX7_setAxis_r2, wsX7_setAxis_r3, wsX7_setAxis_r4, wsX7_setAxis_r5, wsX7_setAxis_r6, wsX7_setAxis_r7, wsX70, wsX60, wsX40, wsX00, wsX50, wsX10, (vx_atS RX7 150 "java/lang/IllegalArgumentException" ["java/lang/RuntimeException", "java/lang/Exception"]).filter goodWord, (vx_atS RX7 289 "java/lang/IndexOutOfBoundsException" ["java/lang/RuntimeException", "java/lang/Exception"]).filter goodWord, (vx_atS RX7 180 "java/lang/IllegalStateException" ["java/lang/RuntimeException", "java/lang/Exception"]).filter goodWord]
theorem bi_X7_setAxis : ∀ w ∈ bs_X7_setAxis.flatten, w ∈ wsX7_setAxis := by
  have h : bs_X7_setAxis.flatten = wsX7_setAxis := by simp only [bs_X7_setAxis, wsX7_setAxis, List.flatten_cons, List.flatten_nil, List.append_assoc, List.append_nil, List.nil_append, List.cons_append]
  intro w hw; rw [h] at hw; exact hw
set_option maxRecDepth 20000 in
theorem ggX7_setAxis_X7_requireObject : GoodIn wsX7_setAxis wsX7_requireObject := goodIn_ca (goodIn_bb bs_X7_setAxis bi_X7_setAxis _ [(1, 7), (1, 8), (1, 9)] rfl (by decide +kernel)) (goodIn_sub (fun _ h => List.mem_cons_of_mem _ (List.mem_append_left _ (List.mem_append_right _ h))) (by decide +kernel))
set_option maxRecDepth 20000 in
theorem gX7_setAxis_X7_requireObject : GoodIn wsX7_setAxis (va_wsS RX7 86 yX7_requireObject wsX7_requireObject) := goodIn_app (goodIn_bb bs_X7_setAxis bi_X7_setAxis _ [(1, 4), (1, 5), (1, 6)] rfl (by decide +kernel)) ggX7_setAxis_X7_requireObject
set_option maxRecDepth 20000 in
theorem ggX7_setAxis_X7_requireVector : GoodIn wsX7_setAxis wsX7_requireVector := goodIn_ca (goodIn_bb bs_X7_setAxis bi_X7_setAxis _ [(1, 12), (1, 13), (1, 14), (1, 6), (1, 15), (1, 0), (1, 1)] rfl (by decide +kernel)) (goodIn_sub (fun _ h => List.mem_cons_of_mem _ (List.mem_append_left _ (List.mem_append_left _ (List.mem_append_right _ h)))) (by decide +kernel))
set_option maxRecDepth 20000 in
theorem gX7_setAxis_X7_requireVector : GoodIn wsX7_setAxis (va_wsS RX7 142 yX7_requireVector wsX7_requireVector) := goodIn_app (goodIn_bb bs_X7_setAxis bi_X7_setAxis _ [(1, 10), (1, 11), (1, 6)] rfl (by decide +kernel)) ggX7_setAxis_X7_requireVector
set_option maxRecDepth 20000 in
theorem ggX7_setAxis_X6_copyFrom : GoodIn wsX7_setAxis wsX6_copyFrom := goodIn_bb bs_X7_setAxis bi_X7_setAxis _ [(1, 20), (1, 21), (1, 22), (1, 23), (2, 0), (2, 1), (2, 2), (2, 3), (2, 4), (2, 5), (2, 6), (2, 7), (2, 8), (1, 19), (2, 9), (2, 10), (9, 0), (9, 1), (9, 2), (9, 3), (9, 4), (9, 5)] rfl (by decide +kernel)
set_option maxRecDepth 20000 in
theorem gX7_setAxis_X6_copyFrom : GoodIn wsX7_setAxis (wsV RX7 153 RX6 yX6_copyFrom wsX6_copyFrom) := goodIn_app (goodIn_bb bs_X7_setAxis bi_X7_setAxis _ [(1, 16), (1, 17), (1, 18), (1, 19)] rfl (by decide +kernel)) ggX7_setAxis_X6_copyFrom
set_option maxRecDepth 20000 in
theorem ggX7_setAxis_X6_setVector : GoodIn wsX7_setAxis wsX6_setVector := goodIn_bb bs_X7_setAxis bi_X7_setAxis _ [(2, 14), (2, 15), (2, 16), (2, 17), (1, 19), (2, 18), (2, 10), (9, 0), (9, 1), (9, 2), (9, 3), (9, 4), (9, 5)] rfl (by decide +kernel)
set_option maxRecDepth 20000 in
theorem gX7_setAxis_X6_setVector : GoodIn wsX7_setAxis (wsV RX7 157 RX6 yX6_setVector wsX6_setVector) := goodIn_app (goodIn_bb bs_X7_setAxis bi_X7_setAxis _ [(2, 11), (2, 12), (2, 13), (1, 19)] rfl (by decide +kernel)) ggX7_setAxis_X6_setVector
set_option maxRecDepth 20000 in
theorem ggX7_setAxis_X7_adoptDraft : GoodIn wsX7_setAxis wsX7_adoptDraft := goodIn_ca (goodIn_bb bs_X7_setAxis bi_X7_setAxis _ [(2, 22), (2, 23), (3, 0), (3, 1), (1, 2), (3, 2), (3, 3), (3, 4), (3, 5), (1, 3), (3, 6), (3, 7), (3, 8), (3, 9), (3, 10), (3, 11), (3, 12), (3, 13), (3, 14), (3, 15), (1, 19), (3, 16), (2, 10), (3, 17), (2, 7), (2, 8), (2, 9), (2, 2), (2, 3), (2, 4), (2, 5), (3, 18), (3, 19), (3, 20), (3, 21), (3, 22), (3, 23), (4, 0), (4, 1), (4, 2), (4, 3), (4, 4), (4, 5), (4, 6), (4, 7), (4, 8), (4, 9), (4, 10), (4, 11), (4, 12), (4, 13), (4, 14), (4, 15), (4, 16), (4, 17), (4, 18), (4, 19), (4, 20), (4, 21), (4, 22), (4, 23), (5, 0), (5, 1), (5, 2), (5, 3), (5, 4), (5, 5), (5, 6), (5, 7), (5, 8), (5, 9), (5, 10), (5, 11), (5, 12), (5, 13), (5, 14), (5, 15), (5, 16), (5, 17), (5, 18), (5, 19), (5, 20), (5, 21), (5, 22), (5, 23), (6, 0), (6, 1), (6, 2), (6, 3), (6, 4), (6, 5), (6, 6), (6, 7), (6, 8), (6, 9), (6, 10), (2, 1), (6, 11), (1, 17), (1, 18), (1, 20), (1, 21), (1, 22), (1, 23), (2, 0), (2, 6), (1, 16), (6, 12), (6, 13), (6, 14), (6, 15), (6, 16), (6, 17), (6, 18), (6, 19), (6, 20), (6, 21), (6, 22), (6, 23), (7, 0), (7, 1), (7, 2), (7, 3), (7, 4), (7, 5), (7, 6), (7, 7), (7, 8), (7, 9), (7, 10), (7, 11), (7, 12), (7, 13), (7, 14), (7, 15), (7, 16), (7, 17), (7, 18), (8, 0), (8, 1), (8, 2), (8, 3), (8, 4), (8, 5), (8, 6), (8, 7), (9, 0), (9, 1), (9, 2), (9, 3), (9, 4), (9, 5), (10, 0), (10, 1), (10, 2), (10, 3), (10, 4), (10, 5), (10, 6), (10, 7), (11, 0), (12, 0), (12, 1), (12, 2), (12, 3), (13, 0), (13, 1), (13, 2)] rfl (by decide +kernel)) (goodIn_sub (fun _ h => List.mem_cons_of_mem _ (List.mem_append_right _ h)) (by decide +kernel))
set_option maxRecDepth 20000 in
theorem gX7_setAxis_X7_adoptDraft : GoodIn wsX7_setAxis (wsV RX7 161 RX7 yX7_adoptDraft wsX7_adoptDraft) := goodIn_app (goodIn_bb bs_X7_setAxis bi_X7_setAxis _ [(2, 19), (2, 20), (2, 21), (1, 6)] rfl (by decide +kernel)) ggX7_setAxis_X7_adoptDraft
theorem dX7_setAxis_0 : decode cX7_setAxis 0 = .ok (.iload_n 1, 1) := by decide +kernel
theorem dX7_setAxis_1 : decode cX7_setAxis 1 = .ok (.invokestatic 86, 3) := by decide +kernel
theorem dX7_setAxis_4 : decode cX7_setAxis 4 = .ok (.iload_n 2, 1) := by decide +kernel
theorem dX7_setAxis_5 : decode cX7_setAxis 5 = .ok (.iload_n 3, 1) := by decide +kernel
theorem dX7_setAxis_6 : decode cX7_setAxis 6 = .ok (.iload 4, 2) := by decide +kernel
theorem dX7_setAxis_8 : decode cX7_setAxis 8 = .ok (.bipush 99, 2) := by decide +kernel
theorem dX7_setAxis_10 : decode cX7_setAxis 10 = .ok (.invokestatic 142, 3) := by decide +kernel
theorem dX7_setAxis_13 : decode cX7_setAxis 13 = .ok (.iload_n 2, 1) := by decide +kernel
theorem dX7_setAxis_14 : decode cX7_setAxis 14 = .ok (.ifCond .ne 22, 3) := by decide +kernel
theorem dX7_setAxis_17 : decode cX7_setAxis 17 = .ok (.iload_n 3, 1) := by decide +kernel
theorem dX7_setAxis_18 : decode cX7_setAxis 18 = .ok (.ifCond .ne 18, 3) := by decide +kernel
theorem dX7_setAxis_21 : decode cX7_setAxis 21 = .ok (.iload 4, 2) := by decide +kernel
theorem dX7_setAxis_23 : decode cX7_setAxis 23 = .ok (.ifCond .ne 13, 3) := by decide +kernel
theorem dX7_setAxis_26 : decode cX7_setAxis 26 = .ok (.new 146, 3) := by decide +kernel
theorem dX7_setAxis_29 : decode cX7_setAxis 29 = .ok (.dup, 1) := by decide +kernel
theorem dX7_setAxis_30 : decode cX7_setAxis 30 = .ok (.ldc 148, 2) := by decide +kernel
theorem dX7_setAxis_32 : decode cX7_setAxis 32 = .ok (.invokespecial 150, 3) := by decide +kernel
theorem dX7_setAxis_35 : decode cX7_setAxis 35 = .ok (.athrow, 1) := by decide +kernel
theorem dX7_setAxis_36 : decode cX7_setAxis 36 = .ok (.aload_n 0, 1) := by decide +kernel
theorem dX7_setAxis_37 : decode cX7_setAxis 37 = .ok (.getfield 23, 3) := by decide +kernel
theorem dX7_setAxis_40 : decode cX7_setAxis 40 = .ok (.aload_n 0, 1) := by decide +kernel
theorem dX7_setAxis_41 : decode cX7_setAxis 41 = .ok (.getfield 19, 3) := by decide +kernel
theorem dX7_setAxis_44 : decode cX7_setAxis 44 = .ok (.invokevirtual 153, 3) := by decide +kernel
theorem dX7_setAxis_47 : decode cX7_setAxis 47 = .ok (.aload_n 0, 1) := by decide +kernel
theorem dX7_setAxis_48 : decode cX7_setAxis 48 = .ok (.getfield 23, 3) := by decide +kernel
theorem dX7_setAxis_51 : decode cX7_setAxis 51 = .ok (.iload_n 1, 1) := by decide +kernel
theorem dX7_setAxis_52 : decode cX7_setAxis 52 = .ok (.iconst 0, 1) := by decide +kernel
theorem dX7_setAxis_53 : decode cX7_setAxis 53 = .ok (.iload_n 2, 1) := by decide +kernel
theorem dX7_setAxis_54 : decode cX7_setAxis 54 = .ok (.iload_n 3, 1) := by decide +kernel
theorem dX7_setAxis_55 : decode cX7_setAxis 55 = .ok (.iload 4, 2) := by decide +kernel
theorem dX7_setAxis_57 : decode cX7_setAxis 57 = .ok (.invokevirtual 157, 3) := by decide +kernel
theorem dX7_setAxis_60 : decode cX7_setAxis 60 = .ok (.aload_n 0, 1) := by decide +kernel
theorem dX7_setAxis_61 : decode cX7_setAxis 61 = .ok (.invokevirtual 161, 3) := by decide +kernel
theorem dX7_setAxis_64 : decode cX7_setAxis 64 = .ok (.ireturn, 1) := by decide +kernel
def bs_X7_setDrift : List (List Cond) := [[.code yX7_setDrift cX7_setDrift 5 (some .int)], wsX7_setDrift_r1, wsX7_setDrift_r2, wsX7_setDrift_r3, wsX7_setDrift_r4, wsX7_setDrift_r5, wsX7_setDrift_r6, wsX7_setDrift_r7, wsX70, wsX60, wsX40, wsX00, wsX50, wsX10, (vx_atS RX7 289 "java/lang/IndexOutOfBoundsException" ["java/lang/RuntimeException", "java/lang/Exception"]).filter goodWord, (vx_atS RX7 150 "java/lang/IllegalArgumentException" ["java/lang/RuntimeException", "java/lang/Exception"]).filter goodWord, (vx_atS RX7 180 "java/lang/IllegalStateException" ["java/lang/RuntimeException", "java/lang/Exception"]).filter goodWord]
theorem bi_X7_setDrift : ∀ w ∈ bs_X7_setDrift.flatten, w ∈ wsX7_setDrift := by
  have h : bs_X7_setDrift.flatten = wsX7_setDrift := by simp only [bs_X7_setDrift, wsX7_setDrift, List.flatten_cons, List.flatten_nil, List.append_assoc, List.append_nil, List.nil_append, List.cons_append]
  intro w hw; rw [h] at hw; exact hw
set_option maxRecDepth 20000 in
theorem ggX7_setDrift_X7_requireObject : GoodIn wsX7_setDrift wsX7_requireObject := goodIn_ca (goodIn_bb bs_X7_setDrift bi_X7_setDrift _ [(1, 5), (1, 6), (1, 7)] rfl (by decide +kernel)) (goodIn_sub (fun _ h => List.mem_cons_of_mem _ (List.mem_append_left _ (List.mem_append_left _ (List.mem_append_right _ h)))) (by decide +kernel))
set_option maxRecDepth 20000 in
theorem gX7_setDrift_X7_requireObject : GoodIn wsX7_setDrift (va_wsS RX7 86 yX7_requireObject wsX7_requireObject) := goodIn_app (goodIn_bb bs_X7_setDrift bi_X7_setDrift _ [(1, 2), (1, 3), (1, 4)] rfl (by decide +kernel)) ggX7_setDrift_X7_requireObject
set_option maxRecDepth 20000 in
theorem ggX7_setDrift_X7_requireVector : GoodIn wsX7_setDrift wsX7_requireVector := goodIn_ca (goodIn_bb bs_X7_setDrift bi_X7_setDrift _ [(1, 10), (1, 11), (1, 12), (1, 4), (1, 13), (1, 14), (1, 15)] rfl (by decide +kernel)) (goodIn_sub (fun _ h => List.mem_cons_of_mem _ (List.mem_append_left _ (List.mem_append_right _ h))) (by decide +kernel))
set_option maxRecDepth 20000 in
theorem gX7_setDrift_X7_requireVector : GoodIn wsX7_setDrift (va_wsS RX7 142 yX7_requireVector wsX7_requireVector) := goodIn_app (goodIn_bb bs_X7_setDrift bi_X7_setDrift _ [(1, 8), (1, 9), (1, 4)] rfl (by decide +kernel)) ggX7_setDrift_X7_requireVector
set_option maxRecDepth 20000 in
theorem ggX7_setDrift_X6_copyFrom : GoodIn wsX7_setDrift wsX6_copyFrom := goodIn_bb bs_X7_setDrift bi_X7_setDrift _ [(1, 20), (1, 21), (1, 22), (1, 23), (2, 0), (2, 1), (2, 2), (2, 3), (2, 4), (2, 5), (2, 6), (2, 7), (2, 8), (1, 19), (2, 9), (2, 10), (9, 0), (9, 1), (9, 2), (9, 3), (9, 4), (9, 5)] rfl (by decide +kernel)
set_option maxRecDepth 20000 in
theorem gX7_setDrift_X6_copyFrom : GoodIn wsX7_setDrift (wsV RX7 153 RX6 yX6_copyFrom wsX6_copyFrom) := goodIn_app (goodIn_bb bs_X7_setDrift bi_X7_setDrift _ [(1, 16), (1, 17), (1, 18), (1, 19)] rfl (by decide +kernel)) ggX7_setDrift_X6_copyFrom
set_option maxRecDepth 20000 in
theorem ggX7_setDrift_X6_setVector : GoodIn wsX7_setDrift wsX6_setVector := goodIn_bb bs_X7_setDrift bi_X7_setDrift _ [(2, 14), (2, 15), (2, 16), (2, 17), (1, 19), (2, 18), (2, 10), (9, 0), (9, 1), (9, 2), (9, 3), (9, 4), (9, 5)] rfl (by decide +kernel)
set_option maxRecDepth 20000 in
theorem gX7_setDrift_X6_setVector : GoodIn wsX7_setDrift (wsV RX7 157 RX6 yX6_setVector wsX6_setVector) := goodIn_app (goodIn_bb bs_X7_setDrift bi_X7_setDrift _ [(2, 11), (2, 12), (2, 13), (1, 19)] rfl (by decide +kernel)) ggX7_setDrift_X6_setVector
set_option maxRecDepth 20000 in
theorem ggX7_setDrift_X7_adoptDraft : GoodIn wsX7_setDrift wsX7_adoptDraft := goodIn_ca (goodIn_bb bs_X7_setDrift bi_X7_setDrift _ [(2, 22), (2, 23), (3, 0), (3, 1), (1, 0), (3, 2), (3, 3), (3, 4), (3, 5), (1, 1), (3, 6), (3, 7), (3, 8), (3, 9), (3, 10), (3, 11), (3, 12), (3, 13), (3, 14), (3, 15), (1, 19), (3, 16), (2, 10), (3, 17), (2, 7), (2, 8), (2, 9), (2, 2), (2, 3), (2, 4), (2, 5), (3, 18), (3, 19), (3, 20), (3, 21), (3, 22), (3, 23), (4, 0), (4, 1), (4, 2), (4, 3), (4, 4), (4, 5), (4, 6), (4, 7), (4, 8), (4, 9), (4, 10), (4, 11), (4, 12), (4, 13), (4, 14), (4, 15), (4, 16), (4, 17), (4, 18), (4, 19), (4, 20), (4, 21), (4, 22), (4, 23), (5, 0), (5, 1), (5, 2), (5, 3), (5, 4), (5, 5), (5, 6), (5, 7), (5, 8), (5, 9), (5, 10), (5, 11), (5, 12), (5, 13), (5, 14), (5, 15), (5, 16), (5, 17), (5, 18), (5, 19), (5, 20), (5, 21), (5, 22), (5, 23), (6, 0), (6, 1), (6, 2), (6, 3), (6, 4), (6, 5), (6, 6), (6, 7), (6, 8), (6, 9), (6, 10), (2, 1), (6, 11), (1, 17), (1, 18), (1, 20), (1, 21), (1, 22), (1, 23), (2, 0), (2, 6), (1, 16), (6, 12), (6, 13), (6, 14), (6, 15), (6, 16), (6, 17), (6, 18), (6, 19), (6, 20), (6, 21), (6, 22), (6, 23), (7, 0), (7, 1), (7, 2), (7, 3), (7, 4), (7, 5), (7, 6), (7, 7), (7, 8), (7, 9), (7, 10), (7, 11), (7, 12), (7, 13), (7, 14), (7, 15), (7, 16), (7, 17), (7, 18), (8, 0), (8, 1), (8, 2), (8, 3), (8, 4), (8, 5), (8, 6), (8, 7), (9, 0), (9, 1), (9, 2), (9, 3), (9, 4), (9, 5), (10, 0), (10, 1), (10, 2), (10, 3), (10, 4), (10, 5), (10, 6), (10, 7), (11, 0), (12, 0), (12, 1), (12, 2), (12, 3), (13, 0), (13, 1), (13, 2)] rfl (by decide +kernel)) (goodIn_sub (fun _ h => List.mem_cons_of_mem _ (List.mem_append_right _ h)) (by decide +kernel))
set_option maxRecDepth 20000 in
theorem gX7_setDrift_X7_adoptDraft : GoodIn wsX7_setDrift (wsV RX7 161 RX7 yX7_adoptDraft wsX7_adoptDraft) := goodIn_app (goodIn_bb bs_X7_setDrift bi_X7_setDrift _ [(2, 19), (2, 20), (2, 21), (1, 4)] rfl (by decide +kernel)) ggX7_setDrift_X7_adoptDraft
theorem dX7_setDrift_0 : decode cX7_setDrift 0 = .ok (.iload_n 1, 1) := by decide +kernel
theorem dX7_setDrift_1 : decode cX7_setDrift 1 = .ok (.invokestatic 86, 3) := by decide +kernel
theorem dX7_setDrift_4 : decode cX7_setDrift 4 = .ok (.iload_n 2, 1) := by decide +kernel
theorem dX7_setDrift_5 : decode cX7_setDrift 5 = .ok (.iload_n 3, 1) := by decide +kernel
theorem dX7_setDrift_6 : decode cX7_setDrift 6 = .ok (.iload 4, 2) := by decide +kernel
theorem dX7_setDrift_8 : decode cX7_setDrift 8 = .ok (.bipush 9, 2) := by decide +kernel
theorem dX7_setDrift_10 : decode cX7_setDrift 10 = .ok (.invokestatic 142, 3) := by decide +kernel
theorem dX7_setDrift_13 : decode cX7_setDrift 13 = .ok (.aload_n 0, 1) := by decide +kernel
theorem dX7_setDrift_14 : decode cX7_setDrift 14 = .ok (.getfield 23, 3) := by decide +kernel
theorem dX7_setDrift_17 : decode cX7_setDrift 17 = .ok (.aload_n 0, 1) := by decide +kernel
theorem dX7_setDrift_18 : decode cX7_setDrift 18 = .ok (.getfield 19, 3) := by decide +kernel
theorem dX7_setDrift_21 : decode cX7_setDrift 21 = .ok (.invokevirtual 153, 3) := by decide +kernel
theorem dX7_setDrift_24 : decode cX7_setDrift 24 = .ok (.aload_n 0, 1) := by decide +kernel
theorem dX7_setDrift_25 : decode cX7_setDrift 25 = .ok (.getfield 23, 3) := by decide +kernel
theorem dX7_setDrift_28 : decode cX7_setDrift 28 = .ok (.iload_n 1, 1) := by decide +kernel
theorem dX7_setDrift_29 : decode cX7_setDrift 29 = .ok (.iconst 3, 1) := by decide +kernel
theorem dX7_setDrift_30 : decode cX7_setDrift 30 = .ok (.iload_n 2, 1) := by decide +kernel
theorem dX7_setDrift_31 : decode cX7_setDrift 31 = .ok (.iload_n 3, 1) := by decide +kernel
theorem dX7_setDrift_32 : decode cX7_setDrift 32 = .ok (.iload 4, 2) := by decide +kernel
theorem dX7_setDrift_34 : decode cX7_setDrift 34 = .ok (.invokevirtual 157, 3) := by decide +kernel
theorem dX7_setDrift_37 : decode cX7_setDrift 37 = .ok (.aload_n 0, 1) := by decide +kernel
theorem dX7_setDrift_38 : decode cX7_setDrift 38 = .ok (.invokevirtual 161, 3) := by decide +kernel
theorem dX7_setDrift_41 : decode cX7_setDrift 41 = .ok (.ireturn, 1) := by decide +kernel
def bs_X7_setCone : List (List Cond) := [[.code yX7_setCone cX7_setCone 3 (some .int)], wsX7_setCone_r1, wsX7_setCone_r2, wsX7_setCone_r3, wsX7_setCone_r4, wsX7_setCone_r5, wsX7_setCone_r6, wsX7_setCone_r7, wsX70, wsX60, wsX40, wsX00, wsX50, wsX10, (vx_atS RX7 289 "java/lang/IndexOutOfBoundsException" ["java/lang/RuntimeException", "java/lang/Exception"]).filter goodWord, (vx_atS RX7 150 "java/lang/IllegalArgumentException" ["java/lang/RuntimeException", "java/lang/Exception"]).filter goodWord, (vx_atS RX7 180 "java/lang/IllegalStateException" ["java/lang/RuntimeException", "java/lang/Exception"]).filter goodWord]
theorem bi_X7_setCone : ∀ w ∈ bs_X7_setCone.flatten, w ∈ wsX7_setCone := by
  have h : bs_X7_setCone.flatten = wsX7_setCone := by simp only [bs_X7_setCone, wsX7_setCone, List.flatten_cons, List.flatten_nil, List.append_assoc, List.append_nil, List.nil_append, List.cons_append]
  intro w hw; rw [h] at hw; exact hw
set_option maxRecDepth 20000 in
theorem ggX7_setCone_X7_requireObject : GoodIn wsX7_setCone wsX7_requireObject := goodIn_ca (goodIn_bb bs_X7_setCone bi_X7_setCone _ [(1, 5), (1, 6), (1, 7)] rfl (by decide +kernel)) (goodIn_sub (fun _ h => List.mem_cons_of_mem _ (List.mem_append_left _ (List.mem_append_left _ (List.mem_append_right _ h)))) (by decide +kernel))
set_option maxRecDepth 20000 in
theorem gX7_setCone_X7_requireObject : GoodIn wsX7_setCone (va_wsS RX7 86 yX7_requireObject wsX7_requireObject) := goodIn_app (goodIn_bb bs_X7_setCone bi_X7_setCone _ [(1, 2), (1, 3), (1, 4)] rfl (by decide +kernel)) ggX7_setCone_X7_requireObject
set_option maxRecDepth 20000 in
theorem ggX7_setCone_X7_requireRange : GoodIn wsX7_setCone wsX7_requireRange := goodIn_ca (goodIn_bb bs_X7_setCone bi_X7_setCone _ [(1, 10), (1, 11), (1, 12)] rfl (by decide +kernel)) (goodIn_sub (fun _ h => List.mem_cons_of_mem _ (List.mem_append_left _ (List.mem_append_right _ h))) (by decide +kernel))
set_option maxRecDepth 20000 in
theorem gX7_setCone_X7_requireRange : GoodIn wsX7_setCone (va_wsS RX7 79 yX7_requireRange wsX7_requireRange) := goodIn_app (goodIn_bb bs_X7_setCone bi_X7_setCone _ [(1, 8), (1, 9), (1, 4)] rfl (by decide +kernel)) ggX7_setCone_X7_requireRange
set_option maxRecDepth 20000 in
theorem ggX7_setCone_X6_copyFrom : GoodIn wsX7_setCone wsX6_copyFrom := goodIn_bb bs_X7_setCone bi_X7_setCone _ [(1, 17), (1, 18), (1, 19), (1, 20), (1, 21), (1, 22), (1, 23), (2, 0), (2, 1), (2, 2), (2, 3), (2, 4), (2, 5), (1, 16), (2, 6), (2, 7), (9, 0), (9, 1), (9, 2), (9, 3), (9, 4), (9, 5)] rfl (by decide +kernel)
set_option maxRecDepth 20000 in
theorem gX7_setCone_X6_copyFrom : GoodIn wsX7_setCone (wsV RX7 153 RX6 yX6_copyFrom wsX6_copyFrom) := goodIn_app (goodIn_bb bs_X7_setCone bi_X7_setCone _ [(1, 13), (1, 14), (1, 15), (1, 16)] rfl (by decide +kernel)) ggX7_setCone_X6_copyFrom
set_option maxRecDepth 20000 in
theorem ggX7_setCone_X6_setObject : GoodIn wsX7_setCone wsX6_setObject := goodIn_bb bs_X7_setCone bi_X7_setCone _ [(2, 11), (2, 7), (9, 0), (9, 1), (9, 2), (9, 3), (9, 4), (9, 5)] rfl (by decide +kernel)
set_option maxRecDepth 20000 in
theorem gX7_setCone_X6_setObject : GoodIn wsX7_setCone (wsV RX7 165 RX6 yX6_setObject wsX6_setObject) := goodIn_app (goodIn_bb bs_X7_setCone bi_X7_setCone _ [(2, 8), (2, 9), (2, 10), (1, 16)] rfl (by decide +kernel)) ggX7_setCone_X6_setObject
set_option maxRecDepth 20000 in
theorem ggX7_setCone_X7_adoptDraft : GoodIn wsX7_setCone wsX7_adoptDraft := goodIn_ca (goodIn_bb bs_X7_setCone bi_X7_setCone _ [(2, 15), (2, 16), (2, 17), (2, 18), (1, 0), (2, 19), (2, 20), (2, 21), (2, 22), (1, 1), (2, 23), (3, 0), (3, 1), (3, 2), (3, 3), (3, 4), (3, 5), (3, 6), (3, 7), (3, 8), (1, 16), (3, 9), (2, 7), (3, 10), (2, 4), (2, 5), (2, 6), (1, 23), (2, 0), (2, 1), (2, 2), (3, 11), (3, 12), (3, 13), (3, 14), (3, 15), (3, 16), (3, 17), (3, 18), (3, 19), (3, 20), (3, 21), (3, 22), (3, 23), (4, 0), (4, 1), (4, 2), (4, 3), (4, 4), (4, 5), (4, 6), (4, 7), (4, 8), (4, 9), (4, 10), (4, 11), (4, 12), (4, 13), (4, 14), (4, 15), (4, 16), (4, 17), (4, 18), (4, 19), (4, 20), (4, 21), (4, 22), (4, 23), (5, 0), (5, 1), (5, 2), (5, 3), (5, 4), (5, 5), (5, 6), (5, 7), (5, 8), (5, 9), (5, 10), (5, 11), (5, 12), (5, 13), (5, 14), (5, 15), (5, 16), (5, 17), (5, 18), (5, 19), (5, 20), (5, 21), (5, 22), (5, 23), (6, 0), (6, 1), (6, 2), (6, 3), (1, 22), (6, 4), (1, 14), (1, 15), (1, 17), (1, 18), (1, 19), (1, 20), (1, 21), (2, 3), (1, 13), (6, 5), (6, 6), (6, 7), (6, 8), (6, 9), (6, 10), (6, 11), (6, 12), (6, 13), (6, 14), (6, 15), (6, 16), (6, 17), (6, 18), (6, 19), (6, 20), (6, 21), (6, 22), (6, 23), (7, 0), (7, 1), (7, 2), (7, 3), (7, 4), (7, 5), (7, 6), (7, 7), (7, 8), (7, 9), (7, 10), (7, 11), (8, 0), (8, 1), (8, 2), (8, 3), (8, 4), (8, 5), (8, 6), (8, 7), (9, 0), (9, 1), (9, 2), (9, 3), (9, 4), (9, 5), (10, 0), (10, 1), (10, 2), (10, 3), (10, 4), (10, 5), (10, 6), (10, 7), (11, 0), (12, 0), (12, 1), (12, 2), (12, 3), (13, 0), (13, 1), (13, 2)] rfl (by decide +kernel)) (goodIn_sub (fun _ h => List.mem_cons_of_mem _ (List.mem_append_right _ h)) (by decide +kernel))
set_option maxRecDepth 20000 in
theorem gX7_setCone_X7_adoptDraft : GoodIn wsX7_setCone (wsV RX7 161 RX7 yX7_adoptDraft wsX7_adoptDraft) := goodIn_app (goodIn_bb bs_X7_setCone bi_X7_setCone _ [(2, 12), (2, 13), (2, 14), (1, 4)] rfl (by decide +kernel)) ggX7_setCone_X7_adoptDraft
theorem dX7_setCone_0 : decode cX7_setCone 0 = .ok (.iload_n 1, 1) := by decide +kernel
theorem dX7_setCone_1 : decode cX7_setCone 1 = .ok (.invokestatic 86, 3) := by decide +kernel
theorem dX7_setCone_4 : decode cX7_setCone 4 = .ok (.iload_n 2, 1) := by decide +kernel
theorem dX7_setCone_5 : decode cX7_setCone 5 = .ok (.iconst 0, 1) := by decide +kernel
theorem dX7_setCone_6 : decode cX7_setCone 6 = .ok (.bipush 99, 2) := by decide +kernel
theorem dX7_setCone_8 : decode cX7_setCone 8 = .ok (.invokestatic 79, 3) := by decide +kernel
theorem dX7_setCone_11 : decode cX7_setCone 11 = .ok (.aload_n 0, 1) := by decide +kernel
theorem dX7_setCone_12 : decode cX7_setCone 12 = .ok (.getfield 23, 3) := by decide +kernel
theorem dX7_setCone_15 : decode cX7_setCone 15 = .ok (.aload_n 0, 1) := by decide +kernel
theorem dX7_setCone_16 : decode cX7_setCone 16 = .ok (.getfield 19, 3) := by decide +kernel
theorem dX7_setCone_19 : decode cX7_setCone 19 = .ok (.invokevirtual 153, 3) := by decide +kernel
theorem dX7_setCone_22 : decode cX7_setCone 22 = .ok (.aload_n 0, 1) := by decide +kernel
theorem dX7_setCone_23 : decode cX7_setCone 23 = .ok (.getfield 23, 3) := by decide +kernel
theorem dX7_setCone_26 : decode cX7_setCone 26 = .ok (.iload_n 1, 1) := by decide +kernel
theorem dX7_setCone_27 : decode cX7_setCone 27 = .ok (.bipush 6, 2) := by decide +kernel
theorem dX7_setCone_29 : decode cX7_setCone 29 = .ok (.iload_n 2, 1) := by decide +kernel
theorem dX7_setCone_30 : decode cX7_setCone 30 = .ok (.invokevirtual 165, 3) := by decide +kernel
theorem dX7_setCone_33 : decode cX7_setCone 33 = .ok (.aload_n 0, 1) := by decide +kernel
theorem dX7_setCone_34 : decode cX7_setCone 34 = .ok (.invokevirtual 161, 3) := by decide +kernel
theorem dX7_setCone_37 : decode cX7_setCone 37 = .ok (.ireturn, 1) := by decide +kernel
def bs_X7_step : List (List Cond) := [[.code yX7_step cX7_step 2 (some .int)], wsX7_step_r1, wsX7_step_r2, wsX7_step_r3, wsX7_step_r4, wsX7_step_r5, wsX7_step_r6, wsX70, wsX60, wsX50, wsX00, wsX40, wsX10, (vx_atS RX7 150 "java/lang/IllegalArgumentException" ["java/lang/RuntimeException", "java/lang/Exception"]).filter goodWord, (vx_atS RX7 180 "java/lang/IllegalStateException" ["java/lang/RuntimeException", "java/lang/Exception"]).filter goodWord, (vx_atS RX7 289 "java/lang/IndexOutOfBoundsException" ["java/lang/RuntimeException", "java/lang/Exception"]).filter goodWord]
theorem bi_X7_step : ∀ w ∈ bs_X7_step.flatten, w ∈ wsX7_step := by
  have h : bs_X7_step.flatten = wsX7_step := by simp only [bs_X7_step, wsX7_step, List.flatten_cons, List.flatten_nil, List.append_assoc, List.append_nil, List.nil_append, List.cons_append]
  intro w hw; rw [h] at hw; exact hw
set_option maxRecDepth 20000 in
theorem ggX7_step_X7_requireCell : GoodIn wsX7_step wsX7_requireCell := goodIn_ca (goodIn_bb bs_X7_step bi_X7_step _ [(1, 12), (1, 13), (1, 14)] rfl (by decide +kernel)) (goodIn_sub (fun _ h => List.mem_cons_of_mem _ (List.mem_append_right _ h)) (by decide +kernel))
set_option maxRecDepth 20000 in
theorem gX7_step_X7_requireCell : GoodIn wsX7_step (va_wsS RX7 64 yX7_requireCell wsX7_requireCell) := goodIn_app (goodIn_bb bs_X7_step bi_X7_step _ [(1, 9), (1, 10), (1, 11)] rfl (by decide +kernel)) ggX7_step_X7_requireCell
set_option maxRecDepth 20000 in
theorem ggX7_step_X5_isStep : GoodIn wsX7_step wsX5_isStep := goodIn_bb bs_X7_step bi_X7_step _ [(1, 19), (1, 20), (1, 21), (1, 22), (1, 23), (2, 0), (2, 1), (2, 2), (2, 3), (2, 4), (2, 5), (2, 6), (9, 0), (9, 1), (9, 2), (9, 3), (10, 0)] rfl (by decide +kernel)
set_option maxRecDepth 20000 in
theorem gX7_step_X5_isStep : GoodIn wsX7_step (wsV RX7 168 RX5 yX5_isStep wsX5_isStep) := goodIn_app (goodIn_bb bs_X7_step bi_X7_step _ [(1, 15), (1, 16), (1, 17), (1, 18)] rfl (by decide +kernel)) ggX7_step_X5_isStep
set_option maxRecDepth 20000 in
theorem ggX7_step_X7_requireOpen : GoodIn wsX7_step wsX7_requireOpen := goodIn_ca (goodIn_bb bs_X7_step bi_X7_step _ [(2, 10), (1, 2), (1, 3), (1, 5), (2, 11), (7, 0), (7, 1), (7, 2), (7, 3), (7, 4), (7, 5), (7, 6), (7, 7), (8, 0), (8, 1), (8, 2), (8, 3), (8, 4), (8, 5)] rfl (by decide +kernel)) (goodIn_sub (fun _ h => List.mem_cons_of_mem _ (List.mem_append_left _ (List.mem_append_right _ h))) (by decide +kernel))
set_option maxRecDepth 20000 in
theorem gX7_step_X7_requireOpen : GoodIn wsX7_step (wsV RX7 173 RX7 yX7_requireOpen wsX7_requireOpen) := goodIn_app (goodIn_bb bs_X7_step bi_X7_step _ [(2, 7), (2, 8), (2, 9), (1, 11)] rfl (by decide +kernel)) ggX7_step_X7_requireOpen
set_option maxRecDepth 20000 in
theorem ggX7_step_X7_presentSky : GoodIn wsX7_step wsX7_presentSky := goodIn_bb bs_X7_step bi_X7_step _ [(2, 15), (2, 16), (1, 5), (2, 17), (2, 18), (2, 19), (2, 20), (2, 21), (2, 22), (2, 23), (3, 0), (3, 1), (3, 2), (3, 3), (3, 4), (3, 5), (3, 6), (3, 7), (3, 8), (3, 9), (3, 10), (3, 11), (3, 12), (3, 13), (7, 0), (7, 1), (7, 2), (7, 3), (7, 4), (7, 5), (7, 6), (7, 7), (11, 0), (11, 1), (11, 2), (11, 3), (11, 4), (11, 5), (11, 6), (11, 7), (8, 0), (8, 1), (8, 2), (8, 3), (8, 4), (8, 5)] rfl (by decide +kernel)
set_option maxRecDepth 20000 in
theorem gX7_step_X7_presentSky : GoodIn wsX7_step (wsV RX7 114 RX7 yX7_presentSky wsX7_presentSky) := goodIn_app (goodIn_bb bs_X7_step bi_X7_step _ [(2, 12), (2, 13), (2, 14), (1, 11)] rfl (by decide +kernel)) ggX7_step_X7_presentSky
set_option maxRecDepth 20000 in
theorem ggX7_step_X4_isLit : GoodIn wsX7_step wsX4_isLit := goodIn_bb bs_X7_step bi_X7_step _ [(3, 17), (2, 23), (3, 18), (3, 19), (1, 22), (1, 23), (2, 0), (2, 1), (2, 2), (2, 3), (2, 4), (2, 5), (2, 6), (3, 20), (3, 21), (3, 22), (2, 20), (3, 23), (2, 22), (4, 0), (4, 1), (4, 2), (4, 3), (4, 4), (4, 5), (4, 6), (3, 3), (4, 7), (3, 5), (4, 8), (4, 9), (4, 10), (4, 11), (4, 12), (4, 13), (4, 14), (4, 15), (4, 16), (4, 17), (4, 18), (4, 19), (4, 20), (1, 18), (4, 21), (4, 22), (4, 23), (5, 0), (5, 1), (5, 2), (5, 3), (11, 0), (11, 1), (11, 2), (11, 3), (11, 4), (11, 5), (11, 6), (11, 7), (10, 0), (8, 0), (8, 1), (8, 2), (8, 3), (8, 4), (8, 5), (9, 0), (9, 1), (9, 2), (9, 3)] rfl (by decide +kernel)
set_option maxRecDepth 20000 in
theorem gX7_step_X4_isLit : GoodIn wsX7_step (wsV RX7 118 RX4 yX4_isLit wsX4_isLit) := goodIn_app (goodIn_bb bs_X7_step bi_X7_step _ [(3, 14), (3, 15), (3, 16), (2, 20)] rfl (by decide +kernel)) ggX7_step_X4_isLit
set_option maxRecDepth 20000 in
theorem ggX7_step_X1_remember : GoodIn wsX7_step wsX1_remember := goodIn_bb bs_X7_step bi_X7_step _ [(5, 8), (5, 9), (5, 10), (5, 11), (5, 12), (5, 13), (3, 3), (5, 14), (5, 15), (5, 16), (5, 17), (5, 18), (5, 19), (5, 20), (3, 5), (5, 21), (5, 22), (5, 23), (6, 0), (6, 1), (6, 2), (6, 3), (6, 4), (6, 5), (3, 10), (3, 11), (3, 12), (3, 13), (6, 6), (3, 7), (3, 8), (3, 9), (12, 0), (12, 1), (12, 2), (8, 0), (8, 1), (8, 2), (8, 3), (8, 4), (8, 5)] rfl (by decide +kernel)
set_option maxRecDepth 20000 in
theorem gX7_step_X1_remember : GoodIn wsX7_step (wsV RX7 183 RX1 yX1_remember wsX1_remember) := goodIn_app (goodIn_bb bs_X7_step bi_X7_step _ [(5, 4), (5, 5), (5, 6), (5, 7)] rfl (by decide +kernel)) ggX7_step_X1_remember
theorem dX7_step_0 : decode cX7_step 0 = .ok (.iload_n 1, 1) := by decide +kernel
theorem dX7_step_1 : decode cX7_step 1 = .ok (.invokestatic 64, 3) := by decide +kernel
theorem dX7_step_4 : decode cX7_step 4 = .ok (.aload_n 0, 1) := by decide +kernel
theorem dX7_step_5 : decode cX7_step 5 = .ok (.getfield 10, 3) := by decide +kernel
theorem dX7_step_8 : decode cX7_step 8 = .ok (.aload_n 0, 1) := by decide +kernel
theorem dX7_step_9 : decode cX7_step 9 = .ok (.getfield 19, 3) := by decide +kernel
theorem dX7_step_12 : decode cX7_step 12 = .ok (.getfield 132, 3) := by decide +kernel
theorem dX7_step_15 : decode cX7_step 15 = .ok (.iload_n 1, 1) := by decide +kernel
theorem dX7_step_16 : decode cX7_step 16 = .ok (.invokevirtual 168, 3) := by decide +kernel
theorem dX7_step_19 : decode cX7_step 19 = .ok (.ifCond .ne 13, 3) := by decide +kernel
theorem dX7_step_22 : decode cX7_step 22 = .ok (.new 146, 3) := by decide +kernel
theorem dX7_step_25 : decode cX7_step 25 = .ok (.dup, 1) := by decide +kernel
theorem dX7_step_26 : decode cX7_step 26 = .ok (.ldc 171, 2) := by decide +kernel
theorem dX7_step_28 : decode cX7_step 28 = .ok (.invokespecial 150, 3) := by decide +kernel
theorem dX7_step_31 : decode cX7_step 31 = .ok (.athrow, 1) := by decide +kernel
theorem dX7_step_32 : decode cX7_step 32 = .ok (.aload_n 0, 1) := by decide +kernel
theorem dX7_step_33 : decode cX7_step 33 = .ok (.invokevirtual 173, 3) := by decide +kernel
theorem dX7_step_36 : decode cX7_step 36 = .ok (.aload_n 0, 1) := by decide +kernel
theorem dX7_step_37 : decode cX7_step 37 = .ok (.getfield 19, 3) := by decide +kernel
theorem dX7_step_40 : decode cX7_step 40 = .ok (.getfield 128, 3) := by decide +kernel
theorem dX7_step_43 : decode cX7_step 43 = .ok (.sipush 200, 3) := by decide +kernel
theorem dX7_step_46 : decode cX7_step 46 = .ok (.if_icmp .lt 13, 3) := by decide +kernel
theorem dX7_step_49 : decode cX7_step 49 = .ok (.new 176, 3) := by decide +kernel
theorem dX7_step_52 : decode cX7_step 52 = .ok (.dup, 1) := by decide +kernel
theorem dX7_step_53 : decode cX7_step 53 = .ok (.ldc 178, 2) := by decide +kernel
theorem dX7_step_55 : decode cX7_step 55 = .ok (.invokespecial 180, 3) := by decide +kernel
theorem dX7_step_58 : decode cX7_step 58 = .ok (.athrow, 1) := by decide +kernel
theorem dX7_step_59 : decode cX7_step 59 = .ok (.aload_n 0, 1) := by decide +kernel
theorem dX7_step_60 : decode cX7_step 60 = .ok (.invokevirtual 114, 3) := by decide +kernel
theorem dX7_step_63 : decode cX7_step 63 = .ok (.iload_n 1, 1) := by decide +kernel
theorem dX7_step_64 : decode cX7_step 64 = .ok (.aload_n 0, 1) := by decide +kernel
theorem dX7_step_65 : decode cX7_step 65 = .ok (.getfield 19, 3) := by decide +kernel
theorem dX7_step_68 : decode cX7_step 68 = .ok (.getfield 128, 3) := by decide +kernel
theorem dX7_step_71 : decode cX7_step 71 = .ok (.iconst 1, 1) := by decide +kernel
theorem dX7_step_72 : decode cX7_step 72 = .ok (.iadd, 1) := by decide +kernel
theorem dX7_step_73 : decode cX7_step 73 = .ok (.invokevirtual 118, 3) := by decide +kernel
theorem dX7_step_76 : decode cX7_step 76 = .ok (.ifCond .eq 13, 3) := by decide +kernel
theorem dX7_step_79 : decode cX7_step 79 = .ok (.new 176, 3) := by decide +kernel
theorem dX7_step_82 : decode cX7_step 82 = .ok (.dup, 1) := by decide +kernel
theorem dX7_step_83 : decode cX7_step 83 = .ok (.ldc 181, 2) := by decide +kernel
theorem dX7_step_85 : decode cX7_step 85 = .ok (.invokespecial 180, 3) := by decide +kernel
theorem dX7_step_88 : decode cX7_step 88 = .ok (.athrow, 1) := by decide +kernel
theorem dX7_step_89 : decode cX7_step 89 = .ok (.aload_n 0, 1) := by decide +kernel
theorem dX7_step_90 : decode cX7_step 90 = .ok (.getfield 29, 3) := by decide +kernel
theorem dX7_step_93 : decode cX7_step 93 = .ok (.aload_n 0, 1) := by decide +kernel
theorem dX7_step_94 : decode cX7_step 94 = .ok (.getfield 19, 3) := by decide +kernel
theorem dX7_step_97 : decode cX7_step 97 = .ok (.invokevirtual 183, 3) := by decide +kernel
theorem dX7_step_100 : decode cX7_step 100 = .ok (.aload_n 0, 1) := by decide +kernel
theorem dX7_step_101 : decode cX7_step 101 = .ok (.getfield 19, 3) := by decide +kernel
theorem dX7_step_104 : decode cX7_step 104 = .ok (.dup, 1) := by decide +kernel
theorem dX7_step_105 : decode cX7_step 105 = .ok (.getfield 128, 3) := by decide +kernel
theorem dX7_step_108 : decode cX7_step 108 = .ok (.iconst 1, 1) := by decide +kernel
theorem dX7_step_109 : decode cX7_step 109 = .ok (.iadd, 1) := by decide +kernel
theorem dX7_step_110 : decode cX7_step 110 = .ok (.putfield 128, 3) := by decide +kernel
theorem dX7_step_113 : decode cX7_step 113 = .ok (.aload_n 0, 1) := by decide +kernel
theorem dX7_step_114 : decode cX7_step 114 = .ok (.getfield 19, 3) := by decide +kernel
theorem dX7_step_117 : decode cX7_step 117 = .ok (.iload_n 1, 1) := by decide +kernel
theorem dX7_step_118 : decode cX7_step 118 = .ok (.putfield 132, 3) := by decide +kernel
theorem dX7_step_121 : decode cX7_step 121 = .ok (.aload_n 0, 1) := by decide +kernel
theorem dX7_step_122 : decode cX7_step 122 = .ok (.getfield 19, 3) := by decide +kernel
theorem dX7_step_125 : decode cX7_step 125 = .ok (.getfield 128, 3) := by decide +kernel
theorem dX7_step_128 : decode cX7_step 128 = .ok (.ireturn, 1) := by decide +kernel
def bs_X7_slew : List (List Cond) := [[.code yX7_slew cX7_slew 3 (some .int)], wsX7_slew_r1, wsX7_slew_r2, wsX7_slew_r3, wsX7_slew_r4, wsX7_slew_r5, wsX7_slew_r6, wsX7_slew_r7, wsX70, wsX60, wsX40, wsX30, wsX00, wsX50, wsX10, (vx_atS RX7 180 "java/lang/IllegalStateException" ["java/lang/RuntimeException", "java/lang/Exception"]).filter goodWord, (vx_atS RX7 289 "java/lang/IndexOutOfBoundsException" ["java/lang/RuntimeException", "java/lang/Exception"]).filter goodWord]
theorem bi_X7_slew : ∀ w ∈ bs_X7_slew.flatten, w ∈ wsX7_slew := by
  have h : bs_X7_slew.flatten = wsX7_slew := by simp only [bs_X7_slew, wsX7_slew, List.flatten_cons, List.flatten_nil, List.append_assoc, List.append_nil, List.nil_append, List.cons_append]
  intro w hw; rw [h] at hw; exact hw
set_option maxRecDepth 20000 in
theorem ggX7_slew_X7_requireCell : GoodIn wsX7_slew wsX7_requireCell := goodIn_ca (goodIn_bb bs_X7_slew bi_X7_slew _ [(1, 9), (1, 10), (1, 11)] rfl (by decide +kernel)) (goodIn_sub (fun _ h => List.mem_cons_of_mem _ (List.mem_append_right _ h)) (by decide +kernel))
set_option maxRecDepth 20000 in
theorem gX7_slew_X7_requireCell : GoodIn wsX7_slew (va_wsS RX7 64 yX7_requireCell wsX7_requireCell) := goodIn_app (goodIn_bb bs_X7_slew bi_X7_slew _ [(1, 6), (1, 7), (1, 8)] rfl (by decide +kernel)) ggX7_slew_X7_requireCell
set_option maxRecDepth 20000 in
theorem ggX7_slew_X7_requireOpen : GoodIn wsX7_slew wsX7_requireOpen := goodIn_ca (goodIn_bb bs_X7_slew bi_X7_slew _ [(1, 15), (1, 0), (1, 1), (1, 2), (1, 16), (8, 0), (8, 1), (8, 2), (8, 3), (8, 4), (8, 5), (8, 6), (8, 7), (9, 0), (9, 1), (9, 2), (9, 3), (9, 4), (9, 5)] rfl (by decide +kernel)) (goodIn_sub (fun _ h => List.mem_cons_of_mem _ (List.mem_append_left _ (List.mem_append_right _ h))) (by decide +kernel))
set_option maxRecDepth 20000 in
theorem gX7_slew_X7_requireOpen : GoodIn wsX7_slew (wsV RX7 173 RX7 yX7_requireOpen wsX7_requireOpen) := goodIn_app (goodIn_bb bs_X7_slew bi_X7_slew _ [(1, 12), (1, 13), (1, 14), (1, 8)] rfl (by decide +kernel)) ggX7_slew_X7_requireOpen
set_option maxRecDepth 20000 in
theorem ggX7_slew_X7_presentPlans : GoodIn wsX7_slew wsX7_presentPlans := goodIn_bb bs_X7_slew bi_X7_slew _ [(1, 20), (1, 21), (1, 2), (1, 22), (1, 5), (1, 3), (1, 23), (2, 0), (2, 1), (2, 2), (2, 3), (2, 4), (2, 5), (2, 6), (2, 7), (2, 8), (2, 9), (2, 10), (2, 11), (2, 12), (2, 13), (2, 14), (2, 15), (2, 16), (2, 17), (2, 18), (2, 19), (2, 20), (2, 21), (2, 22), (2, 23), (3, 0), (3, 1), (3, 2), (3, 3), (3, 4), (3, 5), (3, 6), (3, 7), (3, 8), (3, 9), (3, 10), (3, 11), (3, 12), (3, 13), (3, 14), (3, 15), (3, 16), (3, 17), (3, 18), (8, 0), (8, 1), (8, 2), (8, 3), (8, 4), (8, 5), (8, 6), (8, 7), (9, 0), (9, 1), (9, 2), (9, 3), (9, 4), (9, 5), (10, 0), (10, 1), (10, 2), (10, 3), (10, 4), (10, 5), (10, 6), (10, 7), (11, 0), (11, 1), (11, 2), (11, 3), (11, 4), (11, 5), (11, 6), (11, 7), (12, 0)] rfl (by decide +kernel)
set_option maxRecDepth 20000 in
theorem gX7_slew_X7_presentPlans : GoodIn wsX7_slew (wsV RX7 186 RX7 yX7_presentPlans wsX7_presentPlans) := goodIn_app (goodIn_bb bs_X7_slew bi_X7_slew _ [(1, 17), (1, 18), (1, 19), (1, 8)] rfl (by decide +kernel)) ggX7_slew_X7_presentPlans
set_option maxRecDepth 20000 in
theorem ggX7_slew_X3_stepsTo : GoodIn wsX7_slew wsX3_stepsTo := goodIn_bb bs_X7_slew bi_X7_slew _ [(3, 22), (3, 3), (3, 23), (4, 0), (4, 1), (2, 23), (4, 2), (3, 4), (4, 3), (4, 4), (4, 5), (3, 2), (4, 6), (4, 7), (4, 8), (4, 9), (3, 8), (4, 10), (4, 11), (3, 6), (3, 7), (3, 9), (3, 10), (3, 11), (3, 12), (3, 13), (3, 14), (4, 12), (4, 13), (4, 14), (4, 15), (4, 16), (4, 17), (4, 18), (4, 19), (4, 20), (4, 21), (4, 22), (2, 2), (4, 23), (2, 5), (5, 0), (5, 1), (5, 2), (5, 3), (5, 4), (5, 5), (2, 4), (5, 6), (5, 7), (5, 8), (5, 9), (5, 10), (5, 11), (5, 12), (2, 9), (5, 13), (2, 11), (5, 14), (5, 15), (5, 16), (5, 17), (5, 18), (5, 19), (5, 20), (5, 21), (5, 22), (5, 23), (6, 0), (6, 1), (6, 2), (6, 3), (6, 4), (6, 5), (6, 6), (6, 7), (6, 8), (6, 9), (6, 10), (6, 11), (3, 16), (3, 17), (3, 18), (6, 12), (6, 13), (6, 14), (6, 15), (6, 16), (6, 17), (6, 18), (6, 19), (6, 20), (11, 0), (11, 1), (11, 2), (11, 3), (11, 4), (11, 5), (11, 6), (11, 7), (13, 0), (13, 1), (13, 2), (13, 3), (10, 0), (10, 1), (10, 2), (10, 3), (10, 4), (10, 5), (10, 6), (10, 7), (12, 0), (9, 0), (9, 1), (9, 2), (9, 3), (9, 4), (9, 5)] rfl (by decide +kernel)
set_option maxRecDepth 20000 in
theorem gX7_slew_X3_stepsTo : GoodIn wsX7_slew (wsV RX7 190 RX3 yX3_stepsTo wsX3_stepsTo) := goodIn_app (goodIn_bb bs_X7_slew bi_X7_slew _ [(3, 19), (3, 20), (3, 21), (2, 23)] rfl (by decide +kernel)) ggX7_slew_X3_stepsTo
set_option maxRecDepth 20000 in
theorem ggX7_slew_X1_remember : GoodIn wsX7_slew wsX1_remember := goodIn_bb bs_X7_slew bi_X7_slew _ [(7, 1), (7, 2), (7, 3), (7, 4), (7, 5), (7, 6), (2, 9), (7, 7), (7, 8), (7, 9), (7, 10), (7, 11), (7, 12), (7, 13), (2, 11), (7, 14), (7, 15), (7, 16), (7, 17), (7, 18), (7, 19), (7, 20), (7, 21), (7, 22), (2, 16), (2, 17), (2, 18), (2, 19), (7, 23), (2, 13), (2, 14), (2, 15), (14, 0), (14, 1), (14, 2), (9, 0), (9, 1), (9, 2), (9, 3), (9, 4), (9, 5)] rfl (by decide +kernel)
set_option maxRecDepth 20000 in
theorem gX7_slew_X1_remember : GoodIn wsX7_slew (wsV RX7 183 RX1 yX1_remember wsX1_remember) := goodIn_app (goodIn_bb bs_X7_slew bi_X7_slew _ [(6, 21), (6, 22), (6, 23), (7, 0)] rfl (by decide +kernel)) ggX7_slew_X1_remember
theorem dX7_slew_0 : decode cX7_slew 0 = .ok (.iload_n 1, 1) := by decide +kernel
theorem dX7_slew_1 : decode cX7_slew 1 = .ok (.invokestatic 64, 3) := by decide +kernel
theorem dX7_slew_4 : decode cX7_slew 4 = .ok (.aload_n 0, 1) := by decide +kernel
theorem dX7_slew_5 : decode cX7_slew 5 = .ok (.invokevirtual 173, 3) := by decide +kernel
theorem dX7_slew_8 : decode cX7_slew 8 = .ok (.aload_n 0, 1) := by decide +kernel
theorem dX7_slew_9 : decode cX7_slew 9 = .ok (.invokevirtual 186, 3) := by decide +kernel
theorem dX7_slew_12 : decode cX7_slew 12 = .ok (.iload_n 1, 1) := by decide +kernel
theorem dX7_slew_13 : decode cX7_slew 13 = .ok (.invokevirtual 190, 3) := by decide +kernel
theorem dX7_slew_16 : decode cX7_slew 16 = .ok (.istore_n 2, 1) := by decide +kernel
theorem dX7_slew_17 : decode cX7_slew 17 = .ok (.iload_n 2, 1) := by decide +kernel
theorem dX7_slew_18 : decode cX7_slew 18 = .ok (.bipush (-9), 2) := by decide +kernel
theorem dX7_slew_20 : decode cX7_slew 20 = .ok (.if_icmp .ne 13, 3) := by decide +kernel
theorem dX7_slew_23 : decode cX7_slew 23 = .ok (.new 176, 3) := by decide +kernel
theorem dX7_slew_26 : decode cX7_slew 26 = .ok (.dup, 1) := by decide +kernel
theorem dX7_slew_27 : decode cX7_slew 27 = .ok (.ldc 193, 2) := by decide +kernel
theorem dX7_slew_29 : decode cX7_slew 29 = .ok (.invokespecial 180, 3) := by decide +kernel
theorem dX7_slew_32 : decode cX7_slew 32 = .ok (.athrow, 1) := by decide +kernel
theorem dX7_slew_33 : decode cX7_slew 33 = .ok (.aload_n 0, 1) := by decide +kernel
theorem dX7_slew_34 : decode cX7_slew 34 = .ok (.getfield 19, 3) := by decide +kernel
theorem dX7_slew_37 : decode cX7_slew 37 = .ok (.getfield 128, 3) := by decide +kernel
theorem dX7_slew_40 : decode cX7_slew 40 = .ok (.iload_n 2, 1) := by decide +kernel
theorem dX7_slew_41 : decode cX7_slew 41 = .ok (.iadd, 1) := by decide +kernel
theorem dX7_slew_42 : decode cX7_slew 42 = .ok (.sipush 200, 3) := by decide +kernel
theorem dX7_slew_45 : decode cX7_slew 45 = .ok (.if_icmp .le 13, 3) := by decide +kernel
theorem dX7_slew_48 : decode cX7_slew 48 = .ok (.new 176, 3) := by decide +kernel
theorem dX7_slew_51 : decode cX7_slew 51 = .ok (.dup, 1) := by decide +kernel
theorem dX7_slew_52 : decode cX7_slew 52 = .ok (.ldc 195, 2) := by decide +kernel
theorem dX7_slew_54 : decode cX7_slew 54 = .ok (.invokespecial 180, 3) := by decide +kernel
theorem dX7_slew_57 : decode cX7_slew 57 = .ok (.athrow, 1) := by decide +kernel
theorem dX7_slew_58 : decode cX7_slew 58 = .ok (.aload_n 0, 1) := by decide +kernel
theorem dX7_slew_59 : decode cX7_slew 59 = .ok (.getfield 29, 3) := by decide +kernel
theorem dX7_slew_62 : decode cX7_slew 62 = .ok (.aload_n 0, 1) := by decide +kernel
theorem dX7_slew_63 : decode cX7_slew 63 = .ok (.getfield 19, 3) := by decide +kernel
theorem dX7_slew_66 : decode cX7_slew 66 = .ok (.invokevirtual 183, 3) := by decide +kernel
theorem dX7_slew_69 : decode cX7_slew 69 = .ok (.aload_n 0, 1) := by decide +kernel
theorem dX7_slew_70 : decode cX7_slew 70 = .ok (.getfield 19, 3) := by decide +kernel
theorem dX7_slew_73 : decode cX7_slew 73 = .ok (.dup, 1) := by decide +kernel
theorem dX7_slew_74 : decode cX7_slew 74 = .ok (.getfield 128, 3) := by decide +kernel
theorem dX7_slew_77 : decode cX7_slew 77 = .ok (.iload_n 2, 1) := by decide +kernel
theorem dX7_slew_78 : decode cX7_slew 78 = .ok (.iadd, 1) := by decide +kernel
theorem dX7_slew_79 : decode cX7_slew 79 = .ok (.putfield 128, 3) := by decide +kernel
theorem dX7_slew_82 : decode cX7_slew 82 = .ok (.aload_n 0, 1) := by decide +kernel
theorem dX7_slew_83 : decode cX7_slew 83 = .ok (.getfield 19, 3) := by decide +kernel
theorem dX7_slew_86 : decode cX7_slew 86 = .ok (.iload_n 1, 1) := by decide +kernel
theorem dX7_slew_87 : decode cX7_slew 87 = .ok (.putfield 132, 3) := by decide +kernel
theorem dX7_slew_90 : decode cX7_slew 90 = .ok (.iload_n 2, 1) := by decide +kernel
theorem dX7_slew_91 : decode cX7_slew 91 = .ok (.ireturn, 1) := by decide +kernel
def bs_X7_close : List (List Cond) := [[.code yX7_close cX7_close 1 (some .int)], wsX7_close_r1, wsX7_close_r2, wsX70, wsX60, wsX10, (vx_atS RX7 180 "java/lang/IllegalStateException" ["java/lang/RuntimeException", "java/lang/Exception"]).filter goodWord]
theorem bi_X7_close : ∀ w ∈ bs_X7_close.flatten, w ∈ wsX7_close := by
  have h : bs_X7_close.flatten = wsX7_close := by simp only [bs_X7_close, wsX7_close, List.flatten_cons, List.flatten_nil, List.append_assoc, List.append_nil, List.nil_append, List.cons_append]
  intro w hw; rw [h] at hw; exact hw
set_option maxRecDepth 20000 in
theorem ggX7_close_X7_requireOpen : GoodIn wsX7_close wsX7_requireOpen := goodIn_ca (goodIn_bb bs_X7_close bi_X7_close _ [(1, 8), (1, 9), (1, 10), (1, 1), (1, 2), (3, 0), (3, 1), (3, 2), (3, 3), (3, 4), (3, 5), (3, 6), (3, 7), (4, 0), (4, 1), (4, 2), (4, 3), (4, 4), (4, 5)] rfl (by decide +kernel)) (goodIn_sub (fun _ h => List.mem_cons_of_mem _ (List.mem_append_right _ h)) (by decide +kernel))
set_option maxRecDepth 20000 in
theorem gX7_close_X7_requireOpen : GoodIn wsX7_close (wsV RX7 173 RX7 yX7_requireOpen wsX7_requireOpen) := goodIn_app (goodIn_bb bs_X7_close bi_X7_close _ [(1, 4), (1, 5), (1, 6), (1, 7)] rfl (by decide +kernel)) ggX7_close_X7_requireOpen
set_option maxRecDepth 20000 in
theorem ggX7_close_X1_remember : GoodIn wsX7_close wsX1_remember := goodIn_bb bs_X7_close bi_X7_close _ [(1, 15), (1, 16), (1, 17), (1, 18), (1, 19), (1, 20), (1, 21), (1, 22), (1, 23), (2, 0), (2, 1), (2, 2), (2, 3), (2, 4), (2, 5), (2, 6), (2, 7), (2, 8), (2, 9), (2, 10), (2, 11), (2, 12), (2, 13), (2, 14), (2, 15), (2, 16), (2, 17), (2, 18), (2, 19), (2, 20), (2, 21), (2, 22), (5, 0), (5, 1), (5, 2), (4, 0), (4, 1), (4, 2), (4, 3), (4, 4), (4, 5)] rfl (by decide +kernel)
set_option maxRecDepth 20000 in
theorem gX7_close_X1_remember : GoodIn wsX7_close (wsV RX7 183 RX1 yX1_remember wsX1_remember) := goodIn_app (goodIn_bb bs_X7_close bi_X7_close _ [(1, 11), (1, 12), (1, 13), (1, 14)] rfl (by decide +kernel)) ggX7_close_X1_remember
theorem dX7_close_0 : decode cX7_close 0 = .ok (.aload_n 0, 1) := by decide +kernel
theorem dX7_close_1 : decode cX7_close 1 = .ok (.invokevirtual 173, 3) := by decide +kernel
theorem dX7_close_4 : decode cX7_close 4 = .ok (.aload_n 0, 1) := by decide +kernel
theorem dX7_close_5 : decode cX7_close 5 = .ok (.getfield 29, 3) := by decide +kernel
theorem dX7_close_8 : decode cX7_close 8 = .ok (.aload_n 0, 1) := by decide +kernel
theorem dX7_close_9 : decode cX7_close 9 = .ok (.getfield 19, 3) := by decide +kernel
theorem dX7_close_12 : decode cX7_close 12 = .ok (.invokevirtual 183, 3) := by decide +kernel
theorem dX7_close_15 : decode cX7_close 15 = .ok (.aload_n 0, 1) := by decide +kernel
theorem dX7_close_16 : decode cX7_close 16 = .ok (.getfield 19, 3) := by decide +kernel
theorem dX7_close_19 : decode cX7_close 19 = .ok (.iconst 1, 1) := by decide +kernel
theorem dX7_close_20 : decode cX7_close 20 = .ok (.putfield 135, 3) := by decide +kernel
theorem dX7_close_23 : decode cX7_close 23 = .ok (.aload_n 0, 1) := by decide +kernel
theorem dX7_close_24 : decode cX7_close 24 = .ok (.getfield 19, 3) := by decide +kernel
theorem dX7_close_27 : decode cX7_close 27 = .ok (.getfield 128, 3) := by decide +kernel
theorem dX7_close_30 : decode cX7_close 30 = .ok (.ireturn, 1) := by decide +kernel
def bs_X7_open : List (List Cond) := [[.code yX7_open cX7_open 1 (some .int)], wsX7_open_r1, wsX7_open_r2, wsX7_open_r3, wsX7_open_r4, wsX7_open_r5, wsX70, wsX60, wsX40, wsX00, wsX50, wsX10, (vx_atS RX7 180 "java/lang/IllegalStateException" ["java/lang/RuntimeException", "java/lang/Exception"]).filter goodWord]
theorem bi_X7_open : ∀ w ∈ bs_X7_open.flatten, w ∈ wsX7_open := by
  have h : bs_X7_open.flatten = wsX7_open := by simp only [bs_X7_open, wsX7_open, List.flatten_cons, List.flatten_nil, List.append_assoc, List.append_nil, List.nil_append, List.cons_append]
  intro w hw; rw [h] at hw; exact hw
set_option maxRecDepth 20000 in
theorem ggX7_open_X7_requireShut : GoodIn wsX7_open wsX7_requireShut := goodIn_ca (goodIn_bb bs_X7_open bi_X7_open _ [(1, 11), (1, 0), (1, 1), (1, 2), (1, 6), (6, 0), (6, 1), (6, 2), (6, 3), (6, 4), (6, 5), (6, 6), (6, 7), (7, 0), (7, 1), (7, 2), (7, 3), (7, 4), (7, 5)] rfl (by decide +kernel)) (goodIn_sub (fun _ h => List.mem_cons_of_mem _ (List.mem_append_right _ h)) (by decide +kernel))
set_option maxRecDepth 20000 in
theorem gX7_open_X7_requireShut : GoodIn wsX7_open (wsV RX7 197 RX7 yX7_requireShut wsX7_requireShut) := goodIn_app (goodIn_bb bs_X7_open bi_X7_open _ [(1, 7), (1, 8), (1, 9), (1, 10)] rfl (by decide +kernel)) ggX7_open_X7_requireShut
set_option maxRecDepth 20000 in
theorem ggX7_open_X7_presentSky : GoodIn wsX7_open wsX7_presentSky := goodIn_bb bs_X7_open bi_X7_open _ [(1, 15), (1, 16), (1, 2), (1, 17), (1, 18), (1, 19), (1, 20), (1, 21), (1, 22), (1, 23), (2, 0), (2, 1), (2, 2), (2, 3), (2, 4), (2, 5), (2, 6), (2, 7), (2, 8), (2, 9), (2, 10), (2, 11), (2, 12), (2, 13), (6, 0), (6, 1), (6, 2), (6, 3), (6, 4), (6, 5), (6, 6), (6, 7), (8, 0), (8, 1), (8, 2), (8, 3), (8, 4), (8, 5), (8, 6), (8, 7), (7, 0), (7, 1), (7, 2), (7, 3), (7, 4), (7, 5)] rfl (by decide +kernel)
set_option maxRecDepth 20000 in
theorem gX7_open_X7_presentSky : GoodIn wsX7_open (wsV RX7 114 RX7 yX7_presentSky wsX7_presentSky) := goodIn_app (goodIn_bb bs_X7_open bi_X7_open _ [(1, 12), (1, 13), (1, 14), (1, 10)] rfl (by decide +kernel)) ggX7_open_X7_presentSky
set_option maxRecDepth 20000 in
theorem ggX7_open_X4_isLit : GoodIn wsX7_open wsX4_isLit := goodIn_bb bs_X7_open bi_X7_open _ [(2, 17), (1, 23), (2, 18), (2, 19), (2, 20), (2, 21), (2, 22), (2, 23), (3, 0), (3, 1), (3, 2), (3, 3), (3, 4), (3, 5), (3, 6), (3, 7), (1, 20), (3, 8), (1, 22), (3, 9), (3, 10), (3, 11), (3, 12), (3, 13), (3, 14), (3, 15), (2, 3), (3, 16), (2, 5), (3, 17), (3, 18), (3, 19), (3, 20), (3, 21), (3, 22), (3, 23), (4, 0), (4, 1), (4, 2), (4, 3), (4, 4), (4, 5), (4, 6), (4, 7), (4, 8), (4, 9), (4, 10), (4, 11), (4, 12), (4, 13), (8, 0), (8, 1), (8, 2), (8, 3), (8, 4), (8, 5), (8, 6), (8, 7), (9, 0), (7, 0), (7, 1), (7, 2), (7, 3), (7, 4), (7, 5), (10, 0), (10, 1), (10, 2), (10, 3)] rfl (by decide +kernel)
set_option maxRecDepth 20000 in
theorem gX7_open_X4_isLit : GoodIn wsX7_open (wsV RX7 118 RX4 yX4_isLit wsX4_isLit) := goodIn_app (goodIn_bb bs_X7_open bi_X7_open _ [(2, 14), (2, 15), (2, 16), (1, 20)] rfl (by decide +kernel)) ggX7_open_X4_isLit
set_option maxRecDepth 20000 in
theorem ggX7_open_X1_remember : GoodIn wsX7_open wsX1_remember := goodIn_bb bs_X7_open bi_X7_open _ [(4, 18), (4, 19), (4, 20), (4, 21), (4, 22), (4, 23), (2, 3), (5, 0), (5, 1), (5, 2), (5, 3), (5, 4), (5, 5), (5, 6), (2, 5), (5, 7), (5, 8), (5, 9), (5, 10), (5, 11), (5, 12), (5, 13), (5, 14), (5, 15), (2, 10), (2, 11), (2, 12), (2, 13), (5, 16), (2, 7), (2, 8), (2, 9), (11, 0), (11, 1), (11, 2), (7, 0), (7, 1), (7, 2), (7, 3), (7, 4), (7, 5)] rfl (by decide +kernel)
set_option maxRecDepth 20000 in
theorem gX7_open_X1_remember : GoodIn wsX7_open (wsV RX7 183 RX1 yX1_remember wsX1_remember) := goodIn_app (goodIn_bb bs_X7_open bi_X7_open _ [(4, 14), (4, 15), (4, 16), (4, 17)] rfl (by decide +kernel)) ggX7_open_X1_remember
theorem dX7_open_0 : decode cX7_open 0 = .ok (.aload_n 0, 1) := by decide +kernel
theorem dX7_open_1 : decode cX7_open 1 = .ok (.invokevirtual 197, 3) := by decide +kernel
theorem dX7_open_4 : decode cX7_open 4 = .ok (.aload_n 0, 1) := by decide +kernel
theorem dX7_open_5 : decode cX7_open 5 = .ok (.invokevirtual 114, 3) := by decide +kernel
theorem dX7_open_8 : decode cX7_open 8 = .ok (.aload_n 0, 1) := by decide +kernel
theorem dX7_open_9 : decode cX7_open 9 = .ok (.getfield 19, 3) := by decide +kernel
theorem dX7_open_12 : decode cX7_open 12 = .ok (.getfield 132, 3) := by decide +kernel
theorem dX7_open_15 : decode cX7_open 15 = .ok (.aload_n 0, 1) := by decide +kernel
theorem dX7_open_16 : decode cX7_open 16 = .ok (.getfield 19, 3) := by decide +kernel
theorem dX7_open_19 : decode cX7_open 19 = .ok (.getfield 128, 3) := by decide +kernel
theorem dX7_open_22 : decode cX7_open 22 = .ok (.invokevirtual 118, 3) := by decide +kernel
theorem dX7_open_25 : decode cX7_open 25 = .ok (.ifCond .eq 13, 3) := by decide +kernel
theorem dX7_open_28 : decode cX7_open 28 = .ok (.new 176, 3) := by decide +kernel
theorem dX7_open_31 : decode cX7_open 31 = .ok (.dup, 1) := by decide +kernel
theorem dX7_open_32 : decode cX7_open 32 = .ok (.ldc 200, 2) := by decide +kernel
theorem dX7_open_34 : decode cX7_open 34 = .ok (.invokespecial 180, 3) := by decide +kernel
theorem dX7_open_37 : decode cX7_open 37 = .ok (.athrow, 1) := by decide +kernel
theorem dX7_open_38 : decode cX7_open 38 = .ok (.aload_n 0, 1) := by decide +kernel
theorem dX7_open_39 : decode cX7_open 39 = .ok (.getfield 29, 3) := by decide +kernel
theorem dX7_open_42 : decode cX7_open 42 = .ok (.aload_n 0, 1) := by decide +kernel
theorem dX7_open_43 : decode cX7_open 43 = .ok (.getfield 19, 3) := by decide +kernel
theorem dX7_open_46 : decode cX7_open 46 = .ok (.invokevirtual 183, 3) := by decide +kernel
theorem dX7_open_49 : decode cX7_open 49 = .ok (.aload_n 0, 1) := by decide +kernel
theorem dX7_open_50 : decode cX7_open 50 = .ok (.getfield 19, 3) := by decide +kernel
theorem dX7_open_53 : decode cX7_open 53 = .ok (.iconst 0, 1) := by decide +kernel
theorem dX7_open_54 : decode cX7_open 54 = .ok (.putfield 135, 3) := by decide +kernel
theorem dX7_open_57 : decode cX7_open 57 = .ok (.aload_n 0, 1) := by decide +kernel
theorem dX7_open_58 : decode cX7_open 58 = .ok (.getfield 19, 3) := by decide +kernel
theorem dX7_open_61 : decode cX7_open 61 = .ok (.getfield 128, 3) := by decide +kernel
theorem dX7_open_64 : decode cX7_open 64 = .ok (.ireturn, 1) := by decide +kernel
def bs_X7_pass : List (List Cond) := [[.code yX7_pass cX7_pass 2 (some .int)], wsX7_pass_r1, wsX7_pass_r2, wsX7_pass_r3, wsX70, wsX60, wsX10, (vx_atS RX7 180 "java/lang/IllegalStateException" ["java/lang/RuntimeException", "java/lang/Exception"]).filter goodWord, (vx_atS RX7 150 "java/lang/IllegalArgumentException" ["java/lang/RuntimeException", "java/lang/Exception"]).filter goodWord]
theorem bi_X7_pass : ∀ w ∈ bs_X7_pass.flatten, w ∈ wsX7_pass := by
  have h : bs_X7_pass.flatten = wsX7_pass := by simp only [bs_X7_pass, wsX7_pass, List.flatten_cons, List.flatten_nil, List.append_assoc, List.append_nil, List.nil_append, List.cons_append]
  intro w hw; rw [h] at hw; exact hw
set_option maxRecDepth 20000 in
theorem ggX7_pass_X7_requireRange : GoodIn wsX7_pass wsX7_requireRange := goodIn_ca (goodIn_bb bs_X7_pass bi_X7_pass _ [(1, 8), (1, 9), (1, 10)] rfl (by decide +kernel)) (goodIn_sub (fun _ h => List.mem_cons_of_mem _ (List.mem_append_right _ h)) (by decide +kernel))
set_option maxRecDepth 20000 in
theorem gX7_pass_X7_requireRange : GoodIn wsX7_pass (va_wsS RX7 79 yX7_requireRange wsX7_requireRange) := goodIn_app (goodIn_bb bs_X7_pass bi_X7_pass _ [(1, 5), (1, 6), (1, 7)] rfl (by decide +kernel)) ggX7_pass_X7_requireRange
set_option maxRecDepth 20000 in
theorem ggX7_pass_X7_requireShut : GoodIn wsX7_pass wsX7_requireShut := goodIn_ca (goodIn_bb bs_X7_pass bi_X7_pass _ [(1, 14), (1, 0), (1, 1), (1, 2), (1, 15), (4, 0), (4, 1), (4, 2), (4, 3), (4, 4), (4, 5), (4, 6), (4, 7), (5, 0), (5, 1), (5, 2), (5, 3), (5, 4), (5, 5)] rfl (by decide +kernel)) (goodIn_sub (fun _ h => List.mem_cons_of_mem _ (List.mem_append_left _ (List.mem_append_right _ h))) (by decide +kernel))
set_option maxRecDepth 20000 in
theorem gX7_pass_X7_requireShut : GoodIn wsX7_pass (wsV RX7 197 RX7 yX7_requireShut wsX7_requireShut) := goodIn_app (goodIn_bb bs_X7_pass bi_X7_pass _ [(1, 11), (1, 12), (1, 13), (1, 7)] rfl (by decide +kernel)) ggX7_pass_X7_requireShut
set_option maxRecDepth 20000 in
theorem ggX7_pass_X1_remember : GoodIn wsX7_pass wsX1_remember := goodIn_bb bs_X7_pass bi_X7_pass _ [(1, 20), (1, 21), (1, 22), (1, 23), (2, 0), (2, 1), (2, 2), (2, 3), (2, 4), (2, 5), (2, 6), (2, 7), (2, 8), (2, 9), (2, 10), (2, 11), (2, 12), (2, 13), (2, 14), (2, 15), (2, 16), (2, 17), (2, 18), (2, 19), (2, 20), (2, 21), (2, 22), (2, 23), (3, 0), (3, 1), (3, 2), (3, 3), (6, 0), (6, 1), (6, 2), (5, 0), (5, 1), (5, 2), (5, 3), (5, 4), (5, 5)] rfl (by decide +kernel)
set_option maxRecDepth 20000 in
theorem gX7_pass_X1_remember : GoodIn wsX7_pass (wsV RX7 183 RX1 yX1_remember wsX1_remember) := goodIn_app (goodIn_bb bs_X7_pass bi_X7_pass _ [(1, 16), (1, 17), (1, 18), (1, 19)] rfl (by decide +kernel)) ggX7_pass_X1_remember
theorem dX7_pass_0 : decode cX7_pass 0 = .ok (.iload_n 1, 1) := by decide +kernel
theorem dX7_pass_1 : decode cX7_pass 1 = .ok (.iconst 1, 1) := by decide +kernel
theorem dX7_pass_2 : decode cX7_pass 2 = .ok (.bipush 100, 2) := by decide +kernel
theorem dX7_pass_4 : decode cX7_pass 4 = .ok (.invokestatic 79, 3) := by decide +kernel
theorem dX7_pass_7 : decode cX7_pass 7 = .ok (.aload_n 0, 1) := by decide +kernel
theorem dX7_pass_8 : decode cX7_pass 8 = .ok (.invokevirtual 197, 3) := by decide +kernel
theorem dX7_pass_11 : decode cX7_pass 11 = .ok (.aload_n 0, 1) := by decide +kernel
theorem dX7_pass_12 : decode cX7_pass 12 = .ok (.getfield 19, 3) := by decide +kernel
theorem dX7_pass_15 : decode cX7_pass 15 = .ok (.getfield 128, 3) := by decide +kernel
theorem dX7_pass_18 : decode cX7_pass 18 = .ok (.iload_n 1, 1) := by decide +kernel
theorem dX7_pass_19 : decode cX7_pass 19 = .ok (.iadd, 1) := by decide +kernel
theorem dX7_pass_20 : decode cX7_pass 20 = .ok (.sipush 200, 3) := by decide +kernel
theorem dX7_pass_23 : decode cX7_pass 23 = .ok (.if_icmp .le 13, 3) := by decide +kernel
theorem dX7_pass_26 : decode cX7_pass 26 = .ok (.new 176, 3) := by decide +kernel
theorem dX7_pass_29 : decode cX7_pass 29 = .ok (.dup, 1) := by decide +kernel
theorem dX7_pass_30 : decode cX7_pass 30 = .ok (.ldc 195, 2) := by decide +kernel
theorem dX7_pass_32 : decode cX7_pass 32 = .ok (.invokespecial 180, 3) := by decide +kernel
theorem dX7_pass_35 : decode cX7_pass 35 = .ok (.athrow, 1) := by decide +kernel
theorem dX7_pass_36 : decode cX7_pass 36 = .ok (.aload_n 0, 1) := by decide +kernel
theorem dX7_pass_37 : decode cX7_pass 37 = .ok (.getfield 29, 3) := by decide +kernel
theorem dX7_pass_40 : decode cX7_pass 40 = .ok (.aload_n 0, 1) := by decide +kernel
theorem dX7_pass_41 : decode cX7_pass 41 = .ok (.getfield 19, 3) := by decide +kernel
theorem dX7_pass_44 : decode cX7_pass 44 = .ok (.invokevirtual 183, 3) := by decide +kernel
theorem dX7_pass_47 : decode cX7_pass 47 = .ok (.aload_n 0, 1) := by decide +kernel
theorem dX7_pass_48 : decode cX7_pass 48 = .ok (.getfield 19, 3) := by decide +kernel
theorem dX7_pass_51 : decode cX7_pass 51 = .ok (.dup, 1) := by decide +kernel
theorem dX7_pass_52 : decode cX7_pass 52 = .ok (.getfield 128, 3) := by decide +kernel
theorem dX7_pass_55 : decode cX7_pass 55 = .ok (.iload_n 1, 1) := by decide +kernel
theorem dX7_pass_56 : decode cX7_pass 56 = .ok (.iadd, 1) := by decide +kernel
theorem dX7_pass_57 : decode cX7_pass 57 = .ok (.putfield 128, 3) := by decide +kernel
theorem dX7_pass_60 : decode cX7_pass 60 = .ok (.aload_n 0, 1) := by decide +kernel
theorem dX7_pass_61 : decode cX7_pass 61 = .ok (.getfield 19, 3) := by decide +kernel
theorem dX7_pass_64 : decode cX7_pass 64 = .ok (.getfield 128, 3) := by decide +kernel
theorem dX7_pass_67 : decode cX7_pass 67 = .ok (.ireturn, 1) := by decide +kernel
def bs_X7_addRequest : List (List Cond) := [[.code yX7_addRequest cX7_addRequest 4 (some .int)], wsX7_addRequest_r1, wsX7_addRequest_r2, wsX7_addRequest_r3, wsX70, wsX60, wsX10, (vx_atS RX7 180 "java/lang/IllegalStateException" ["java/lang/RuntimeException", "java/lang/Exception"]).filter goodWord, (vx_atS RX7 289 "java/lang/IndexOutOfBoundsException" ["java/lang/RuntimeException", "java/lang/Exception"]).filter goodWord, (vx_atS RX7 150 "java/lang/IllegalArgumentException" ["java/lang/RuntimeException", "java/lang/Exception"]).filter goodWord]
theorem bi_X7_addRequest : ∀ w ∈ bs_X7_addRequest.flatten, w ∈ wsX7_addRequest := by
  have h : bs_X7_addRequest.flatten = wsX7_addRequest := by simp only [bs_X7_addRequest, wsX7_addRequest, List.flatten_cons, List.flatten_nil, List.append_assoc, List.append_nil, List.nil_append, List.cons_append]
  intro w hw; rw [h] at hw; exact hw
set_option maxRecDepth 20000 in
theorem ggX7_addRequest_X7_requireCell : GoodIn wsX7_addRequest wsX7_requireCell := goodIn_ca (goodIn_bb bs_X7_addRequest bi_X7_addRequest _ [(1, 8), (1, 9), (1, 10)] rfl (by decide +kernel)) (goodIn_sub (fun _ h => List.mem_cons_of_mem _ (List.mem_append_left _ (List.mem_append_right _ h))) (by decide +kernel))
set_option maxRecDepth 20000 in
theorem gX7_addRequest_X7_requireCell : GoodIn wsX7_addRequest (va_wsS RX7 64 yX7_requireCell wsX7_requireCell) := goodIn_app (goodIn_bb bs_X7_addRequest bi_X7_addRequest _ [(1, 5), (1, 6), (1, 7)] rfl (by decide +kernel)) ggX7_addRequest_X7_requireCell
set_option maxRecDepth 20000 in
theorem ggX7_addRequest_X7_requireRange : GoodIn wsX7_addRequest wsX7_requireRange := goodIn_ca (goodIn_bb bs_X7_addRequest bi_X7_addRequest _ [(1, 13), (1, 14), (1, 15)] rfl (by decide +kernel)) (goodIn_sub (fun _ h => List.mem_cons_of_mem _ (List.mem_append_right _ h)) (by decide +kernel))
set_option maxRecDepth 20000 in
theorem gX7_addRequest_X7_requireRange : GoodIn wsX7_addRequest (va_wsS RX7 79 yX7_requireRange wsX7_requireRange) := goodIn_app (goodIn_bb bs_X7_addRequest bi_X7_addRequest _ [(1, 11), (1, 12), (1, 7)] rfl (by decide +kernel)) ggX7_addRequest_X7_requireRange
set_option maxRecDepth 20000 in
theorem ggX7_addRequest_X1_remember : GoodIn wsX7_addRequest wsX1_remember := goodIn_bb bs_X7_addRequest bi_X7_addRequest _ [(1, 20), (1, 21), (1, 22), (1, 23), (2, 0), (2, 1), (2, 2), (2, 3), (2, 4), (2, 5), (2, 6), (2, 7), (2, 8), (2, 9), (2, 10), (2, 11), (2, 12), (2, 13), (2, 14), (2, 15), (2, 16), (2, 17), (2, 18), (2, 19), (2, 20), (2, 21), (2, 22), (2, 23), (3, 0), (3, 1), (3, 2), (3, 3), (6, 0), (6, 1), (6, 2), (5, 0), (5, 1), (5, 2), (5, 3), (5, 4), (5, 5)] rfl (by decide +kernel)
set_option maxRecDepth 20000 in
theorem gX7_addRequest_X1_remember : GoodIn wsX7_addRequest (wsV RX7 183 RX1 yX1_remember wsX1_remember) := goodIn_app (goodIn_bb bs_X7_addRequest bi_X7_addRequest _ [(1, 16), (1, 17), (1, 18), (1, 19)] rfl (by decide +kernel)) ggX7_addRequest_X1_remember
set_option maxRecDepth 20000 in
theorem ggX7_addRequest_X6_appendRequest : GoodIn wsX7_addRequest wsX6_appendRequest := goodIn_bb bs_X7_addRequest bi_X7_addRequest _ [(3, 7), (2, 19), (3, 8), (3, 9), (3, 10), (2, 2), (3, 11), (2, 11), (5, 0), (5, 1), (5, 2), (5, 3), (5, 4), (5, 5)] rfl (by decide +kernel)
set_option maxRecDepth 20000 in
theorem gX7_addRequest_X6_appendRequest : GoodIn wsX7_addRequest (wsV RX7 204 RX6 yX6_appendRequest wsX6_appendRequest) := goodIn_app (goodIn_bb bs_X7_addRequest bi_X7_addRequest _ [(3, 4), (3, 5), (3, 6), (2, 2)] rfl (by decide +kernel)) ggX7_addRequest_X6_appendRequest
theorem dX7_addRequest_0 : decode cX7_addRequest 0 = .ok (.iload_n 1, 1) := by decide +kernel
theorem dX7_addRequest_1 : decode cX7_addRequest 1 = .ok (.invokestatic 64, 3) := by decide +kernel
theorem dX7_addRequest_4 : decode cX7_addRequest 4 = .ok (.iload_n 2, 1) := by decide +kernel
theorem dX7_addRequest_5 : decode cX7_addRequest 5 = .ok (.iconst 1, 1) := by decide +kernel
theorem dX7_addRequest_6 : decode cX7_addRequest 6 = .ok (.bipush 20, 2) := by decide +kernel
theorem dX7_addRequest_8 : decode cX7_addRequest 8 = .ok (.invokestatic 79, 3) := by decide +kernel
theorem dX7_addRequest_11 : decode cX7_addRequest 11 = .ok (.iload_n 3, 1) := by decide +kernel
theorem dX7_addRequest_12 : decode cX7_addRequest 12 = .ok (.iconst 1, 1) := by decide +kernel
theorem dX7_addRequest_13 : decode cX7_addRequest 13 = .ok (.bipush 99, 2) := by decide +kernel
theorem dX7_addRequest_15 : decode cX7_addRequest 15 = .ok (.invokestatic 79, 3) := by decide +kernel
theorem dX7_addRequest_18 : decode cX7_addRequest 18 = .ok (.aload_n 0, 1) := by decide +kernel
theorem dX7_addRequest_19 : decode cX7_addRequest 19 = .ok (.getfield 19, 3) := by decide +kernel
theorem dX7_addRequest_22 : decode cX7_addRequest 22 = .ok (.getfield 139, 3) := by decide +kernel
theorem dX7_addRequest_25 : decode cX7_addRequest 25 = .ok (.iconst 4, 1) := by decide +kernel
theorem dX7_addRequest_26 : decode cX7_addRequest 26 = .ok (.if_icmp .lt 13, 3) := by decide +kernel
theorem dX7_addRequest_29 : decode cX7_addRequest 29 = .ok (.new 176, 3) := by decide +kernel
theorem dX7_addRequest_32 : decode cX7_addRequest 32 = .ok (.dup, 1) := by decide +kernel
theorem dX7_addRequest_33 : decode cX7_addRequest 33 = .ok (.ldc 202, 2) := by decide +kernel
theorem dX7_addRequest_35 : decode cX7_addRequest 35 = .ok (.invokespecial 180, 3) := by decide +kernel
theorem dX7_addRequest_38 : decode cX7_addRequest 38 = .ok (.athrow, 1) := by decide +kernel
theorem dX7_addRequest_39 : decode cX7_addRequest 39 = .ok (.aload_n 0, 1) := by decide +kernel
theorem dX7_addRequest_40 : decode cX7_addRequest 40 = .ok (.getfield 29, 3) := by decide +kernel
theorem dX7_addRequest_43 : decode cX7_addRequest 43 = .ok (.aload_n 0, 1) := by decide +kernel
theorem dX7_addRequest_44 : decode cX7_addRequest 44 = .ok (.getfield 19, 3) := by decide +kernel
theorem dX7_addRequest_47 : decode cX7_addRequest 47 = .ok (.invokevirtual 183, 3) := by decide +kernel
theorem dX7_addRequest_50 : decode cX7_addRequest 50 = .ok (.aload_n 0, 1) := by decide +kernel
theorem dX7_addRequest_51 : decode cX7_addRequest 51 = .ok (.getfield 19, 3) := by decide +kernel
theorem dX7_addRequest_54 : decode cX7_addRequest 54 = .ok (.iload_n 1, 1) := by decide +kernel
theorem dX7_addRequest_55 : decode cX7_addRequest 55 = .ok (.iload_n 2, 1) := by decide +kernel
theorem dX7_addRequest_56 : decode cX7_addRequest 56 = .ok (.iload_n 3, 1) := by decide +kernel
theorem dX7_addRequest_57 : decode cX7_addRequest 57 = .ok (.invokevirtual 204, 3) := by decide +kernel
theorem dX7_addRequest_60 : decode cX7_addRequest 60 = .ok (.aload_n 0, 1) := by decide +kernel
theorem dX7_addRequest_61 : decode cX7_addRequest 61 = .ok (.getfield 19, 3) := by decide +kernel
theorem dX7_addRequest_64 : decode cX7_addRequest 64 = .ok (.getfield 139, 3) := by decide +kernel
theorem dX7_addRequest_67 : decode cX7_addRequest 67 = .ok (.iconst 1, 1) := by decide +kernel
theorem dX7_addRequest_68 : decode cX7_addRequest 68 = .ok (.isub, 1) := by decide +kernel
theorem dX7_addRequest_69 : decode cX7_addRequest 69 = .ok (.ireturn, 1) := by decide +kernel
def bs_X7_removeRequest : List (List Cond) := [[.code yX7_removeRequest cX7_removeRequest 2 (some .int)], wsX7_removeRequest_r1, wsX7_removeRequest_r2, wsX7_removeRequest_r3, wsX70, wsX60, wsX10, (vx_atS RX7 289 "java/lang/IndexOutOfBoundsException" ["java/lang/RuntimeException", "java/lang/Exception"]).filter goodWord]
theorem bi_X7_removeRequest : ∀ w ∈ bs_X7_removeRequest.flatten, w ∈ wsX7_removeRequest := by
  have h : bs_X7_removeRequest.flatten = wsX7_removeRequest := by simp only [bs_X7_removeRequest, wsX7_removeRequest, List.flatten_cons, List.flatten_nil, List.append_assoc, List.append_nil, List.nil_append, List.cons_append]
  intro w hw; rw [h] at hw; exact hw
set_option maxRecDepth 20000 in
theorem ggX7_removeRequest_X7_requireRequest : GoodIn wsX7_removeRequest wsX7_requireRequest := goodIn_ca (goodIn_bb bs_X7_removeRequest bi_X7_removeRequest _ [(1, 7), (1, 8), (1, 9), (1, 1), (1, 2), (4, 0), (4, 1), (4, 2), (4, 3), (4, 4), (4, 5), (4, 6), (4, 7), (5, 0), (5, 1), (5, 2), (5, 3), (5, 4), (5, 5)] rfl (by decide +kernel)) (goodIn_sub (fun _ h => List.mem_cons_of_mem _ (List.mem_append_right _ h)) (by decide +kernel))
set_option maxRecDepth 20000 in
theorem gX7_removeRequest_X7_requireRequest : GoodIn wsX7_removeRequest (wsV RX7 207 RX7 yX7_requireRequest wsX7_requireRequest) := goodIn_app (goodIn_bb bs_X7_removeRequest bi_X7_removeRequest _ [(1, 3), (1, 4), (1, 5), (1, 6)] rfl (by decide +kernel)) ggX7_removeRequest_X7_requireRequest
set_option maxRecDepth 20000 in
theorem ggX7_removeRequest_X1_remember : GoodIn wsX7_removeRequest wsX1_remember := goodIn_bb bs_X7_removeRequest bi_X7_removeRequest _ [(1, 14), (1, 15), (1, 16), (1, 17), (1, 18), (1, 19), (1, 20), (1, 21), (1, 22), (1, 23), (2, 0), (2, 1), (2, 2), (2, 3), (2, 4), (2, 5), (2, 6), (2, 7), (2, 8), (2, 9), (2, 10), (2, 11), (2, 12), (2, 13), (2, 14), (2, 15), (2, 16), (2, 17), (2, 18), (2, 19), (2, 20), (2, 21), (6, 0), (6, 1), (6, 2), (5, 0), (5, 1), (5, 2), (5, 3), (5, 4), (5, 5)] rfl (by decide +kernel)
set_option maxRecDepth 20000 in
theorem gX7_removeRequest_X1_remember : GoodIn wsX7_removeRequest (wsV RX7 183 RX1 yX1_remember wsX1_remember) := goodIn_app (goodIn_bb bs_X7_removeRequest bi_X7_removeRequest _ [(1, 10), (1, 11), (1, 12), (1, 13)] rfl (by decide +kernel)) ggX7_removeRequest_X1_remember
set_option maxRecDepth 20000 in
theorem ggX7_removeRequest_X6_dropRequest : GoodIn wsX7_removeRequest wsX6_dropRequest := goodIn_bb bs_X7_removeRequest bi_X7_removeRequest _ [(3, 1), (2, 13), (3, 2), (3, 3), (3, 4), (1, 20), (3, 5), (2, 5), (3, 6), (3, 7), (3, 8), (3, 9), (5, 0), (5, 1), (5, 2), (5, 3), (5, 4), (5, 5)] rfl (by decide +kernel)
set_option maxRecDepth 20000 in
theorem gX7_removeRequest_X6_dropRequest : GoodIn wsX7_removeRequest (wsV RX7 210 RX6 yX6_dropRequest wsX6_dropRequest) := goodIn_app (goodIn_bb bs_X7_removeRequest bi_X7_removeRequest _ [(2, 22), (2, 23), (3, 0), (1, 20)] rfl (by decide +kernel)) ggX7_removeRequest_X6_dropRequest
theorem dX7_removeRequest_0 : decode cX7_removeRequest 0 = .ok (.aload_n 0, 1) := by decide +kernel
theorem dX7_removeRequest_1 : decode cX7_removeRequest 1 = .ok (.iload_n 1, 1) := by decide +kernel
theorem dX7_removeRequest_2 : decode cX7_removeRequest 2 = .ok (.invokevirtual 207, 3) := by decide +kernel
theorem dX7_removeRequest_5 : decode cX7_removeRequest 5 = .ok (.aload_n 0, 1) := by decide +kernel
theorem dX7_removeRequest_6 : decode cX7_removeRequest 6 = .ok (.getfield 29, 3) := by decide +kernel
theorem dX7_removeRequest_9 : decode cX7_removeRequest 9 = .ok (.aload_n 0, 1) := by decide +kernel
theorem dX7_removeRequest_10 : decode cX7_removeRequest 10 = .ok (.getfield 19, 3) := by decide +kernel
theorem dX7_removeRequest_13 : decode cX7_removeRequest 13 = .ok (.invokevirtual 183, 3) := by decide +kernel
theorem dX7_removeRequest_16 : decode cX7_removeRequest 16 = .ok (.aload_n 0, 1) := by decide +kernel
theorem dX7_removeRequest_17 : decode cX7_removeRequest 17 = .ok (.getfield 19, 3) := by decide +kernel
theorem dX7_removeRequest_20 : decode cX7_removeRequest 20 = .ok (.iload_n 1, 1) := by decide +kernel
theorem dX7_removeRequest_21 : decode cX7_removeRequest 21 = .ok (.invokevirtual 210, 3) := by decide +kernel
theorem dX7_removeRequest_24 : decode cX7_removeRequest 24 = .ok (.aload_n 0, 1) := by decide +kernel
theorem dX7_removeRequest_25 : decode cX7_removeRequest 25 = .ok (.getfield 19, 3) := by decide +kernel
theorem dX7_removeRequest_28 : decode cX7_removeRequest 28 = .ok (.getfield 139, 3) := by decide +kernel
theorem dX7_removeRequest_31 : decode cX7_removeRequest 31 = .ok (.ireturn, 1) := by decide +kernel
def bs_X7_undo : List (List Cond) := [[.code yX7_undo cX7_undo 2 (some .int)], wsX7_undo_r1, wsX7_undo_r2, wsX70, wsX10, wsX60, (vx_atS RX7 180 "java/lang/IllegalStateException" ["java/lang/RuntimeException", "java/lang/Exception"]).filter goodWord]
theorem bi_X7_undo : ∀ w ∈ bs_X7_undo.flatten, w ∈ wsX7_undo := by
  have h : bs_X7_undo.flatten = wsX7_undo := by simp only [bs_X7_undo, wsX7_undo, List.flatten_cons, List.flatten_nil, List.append_assoc, List.append_nil, List.nil_append, List.cons_append]
  intro w hw; rw [h] at hw; exact hw
set_option maxRecDepth 20000 in
theorem ggX7_undo_X1_takeLast : GoodIn wsX7_undo wsX1_takeLast := goodIn_bb bs_X7_undo bi_X7_undo _ [(1, 9), (1, 10), (1, 11), (1, 12), (4, 0), (4, 1), (4, 2)] rfl (by decide +kernel)
set_option maxRecDepth 20000 in
theorem gX7_undo_X1_takeLast : GoodIn wsX7_undo (wsV RX7 213 RX1 yX1_takeLast wsX1_takeLast) := goodIn_app (goodIn_bb bs_X7_undo bi_X7_undo _ [(1, 5), (1, 6), (1, 7), (1, 8)] rfl (by decide +kernel)) ggX7_undo_X1_takeLast
set_option maxRecDepth 20000 in
theorem ggX7_undo_X6_copyFrom : GoodIn wsX7_undo wsX6_copyFrom := goodIn_bb bs_X7_undo bi_X7_undo _ [(1, 17), (1, 18), (1, 19), (1, 20), (1, 21), (1, 22), (1, 23), (2, 0), (2, 1), (2, 2), (2, 3), (2, 4), (2, 5), (1, 16), (2, 6), (2, 7), (5, 0), (5, 1), (5, 2), (5, 3), (5, 4), (5, 5)] rfl (by decide +kernel)
set_option maxRecDepth 20000 in
theorem gX7_undo_X6_copyFrom : GoodIn wsX7_undo (wsV RX7 153 RX6 yX6_copyFrom wsX6_copyFrom) := goodIn_app (goodIn_bb bs_X7_undo bi_X7_undo _ [(1, 13), (1, 14), (1, 15), (1, 16)] rfl (by decide +kernel)) ggX7_undo_X6_copyFrom
theorem dX7_undo_0 : decode cX7_undo 0 = .ok (.aload_n 0, 1) := by decide +kernel
theorem dX7_undo_1 : decode cX7_undo 1 = .ok (.getfield 29, 3) := by decide +kernel
theorem dX7_undo_4 : decode cX7_undo 4 = .ok (.invokevirtual 213, 3) := by decide +kernel
theorem dX7_undo_7 : decode cX7_undo 7 = .ok (.astore_n 1, 1) := by decide +kernel
theorem dX7_undo_8 : decode cX7_undo 8 = .ok (.aload_n 1, 1) := by decide +kernel
theorem dX7_undo_9 : decode cX7_undo 9 = .ok (.ifnonnull 13, 3) := by decide +kernel
theorem dX7_undo_12 : decode cX7_undo 12 = .ok (.new 176, 3) := by decide +kernel
theorem dX7_undo_15 : decode cX7_undo 15 = .ok (.dup, 1) := by decide +kernel
theorem dX7_undo_16 : decode cX7_undo 16 = .ok (.ldc 217, 2) := by decide +kernel
theorem dX7_undo_18 : decode cX7_undo 18 = .ok (.invokespecial 180, 3) := by decide +kernel
theorem dX7_undo_21 : decode cX7_undo 21 = .ok (.athrow, 1) := by decide +kernel
theorem dX7_undo_22 : decode cX7_undo 22 = .ok (.aload_n 0, 1) := by decide +kernel
theorem dX7_undo_23 : decode cX7_undo 23 = .ok (.getfield 19, 3) := by decide +kernel
theorem dX7_undo_26 : decode cX7_undo 26 = .ok (.aload_n 1, 1) := by decide +kernel
theorem dX7_undo_27 : decode cX7_undo 27 = .ok (.invokevirtual 153, 3) := by decide +kernel
theorem dX7_undo_30 : decode cX7_undo 30 = .ok (.aload_n 0, 1) := by decide +kernel
theorem dX7_undo_31 : decode cX7_undo 31 = .ok (.getfield 29, 3) := by decide +kernel
theorem dX7_undo_34 : decode cX7_undo 34 = .ok (.getfield 219, 3) := by decide +kernel
theorem dX7_undo_37 : decode cX7_undo 37 = .ok (.ireturn, 1) := by decide +kernel
def bs_X7_arrival : List (List Cond) := [[.code yX7_arrival cX7_arrival 2 (some .int)], wsX7_arrival_r1, wsX7_arrival_r2, wsX7_arrival_r3, wsX7_arrival_r4, wsX7_arrival_r5, wsX7_arrival_r6, wsX70, wsX60, wsX40, wsX30, wsX00, wsX50, (vx_atS RX7 289 "java/lang/IndexOutOfBoundsException" ["java/lang/RuntimeException", "java/lang/Exception"]).filter goodWord, (vx_atS RX7 180 "java/lang/IllegalStateException" ["java/lang/RuntimeException", "java/lang/Exception"]).filter goodWord]
theorem bi_X7_arrival : ∀ w ∈ bs_X7_arrival.flatten, w ∈ wsX7_arrival := by
  have h : bs_X7_arrival.flatten = wsX7_arrival := by simp only [bs_X7_arrival, wsX7_arrival, List.flatten_cons, List.flatten_nil, List.append_assoc, List.append_nil, List.nil_append, List.cons_append]
  intro w hw; rw [h] at hw; exact hw
set_option maxRecDepth 20000 in
theorem ggX7_arrival_X7_requireCell : GoodIn wsX7_arrival wsX7_requireCell := goodIn_ca (goodIn_bb bs_X7_arrival bi_X7_arrival _ [(1, 3), (1, 4), (1, 5)] rfl (by decide +kernel)) (goodIn_sub (fun _ h => List.mem_cons_of_mem _ (List.mem_append_left _ (List.mem_append_right _ h))) (by decide +kernel))
set_option maxRecDepth 20000 in
theorem gX7_arrival_X7_requireCell : GoodIn wsX7_arrival (va_wsS RX7 64 yX7_requireCell wsX7_requireCell) := goodIn_app (goodIn_bb bs_X7_arrival bi_X7_arrival _ [(1, 0), (1, 1), (1, 2)] rfl (by decide +kernel)) ggX7_arrival_X7_requireCell
set_option maxRecDepth 20000 in
theorem ggX7_arrival_X7_requireOpen : GoodIn wsX7_arrival wsX7_requireOpen := goodIn_ca (goodIn_bb bs_X7_arrival bi_X7_arrival _ [(1, 9), (1, 10), (1, 11), (1, 12), (1, 13), (7, 0), (7, 1), (7, 2), (7, 3), (7, 4), (7, 5), (7, 6), (7, 7), (8, 0), (8, 1), (8, 2), (8, 3), (8, 4), (8, 5)] rfl (by decide +kernel)) (goodIn_sub (fun _ h => List.mem_cons_of_mem _ (List.mem_append_right _ h)) (by decide +kernel))
set_option maxRecDepth 20000 in
theorem gX7_arrival_X7_requireOpen : GoodIn wsX7_arrival (wsV RX7 173 RX7 yX7_requireOpen wsX7_requireOpen) := goodIn_app (goodIn_bb bs_X7_arrival bi_X7_arrival _ [(1, 6), (1, 7), (1, 8), (1, 2)] rfl (by decide +kernel)) ggX7_arrival_X7_requireOpen
set_option maxRecDepth 20000 in
theorem ggX7_arrival_X7_presentPlans : GoodIn wsX7_arrival wsX7_presentPlans := goodIn_bb bs_X7_arrival bi_X7_arrival _ [(1, 17), (1, 18), (1, 12), (1, 19), (1, 20), (1, 21), (1, 22), (1, 23), (2, 0), (2, 1), (2, 2), (2, 3), (2, 4), (2, 5), (2, 6), (2, 7), (2, 8), (2, 9), (2, 10), (2, 11), (2, 12), (2, 13), (2, 14), (2, 15), (2, 16), (2, 17), (2, 18), (2, 19), (2, 20), (2, 21), (2, 22), (2, 23), (3, 0), (3, 1), (3, 2), (3, 3), (3, 4), (3, 5), (3, 6), (3, 7), (3, 8), (3, 9), (3, 10), (3, 11), (3, 12), (3, 13), (3, 14), (3, 15), (3, 16), (3, 17), (7, 0), (7, 1), (7, 2), (7, 3), (7, 4), (7, 5), (7, 6), (7, 7), (8, 0), (8, 1), (8, 2), (8, 3), (8, 4), (8, 5), (9, 0), (9, 1), (9, 2), (9, 3), (9, 4), (9, 5), (9, 6), (9, 7), (10, 0), (10, 1), (10, 2), (10, 3), (10, 4), (10, 5), (10, 6), (10, 7), (11, 0)] rfl (by decide +kernel)
set_option maxRecDepth 20000 in
theorem gX7_arrival_X7_presentPlans : GoodIn wsX7_arrival (wsV RX7 186 RX7 yX7_presentPlans wsX7_presentPlans) := goodIn_app (goodIn_bb bs_X7_arrival bi_X7_arrival _ [(1, 14), (1, 15), (1, 16), (1, 2)] rfl (by decide +kernel)) ggX7_arrival_X7_presentPlans
set_option maxRecDepth 20000 in
theorem ggX7_arrival_X3_stepsTo : GoodIn wsX7_arrival wsX3_stepsTo := goodIn_bb bs_X7_arrival bi_X7_arrival _ [(3, 21), (3, 2), (3, 22), (3, 23), (4, 0), (2, 22), (4, 1), (3, 3), (4, 2), (4, 3), (4, 4), (3, 1), (4, 5), (4, 6), (4, 7), (4, 8), (3, 7), (4, 9), (4, 10), (3, 5), (3, 6), (3, 8), (3, 9), (3, 10), (3, 11), (3, 12), (3, 13), (4, 11), (4, 12), (4, 13), (4, 14), (4, 15), (4, 16), (4, 17), (4, 18), (4, 19), (4, 20), (4, 21), (2, 1), (4, 22), (2, 4), (4, 23), (5, 0), (5, 1), (5, 2), (5, 3), (5, 4), (2, 3), (5, 5), (5, 6), (5, 7), (5, 8), (5, 9), (5, 10), (5, 11), (2, 8), (5, 12), (2, 10), (5, 13), (5, 14), (5, 15), (5, 16), (5, 17), (5, 18), (5, 19), (5, 20), (5, 21), (5, 22), (5, 23), (6, 0), (6, 1), (6, 2), (6, 3), (6, 4), (6, 5), (6, 6), (6, 7), (6, 8), (6, 9), (6, 10), (3, 15), (3, 16), (3, 17), (6, 11), (6, 12), (6, 13), (6, 14), (6, 15), (6, 16), (6, 17), (6, 18), (6, 19), (10, 0), (10, 1), (10, 2), (10, 3), (10, 4), (10, 5), (10, 6), (10, 7), (12, 0), (12, 1), (12, 2), (12, 3), (9, 0), (9, 1), (9, 2), (9, 3), (9, 4), (9, 5), (9, 6), (9, 7), (11, 0), (8, 0), (8, 1), (8, 2), (8, 3), (8, 4), (8, 5)] rfl (by decide +kernel)
set_option maxRecDepth 20000 in
theorem gX7_arrival_X3_stepsTo : GoodIn wsX7_arrival (wsV RX7 190 RX3 yX3_stepsTo wsX3_stepsTo) := goodIn_app (goodIn_bb bs_X7_arrival bi_X7_arrival _ [(3, 18), (3, 19), (3, 20), (2, 22)] rfl (by decide +kernel)) ggX7_arrival_X3_stepsTo
theorem dX7_arrival_0 : decode cX7_arrival 0 = .ok (.iload_n 1, 1) := by decide +kernel
theorem dX7_arrival_1 : decode cX7_arrival 1 = .ok (.invokestatic 64, 3) := by decide +kernel
theorem dX7_arrival_4 : decode cX7_arrival 4 = .ok (.aload_n 0, 1) := by decide +kernel
theorem dX7_arrival_5 : decode cX7_arrival 5 = .ok (.invokevirtual 173, 3) := by decide +kernel
theorem dX7_arrival_8 : decode cX7_arrival 8 = .ok (.aload_n 0, 1) := by decide +kernel
theorem dX7_arrival_9 : decode cX7_arrival 9 = .ok (.invokevirtual 186, 3) := by decide +kernel
theorem dX7_arrival_12 : decode cX7_arrival 12 = .ok (.iload_n 1, 1) := by decide +kernel
theorem dX7_arrival_13 : decode cX7_arrival 13 = .ok (.invokevirtual 190, 3) := by decide +kernel
theorem dX7_arrival_16 : decode cX7_arrival 16 = .ok (.ireturn, 1) := by decide +kernel
def bs_X7_planCell : List (List Cond) := [[.code yX7_planCell cX7_planCell 3 (some .int)], wsX7_planCell_r1, wsX7_planCell_r2, wsX7_planCell_r3, wsX7_planCell_r4, wsX7_planCell_r5, wsX7_planCell_r6, wsX7_planCell_r7, wsX70, wsX60, wsX40, wsX30, wsX00, wsX50, (vx_atS RX7 289 "java/lang/IndexOutOfBoundsException" ["java/lang/RuntimeException", "java/lang/Exception"]).filter goodWord, (vx_atS RX7 150 "java/lang/IllegalArgumentException" ["java/lang/RuntimeException", "java/lang/Exception"]).filter goodWord, (vx_atS RX7 180 "java/lang/IllegalStateException" ["java/lang/RuntimeException", "java/lang/Exception"]).filter goodWord]
theorem bi_X7_planCell : ∀ w ∈ bs_X7_planCell.flatten, w ∈ wsX7_planCell := by
  have h : bs_X7_planCell.flatten = wsX7_planCell := by simp only [bs_X7_planCell, wsX7_planCell, List.flatten_cons, List.flatten_nil, List.append_assoc, List.append_nil, List.nil_append, List.cons_append]
  intro w hw; rw [h] at hw; exact hw
set_option maxRecDepth 20000 in
theorem ggX7_planCell_X7_requireCell : GoodIn wsX7_planCell wsX7_requireCell := goodIn_ca (goodIn_bb bs_X7_planCell bi_X7_planCell _ [(1, 3), (1, 4), (1, 5)] rfl (by decide +kernel)) (goodIn_sub (fun _ h => List.mem_cons_of_mem _ (List.mem_append_left _ (List.mem_append_left _ (List.mem_append_right _ h)))) (by decide +kernel))
set_option maxRecDepth 20000 in
theorem gX7_planCell_X7_requireCell : GoodIn wsX7_planCell (va_wsS RX7 64 yX7_requireCell wsX7_requireCell) := goodIn_app (goodIn_bb bs_X7_planCell bi_X7_planCell _ [(1, 0), (1, 1), (1, 2)] rfl (by decide +kernel)) ggX7_planCell_X7_requireCell
set_option maxRecDepth 20000 in
theorem ggX7_planCell_X7_requireRange : GoodIn wsX7_planCell wsX7_requireRange := goodIn_ca (goodIn_bb bs_X7_planCell bi_X7_planCell _ [(1, 8), (1, 9), (1, 10)] rfl (by decide +kernel)) (goodIn_sub (fun _ h => List.mem_cons_of_mem _ (List.mem_append_left _ (List.mem_append_right _ h))) (by decide +kernel))
set_option maxRecDepth 20000 in
theorem gX7_planCell_X7_requireRange : GoodIn wsX7_planCell (va_wsS RX7 79 yX7_requireRange wsX7_requireRange) := goodIn_app (goodIn_bb bs_X7_planCell bi_X7_planCell _ [(1, 6), (1, 7), (1, 2)] rfl (by decide +kernel)) ggX7_planCell_X7_requireRange
set_option maxRecDepth 20000 in
theorem ggX7_planCell_X7_requireOpen : GoodIn wsX7_planCell wsX7_requireOpen := goodIn_ca (goodIn_bb bs_X7_planCell bi_X7_planCell _ [(1, 14), (1, 15), (1, 16), (1, 17), (1, 18), (8, 0), (8, 1), (8, 2), (8, 3), (8, 4), (8, 5), (8, 6), (8, 7), (9, 0), (9, 1), (9, 2), (9, 3), (9, 4), (9, 5)] rfl (by decide +kernel)) (goodIn_sub (fun _ h => List.mem_cons_of_mem _ (List.mem_append_right _ h)) (by decide +kernel))
set_option maxRecDepth 20000 in
theorem gX7_planCell_X7_requireOpen : GoodIn wsX7_planCell (wsV RX7 173 RX7 yX7_requireOpen wsX7_requireOpen) := goodIn_app (goodIn_bb bs_X7_planCell bi_X7_planCell _ [(1, 11), (1, 12), (1, 13), (1, 2)] rfl (by decide +kernel)) ggX7_planCell_X7_requireOpen
set_option maxRecDepth 20000 in
theorem ggX7_planCell_X7_presentPlans : GoodIn wsX7_planCell wsX7_presentPlans := goodIn_bb bs_X7_planCell bi_X7_planCell _ [(1, 22), (1, 23), (1, 17), (2, 0), (2, 1), (2, 2), (2, 3), (2, 4), (2, 5), (2, 6), (2, 7), (2, 8), (2, 9), (2, 10), (2, 11), (2, 12), (2, 13), (2, 14), (2, 15), (2, 16), (2, 17), (2, 18), (2, 19), (2, 20), (2, 21), (2, 22), (2, 23), (3, 0), (3, 1), (3, 2), (3, 3), (3, 4), (3, 5), (3, 6), (3, 7), (3, 8), (3, 9), (3, 10), (3, 11), (3, 12), (3, 13), (3, 14), (3, 15), (3, 16), (3, 17), (3, 18), (3, 19), (3, 20), (3, 21), (3, 22), (8, 0), (8, 1), (8, 2), (8, 3), (8, 4), (8, 5), (8, 6), (8, 7), (9, 0), (9, 1), (9, 2), (9, 3), (9, 4), (9, 5), (10, 0), (10, 1), (10, 2), (10, 3), (10, 4), (10, 5), (10, 6), (10, 7), (11, 0), (11, 1), (11, 2), (11, 3), (11, 4), (11, 5), (11, 6), (11, 7), (12, 0)] rfl (by decide +kernel)
set_option maxRecDepth 20000 in
theorem gX7_planCell_X7_presentPlans : GoodIn wsX7_planCell (wsV RX7 186 RX7 yX7_presentPlans wsX7_presentPlans) := goodIn_app (goodIn_bb bs_X7_planCell bi_X7_planCell _ [(1, 19), (1, 20), (1, 21), (1, 2)] rfl (by decide +kernel)) ggX7_planCell_X7_presentPlans
set_option maxRecDepth 20000 in
theorem ggX7_planCell_X3_bestPlanCell : GoodIn wsX7_planCell wsX3_bestPlanCell := goodIn_bb bs_X7_planCell bi_X7_planCell _ [(4, 2), (3, 5), (4, 3), (4, 4), (4, 5), (4, 6), (4, 7), (4, 8), (4, 9), (3, 3), (4, 10), (3, 7), (4, 11), (4, 12), (4, 13), (4, 14), (3, 8), (4, 15), (3, 6), (4, 16), (4, 17), (4, 18), (4, 19), (3, 12), (4, 20), (4, 21), (3, 10), (3, 11), (3, 13), (3, 14), (3, 15), (3, 16), (3, 17), (3, 18), (4, 22), (4, 23), (5, 0), (5, 1), (5, 2), (5, 3), (5, 4), (5, 5), (5, 6), (5, 7), (5, 8), (2, 6), (5, 9), (2, 9), (5, 10), (5, 11), (5, 12), (5, 13), (5, 14), (5, 15), (2, 8), (5, 16), (5, 17), (5, 18), (5, 19), (5, 20), (5, 21), (5, 22), (2, 13), (5, 23), (2, 15), (6, 0), (6, 1), (6, 2), (6, 3), (6, 4), (6, 5), (6, 6), (6, 7), (6, 8), (6, 9), (6, 10), (6, 11), (6, 12), (6, 13), (6, 14), (6, 15), (6, 16), (6, 17), (6, 18), (6, 19), (6, 20), (6, 21), (3, 20), (3, 21), (3, 22), (6, 22), (6, 23), (7, 0), (7, 1), (7, 2), (7, 3), (7, 4), (7, 5), (7, 6), (7, 7), (7, 8), (7, 9), (7, 10), (3, 9), (3, 19), (7, 11), (7, 12), (7, 13), (7, 14), (7, 15), (7, 16), (7, 17), (7, 18), (7, 19), (7, 20), (11, 0), (11, 1), (11, 2), (11, 3), (11, 4), (11, 5), (11, 6), (11, 7), (13, 0), (13, 1), (13, 2), (13, 3), (10, 0), (10, 1), (10, 2), (10, 3), (10, 4), (10, 5), (10, 6), (10, 7), (12, 0), (9, 0), (9, 1), (9, 2), (9, 3), (9, 4), (9, 5)] rfl (by decide +kernel)
set_option maxRecDepth 20000 in
theorem gX7_planCell_X3_bestPlanCell : GoodIn wsX7_planCell (wsV RX7 222 RX3 yX3_bestPlanCell wsX3_bestPlanCell) := goodIn_app (goodIn_bb bs_X7_planCell bi_X7_planCell _ [(3, 23), (4, 0), (4, 1), (3, 3)] rfl (by decide +kernel)) ggX7_planCell_X3_bestPlanCell
theorem dX7_planCell_0 : decode cX7_planCell 0 = .ok (.iload_n 1, 1) := by decide +kernel
theorem dX7_planCell_1 : decode cX7_planCell 1 = .ok (.invokestatic 64, 3) := by decide +kernel
theorem dX7_planCell_4 : decode cX7_planCell 4 = .ok (.iload_n 2, 1) := by decide +kernel
theorem dX7_planCell_5 : decode cX7_planCell 5 = .ok (.iconst 0, 1) := by decide +kernel
theorem dX7_planCell_6 : decode cX7_planCell 6 = .ok (.bipush 60, 2) := by decide +kernel
theorem dX7_planCell_8 : decode cX7_planCell 8 = .ok (.invokestatic 79, 3) := by decide +kernel
theorem dX7_planCell_11 : decode cX7_planCell 11 = .ok (.aload_n 0, 1) := by decide +kernel
theorem dX7_planCell_12 : decode cX7_planCell 12 = .ok (.invokevirtual 173, 3) := by decide +kernel
theorem dX7_planCell_15 : decode cX7_planCell 15 = .ok (.aload_n 0, 1) := by decide +kernel
theorem dX7_planCell_16 : decode cX7_planCell 16 = .ok (.invokevirtual 186, 3) := by decide +kernel
theorem dX7_planCell_19 : decode cX7_planCell 19 = .ok (.iload_n 1, 1) := by decide +kernel
theorem dX7_planCell_20 : decode cX7_planCell 20 = .ok (.iload_n 2, 1) := by decide +kernel
theorem dX7_planCell_21 : decode cX7_planCell 21 = .ok (.invokevirtual 222, 3) := by decide +kernel
theorem dX7_planCell_24 : decode cX7_planCell 24 = .ok (.ireturn, 1) := by decide +kernel
def bs_X7_reachableCells : List (List Cond) := [[.code yX7_reachableCells cX7_reachableCells 2 (some .int)], wsX7_reachableCells_r1, wsX7_reachableCells_r2, wsX7_reachableCells_r3, wsX7_reachableCells_r4, wsX7_reachableCells_r5, wsX7_reachableCells_r6, wsX7_reachableCells_r7, wsX70, wsX60, wsX40, wsX30, wsX00, wsX50, (vx_atS RX7 150 "java/lang/IllegalArgumentException" ["java/lang/RuntimeException", "java/lang/Exception"]).filter goodWord, (vx_atS RX7 180 "java/lang/IllegalStateException" ["java/lang/RuntimeException", "java/lang/Exception"]).filter goodWord]
theorem bi_X7_reachableCells : ∀ w ∈ bs_X7_reachableCells.flatten, w ∈ wsX7_reachableCells := by
  have h : bs_X7_reachableCells.flatten = wsX7_reachableCells := by simp only [bs_X7_reachableCells, wsX7_reachableCells, List.flatten_cons, List.flatten_nil, List.append_assoc, List.append_nil, List.nil_append, List.cons_append]
  intro w hw; rw [h] at hw; exact hw
set_option maxRecDepth 20000 in
theorem ggX7_reachableCells_X7_requireRange : GoodIn wsX7_reachableCells wsX7_requireRange := goodIn_ca (goodIn_bb bs_X7_reachableCells bi_X7_reachableCells _ [(1, 3), (1, 4), (1, 5)] rfl (by decide +kernel)) (goodIn_sub (fun _ h => List.mem_cons_of_mem _ (List.mem_append_left _ (List.mem_append_right _ h))) (by decide +kernel))
set_option maxRecDepth 20000 in
theorem gX7_reachableCells_X7_requireRange : GoodIn wsX7_reachableCells (va_wsS RX7 79 yX7_requireRange wsX7_requireRange) := goodIn_app (goodIn_bb bs_X7_reachableCells bi_X7_reachableCells _ [(1, 0), (1, 1), (1, 2)] rfl (by decide +kernel)) ggX7_reachableCells_X7_requireRange
set_option maxRecDepth 20000 in
theorem ggX7_reachableCells_X7_requireOpen : GoodIn wsX7_reachableCells wsX7_requireOpen := goodIn_ca (goodIn_bb bs_X7_reachableCells bi_X7_reachableCells _ [(1, 9), (1, 10), (1, 11), (1, 12), (1, 13), (8, 0), (8, 1), (8, 2), (8, 3), (8, 4), (8, 5), (8, 6), (8, 7), (9, 0), (9, 1), (9, 2), (9, 3), (9, 4), (9, 5)] rfl (by decide +kernel)) (goodIn_sub (fun _ h => List.mem_cons_of_mem _ (List.mem_append_right _ h)) (by decide +kernel))
set_option maxRecDepth 20000 in
theorem gX7_reachableCells_X7_requireOpen : GoodIn wsX7_reachableCells (wsV RX7 173 RX7 yX7_requireOpen wsX7_requireOpen) := goodIn_app (goodIn_bb bs_X7_reachableCells bi_X7_reachableCells _ [(1, 6), (1, 7), (1, 8), (1, 2)] rfl (by decide +kernel)) ggX7_reachableCells_X7_requireOpen
set_option maxRecDepth 20000 in
theorem ggX7_reachableCells_X7_presentPlans : GoodIn wsX7_reachableCells wsX7_presentPlans := goodIn_bb bs_X7_reachableCells bi_X7_reachableCells _ [(1, 17), (1, 18), (1, 12), (1, 19), (1, 20), (1, 21), (1, 22), (1, 23), (2, 0), (2, 1), (2, 2), (2, 3), (2, 4), (2, 5), (2, 6), (2, 7), (2, 8), (2, 9), (2, 10), (2, 11), (2, 12), (2, 13), (2, 14), (2, 15), (2, 16), (2, 17), (2, 18), (2, 19), (2, 20), (2, 21), (2, 22), (2, 23), (3, 0), (3, 1), (3, 2), (3, 3), (3, 4), (3, 5), (3, 6), (3, 7), (3, 8), (3, 9), (3, 10), (3, 11), (3, 12), (3, 13), (3, 14), (3, 15), (3, 16), (3, 17), (8, 0), (8, 1), (8, 2), (8, 3), (8, 4), (8, 5), (8, 6), (8, 7), (9, 0), (9, 1), (9, 2), (9, 3), (9, 4), (9, 5), (10, 0), (10, 1), (10, 2), (10, 3), (10, 4), (10, 5), (10, 6), (10, 7), (11, 0), (11, 1), (11, 2), (11, 3), (11, 4), (11, 5), (11, 6), (11, 7), (12, 0)] rfl (by decide +kernel)
set_option maxRecDepth 20000 in
theorem gX7_reachableCells_X7_presentPlans : GoodIn wsX7_reachableCells (wsV RX7 186 RX7 yX7_presentPlans wsX7_presentPlans) := goodIn_app (goodIn_bb bs_X7_reachableCells bi_X7_reachableCells _ [(1, 14), (1, 15), (1, 16), (1, 2)] rfl (by decide +kernel)) ggX7_reachableCells_X7_presentPlans
set_option maxRecDepth 20000 in
theorem ggX7_reachableCells_X3_countEnds : GoodIn wsX7_reachableCells wsX3_countEnds := goodIn_bb bs_X7_reachableCells bi_X7_reachableCells _ [(3, 21), (3, 2), (3, 22), (3, 23), (4, 0), (2, 22), (4, 1), (3, 3), (4, 2), (4, 3), (4, 4), (3, 1), (4, 5), (4, 6), (4, 7), (4, 8), (3, 7), (4, 9), (4, 10), (3, 5), (3, 6), (3, 8), (3, 9), (3, 10), (3, 11), (3, 12), (3, 13), (4, 11), (4, 12), (4, 13), (4, 14), (4, 15), (4, 16), (4, 17), (4, 18), (4, 19), (4, 20), (4, 21), (2, 1), (4, 22), (2, 4), (4, 23), (5, 0), (5, 1), (5, 2), (5, 3), (5, 4), (2, 3), (5, 5), (5, 6), (5, 7), (5, 8), (5, 9), (5, 10), (5, 11), (2, 8), (5, 12), (2, 10), (5, 13), (5, 14), (5, 15), (5, 16), (5, 17), (5, 18), (5, 19), (5, 20), (5, 21), (5, 22), (5, 23), (6, 0), (6, 1), (6, 2), (6, 3), (6, 4), (6, 5), (6, 6), (6, 7), (6, 8), (6, 9), (6, 10), (3, 15), (3, 16), (3, 17), (6, 11), (6, 12), (6, 13), (6, 14), (6, 15), (6, 16), (6, 17), (6, 18), (6, 19), (6, 20), (6, 21), (6, 22), (6, 23), (7, 0), (7, 1), (7, 2), (11, 0), (11, 1), (11, 2), (11, 3), (11, 4), (11, 5), (11, 6), (11, 7), (13, 0), (13, 1), (13, 2), (13, 3), (10, 0), (10, 1), (10, 2), (10, 3), (10, 4), (10, 5), (10, 6), (10, 7), (12, 0), (9, 0), (9, 1), (9, 2), (9, 3), (9, 4), (9, 5)] rfl (by decide +kernel)
set_option maxRecDepth 20000 in
theorem gX7_reachableCells_X3_countEnds : GoodIn wsX7_reachableCells (wsV RX7 225 RX3 yX3_countEnds wsX3_countEnds) := goodIn_app (goodIn_bb bs_X7_reachableCells bi_X7_reachableCells _ [(3, 18), (3, 19), (3, 20), (2, 22)] rfl (by decide +kernel)) ggX7_reachableCells_X3_countEnds
theorem dX7_reachableCells_0 : decode cX7_reachableCells 0 = .ok (.iload_n 1, 1) := by decide +kernel
theorem dX7_reachableCells_1 : decode cX7_reachableCells 1 = .ok (.iconst 0, 1) := by decide +kernel
theorem dX7_reachableCells_2 : decode cX7_reachableCells 2 = .ok (.bipush 60, 2) := by decide +kernel
theorem dX7_reachableCells_4 : decode cX7_reachableCells 4 = .ok (.invokestatic 79, 3) := by decide +kernel
theorem dX7_reachableCells_7 : decode cX7_reachableCells 7 = .ok (.aload_n 0, 1) := by decide +kernel
theorem dX7_reachableCells_8 : decode cX7_reachableCells 8 = .ok (.invokevirtual 173, 3) := by decide +kernel
theorem dX7_reachableCells_11 : decode cX7_reachableCells 11 = .ok (.aload_n 0, 1) := by decide +kernel
theorem dX7_reachableCells_12 : decode cX7_reachableCells 12 = .ok (.invokevirtual 186, 3) := by decide +kernel
theorem dX7_reachableCells_15 : decode cX7_reachableCells 15 = .ok (.iload_n 1, 1) := by decide +kernel
theorem dX7_reachableCells_16 : decode cX7_reachableCells 16 = .ok (.invokevirtual 225, 3) := by decide +kernel
theorem dX7_reachableCells_19 : decode cX7_reachableCells 19 = .ok (.ireturn, 1) := by decide +kernel
def bs_X7_parkingCell : List (List Cond) := [[.code yX7_parkingCell cX7_parkingCell 4 (some .int)], wsX7_parkingCell_r1, wsX7_parkingCell_r2, wsX7_parkingCell_r3, wsX7_parkingCell_r4, wsX7_parkingCell_r5, wsX7_parkingCell_r6, wsX7_parkingCell_r7, wsX70, wsX60, wsX40, wsX30, wsX00, wsX50, (vx_atS RX7 150 "java/lang/IllegalArgumentException" ["java/lang/RuntimeException", "java/lang/Exception"]).filter goodWord, (vx_atS RX7 180 "java/lang/IllegalStateException" ["java/lang/RuntimeException", "java/lang/Exception"]).filter goodWord]
theorem bi_X7_parkingCell : ∀ w ∈ bs_X7_parkingCell.flatten, w ∈ wsX7_parkingCell := by
  have h : bs_X7_parkingCell.flatten = wsX7_parkingCell := by simp only [bs_X7_parkingCell, wsX7_parkingCell, List.flatten_cons, List.flatten_nil, List.append_assoc, List.append_nil, List.nil_append, List.cons_append]
  intro w hw; rw [h] at hw; exact hw
set_option maxRecDepth 20000 in
theorem ggX7_parkingCell_X7_requireRange : GoodIn wsX7_parkingCell wsX7_requireRange := goodIn_ca (goodIn_bb bs_X7_parkingCell bi_X7_parkingCell _ [(1, 3), (1, 4), (1, 5)] rfl (by decide +kernel)) (goodIn_sub (fun _ h => List.mem_cons_of_mem _ (List.mem_append_left _ (List.mem_append_right _ h))) (by decide +kernel))
set_option maxRecDepth 20000 in
theorem gX7_parkingCell_X7_requireRange : GoodIn wsX7_parkingCell (va_wsS RX7 79 yX7_requireRange wsX7_requireRange) := goodIn_app (goodIn_bb bs_X7_parkingCell bi_X7_parkingCell _ [(1, 0), (1, 1), (1, 2)] rfl (by decide +kernel)) ggX7_parkingCell_X7_requireRange
set_option maxRecDepth 20000 in
theorem ggX7_parkingCell_X7_requireOpen : GoodIn wsX7_parkingCell wsX7_requireOpen := goodIn_ca (goodIn_bb bs_X7_parkingCell bi_X7_parkingCell _ [(1, 9), (1, 10), (1, 11), (1, 12), (1, 13), (8, 0), (8, 1), (8, 2), (8, 3), (8, 4), (8, 5), (8, 6), (8, 7), (9, 0), (9, 1), (9, 2), (9, 3), (9, 4), (9, 5)] rfl (by decide +kernel)) (goodIn_sub (fun _ h => List.mem_cons_of_mem _ (List.mem_append_right _ h)) (by decide +kernel))
set_option maxRecDepth 20000 in
theorem gX7_parkingCell_X7_requireOpen : GoodIn wsX7_parkingCell (wsV RX7 173 RX7 yX7_requireOpen wsX7_requireOpen) := goodIn_app (goodIn_bb bs_X7_parkingCell bi_X7_parkingCell _ [(1, 6), (1, 7), (1, 8), (1, 2)] rfl (by decide +kernel)) ggX7_parkingCell_X7_requireOpen
set_option maxRecDepth 20000 in
theorem ggX7_parkingCell_X7_presentPlans : GoodIn wsX7_parkingCell wsX7_presentPlans := goodIn_bb bs_X7_parkingCell bi_X7_parkingCell _ [(1, 17), (1, 18), (1, 12), (1, 19), (1, 20), (1, 21), (1, 22), (1, 23), (2, 0), (2, 1), (2, 2), (2, 3), (2, 4), (2, 5), (2, 6), (2, 7), (2, 8), (2, 9), (2, 10), (2, 11), (2, 12), (2, 13), (2, 14), (2, 15), (2, 16), (2, 17), (2, 18), (2, 19), (2, 20), (2, 21), (2, 22), (2, 23), (3, 0), (3, 1), (3, 2), (3, 3), (3, 4), (3, 5), (3, 6), (3, 7), (3, 8), (3, 9), (3, 10), (3, 11), (3, 12), (3, 13), (3, 14), (3, 15), (3, 16), (3, 17), (8, 0), (8, 1), (8, 2), (8, 3), (8, 4), (8, 5), (8, 6), (8, 7), (9, 0), (9, 1), (9, 2), (9, 3), (9, 4), (9, 5), (10, 0), (10, 1), (10, 2), (10, 3), (10, 4), (10, 5), (10, 6), (10, 7), (11, 0), (11, 1), (11, 2), (11, 3), (11, 4), (11, 5), (11, 6), (11, 7), (12, 0)] rfl (by decide +kernel)
set_option maxRecDepth 20000 in
theorem gX7_parkingCell_X7_presentPlans : GoodIn wsX7_parkingCell (wsV RX7 186 RX7 yX7_presentPlans wsX7_presentPlans) := goodIn_app (goodIn_bb bs_X7_parkingCell bi_X7_parkingCell _ [(1, 14), (1, 15), (1, 16), (1, 2)] rfl (by decide +kernel)) ggX7_parkingCell_X7_presentPlans
set_option maxRecDepth 20000 in
theorem ggX7_parkingCell_X3_stepsToPark : GoodIn wsX7_parkingCell wsX3_stepsToPark := goodIn_bb bs_X7_parkingCell bi_X7_parkingCell _ [(3, 21), (3, 22), (3, 23), (4, 0), (2, 22), (4, 1), (3, 1), (3, 2), (4, 2), (4, 3), (4, 4), (4, 5), (4, 6), (3, 3), (4, 7), (4, 8), (4, 9), (4, 10), (4, 11), (4, 12), (3, 7), (4, 13), (4, 14), (3, 5), (3, 6), (3, 8), (3, 9), (3, 10), (3, 11), (3, 12), (3, 13), (4, 15), (4, 16), (4, 17), (4, 18), (4, 19), (4, 20), (4, 21), (4, 22), (4, 23), (5, 0), (5, 1), (2, 1), (5, 2), (2, 4), (5, 3), (5, 4), (5, 5), (5, 6), (5, 7), (5, 8), (2, 3), (5, 9), (5, 10), (5, 11), (5, 12), (5, 13), (5, 14), (5, 15), (2, 8), (5, 16), (2, 10), (5, 17), (5, 18), (5, 19), (5, 20), (5, 21), (5, 22), (5, 23), (6, 0), (6, 1), (6, 2), (6, 3), (6, 4), (6, 5), (6, 6), (6, 7), (6, 8), (6, 9), (6, 10), (6, 11), (6, 12), (6, 13), (6, 14), (3, 15), (3, 16), (3, 17), (6, 15), (6, 16), (6, 17), (6, 18), (6, 19), (6, 20), (6, 21), (6, 22), (6, 23), (7, 0), (7, 1), (7, 2), (7, 3), (7, 4), (7, 5), (7, 6), (7, 7), (7, 8), (11, 0), (11, 1), (11, 2), (11, 3), (11, 4), (11, 5), (11, 6), (11, 7), (13, 0), (13, 1), (13, 2), (13, 3), (10, 0), (10, 1), (10, 2), (10, 3), (10, 4), (10, 5), (10, 6), (10, 7), (12, 0), (9, 0), (9, 1), (9, 2), (9, 3), (9, 4), (9, 5)] rfl (by decide +kernel)
set_option maxRecDepth 20000 in
theorem gX7_parkingCell_X3_stepsToPark : GoodIn wsX7_parkingCell (wsV RX7 228 RX3 yX3_stepsToPark wsX3_stepsToPark) := goodIn_app (goodIn_bb bs_X7_parkingCell bi_X7_parkingCell _ [(3, 18), (3, 19), (3, 20), (2, 22)] rfl (by decide +kernel)) ggX7_parkingCell_X3_stepsToPark
set_option maxRecDepth 20000 in
theorem ggX7_parkingCell_X3_safeCell : GoodIn wsX7_parkingCell wsX3_safeCell := goodIn_bb bs_X7_parkingCell bi_X7_parkingCell _ [(4, 1), (3, 1), (3, 2), (4, 2), (4, 3), (4, 4), (4, 5), (2, 22), (4, 6), (3, 3), (4, 7), (4, 8), (4, 9), (4, 10), (4, 11), (4, 12), (3, 7), (4, 13), (4, 14), (3, 5), (3, 6), (3, 8), (3, 9), (3, 10), (3, 11), (3, 12), (3, 13), (4, 15), (4, 16), (4, 17), (4, 18), (4, 19), (4, 20), (4, 21), (4, 22), (4, 23), (5, 0), (5, 1), (2, 1), (5, 2), (2, 4), (5, 3), (5, 4), (5, 5), (5, 6), (5, 7), (5, 8), (2, 3), (5, 9), (5, 10), (5, 11), (5, 12), (5, 13), (5, 14), (5, 15), (2, 8), (5, 16), (2, 10), (5, 17), (5, 18), (5, 19), (5, 20), (5, 21), (5, 22), (5, 23), (6, 0), (6, 1), (6, 2), (6, 3), (6, 4), (6, 5), (6, 6), (6, 7), (6, 8), (6, 9), (6, 10), (6, 11), (6, 12), (6, 13), (6, 14), (3, 15), (3, 16), (3, 17), (6, 15), (6, 16), (6, 17), (6, 18), (6, 19), (6, 20), (6, 21), (6, 22), (6, 23), (7, 0), (7, 1), (7, 2), (7, 3), (7, 4), (7, 5), (7, 6), (7, 7), (7, 8), (11, 0), (11, 1), (11, 2), (11, 3), (11, 4), (11, 5), (11, 6), (11, 7), (13, 0), (13, 1), (13, 2), (13, 3), (10, 0), (10, 1), (10, 2), (10, 3), (10, 4), (10, 5), (10, 6), (10, 7), (12, 0), (9, 0), (9, 1), (9, 2), (9, 3), (9, 4), (9, 5)] rfl (by decide +kernel)
set_option maxRecDepth 20000 in
theorem gX7_parkingCell_X3_safeCell : GoodIn wsX7_parkingCell (wsV RX7 231 RX3 yX3_safeCell wsX3_safeCell) := goodIn_app (goodIn_bb bs_X7_parkingCell bi_X7_parkingCell _ [(7, 9), (3, 23), (4, 0), (2, 22)] rfl (by decide +kernel)) ggX7_parkingCell_X3_safeCell
theorem dX7_parkingCell_0 : decode cX7_parkingCell 0 = .ok (.iload_n 1, 1) := by decide +kernel
theorem dX7_parkingCell_1 : decode cX7_parkingCell 1 = .ok (.iconst 0, 1) := by decide +kernel
theorem dX7_parkingCell_2 : decode cX7_parkingCell 2 = .ok (.bipush 40, 2) := by decide +kernel
theorem dX7_parkingCell_4 : decode cX7_parkingCell 4 = .ok (.invokestatic 79, 3) := by decide +kernel
theorem dX7_parkingCell_7 : decode cX7_parkingCell 7 = .ok (.aload_n 0, 1) := by decide +kernel
theorem dX7_parkingCell_8 : decode cX7_parkingCell 8 = .ok (.invokevirtual 173, 3) := by decide +kernel
theorem dX7_parkingCell_11 : decode cX7_parkingCell 11 = .ok (.aload_n 0, 1) := by decide +kernel
theorem dX7_parkingCell_12 : decode cX7_parkingCell 12 = .ok (.invokevirtual 186, 3) := by decide +kernel
theorem dX7_parkingCell_15 : decode cX7_parkingCell 15 = .ok (.astore_n 2, 1) := by decide +kernel
theorem dX7_parkingCell_16 : decode cX7_parkingCell 16 = .ok (.aload_n 2, 1) := by decide +kernel
theorem dX7_parkingCell_17 : decode cX7_parkingCell 17 = .ok (.iload_n 1, 1) := by decide +kernel
theorem dX7_parkingCell_18 : decode cX7_parkingCell 18 = .ok (.invokevirtual 228, 3) := by decide +kernel
theorem dX7_parkingCell_21 : decode cX7_parkingCell 21 = .ok (.istore_n 3, 1) := by decide +kernel
theorem dX7_parkingCell_22 : decode cX7_parkingCell 22 = .ok (.iload_n 3, 1) := by decide +kernel
theorem dX7_parkingCell_23 : decode cX7_parkingCell 23 = .ok (.bipush (-9), 2) := by decide +kernel
theorem dX7_parkingCell_25 : decode cX7_parkingCell 25 = .ok (.if_icmp .ne 8, 3) := by decide +kernel
theorem dX7_parkingCell_28 : decode cX7_parkingCell 28 = .ok (.bipush (-9), 2) := by decide +kernel
theorem dX7_parkingCell_30 : decode cX7_parkingCell 30 = .ok (.goto 9, 3) := by decide +kernel
theorem dX7_parkingCell_33 : decode cX7_parkingCell 33 = .ok (.aload_n 2, 1) := by decide +kernel
theorem dX7_parkingCell_34 : decode cX7_parkingCell 34 = .ok (.iload_n 3, 1) := by decide +kernel
theorem dX7_parkingCell_35 : decode cX7_parkingCell 35 = .ok (.iload_n 1, 1) := by decide +kernel
theorem dX7_parkingCell_36 : decode cX7_parkingCell 36 = .ok (.invokevirtual 231, 3) := by decide +kernel
theorem dX7_parkingCell_39 : decode cX7_parkingCell 39 = .ok (.ireturn, 1) := by decide +kernel
def bs_X7_parkingSteps : List (List Cond) := [[.code yX7_parkingSteps cX7_parkingSteps 2 (some .int)], wsX7_parkingSteps_r1, wsX7_parkingSteps_r2, wsX7_parkingSteps_r3, wsX7_parkingSteps_r4, wsX7_parkingSteps_r5, wsX7_parkingSteps_r6, wsX7_parkingSteps_r7, wsX70, wsX60, wsX40, wsX30, wsX00, wsX50, (vx_atS RX7 150 "java/lang/IllegalArgumentException" ["java/lang/RuntimeException", "java/lang/Exception"]).filter goodWord, (vx_atS RX7 180 "java/lang/IllegalStateException" ["java/lang/RuntimeException", "java/lang/Exception"]).filter goodWord]
theorem bi_X7_parkingSteps : ∀ w ∈ bs_X7_parkingSteps.flatten, w ∈ wsX7_parkingSteps := by
  have h : bs_X7_parkingSteps.flatten = wsX7_parkingSteps := by simp only [bs_X7_parkingSteps, wsX7_parkingSteps, List.flatten_cons, List.flatten_nil, List.append_assoc, List.append_nil, List.nil_append, List.cons_append]
  intro w hw; rw [h] at hw; exact hw
set_option maxRecDepth 20000 in
theorem ggX7_parkingSteps_X7_requireRange : GoodIn wsX7_parkingSteps wsX7_requireRange := goodIn_ca (goodIn_bb bs_X7_parkingSteps bi_X7_parkingSteps _ [(1, 3), (1, 4), (1, 5)] rfl (by decide +kernel)) (goodIn_sub (fun _ h => List.mem_cons_of_mem _ (List.mem_append_left _ (List.mem_append_right _ h))) (by decide +kernel))
set_option maxRecDepth 20000 in
theorem gX7_parkingSteps_X7_requireRange : GoodIn wsX7_parkingSteps (va_wsS RX7 79 yX7_requireRange wsX7_requireRange) := goodIn_app (goodIn_bb bs_X7_parkingSteps bi_X7_parkingSteps _ [(1, 0), (1, 1), (1, 2)] rfl (by decide +kernel)) ggX7_parkingSteps_X7_requireRange
set_option maxRecDepth 20000 in
theorem ggX7_parkingSteps_X7_requireOpen : GoodIn wsX7_parkingSteps wsX7_requireOpen := goodIn_ca (goodIn_bb bs_X7_parkingSteps bi_X7_parkingSteps _ [(1, 9), (1, 10), (1, 11), (1, 12), (1, 13), (8, 0), (8, 1), (8, 2), (8, 3), (8, 4), (8, 5), (8, 6), (8, 7), (9, 0), (9, 1), (9, 2), (9, 3), (9, 4), (9, 5)] rfl (by decide +kernel)) (goodIn_sub (fun _ h => List.mem_cons_of_mem _ (List.mem_append_right _ h)) (by decide +kernel))
set_option maxRecDepth 20000 in
theorem gX7_parkingSteps_X7_requireOpen : GoodIn wsX7_parkingSteps (wsV RX7 173 RX7 yX7_requireOpen wsX7_requireOpen) := goodIn_app (goodIn_bb bs_X7_parkingSteps bi_X7_parkingSteps _ [(1, 6), (1, 7), (1, 8), (1, 2)] rfl (by decide +kernel)) ggX7_parkingSteps_X7_requireOpen
set_option maxRecDepth 20000 in
theorem ggX7_parkingSteps_X7_presentPlans : GoodIn wsX7_parkingSteps wsX7_presentPlans := goodIn_bb bs_X7_parkingSteps bi_X7_parkingSteps _ [(1, 17), (1, 18), (1, 12), (1, 19), (1, 20), (1, 21), (1, 22), (1, 23), (2, 0), (2, 1), (2, 2), (2, 3), (2, 4), (2, 5), (2, 6), (2, 7), (2, 8), (2, 9), (2, 10), (2, 11), (2, 12), (2, 13), (2, 14), (2, 15), (2, 16), (2, 17), (2, 18), (2, 19), (2, 20), (2, 21), (2, 22), (2, 23), (3, 0), (3, 1), (3, 2), (3, 3), (3, 4), (3, 5), (3, 6), (3, 7), (3, 8), (3, 9), (3, 10), (3, 11), (3, 12), (3, 13), (3, 14), (3, 15), (3, 16), (3, 17), (8, 0), (8, 1), (8, 2), (8, 3), (8, 4), (8, 5), (8, 6), (8, 7), (9, 0), (9, 1), (9, 2), (9, 3), (9, 4), (9, 5), (10, 0), (10, 1), (10, 2), (10, 3), (10, 4), (10, 5), (10, 6), (10, 7), (11, 0), (11, 1), (11, 2), (11, 3), (11, 4), (11, 5), (11, 6), (11, 7), (12, 0)] rfl (by decide +kernel)
set_option maxRecDepth 20000 in
theorem gX7_parkingSteps_X7_presentPlans : GoodIn wsX7_parkingSteps (wsV RX7 186 RX7 yX7_presentPlans wsX7_presentPlans) := goodIn_app (goodIn_bb bs_X7_parkingSteps bi_X7_parkingSteps _ [(1, 14), (1, 15), (1, 16), (1, 2)] rfl (by decide +kernel)) ggX7_parkingSteps_X7_presentPlans
set_option maxRecDepth 20000 in
theorem ggX7_parkingSteps_X3_stepsToPark : GoodIn wsX7_parkingSteps wsX3_stepsToPark := goodIn_bb bs_X7_parkingSteps bi_X7_parkingSteps _ [(3, 21), (3, 22), (3, 23), (4, 0), (2, 22), (4, 1), (3, 1), (3, 2), (4, 2), (4, 3), (4, 4), (4, 5), (4, 6), (3, 3), (4, 7), (4, 8), (4, 9), (4, 10), (4, 11), (4, 12), (3, 7), (4, 13), (4, 14), (3, 5), (3, 6), (3, 8), (3, 9), (3, 10), (3, 11), (3, 12), (3, 13), (4, 15), (4, 16), (4, 17), (4, 18), (4, 19), (4, 20), (4, 21), (4, 22), (4, 23), (5, 0), (5, 1), (2, 1), (5, 2), (2, 4), (5, 3), (5, 4), (5, 5), (5, 6), (5, 7), (5, 8), (2, 3), (5, 9), (5, 10), (5, 11), (5, 12), (5, 13), (5, 14), (5, 15), (2, 8), (5, 16), (2, 10), (5, 17), (5, 18), (5, 19), (5, 20), (5, 21), (5, 22), (5, 23), (6, 0), (6, 1), (6, 2), (6, 3), (6, 4), (6, 5), (6, 6), (6, 7), (6, 8), (6, 9), (6, 10), (6, 11), (6, 12), (6, 13), (6, 14), (3, 15), (3, 16), (3, 17), (6, 15), (6, 16), (6, 17), (6, 18), (6, 19), (6, 20), (6, 21), (6, 22), (6, 23), (7, 0), (7, 1), (7, 2), (7, 3), (7, 4), (7, 5), (7, 6), (7, 7), (7, 8), (11, 0), (11, 1), (11, 2), (11, 3), (11, 4), (11, 5), (11, 6), (11, 7), (13, 0), (13, 1), (13, 2), (13, 3), (10, 0), (10, 1), (10, 2), (10, 3), (10, 4), (10, 5), (10, 6), (10, 7), (12, 0), (9, 0), (9, 1), (9, 2), (9, 3), (9, 4), (9, 5)] rfl (by decide +kernel)
set_option maxRecDepth 20000 in
theorem gX7_parkingSteps_X3_stepsToPark : GoodIn wsX7_parkingSteps (wsV RX7 228 RX3 yX3_stepsToPark wsX3_stepsToPark) := goodIn_app (goodIn_bb bs_X7_parkingSteps bi_X7_parkingSteps _ [(3, 18), (3, 19), (3, 20), (2, 22)] rfl (by decide +kernel)) ggX7_parkingSteps_X3_stepsToPark
theorem dX7_parkingSteps_0 : decode cX7_parkingSteps 0 = .ok (.iload_n 1, 1) := by decide +kernel
theorem dX7_parkingSteps_1 : decode cX7_parkingSteps 1 = .ok (.iconst 0, 1) := by decide +kernel
theorem dX7_parkingSteps_2 : decode cX7_parkingSteps 2 = .ok (.bipush 40, 2) := by decide +kernel
theorem dX7_parkingSteps_4 : decode cX7_parkingSteps 4 = .ok (.invokestatic 79, 3) := by decide +kernel
theorem dX7_parkingSteps_7 : decode cX7_parkingSteps 7 = .ok (.aload_n 0, 1) := by decide +kernel
theorem dX7_parkingSteps_8 : decode cX7_parkingSteps 8 = .ok (.invokevirtual 173, 3) := by decide +kernel
theorem dX7_parkingSteps_11 : decode cX7_parkingSteps 11 = .ok (.aload_n 0, 1) := by decide +kernel
theorem dX7_parkingSteps_12 : decode cX7_parkingSteps 12 = .ok (.invokevirtual 186, 3) := by decide +kernel
theorem dX7_parkingSteps_15 : decode cX7_parkingSteps 15 = .ok (.iload_n 1, 1) := by decide +kernel
theorem dX7_parkingSteps_16 : decode cX7_parkingSteps 16 = .ok (.invokevirtual 228, 3) := by decide +kernel
theorem dX7_parkingSteps_19 : decode cX7_parkingSteps 19 = .ok (.ireturn, 1) := by decide +kernel
def bs_X7_requestFinish : List (List Cond) := [[.code yX7_requestFinish cX7_requestFinish 4 (some .int)], wsX7_requestFinish_r1, wsX7_requestFinish_r2, wsX7_requestFinish_r3, wsX7_requestFinish_r4, wsX7_requestFinish_r5, wsX7_requestFinish_r6, wsX7_requestFinish_r7, wsX70, wsX60, wsX40, wsX30, wsX00, wsX50, (vx_atS RX7 289 "java/lang/IndexOutOfBoundsException" ["java/lang/RuntimeException", "java/lang/Exception"]).filter goodWord, (vx_atS RX7 180 "java/lang/IllegalStateException" ["java/lang/RuntimeException", "java/lang/Exception"]).filter goodWord]
theorem bi_X7_requestFinish : ∀ w ∈ bs_X7_requestFinish.flatten, w ∈ wsX7_requestFinish := by
  have h : bs_X7_requestFinish.flatten = wsX7_requestFinish := by simp only [bs_X7_requestFinish, wsX7_requestFinish, List.flatten_cons, List.flatten_nil, List.append_assoc, List.append_nil, List.nil_append, List.cons_append]
  intro w hw; rw [h] at hw; exact hw
set_option maxRecDepth 20000 in
theorem ggX7_requestFinish_X7_requireRequest : GoodIn wsX7_requestFinish wsX7_requireRequest := goodIn_ca (goodIn_bb bs_X7_requestFinish bi_X7_requestFinish _ [(1, 6), (1, 7), (1, 8), (1, 0), (1, 9), (8, 0), (8, 1), (8, 2), (8, 3), (8, 4), (8, 5), (8, 6), (8, 7), (9, 0), (9, 1), (9, 2), (9, 3), (9, 4), (9, 5)] rfl (by decide +kernel)) (goodIn_sub (fun _ h => List.mem_cons_of_mem _ (List.mem_append_left _ (List.mem_append_right _ h))) (by decide +kernel))
set_option maxRecDepth 20000 in
theorem gX7_requestFinish_X7_requireRequest : GoodIn wsX7_requestFinish (wsV RX7 207 RX7 yX7_requireRequest wsX7_requireRequest) := goodIn_app (goodIn_bb bs_X7_requestFinish bi_X7_requestFinish _ [(1, 2), (1, 3), (1, 4), (1, 5)] rfl (by decide +kernel)) ggX7_requestFinish_X7_requireRequest
set_option maxRecDepth 20000 in
theorem ggX7_requestFinish_X7_requireOpen : GoodIn wsX7_requestFinish wsX7_requireOpen := goodIn_ca (goodIn_bb bs_X7_requestFinish bi_X7_requestFinish _ [(1, 13), (1, 14), (1, 15), (1, 0), (1, 16), (8, 0), (8, 1), (8, 2), (8, 3), (8, 4), (8, 5), (8, 6), (8, 7), (9, 0), (9, 1), (9, 2), (9, 3), (9, 4), (9, 5)] rfl (by decide +kernel)) (goodIn_sub (fun _ h => List.mem_cons_of_mem _ (List.mem_append_right _ h)) (by decide +kernel))
set_option maxRecDepth 20000 in
theorem gX7_requestFinish_X7_requireOpen : GoodIn wsX7_requestFinish (wsV RX7 173 RX7 yX7_requireOpen wsX7_requireOpen) := goodIn_app (goodIn_bb bs_X7_requestFinish bi_X7_requestFinish _ [(1, 10), (1, 11), (1, 12), (1, 5)] rfl (by decide +kernel)) ggX7_requestFinish_X7_requireOpen
set_option maxRecDepth 20000 in
theorem ggX7_requestFinish_X6_ofRequest : GoodIn wsX7_requestFinish wsX6_ofRequest := goodIn_bb bs_X7_requestFinish bi_X7_requestFinish _ [(1, 21), (1, 22), (9, 0), (9, 1), (9, 2), (9, 3), (9, 4), (9, 5)] rfl (by decide +kernel)
set_option maxRecDepth 20000 in
theorem gX7_requestFinish_X6_ofRequest : GoodIn wsX7_requestFinish (wsV RX7 234 RX6 yX6_ofRequest wsX6_ofRequest) := goodIn_app (goodIn_bb bs_X7_requestFinish bi_X7_requestFinish _ [(1, 17), (1, 18), (1, 19), (1, 20)] rfl (by decide +kernel)) ggX7_requestFinish_X6_ofRequest
set_option maxRecDepth 20000 in
theorem ggX7_requestFinish_X7_presentPlans : GoodIn wsX7_requestFinish wsX7_presentPlans := goodIn_bb bs_X7_requestFinish bi_X7_requestFinish _ [(2, 2), (2, 3), (1, 0), (2, 4), (2, 5), (1, 1), (2, 6), (2, 7), (2, 8), (2, 9), (2, 10), (2, 11), (2, 12), (2, 13), (2, 14), (2, 15), (1, 20), (2, 16), (2, 17), (2, 18), (2, 19), (2, 20), (2, 21), (2, 22), (2, 23), (3, 0), (3, 1), (3, 2), (3, 3), (3, 4), (3, 5), (3, 6), (3, 7), (3, 8), (3, 9), (3, 10), (3, 11), (3, 12), (3, 13), (3, 14), (3, 15), (3, 16), (3, 17), (3, 18), (3, 19), (3, 20), (3, 21), (3, 22), (3, 23), (4, 0), (8, 0), (8, 1), (8, 2), (8, 3), (8, 4), (8, 5), (8, 6), (8, 7), (9, 0), (9, 1), (9, 2), (9, 3), (9, 4), (9, 5), (10, 0), (10, 1), (10, 2), (10, 3), (10, 4), (10, 5), (10, 6), (10, 7), (11, 0), (11, 1), (11, 2), (11, 3), (11, 4), (11, 5), (11, 6), (11, 7), (12, 0)] rfl (by decide +kernel)
set_option maxRecDepth 20000 in
theorem gX7_requestFinish_X7_presentPlans : GoodIn wsX7_requestFinish (wsV RX7 186 RX7 yX7_presentPlans wsX7_presentPlans) := goodIn_app (goodIn_bb bs_X7_requestFinish bi_X7_requestFinish _ [(1, 23), (2, 0), (2, 1), (1, 5)] rfl (by decide +kernel)) ggX7_requestFinish_X7_presentPlans
set_option maxRecDepth 20000 in
theorem ggX7_requestFinish_X3_finishOf : GoodIn wsX7_requestFinish wsX3_finishOf := goodIn_bb bs_X7_requestFinish bi_X7_requestFinish _ [(4, 4), (3, 8), (4, 5), (3, 9), (4, 6), (4, 7), (4, 8), (2, 9), (4, 9), (4, 10), (4, 11), (4, 12), (4, 13), (2, 12), (4, 14), (4, 15), (4, 16), (4, 17), (3, 14), (4, 18), (4, 19), (4, 20), (4, 21), (4, 22), (3, 16), (4, 23), (5, 0), (5, 1), (5, 2), (2, 11), (5, 3), (5, 4), (5, 5), (5, 6), (5, 7), (5, 8), (5, 9), (1, 20), (5, 10), (2, 17), (5, 11), (5, 12), (5, 13), (5, 14), (5, 15), (5, 16), (5, 17), (5, 18), (5, 19), (5, 20), (5, 21), (5, 22), (5, 23), (6, 0), (6, 1), (6, 2), (6, 3), (6, 4), (6, 5), (6, 6), (6, 7), (6, 8), (6, 9), (6, 10), (3, 5), (6, 11), (3, 10), (6, 12), (6, 13), (6, 14), (6, 15), (6, 16), (6, 17), (6, 18), (6, 19), (3, 12), (3, 13), (3, 15), (3, 17), (3, 18), (3, 19), (3, 20), (6, 20), (6, 21), (6, 22), (6, 23), (7, 0), (7, 1), (7, 2), (7, 3), (7, 4), (7, 5), (3, 22), (3, 23), (4, 0), (7, 6), (7, 7), (7, 8), (7, 9), (7, 10), (7, 11), (11, 0), (11, 1), (11, 2), (11, 3), (11, 4), (11, 5), (11, 6), (11, 7), (10, 0), (10, 1), (10, 2), (10, 3), (10, 4), (10, 5), (10, 6), (10, 7), (12, 0), (9, 0), (9, 1), (9, 2), (9, 3), (9, 4), (9, 5), (13, 0), (13, 1), (13, 2), (13, 3)] rfl (by decide +kernel)
set_option maxRecDepth 20000 in
theorem gX7_requestFinish_X3_finishOf : GoodIn wsX7_requestFinish (wsV RX7 237 RX3 yX3_finishOf wsX3_finishOf) := goodIn_app (goodIn_bb bs_X7_requestFinish bi_X7_requestFinish _ [(4, 1), (4, 2), (4, 3), (3, 5)] rfl (by decide +kernel)) ggX7_requestFinish_X3_finishOf
theorem dX7_requestFinish_0 : decode cX7_requestFinish 0 = .ok (.aload_n 0, 1) := by decide +kernel
theorem dX7_requestFinish_1 : decode cX7_requestFinish 1 = .ok (.iload_n 1, 1) := by decide +kernel
theorem dX7_requestFinish_2 : decode cX7_requestFinish 2 = .ok (.invokevirtual 207, 3) := by decide +kernel
theorem dX7_requestFinish_5 : decode cX7_requestFinish 5 = .ok (.aload_n 0, 1) := by decide +kernel
theorem dX7_requestFinish_6 : decode cX7_requestFinish 6 = .ok (.invokevirtual 173, 3) := by decide +kernel
theorem dX7_requestFinish_9 : decode cX7_requestFinish 9 = .ok (.aload_n 0, 1) := by decide +kernel
theorem dX7_requestFinish_10 : decode cX7_requestFinish 10 = .ok (.getfield 19, 3) := by decide +kernel
theorem dX7_requestFinish_13 : decode cX7_requestFinish 13 = .ok (.getfield 128, 3) := by decide +kernel
theorem dX7_requestFinish_16 : decode cX7_requestFinish 16 = .ok (.bipush 60, 2) := by decide +kernel
theorem dX7_requestFinish_18 : decode cX7_requestFinish 18 = .ok (.iadd, 1) := by decide +kernel
theorem dX7_requestFinish_19 : decode cX7_requestFinish 19 = .ok (.istore_n 2, 1) := by decide +kernel
theorem dX7_requestFinish_20 : decode cX7_requestFinish 20 = .ok (.aload_n 0, 1) := by decide +kernel
theorem dX7_requestFinish_21 : decode cX7_requestFinish 21 = .ok (.getfield 19, 3) := by decide +kernel
theorem dX7_requestFinish_24 : decode cX7_requestFinish 24 = .ok (.iload_n 1, 1) := by decide +kernel
theorem dX7_requestFinish_25 : decode cX7_requestFinish 25 = .ok (.iconst 1, 1) := by decide +kernel
theorem dX7_requestFinish_26 : decode cX7_requestFinish 26 = .ok (.invokevirtual 234, 3) := by decide +kernel
theorem dX7_requestFinish_29 : decode cX7_requestFinish 29 = .ok (.istore_n 3, 1) := by decide +kernel
theorem dX7_requestFinish_30 : decode cX7_requestFinish 30 = .ok (.aload_n 0, 1) := by decide +kernel
theorem dX7_requestFinish_31 : decode cX7_requestFinish 31 = .ok (.invokevirtual 186, 3) := by decide +kernel
theorem dX7_requestFinish_34 : decode cX7_requestFinish 34 = .ok (.aload_n 0, 1) := by decide +kernel
theorem dX7_requestFinish_35 : decode cX7_requestFinish 35 = .ok (.getfield 19, 3) := by decide +kernel
theorem dX7_requestFinish_38 : decode cX7_requestFinish 38 = .ok (.iload_n 1, 1) := by decide +kernel
theorem dX7_requestFinish_39 : decode cX7_requestFinish 39 = .ok (.iconst 0, 1) := by decide +kernel
theorem dX7_requestFinish_40 : decode cX7_requestFinish 40 = .ok (.invokevirtual 234, 3) := by decide +kernel
theorem dX7_requestFinish_43 : decode cX7_requestFinish 43 = .ok (.iload_n 3, 1) := by decide +kernel
theorem dX7_requestFinish_44 : decode cX7_requestFinish 44 = .ok (.iload_n 2, 1) := by decide +kernel
theorem dX7_requestFinish_45 : decode cX7_requestFinish 45 = .ok (.invokevirtual 237, 3) := by decide +kernel
theorem dX7_requestFinish_48 : decode cX7_requestFinish 48 = .ok (.ireturn, 1) := by decide +kernel
def bs_X7_bestValue : List (List Cond) := [[.code yX7_bestValue cX7_bestValue 1 (some .int)], wsX7_bestValue_r1, wsX7_bestValue_r2, wsX7_bestValue_r3, wsX7_bestValue_r4, wsX7_bestValue_r5, wsX7_bestValue_r6, wsX7_bestValue_r7, wsX7_bestValue_r8, wsX20, wsX70, wsX60, wsX40, wsX30, wsX00, wsX50, (vx_atS RX7 180 "java/lang/IllegalStateException" ["java/lang/RuntimeException", "java/lang/Exception"]).filter goodWord]
theorem bi_X7_bestValue : ∀ w ∈ bs_X7_bestValue.flatten, w ∈ wsX7_bestValue := by
  have h : bs_X7_bestValue.flatten = wsX7_bestValue := by simp only [bs_X7_bestValue, wsX7_bestValue, List.flatten_cons, List.flatten_nil, List.append_assoc, List.append_nil, List.nil_append, List.cons_append]
  intro w hw; rw [h] at hw; exact hw
set_option maxRecDepth 20000 in
theorem ggX7_bestValue_X7_requireOpen : GoodIn wsX7_bestValue wsX7_requireOpen := goodIn_ca (goodIn_bb bs_X7_bestValue bi_X7_bestValue _ [(1, 5), (1, 6), (1, 7), (1, 8), (1, 9), (10, 0), (10, 1), (10, 2), (10, 3), (10, 4), (10, 5), (10, 6), (10, 7), (11, 0), (11, 1), (11, 2), (11, 3), (11, 4), (11, 5)] rfl (by decide +kernel)) (goodIn_sub (fun _ h => List.mem_cons_of_mem _ (List.mem_append_right _ h)) (by decide +kernel))
set_option maxRecDepth 20000 in
theorem gX7_bestValue_X7_requireOpen : GoodIn wsX7_bestValue (wsV RX7 173 RX7 yX7_requireOpen wsX7_requireOpen) := goodIn_app (goodIn_bb bs_X7_bestValue bi_X7_bestValue _ [(1, 1), (1, 2), (1, 3), (1, 4)] rfl (by decide +kernel)) ggX7_bestValue_X7_requireOpen
set_option maxRecDepth 20000 in
theorem ggX7_bestValue_X7_presentOrders : GoodIn wsX7_bestValue wsX7_presentOrders := goodIn_bb bs_X7_bestValue bi_X7_bestValue _ [(1, 13), (1, 14), (1, 8), (1, 15), (1, 16), (1, 17), (1, 18), (1, 19), (1, 20), (1, 21), (1, 22), (1, 23), (2, 0), (2, 1), (2, 2), (2, 3), (2, 4), (2, 5), (2, 6), (2, 7), (2, 8), (2, 9), (2, 10), (2, 11), (2, 12), (2, 13), (2, 14), (2, 15), (2, 16), (2, 17), (2, 18), (2, 19), (2, 20), (2, 21), (2, 22), (2, 23), (3, 0), (3, 1), (3, 2), (3, 3), (3, 4), (3, 5), (3, 6), (3, 7), (3, 8), (3, 9), (3, 10), (3, 11), (3, 12), (3, 13), (3, 14), (3, 15), (3, 16), (3, 17), (3, 18), (3, 19), (3, 20), (3, 21), (3, 22), (3, 23), (4, 0), (4, 1), (4, 2), (4, 3), (4, 4), (4, 5), (4, 6), (4, 7), (4, 8), (4, 9), (4, 10), (4, 11), (4, 12), (4, 13), (4, 14), (4, 15), (4, 16), (4, 17), (4, 18), (4, 19), (4, 20), (4, 21), (4, 22), (4, 23), (5, 0), (5, 1), (5, 2), (5, 3), (5, 4), (5, 5), (5, 6), (5, 7), (5, 8), (5, 9), (5, 10), (5, 11), (5, 12), (5, 13), (5, 14), (5, 15), (5, 16), (5, 17), (5, 18), (5, 19), (5, 20), (5, 21), (5, 22), (5, 23), (6, 0), (6, 1), (6, 2), (6, 3), (6, 4), (6, 5), (6, 6), (6, 7), (6, 8), (6, 9), (6, 10), (6, 11), (6, 12), (6, 13), (6, 14), (6, 15), (6, 16), (6, 17), (6, 18), (6, 19), (6, 20), (6, 21), (6, 22), (6, 23), (7, 0), (7, 1), (7, 2), (7, 3), (7, 4), (7, 5), (7, 6), (7, 7), (7, 8), (7, 9), (7, 10), (7, 11), (7, 12), (7, 13), (7, 14), (7, 15), (7, 16), (7, 17), (7, 18), (7, 19), (7, 20), (7, 21), (7, 22), (7, 23), (8, 0), (8, 1), (8, 2), (8, 3), (8, 4), (10, 0), (10, 1), (10, 2), (10, 3), (10, 4), (10, 5), (10, 6), (10, 7), (11, 0), (11, 1), (11, 2), (11, 3), (11, 4), (11, 5), (12, 0), (12, 1), (12, 2), (12, 3), (12, 4), (12, 5), (12, 6), (12, 7), (9, 0), (9, 1), (9, 2), (9, 3), (13, 0), (13, 1), (13, 2), (13, 3), (13, 4), (13, 5), (13, 6), (13, 7), (14, 0), (15, 0), (15, 1), (15, 2), (15, 3)] rfl (by decide +kernel)
set_option maxRecDepth 20000 in
theorem gX7_bestValue_X7_presentOrders : GoodIn wsX7_bestValue (wsV RX7 240 RX7 yX7_presentOrders wsX7_presentOrders) := goodIn_app (goodIn_bb bs_X7_bestValue bi_X7_bestValue _ [(1, 10), (1, 11), (1, 12), (1, 4)] rfl (by decide +kernel)) ggX7_bestValue_X7_presentOrders
theorem dX7_bestValue_0 : decode cX7_bestValue 0 = .ok (.aload_n 0, 1) := by decide +kernel
theorem dX7_bestValue_1 : decode cX7_bestValue 1 = .ok (.invokevirtual 173, 3) := by decide +kernel
theorem dX7_bestValue_4 : decode cX7_bestValue 4 = .ok (.aload_n 0, 1) := by decide +kernel
theorem dX7_bestValue_5 : decode cX7_bestValue 5 = .ok (.invokevirtual 240, 3) := by decide +kernel
theorem dX7_bestValue_8 : decode cX7_bestValue 8 = .ok (.getfield 244, 3) := by decide +kernel
theorem dX7_bestValue_11 : decode cX7_bestValue 11 = .ok (.ireturn, 1) := by decide +kernel
def bs_X7_bestOrder : List (List Cond) := [[.code yX7_bestOrder cX7_bestOrder 1 (some .int)], wsX7_bestOrder_r1, wsX7_bestOrder_r2, wsX7_bestOrder_r3, wsX7_bestOrder_r4, wsX7_bestOrder_r5, wsX7_bestOrder_r6, wsX7_bestOrder_r7, wsX7_bestOrder_r8, wsX20, wsX70, wsX60, wsX40, wsX30, wsX00, wsX50, (vx_atS RX7 180 "java/lang/IllegalStateException" ["java/lang/RuntimeException", "java/lang/Exception"]).filter goodWord]
theorem bi_X7_bestOrder : ∀ w ∈ bs_X7_bestOrder.flatten, w ∈ wsX7_bestOrder := by
  have h : bs_X7_bestOrder.flatten = wsX7_bestOrder := by simp only [bs_X7_bestOrder, wsX7_bestOrder, List.flatten_cons, List.flatten_nil, List.append_assoc, List.append_nil, List.nil_append, List.cons_append]
  intro w hw; rw [h] at hw; exact hw
set_option maxRecDepth 20000 in
theorem ggX7_bestOrder_X7_requireOpen : GoodIn wsX7_bestOrder wsX7_requireOpen := goodIn_ca (goodIn_bb bs_X7_bestOrder bi_X7_bestOrder _ [(1, 5), (1, 6), (1, 7), (1, 8), (1, 9), (10, 0), (10, 1), (10, 2), (10, 3), (10, 4), (10, 5), (10, 6), (10, 7), (11, 0), (11, 1), (11, 2), (11, 3), (11, 4), (11, 5)] rfl (by decide +kernel)) (goodIn_sub (fun _ h => List.mem_cons_of_mem _ (List.mem_append_right _ h)) (by decide +kernel))
set_option maxRecDepth 20000 in
theorem gX7_bestOrder_X7_requireOpen : GoodIn wsX7_bestOrder (wsV RX7 173 RX7 yX7_requireOpen wsX7_requireOpen) := goodIn_app (goodIn_bb bs_X7_bestOrder bi_X7_bestOrder _ [(1, 1), (1, 2), (1, 3), (1, 4)] rfl (by decide +kernel)) ggX7_bestOrder_X7_requireOpen
set_option maxRecDepth 20000 in
theorem ggX7_bestOrder_X7_presentOrders : GoodIn wsX7_bestOrder wsX7_presentOrders := goodIn_bb bs_X7_bestOrder bi_X7_bestOrder _ [(1, 13), (1, 14), (1, 8), (1, 15), (1, 16), (1, 17), (1, 18), (1, 19), (1, 20), (1, 21), (1, 22), (1, 23), (2, 0), (2, 1), (2, 2), (2, 3), (2, 4), (2, 5), (2, 6), (2, 7), (2, 8), (2, 9), (2, 10), (2, 11), (2, 12), (2, 13), (2, 14), (2, 15), (2, 16), (2, 17), (2, 18), (2, 19), (2, 20), (2, 21), (2, 22), (2, 23), (3, 0), (3, 1), (3, 2), (3, 3), (3, 4), (3, 5), (3, 6), (3, 7), (3, 8), (3, 9), (3, 10), (3, 11), (3, 12), (3, 13), (3, 14), (3, 15), (3, 16), (3, 17), (3, 18), (3, 19), (3, 20), (3, 21), (3, 22), (3, 23), (4, 0), (4, 1), (4, 2), (4, 3), (4, 4), (4, 5), (4, 6), (4, 7), (4, 8), (4, 9), (4, 10), (4, 11), (4, 12), (4, 13), (4, 14), (4, 15), (4, 16), (4, 17), (4, 18), (4, 19), (4, 20), (4, 21), (4, 22), (4, 23), (5, 0), (5, 1), (5, 2), (5, 3), (5, 4), (5, 5), (5, 6), (5, 7), (5, 8), (5, 9), (5, 10), (5, 11), (5, 12), (5, 13), (5, 14), (5, 15), (5, 16), (5, 17), (5, 18), (5, 19), (5, 20), (5, 21), (5, 22), (5, 23), (6, 0), (6, 1), (6, 2), (6, 3), (6, 4), (6, 5), (6, 6), (6, 7), (6, 8), (6, 9), (6, 10), (6, 11), (6, 12), (6, 13), (6, 14), (6, 15), (6, 16), (6, 17), (6, 18), (6, 19), (6, 20), (6, 21), (6, 22), (6, 23), (7, 0), (7, 1), (7, 2), (7, 3), (7, 4), (7, 5), (7, 6), (7, 7), (7, 8), (7, 9), (7, 10), (7, 11), (7, 12), (7, 13), (7, 14), (7, 15), (7, 16), (7, 17), (7, 18), (7, 19), (7, 20), (7, 21), (7, 22), (7, 23), (8, 0), (8, 1), (8, 2), (8, 3), (8, 4), (10, 0), (10, 1), (10, 2), (10, 3), (10, 4), (10, 5), (10, 6), (10, 7), (11, 0), (11, 1), (11, 2), (11, 3), (11, 4), (11, 5), (12, 0), (12, 1), (12, 2), (12, 3), (12, 4), (12, 5), (12, 6), (12, 7), (9, 0), (9, 1), (9, 2), (9, 3), (13, 0), (13, 1), (13, 2), (13, 3), (13, 4), (13, 5), (13, 6), (13, 7), (14, 0), (15, 0), (15, 1), (15, 2), (15, 3)] rfl (by decide +kernel)
set_option maxRecDepth 20000 in
theorem gX7_bestOrder_X7_presentOrders : GoodIn wsX7_bestOrder (wsV RX7 240 RX7 yX7_presentOrders wsX7_presentOrders) := goodIn_app (goodIn_bb bs_X7_bestOrder bi_X7_bestOrder _ [(1, 10), (1, 11), (1, 12), (1, 4)] rfl (by decide +kernel)) ggX7_bestOrder_X7_presentOrders
theorem dX7_bestOrder_0 : decode cX7_bestOrder 0 = .ok (.aload_n 0, 1) := by decide +kernel
theorem dX7_bestOrder_1 : decode cX7_bestOrder 1 = .ok (.invokevirtual 173, 3) := by decide +kernel
theorem dX7_bestOrder_4 : decode cX7_bestOrder 4 = .ok (.aload_n 0, 1) := by decide +kernel
theorem dX7_bestOrder_5 : decode cX7_bestOrder 5 = .ok (.invokevirtual 240, 3) := by decide +kernel
theorem dX7_bestOrder_8 : decode cX7_bestOrder 8 = .ok (.getfield 247, 3) := by decide +kernel
theorem dX7_bestOrder_11 : decode cX7_bestOrder 11 = .ok (.ireturn, 1) := by decide +kernel
def bs_X7_randomWalk : List (List Cond) := [[.code yX7_randomWalk cX7_randomWalk 12 (some .int)], wsX7_randomWalk_r1, wsX7_randomWalk_r2, wsX7_randomWalk_r3, wsX7_randomWalk_r4, wsX7_randomWalk_r5, wsX70, wsX60, wsX40, wsX50, wsX00, (vx_atS RX7 150 "java/lang/IllegalArgumentException" ["java/lang/RuntimeException", "java/lang/Exception"]).filter goodWord, (vx_atS RX7 180 "java/lang/IllegalStateException" ["java/lang/RuntimeException", "java/lang/Exception"]).filter goodWord]
theorem bi_X7_randomWalk : ∀ w ∈ bs_X7_randomWalk.flatten, w ∈ wsX7_randomWalk := by
  have h : bs_X7_randomWalk.flatten = wsX7_randomWalk := by simp only [bs_X7_randomWalk, wsX7_randomWalk, List.flatten_cons, List.flatten_nil, List.append_assoc, List.append_nil, List.nil_append, List.cons_append]
  intro w hw; rw [h] at hw; exact hw
set_option maxRecDepth 20000 in
theorem ggX7_randomWalk_X7_requireRange : GoodIn wsX7_randomWalk wsX7_requireRange := goodIn_ca (goodIn_bb bs_X7_randomWalk bi_X7_randomWalk _ [(1, 9), (1, 10), (1, 11)] rfl (by decide +kernel)) (goodIn_sub (fun _ h => List.mem_cons_of_mem _ (List.mem_append_left _ (List.mem_append_right _ h))) (by decide +kernel))
set_option maxRecDepth 20000 in
theorem gX7_randomWalk_X7_requireRange : GoodIn wsX7_randomWalk (va_wsS RX7 79 yX7_requireRange wsX7_requireRange) := goodIn_app (goodIn_bb bs_X7_randomWalk bi_X7_randomWalk _ [(1, 6), (1, 7), (1, 8)] rfl (by decide +kernel)) ggX7_randomWalk_X7_requireRange
set_option maxRecDepth 20000 in
theorem ggX7_randomWalk_X7_requireOpen : GoodIn wsX7_randomWalk wsX7_requireOpen := goodIn_ca (goodIn_bb bs_X7_randomWalk bi_X7_randomWalk _ [(1, 15), (1, 16), (1, 17), (1, 0), (1, 18), (6, 0), (6, 1), (6, 2), (6, 3), (6, 4), (6, 5), (6, 6), (6, 7), (7, 0), (7, 1), (7, 2), (7, 3), (7, 4), (7, 5)] rfl (by decide +kernel)) (goodIn_sub (fun _ h => List.mem_cons_of_mem _ (List.mem_append_right _ h)) (by decide +kernel))
set_option maxRecDepth 20000 in
theorem gX7_randomWalk_X7_requireOpen : GoodIn wsX7_randomWalk (wsV RX7 173 RX7 yX7_requireOpen wsX7_requireOpen) := goodIn_app (goodIn_bb bs_X7_randomWalk bi_X7_randomWalk _ [(1, 12), (1, 13), (1, 14), (1, 8)] rfl (by decide +kernel)) ggX7_randomWalk_X7_requireOpen
set_option maxRecDepth 20000 in
theorem ggX7_randomWalk_X7_presentSky : GoodIn wsX7_randomWalk wsX7_presentSky := goodIn_bb bs_X7_randomWalk bi_X7_randomWalk _ [(1, 22), (1, 23), (1, 0), (2, 0), (2, 1), (2, 2), (2, 3), (2, 4), (2, 5), (2, 6), (2, 7), (2, 8), (2, 9), (2, 10), (2, 11), (2, 12), (2, 13), (2, 14), (2, 15), (2, 16), (2, 17), (2, 18), (2, 19), (2, 20), (6, 0), (6, 1), (6, 2), (6, 3), (6, 4), (6, 5), (6, 6), (6, 7), (8, 0), (8, 1), (8, 2), (8, 3), (8, 4), (8, 5), (8, 6), (8, 7), (7, 0), (7, 1), (7, 2), (7, 3), (7, 4), (7, 5)] rfl (by decide +kernel)
set_option maxRecDepth 20000 in
theorem gX7_randomWalk_X7_presentSky : GoodIn wsX7_randomWalk (wsV RX7 114 RX7 yX7_presentSky wsX7_presentSky) := goodIn_app (goodIn_bb bs_X7_randomWalk bi_X7_randomWalk _ [(1, 19), (1, 20), (1, 21), (1, 8)] rfl (by decide +kernel)) ggX7_randomWalk_X7_presentSky
set_option maxRecDepth 20000 in
theorem ggX7_randomWalk_X5_beside : GoodIn wsX7_randomWalk wsX5_beside := goodIn_bb bs_X7_randomWalk bi_X7_randomWalk _ [(3, 1), (3, 2), (9, 0), (9, 1), (9, 2), (9, 3)] rfl (by decide +kernel)
set_option maxRecDepth 20000 in
theorem gX7_randomWalk_X5_beside : GoodIn wsX7_randomWalk (wsV RX7 83 RX5 yX5_beside wsX5_beside) := goodIn_app (goodIn_bb bs_X7_randomWalk bi_X7_randomWalk _ [(2, 21), (2, 22), (2, 23), (3, 0)] rfl (by decide +kernel)) ggX7_randomWalk_X5_beside
set_option maxRecDepth 20000 in
theorem ggX7_randomWalk_X4_isLit : GoodIn wsX7_randomWalk wsX4_isLit := goodIn_bb bs_X7_randomWalk bi_X7_randomWalk _ [(3, 6), (2, 6), (3, 7), (3, 8), (3, 9), (3, 10), (3, 11), (3, 12), (3, 13), (3, 14), (3, 15), (3, 16), (3, 17), (3, 18), (3, 19), (3, 20), (2, 3), (3, 21), (2, 5), (3, 22), (3, 23), (4, 0), (4, 1), (4, 2), (4, 3), (4, 4), (2, 10), (4, 5), (2, 12), (4, 6), (4, 7), (4, 8), (4, 9), (4, 10), (4, 11), (4, 12), (4, 13), (4, 14), (4, 15), (4, 16), (4, 17), (4, 18), (3, 0), (4, 19), (4, 20), (4, 21), (4, 22), (4, 23), (5, 0), (5, 1), (8, 0), (8, 1), (8, 2), (8, 3), (8, 4), (8, 5), (8, 6), (8, 7), (10, 0), (7, 0), (7, 1), (7, 2), (7, 3), (7, 4), (7, 5), (9, 0), (9, 1), (9, 2), (9, 3)] rfl (by decide +kernel)
set_option maxRecDepth 20000 in
theorem gX7_randomWalk_X4_isLit : GoodIn wsX7_randomWalk (wsV RX7 118 RX4 yX4_isLit wsX4_isLit) := goodIn_app (goodIn_bb bs_X7_randomWalk bi_X7_randomWalk _ [(3, 3), (3, 4), (3, 5), (2, 3)] rfl (by decide +kernel)) ggX7_randomWalk_X4_isLit
theorem dX7_randomWalk_0 : decode cX7_randomWalk 0 = .ok (.iload_n 3, 1) := by decide +kernel
theorem dX7_randomWalk_1 : decode cX7_randomWalk 1 = .ok (.iconst 1, 1) := by decide +kernel
theorem dX7_randomWalk_2 : decode cX7_randomWalk 2 = .ok (.bipush 60, 2) := by decide +kernel
theorem dX7_randomWalk_4 : decode cX7_randomWalk 4 = .ok (.invokestatic 79, 3) := by decide +kernel
theorem dX7_randomWalk_7 : decode cX7_randomWalk 7 = .ok (.aload_n 0, 1) := by decide +kernel
theorem dX7_randomWalk_8 : decode cX7_randomWalk 8 = .ok (.invokevirtual 173, 3) := by decide +kernel
theorem dX7_randomWalk_11 : decode cX7_randomWalk 11 = .ok (.aload_n 0, 1) := by decide +kernel
theorem dX7_randomWalk_12 : decode cX7_randomWalk 12 = .ok (.invokevirtual 114, 3) := by decide +kernel
theorem dX7_randomWalk_15 : decode cX7_randomWalk 15 = .ok (.astore 4, 2) := by decide +kernel
theorem dX7_randomWalk_17 : decode cX7_randomWalk 17 = .ok (.aload_n 0, 1) := by decide +kernel
theorem dX7_randomWalk_18 : decode cX7_randomWalk 18 = .ok (.getfield 19, 3) := by decide +kernel
theorem dX7_randomWalk_21 : decode cX7_randomWalk 21 = .ok (.getfield 132, 3) := by decide +kernel
theorem dX7_randomWalk_24 : decode cX7_randomWalk 24 = .ok (.istore 5, 2) := by decide +kernel
theorem dX7_randomWalk_26 : decode cX7_randomWalk 26 = .ok (.lload_n 1, 1) := by decide +kernel
theorem dX7_randomWalk_27 : decode cX7_randomWalk 27 = .ok (.lstore 6, 2) := by decide +kernel
theorem dX7_randomWalk_29 : decode cX7_randomWalk 29 = .ok (.iconst 1, 1) := by decide +kernel
theorem dX7_randomWalk_30 : decode cX7_randomWalk 30 = .ok (.istore 8, 2) := by decide +kernel
theorem dX7_randomWalk_32 : decode cX7_randomWalk 32 = .ok (.iload 8, 2) := by decide +kernel
theorem dX7_randomWalk_34 : decode cX7_randomWalk 34 = .ok (.iload_n 3, 1) := by decide +kernel
theorem dX7_randomWalk_35 : decode cX7_randomWalk 35 = .ok (.if_icmp .gt 101, 3) := by decide +kernel
theorem dX7_randomWalk_38 : decode cX7_randomWalk 38 = .ok (.lload 6, 2) := by decide +kernel
theorem dX7_randomWalk_40 : decode cX7_randomWalk 40 = .ok (.ldc2_w 250, 3) := by decide +kernel
theorem dX7_randomWalk_43 : decode cX7_randomWalk 43 = .ok (.lmul, 1) := by decide +kernel
theorem dX7_randomWalk_44 : decode cX7_randomWalk 44 = .ok (.ldc2_w 252, 3) := by decide +kernel
theorem dX7_randomWalk_47 : decode cX7_randomWalk 47 = .ok (.ladd, 1) := by decide +kernel
theorem dX7_randomWalk_48 : decode cX7_randomWalk 48 = .ok (.lstore 6, 2) := by decide +kernel
theorem dX7_randomWalk_50 : decode cX7_randomWalk 50 = .ok (.lload 6, 2) := by decide +kernel
theorem dX7_randomWalk_52 : decode cX7_randomWalk 52 = .ok (.bipush 33, 2) := by decide +kernel
theorem dX7_randomWalk_54 : decode cX7_randomWalk 54 = .ok (.lushr, 1) := by decide +kernel
theorem dX7_randomWalk_55 : decode cX7_randomWalk 55 = .ok (.l2i, 1) := by decide +kernel
theorem dX7_randomWalk_56 : decode cX7_randomWalk 56 = .ok (.iconst 5, 1) := by decide +kernel
theorem dX7_randomWalk_57 : decode cX7_randomWalk 57 = .ok (.irem, 1) := by decide +kernel
theorem dX7_randomWalk_58 : decode cX7_randomWalk 58 = .ok (.istore 9, 2) := by decide +kernel
theorem dX7_randomWalk_60 : decode cX7_randomWalk 60 = .ok (.aload_n 0, 1) := by decide +kernel
theorem dX7_randomWalk_61 : decode cX7_randomWalk 61 = .ok (.getfield 19, 3) := by decide +kernel
theorem dX7_randomWalk_64 : decode cX7_randomWalk 64 = .ok (.getfield 128, 3) := by decide +kernel
theorem dX7_randomWalk_67 : decode cX7_randomWalk 67 = .ok (.iload 8, 2) := by decide +kernel
theorem dX7_randomWalk_69 : decode cX7_randomWalk 69 = .ok (.iadd, 1) := by decide +kernel
theorem dX7_randomWalk_70 : decode cX7_randomWalk 70 = .ok (.istore 10, 2) := by decide +kernel
theorem dX7_randomWalk_72 : decode cX7_randomWalk 72 = .ok (.iload 9, 2) := by decide +kernel
theorem dX7_randomWalk_74 : decode cX7_randomWalk 74 = .ok (.iconst 4, 1) := by decide +kernel
theorem dX7_randomWalk_75 : decode cX7_randomWalk 75 = .ok (.if_icmp .ge 17, 3) := by decide +kernel
theorem dX7_randomWalk_78 : decode cX7_randomWalk 78 = .ok (.aload_n 0, 1) := by decide +kernel
theorem dX7_randomWalk_79 : decode cX7_randomWalk 79 = .ok (.getfield 10, 3) := by decide +kernel
theorem dX7_randomWalk_82 : decode cX7_randomWalk 82 = .ok (.iload 5, 2) := by decide +kernel
theorem dX7_randomWalk_84 : decode cX7_randomWalk 84 = .ok (.iload 9, 2) := by decide +kernel
theorem dX7_randomWalk_86 : decode cX7_randomWalk 86 = .ok (.invokevirtual 83, 3) := by decide +kernel
theorem dX7_randomWalk_89 : decode cX7_randomWalk 89 = .ok (.goto 5, 3) := by decide +kernel
theorem dX7_randomWalk_92 : decode cX7_randomWalk 92 = .ok (.iload 5, 2) := by decide +kernel
theorem dX7_randomWalk_94 : decode cX7_randomWalk 94 = .ok (.istore 11, 2) := by decide +kernel
theorem dX7_randomWalk_96 : decode cX7_randomWalk 96 = .ok (.aload 4, 2) := by decide +kernel
theorem dX7_randomWalk_98 : decode cX7_randomWalk 98 = .ok (.iload 11, 2) := by decide +kernel
theorem dX7_randomWalk_100 : decode cX7_randomWalk 100 = .ok (.iload 10, 2) := by decide +kernel
theorem dX7_randomWalk_102 : decode cX7_randomWalk 102 = .ok (.invokevirtual 118, 3) := by decide +kernel
theorem dX7_randomWalk_105 : decode cX7_randomWalk 105 = .ok (.ifCond .ne 10, 3) := by decide +kernel
theorem dX7_randomWalk_108 : decode cX7_randomWalk 108 = .ok (.iload 11, 2) := by decide +kernel
theorem dX7_randomWalk_110 : decode cX7_randomWalk 110 = .ok (.istore 5, 2) := by decide +kernel
theorem dX7_randomWalk_112 : decode cX7_randomWalk 112 = .ok (.goto 18, 3) := by decide +kernel
theorem dX7_randomWalk_115 : decode cX7_randomWalk 115 = .ok (.aload 4, 2) := by decide +kernel
theorem dX7_randomWalk_117 : decode cX7_randomWalk 117 = .ok (.iload 5, 2) := by decide +kernel
theorem dX7_randomWalk_119 : decode cX7_randomWalk 119 = .ok (.iload 10, 2) := by decide +kernel
theorem dX7_randomWalk_121 : decode cX7_randomWalk 121 = .ok (.invokevirtual 118, 3) := by decide +kernel
theorem dX7_randomWalk_124 : decode cX7_randomWalk 124 = .ok (.ifCond .eq 6, 3) := by decide +kernel
theorem dX7_randomWalk_127 : decode cX7_randomWalk 127 = .ok (.iload 5, 2) := by decide +kernel
theorem dX7_randomWalk_129 : decode cX7_randomWalk 129 = .ok (.ireturn, 1) := by decide +kernel
theorem dX7_randomWalk_130 : decode cX7_randomWalk 130 = .ok (.iinc 8 1, 3) := by decide +kernel
theorem dX7_randomWalk_133 : decode cX7_randomWalk 133 = .ok (.goto (-101), 3) := by decide +kernel
theorem dX7_randomWalk_136 : decode cX7_randomWalk 136 = .ok (.iload 5, 2) := by decide +kernel
theorem dX7_randomWalk_138 : decode cX7_randomWalk 138 = .ok (.ireturn, 1) := by decide +kernel
def bs_X7_save : List (List Cond) := [[.code yX7_save cX7_save 3 (some .int)], wsX7_save_r1, wsX7_save_r2, wsX70, wsX60, (vx_atS RX7 289 "java/lang/IndexOutOfBoundsException" ["java/lang/RuntimeException", "java/lang/Exception"]).filter goodWord]
theorem bi_X7_save : ∀ w ∈ bs_X7_save.flatten, w ∈ wsX7_save := by
  have h : bs_X7_save.flatten = wsX7_save := by simp only [bs_X7_save, wsX7_save, List.flatten_cons, List.flatten_nil, List.append_assoc, List.append_nil, List.nil_append, List.cons_append]
  intro w hw; rw [h] at hw; exact hw
set_option maxRecDepth 20000 in
theorem ggX7_save_X7_requireSlot : GoodIn wsX7_save wsX7_requireSlot := goodIn_ca (goodIn_bb bs_X7_save bi_X7_save _ [(1, 9), (1, 10), (1, 11)] rfl (by decide +kernel)) (goodIn_sub (fun _ h => List.mem_cons_of_mem _ (List.mem_append_right _ h)) (by decide +kernel))
set_option maxRecDepth 20000 in
theorem gX7_save_X7_requireSlot : GoodIn wsX7_save (va_wsS RX7 254 yX7_requireSlot wsX7_requireSlot) := goodIn_app (goodIn_bb bs_X7_save bi_X7_save _ [(1, 6), (1, 7), (1, 8)] rfl (by decide +kernel)) ggX7_save_X7_requireSlot
set_option maxRecDepth 20000 in
theorem ggX7_save_X6_init : GoodIn wsX7_save wsX6_init := goodIn_bb bs_X7_save bi_X7_save _ [(1, 14), (1, 15), (1, 16), (1, 17), (1, 18), (1, 19), (1, 20), (4, 0), (4, 1), (4, 2), (4, 3), (4, 4), (4, 5)] rfl (by decide +kernel)
set_option maxRecDepth 20000 in
theorem gX7_save_X6_init : GoodIn wsX7_save (wsX6_init) := ggX7_save_X6_init
set_option maxRecDepth 20000 in
theorem ggX7_save_X6_copyFrom : GoodIn wsX7_save wsX6_copyFrom := goodIn_bb bs_X7_save bi_X7_save _ [(2, 0), (2, 1), (2, 2), (2, 3), (2, 4), (1, 20), (2, 5), (2, 6), (2, 7), (2, 8), (2, 9), (2, 10), (2, 11), (1, 3), (2, 12), (1, 19), (4, 0), (4, 1), (4, 2), (4, 3), (4, 4), (4, 5)] rfl (by decide +kernel)
set_option maxRecDepth 20000 in
theorem gX7_save_X6_copyFrom : GoodIn wsX7_save (wsV RX7 153 RX6 yX6_copyFrom wsX6_copyFrom) := goodIn_app (goodIn_bb bs_X7_save bi_X7_save _ [(1, 21), (1, 22), (1, 23), (1, 3)] rfl (by decide +kernel)) ggX7_save_X6_copyFrom
theorem dX7_save_0 : decode cX7_save 0 = .ok (.iload_n 1, 1) := by decide +kernel
theorem dX7_save_1 : decode cX7_save 1 = .ok (.invokestatic 254, 3) := by decide +kernel
theorem dX7_save_4 : decode cX7_save 4 = .ok (.aload_n 0, 1) := by decide +kernel
theorem dX7_save_5 : decode cX7_save 5 = .ok (.getfield 33, 3) := by decide +kernel
theorem dX7_save_8 : decode cX7_save 8 = .ok (.iload_n 1, 1) := by decide +kernel
theorem dX7_save_9 : decode cX7_save 9 = .ok (.aaload, 1) := by decide +kernel
theorem dX7_save_10 : decode cX7_save 10 = .ok (.astore_n 2, 1) := by decide +kernel
theorem dX7_save_11 : decode cX7_save 11 = .ok (.aload_n 2, 1) := by decide +kernel
theorem dX7_save_12 : decode cX7_save 12 = .ok (.ifnonnull 18, 3) := by decide +kernel
theorem dX7_save_15 : decode cX7_save 15 = .ok (.new 16, 3) := by decide +kernel
theorem dX7_save_18 : decode cX7_save 18 = .ok (.dup, 1) := by decide +kernel
theorem dX7_save_19 : decode cX7_save 19 = .ok (.invokespecial 18, 3) := by decide +kernel
theorem dX7_save_22 : decode cX7_save 22 = .ok (.astore_n 2, 1) := by decide +kernel
theorem dX7_save_23 : decode cX7_save 23 = .ok (.aload_n 0, 1) := by decide +kernel
theorem dX7_save_24 : decode cX7_save 24 = .ok (.getfield 33, 3) := by decide +kernel
theorem dX7_save_27 : decode cX7_save 27 = .ok (.iload_n 1, 1) := by decide +kernel
theorem dX7_save_28 : decode cX7_save 28 = .ok (.aload_n 2, 1) := by decide +kernel
theorem dX7_save_29 : decode cX7_save 29 = .ok (.aastore, 1) := by decide +kernel
theorem dX7_save_30 : decode cX7_save 30 = .ok (.aload_n 2, 1) := by decide +kernel
theorem dX7_save_31 : decode cX7_save 31 = .ok (.aload_n 0, 1) := by decide +kernel
theorem dX7_save_32 : decode cX7_save 32 = .ok (.getfield 19, 3) := by decide +kernel
theorem dX7_save_35 : decode cX7_save 35 = .ok (.invokevirtual 153, 3) := by decide +kernel
theorem dX7_save_38 : decode cX7_save 38 = .ok (.aload_n 0, 1) := by decide +kernel
theorem dX7_save_39 : decode cX7_save 39 = .ok (.getfield 19, 3) := by decide +kernel
theorem dX7_save_42 : decode cX7_save 42 = .ok (.getfield 128, 3) := by decide +kernel
theorem dX7_save_45 : decode cX7_save 45 = .ok (.ireturn, 1) := by decide +kernel
def bs_X7_restore : List (List Cond) := [[.code yX7_restore cX7_restore 3 (some .int)], wsX7_restore_r1, wsX7_restore_r2, wsX70, wsX60, wsX10, (vx_atS RX7 180 "java/lang/IllegalStateException" ["java/lang/RuntimeException", "java/lang/Exception"]).filter goodWord, (vx_atS RX7 289 "java/lang/IndexOutOfBoundsException" ["java/lang/RuntimeException", "java/lang/Exception"]).filter goodWord]
theorem bi_X7_restore : ∀ w ∈ bs_X7_restore.flatten, w ∈ wsX7_restore := by
  have h : bs_X7_restore.flatten = wsX7_restore := by simp only [bs_X7_restore, wsX7_restore, List.flatten_cons, List.flatten_nil, List.append_assoc, List.append_nil, List.nil_append, List.cons_append]
  intro w hw; rw [h] at hw; exact hw
set_option maxRecDepth 20000 in
theorem ggX7_restore_X7_requireSlot : GoodIn wsX7_restore wsX7_requireSlot := goodIn_ca (goodIn_bb bs_X7_restore bi_X7_restore _ [(1, 9), (1, 10), (1, 11)] rfl (by decide +kernel)) (goodIn_sub (fun _ h => List.mem_cons_of_mem _ (List.mem_append_right _ h)) (by decide +kernel))
set_option maxRecDepth 20000 in
theorem gX7_restore_X7_requireSlot : GoodIn wsX7_restore (va_wsS RX7 254 yX7_requireSlot wsX7_requireSlot) := goodIn_app (goodIn_bb bs_X7_restore bi_X7_restore _ [(1, 6), (1, 7), (1, 8)] rfl (by decide +kernel)) ggX7_restore_X7_requireSlot
set_option maxRecDepth 20000 in
theorem ggX7_restore_X6_copyFrom : GoodIn wsX7_restore wsX6_copyFrom := goodIn_bb bs_X7_restore bi_X7_restore _ [(1, 16), (1, 17), (1, 18), (1, 19), (1, 20), (1, 21), (1, 22), (1, 23), (2, 0), (2, 1), (2, 2), (2, 3), (2, 4), (1, 15), (2, 5), (2, 6), (4, 0), (4, 1), (4, 2), (4, 3), (4, 4), (4, 5)] rfl (by decide +kernel)
set_option maxRecDepth 20000 in
theorem gX7_restore_X6_copyFrom : GoodIn wsX7_restore (wsV RX7 153 RX6 yX6_copyFrom wsX6_copyFrom) := goodIn_app (goodIn_bb bs_X7_restore bi_X7_restore _ [(1, 12), (1, 13), (1, 14), (1, 15)] rfl (by decide +kernel)) ggX7_restore_X6_copyFrom
set_option maxRecDepth 20000 in
theorem ggX7_restore_X1_forgetAll : GoodIn wsX7_restore wsX1_forgetAll := goodIn_bb bs_X7_restore bi_X7_restore _ [(2, 11), (2, 12), (2, 13), (5, 0), (5, 1), (5, 2)] rfl (by decide +kernel)
set_option maxRecDepth 20000 in
theorem gX7_restore_X1_forgetAll : GoodIn wsX7_restore (wsV RX7 259 RX1 yX1_forgetAll wsX1_forgetAll) := goodIn_app (goodIn_bb bs_X7_restore bi_X7_restore _ [(2, 7), (2, 8), (2, 9), (2, 10)] rfl (by decide +kernel)) ggX7_restore_X1_forgetAll
theorem dX7_restore_0 : decode cX7_restore 0 = .ok (.iload_n 1, 1) := by decide +kernel
theorem dX7_restore_1 : decode cX7_restore 1 = .ok (.invokestatic 254, 3) := by decide +kernel
theorem dX7_restore_4 : decode cX7_restore 4 = .ok (.aload_n 0, 1) := by decide +kernel
theorem dX7_restore_5 : decode cX7_restore 5 = .ok (.getfield 33, 3) := by decide +kernel
theorem dX7_restore_8 : decode cX7_restore 8 = .ok (.iload_n 1, 1) := by decide +kernel
theorem dX7_restore_9 : decode cX7_restore 9 = .ok (.aaload, 1) := by decide +kernel
theorem dX7_restore_10 : decode cX7_restore 10 = .ok (.astore_n 2, 1) := by decide +kernel
theorem dX7_restore_11 : decode cX7_restore 11 = .ok (.aload_n 2, 1) := by decide +kernel
theorem dX7_restore_12 : decode cX7_restore 12 = .ok (.ifnonnull 14, 3) := by decide +kernel
theorem dX7_restore_15 : decode cX7_restore 15 = .ok (.new 176, 3) := by decide +kernel
theorem dX7_restore_18 : decode cX7_restore 18 = .ok (.dup, 1) := by decide +kernel
theorem dX7_restore_19 : decode cX7_restore 19 = .ok (.ldc_w 257, 3) := by decide +kernel
theorem dX7_restore_22 : decode cX7_restore 22 = .ok (.invokespecial 180, 3) := by decide +kernel
theorem dX7_restore_25 : decode cX7_restore 25 = .ok (.athrow, 1) := by decide +kernel
theorem dX7_restore_26 : decode cX7_restore 26 = .ok (.aload_n 0, 1) := by decide +kernel
theorem dX7_restore_27 : decode cX7_restore 27 = .ok (.getfield 19, 3) := by decide +kernel
theorem dX7_restore_30 : decode cX7_restore 30 = .ok (.aload_n 2, 1) := by decide +kernel
theorem dX7_restore_31 : decode cX7_restore 31 = .ok (.invokevirtual 153, 3) := by decide +kernel
theorem dX7_restore_34 : decode cX7_restore 34 = .ok (.aload_n 0, 1) := by decide +kernel
theorem dX7_restore_35 : decode cX7_restore 35 = .ok (.getfield 29, 3) := by decide +kernel
theorem dX7_restore_38 : decode cX7_restore 38 = .ok (.invokevirtual 259, 3) := by decide +kernel
theorem dX7_restore_41 : decode cX7_restore 41 = .ok (.aload_n 0, 1) := by decide +kernel
theorem dX7_restore_42 : decode cX7_restore 42 = .ok (.getfield 19, 3) := by decide +kernel
theorem dX7_restore_45 : decode cX7_restore 45 = .ok (.getfield 128, 3) := by decide +kernel
theorem dX7_restore_48 : decode cX7_restore 48 = .ok (.ireturn, 1) := by decide +kernel
def bs_X7_adoptDraft : List (List Cond) := [[.code yX7_adoptDraft cX7_adoptDraft 1 (some .int)], wsX7_adoptDraft_r1, wsX7_adoptDraft_r2, wsX7_adoptDraft_r3, wsX7_adoptDraft_r4, wsX7_adoptDraft_r5, wsX7_adoptDraft_r6, wsX70, wsX60, wsX40, wsX00, wsX50, wsX10, (vx_atS RX7 180 "java/lang/IllegalStateException" ["java/lang/RuntimeException", "java/lang/Exception"]).filter goodWord]
theorem bi_X7_adoptDraft : ∀ w ∈ bs_X7_adoptDraft.flatten, w ∈ wsX7_adoptDraft := by
  have h : bs_X7_adoptDraft.flatten = wsX7_adoptDraft := by simp only [bs_X7_adoptDraft, wsX7_adoptDraft, List.flatten_cons, List.flatten_nil, List.append_assoc, List.append_nil, List.nil_append, List.cons_append]
  intro w hw; rw [h] at hw; exact hw
set_option maxRecDepth 20000 in
theorem ggX7_adoptDraft_X4_show : GoodIn wsX7_adoptDraft wsX4_show := goodIn_bb bs_X7_adoptDraft bi_X7_adoptDraft _ [(1, 13), (1, 14), (1, 15), (1, 16), (1, 17), (1, 18), (1, 19), (1, 20), (1, 21), (1, 22), (1, 23), (2, 0), (2, 1), (2, 2), (2, 3), (2, 4), (2, 5), (9, 0), (9, 1), (9, 2), (9, 3), (9, 4), (9, 5), (9, 6), (9, 7), (8, 0), (8, 1), (8, 2), (8, 3), (8, 4), (8, 5)] rfl (by decide +kernel)
set_option maxRecDepth 20000 in
theorem gX7_adoptDraft_X4_show : GoodIn wsX7_adoptDraft (wsV RX7 262 RX4 yX4_show wsX4_show) := goodIn_app (goodIn_bb bs_X7_adoptDraft bi_X7_adoptDraft _ [(1, 9), (1, 10), (1, 11), (1, 12)] rfl (by decide +kernel)) ggX7_adoptDraft_X4_show
set_option maxRecDepth 20000 in
theorem ggX7_adoptDraft_X4_isLit : GoodIn wsX7_adoptDraft wsX4_isLit := goodIn_bb bs_X7_adoptDraft bi_X7_adoptDraft _ [(2, 9), (1, 15), (2, 10), (2, 11), (2, 12), (2, 13), (2, 14), (2, 15), (2, 16), (2, 17), (2, 18), (2, 19), (2, 20), (2, 21), (2, 22), (2, 23), (1, 12), (3, 0), (1, 14), (3, 1), (3, 2), (3, 3), (3, 4), (3, 5), (3, 6), (3, 7), (1, 19), (3, 8), (1, 21), (3, 9), (3, 10), (3, 11), (3, 12), (3, 13), (3, 14), (3, 15), (3, 16), (3, 17), (3, 18), (3, 19), (3, 20), (3, 21), (3, 22), (3, 23), (4, 0), (4, 1), (4, 2), (4, 3), (4, 4), (4, 5), (9, 0), (9, 1), (9, 2), (9, 3), (9, 4), (9, 5), (9, 6), (9, 7), (10, 0), (8, 0), (8, 1), (8, 2), (8, 3), (8, 4), (8, 5), (11, 0), (11, 1), (11, 2), (11, 3)] rfl (by decide +kernel)
set_option maxRecDepth 20000 in
theorem gX7_adoptDraft_X4_isLit : GoodIn wsX7_adoptDraft (wsV RX7 118 RX4 yX4_isLit wsX4_isLit) := goodIn_app (goodIn_bb bs_X7_adoptDraft bi_X7_adoptDraft _ [(2, 6), (2, 7), (2, 8), (1, 12)] rfl (by decide +kernel)) ggX7_adoptDraft_X4_isLit
set_option maxRecDepth 20000 in
theorem ggX7_adoptDraft_X1_remember : GoodIn wsX7_adoptDraft wsX1_remember := goodIn_bb bs_X7_adoptDraft bi_X7_adoptDraft _ [(4, 10), (4, 11), (4, 12), (4, 13), (4, 14), (4, 15), (1, 19), (4, 16), (4, 17), (4, 18), (4, 19), (4, 20), (4, 21), (4, 22), (1, 21), (4, 23), (5, 0), (5, 1), (5, 2), (5, 3), (5, 4), (5, 5), (5, 6), (5, 7), (2, 2), (2, 3), (2, 4), (2, 5), (5, 8), (1, 23), (2, 0), (2, 1), (12, 0), (12, 1), (12, 2), (8, 0), (8, 1), (8, 2), (8, 3), (8, 4), (8, 5)] rfl (by decide +kernel)
set_option maxRecDepth 20000 in
theorem gX7_adoptDraft_X1_remember : GoodIn wsX7_adoptDraft (wsV RX7 183 RX1 yX1_remember wsX1_remember) := goodIn_app (goodIn_bb bs_X7_adoptDraft bi_X7_adoptDraft _ [(4, 6), (4, 7), (4, 8), (4, 9)] rfl (by decide +kernel)) ggX7_adoptDraft_X1_remember
set_option maxRecDepth 20000 in
theorem ggX7_adoptDraft_X6_copyFrom : GoodIn wsX7_adoptDraft wsX6_copyFrom := goodIn_bb bs_X7_adoptDraft bi_X7_adoptDraft _ [(5, 3), (5, 4), (5, 5), (5, 6), (5, 7), (4, 23), (2, 2), (2, 3), (2, 4), (2, 5), (5, 8), (1, 23), (2, 0), (1, 19), (2, 1), (1, 21), (8, 0), (8, 1), (8, 2), (8, 3), (8, 4), (8, 5)] rfl (by decide +kernel)
set_option maxRecDepth 20000 in
theorem gX7_adoptDraft_X6_copyFrom : GoodIn wsX7_adoptDraft (wsV RX7 153 RX6 yX6_copyFrom wsX6_copyFrom) := goodIn_app (goodIn_bb bs_X7_adoptDraft bi_X7_adoptDraft _ [(5, 9), (5, 1), (5, 2), (1, 19)] rfl (by decide +kernel)) ggX7_adoptDraft_X6_copyFrom
set_option maxRecDepth 20000 in
theorem ggX7_adoptDraft_X4_countLit : GoodIn wsX7_adoptDraft wsX4_countLit := goodIn_bb bs_X7_adoptDraft bi_X7_adoptDraft _ [(5, 13), (2, 10), (5, 14), (5, 15), (5, 16), (1, 12), (5, 17), (1, 15), (5, 18), (5, 19), (5, 20), (2, 14), (5, 21), (2, 20), (5, 22), (5, 23), (6, 0), (6, 1), (2, 21), (2, 22), (2, 23), (3, 0), (1, 14), (3, 1), (3, 2), (3, 3), (3, 4), (3, 5), (3, 6), (3, 7), (1, 19), (3, 8), (1, 21), (3, 9), (3, 10), (3, 11), (3, 12), (3, 13), (3, 14), (3, 15), (3, 16), (3, 17), (3, 18), (3, 19), (3, 20), (3, 21), (3, 22), (3, 23), (4, 0), (4, 1), (4, 2), (4, 3), (4, 4), (4, 5), (6, 2), (6, 3), (6, 4), (6, 5), (6, 6), (6, 7), (6, 8), (6, 9), (2, 16), (2, 17), (2, 18), (2, 19), (6, 10), (6, 11), (6, 12), (6, 13), (6, 14), (6, 15), (6, 16), (9, 0), (9, 1), (9, 2), (9, 3), (9, 4), (9, 5), (9, 6), (9, 7), (10, 0), (8, 0), (8, 1), (8, 2), (8, 3), (8, 4), (8, 5), (11, 0), (11, 1), (11, 2), (11, 3)] rfl (by decide +kernel)
set_option maxRecDepth 20000 in
theorem gX7_adoptDraft_X4_countLit : GoodIn wsX7_adoptDraft (wsV RX7 122 RX4 yX4_countLit wsX4_countLit) := goodIn_app (goodIn_bb bs_X7_adoptDraft bi_X7_adoptDraft _ [(5, 10), (5, 11), (5, 12), (1, 12)] rfl (by decide +kernel)) ggX7_adoptDraft_X4_countLit
theorem dX7_adoptDraft_0 : decode cX7_adoptDraft 0 = .ok (.aload_n 0, 1) := by decide +kernel
theorem dX7_adoptDraft_1 : decode cX7_adoptDraft 1 = .ok (.getfield 42, 3) := by decide +kernel
theorem dX7_adoptDraft_4 : decode cX7_adoptDraft 4 = .ok (.aload_n 0, 1) := by decide +kernel
theorem dX7_adoptDraft_5 : decode cX7_adoptDraft 5 = .ok (.getfield 23, 3) := by decide +kernel
theorem dX7_adoptDraft_8 : decode cX7_adoptDraft 8 = .ok (.invokevirtual 262, 3) := by decide +kernel
theorem dX7_adoptDraft_11 : decode cX7_adoptDraft 11 = .ok (.aload_n 0, 1) := by decide +kernel
theorem dX7_adoptDraft_12 : decode cX7_adoptDraft 12 = .ok (.getfield 23, 3) := by decide +kernel
theorem dX7_adoptDraft_15 : decode cX7_adoptDraft 15 = .ok (.getfield 135, 3) := by decide +kernel
theorem dX7_adoptDraft_18 : decode cX7_adoptDraft 18 = .ok (.ifCond .ne 38, 3) := by decide +kernel
theorem dX7_adoptDraft_21 : decode cX7_adoptDraft 21 = .ok (.aload_n 0, 1) := by decide +kernel
theorem dX7_adoptDraft_22 : decode cX7_adoptDraft 22 = .ok (.getfield 42, 3) := by decide +kernel
theorem dX7_adoptDraft_25 : decode cX7_adoptDraft 25 = .ok (.aload_n 0, 1) := by decide +kernel
theorem dX7_adoptDraft_26 : decode cX7_adoptDraft 26 = .ok (.getfield 23, 3) := by decide +kernel
theorem dX7_adoptDraft_29 : decode cX7_adoptDraft 29 = .ok (.getfield 132, 3) := by decide +kernel
theorem dX7_adoptDraft_32 : decode cX7_adoptDraft 32 = .ok (.aload_n 0, 1) := by decide +kernel
theorem dX7_adoptDraft_33 : decode cX7_adoptDraft 33 = .ok (.getfield 23, 3) := by decide +kernel
theorem dX7_adoptDraft_36 : decode cX7_adoptDraft 36 = .ok (.getfield 128, 3) := by decide +kernel
theorem dX7_adoptDraft_39 : decode cX7_adoptDraft 39 = .ok (.invokevirtual 118, 3) := by decide +kernel
theorem dX7_adoptDraft_42 : decode cX7_adoptDraft 42 = .ok (.ifCond .eq 14, 3) := by decide +kernel
theorem dX7_adoptDraft_45 : decode cX7_adoptDraft 45 = .ok (.new 176, 3) := by decide +kernel
theorem dX7_adoptDraft_48 : decode cX7_adoptDraft 48 = .ok (.dup, 1) := by decide +kernel
theorem dX7_adoptDraft_49 : decode cX7_adoptDraft 49 = .ok (.ldc_w 265, 3) := by decide +kernel
theorem dX7_adoptDraft_52 : decode cX7_adoptDraft 52 = .ok (.invokespecial 180, 3) := by decide +kernel
theorem dX7_adoptDraft_55 : decode cX7_adoptDraft 55 = .ok (.athrow, 1) := by decide +kernel
theorem dX7_adoptDraft_56 : decode cX7_adoptDraft 56 = .ok (.aload_n 0, 1) := by decide +kernel
theorem dX7_adoptDraft_57 : decode cX7_adoptDraft 57 = .ok (.getfield 29, 3) := by decide +kernel
theorem dX7_adoptDraft_60 : decode cX7_adoptDraft 60 = .ok (.aload_n 0, 1) := by decide +kernel
theorem dX7_adoptDraft_61 : decode cX7_adoptDraft 61 = .ok (.getfield 19, 3) := by decide +kernel
theorem dX7_adoptDraft_64 : decode cX7_adoptDraft 64 = .ok (.invokevirtual 183, 3) := by decide +kernel
theorem dX7_adoptDraft_67 : decode cX7_adoptDraft 67 = .ok (.aload_n 0, 1) := by decide +kernel
theorem dX7_adoptDraft_68 : decode cX7_adoptDraft 68 = .ok (.getfield 19, 3) := by decide +kernel
theorem dX7_adoptDraft_71 : decode cX7_adoptDraft 71 = .ok (.aload_n 0, 1) := by decide +kernel
theorem dX7_adoptDraft_72 : decode cX7_adoptDraft 72 = .ok (.getfield 23, 3) := by decide +kernel
theorem dX7_adoptDraft_75 : decode cX7_adoptDraft 75 = .ok (.invokevirtual 153, 3) := by decide +kernel
theorem dX7_adoptDraft_78 : decode cX7_adoptDraft 78 = .ok (.aload_n 0, 1) := by decide +kernel
theorem dX7_adoptDraft_79 : decode cX7_adoptDraft 79 = .ok (.getfield 42, 3) := by decide +kernel
theorem dX7_adoptDraft_82 : decode cX7_adoptDraft 82 = .ok (.aload_n 0, 1) := by decide +kernel
theorem dX7_adoptDraft_83 : decode cX7_adoptDraft 83 = .ok (.getfield 19, 3) := by decide +kernel
theorem dX7_adoptDraft_86 : decode cX7_adoptDraft 86 = .ok (.getfield 128, 3) := by decide +kernel
theorem dX7_adoptDraft_89 : decode cX7_adoptDraft 89 = .ok (.invokevirtual 122, 3) := by decide +kernel
theorem dX7_adoptDraft_92 : decode cX7_adoptDraft 92 = .ok (.ireturn, 1) := by decide +kernel
def bs_X7_presentSky : List (List Cond) := [[.code yX7_presentSky cX7_presentSky 1 (some (.object "SlewPlanner$Sky"))], [.fieldLink RX7 42 "SlewPlanner" "sky" "LSlewPlanner$Sky;", .fieldLink RX7 19 "SlewPlanner" "state" "LSlewPlanner$State;", .methodLink RX7 262 yX4_show, .instanceMethod yX4_show, .selects RX4 yX4_show yX4_show, .initialized RX4, .code yX4_show cX4_show 3 none, .fieldLink RX4 12 "SlewPlanner$Sky" "shown" "LSlewPlanner$State;", .fieldLink RX4 27 "SlewPlanner$Sky" "drawn" "[Z", .methodLink RX4 35 yX6_hasObjectsOf, .instanceMethod yX6_hasObjectsOf, .selects RX6 yX6_hasObjectsOf yX6_hasObjectsOf, .initialized RX6, .code yX6_hasObjectsOf cX6_hasObjectsOf 3 (some .boolean), .fieldLink RX6 9 "SlewPlanner$State" "objects" "[I", .methodLink RX4 39 yX6_copyObjects, .instanceMethod yX6_copyObjects, .selects RX6 yX6_copyObjects yX6_copyObjects, .code yX6_copyObjects cX6_copyObjects 2 none, .methodLink RX6 32 arraycopyName, .native arraycopyName, .static arraycopyName, .initialized "java/lang/System"], wsX70, wsX40, wsX60]
theorem bi_X7_presentSky : ∀ w ∈ bs_X7_presentSky.flatten, w ∈ wsX7_presentSky := by
  have h : bs_X7_presentSky.flatten = wsX7_presentSky := by simp only [bs_X7_presentSky, wsX7_presentSky, List.flatten_cons, List.flatten_nil, List.append_assoc, List.append_nil, List.nil_append, List.cons_append]
  intro w hw; rw [h] at hw; exact hw
set_option maxRecDepth 20000 in
theorem ggX7_presentSky_X4_show : GoodIn wsX7_presentSky wsX4_show := goodIn_bb bs_X7_presentSky bi_X7_presentSky _ [(1, 6), (1, 7), (1, 8), (1, 9), (1, 10), (1, 11), (1, 12), (1, 13), (1, 14), (1, 15), (1, 16), (1, 17), (1, 18), (1, 19), (1, 20), (1, 21), (1, 22), (3, 0), (3, 1), (3, 2), (3, 3), (3, 4), (3, 5), (3, 6), (3, 7), (4, 0), (4, 1), (4, 2), (4, 3), (4, 4), (4, 5)] rfl (by decide +kernel)
set_option maxRecDepth 20000 in
theorem gX7_presentSky_X4_show : GoodIn wsX7_presentSky (wsV RX7 262 RX4 yX4_show wsX4_show) := goodIn_app (goodIn_bb bs_X7_presentSky bi_X7_presentSky _ [(1, 2), (1, 3), (1, 4), (1, 5)] rfl (by decide +kernel)) ggX7_presentSky_X4_show
theorem dX7_presentSky_0 : decode cX7_presentSky 0 = .ok (.aload_n 0, 1) := by decide +kernel
theorem dX7_presentSky_1 : decode cX7_presentSky 1 = .ok (.getfield 42, 3) := by decide +kernel
theorem dX7_presentSky_4 : decode cX7_presentSky 4 = .ok (.aload_n 0, 1) := by decide +kernel
theorem dX7_presentSky_5 : decode cX7_presentSky 5 = .ok (.getfield 19, 3) := by decide +kernel
theorem dX7_presentSky_8 : decode cX7_presentSky 8 = .ok (.invokevirtual 262, 3) := by decide +kernel
theorem dX7_presentSky_11 : decode cX7_presentSky 11 = .ok (.aload_n 0, 1) := by decide +kernel
theorem dX7_presentSky_12 : decode cX7_presentSky 12 = .ok (.getfield 42, 3) := by decide +kernel
theorem dX7_presentSky_15 : decode cX7_presentSky 15 = .ok (.areturn, 1) := by decide +kernel
def bs_X7_presentPlans : List (List Cond) := [[.code yX7_presentPlans cX7_presentPlans 1 (some (.object "SlewPlanner$Plans"))], wsX7_presentPlans_r1, wsX7_presentPlans_r2, wsX7_presentPlans_r3, wsX70, wsX60, wsX40, wsX30, wsX00]
theorem bi_X7_presentPlans : ∀ w ∈ bs_X7_presentPlans.flatten, w ∈ wsX7_presentPlans := by
  have h : bs_X7_presentPlans.flatten = wsX7_presentPlans := by simp only [bs_X7_presentPlans, wsX7_presentPlans, List.flatten_cons, List.flatten_nil, List.append_assoc, List.append_nil, List.nil_append, List.cons_append]
  intro w hw; rw [h] at hw; exact hw
set_option maxRecDepth 20000 in
theorem ggX7_presentPlans_X4_show : GoodIn wsX7_presentPlans wsX4_show := goodIn_bb bs_X7_presentPlans bi_X7_presentPlans _ [(1, 9), (1, 10), (1, 11), (1, 12), (1, 13), (1, 14), (1, 15), (1, 16), (1, 17), (1, 18), (1, 19), (1, 20), (1, 21), (1, 22), (1, 23), (2, 0), (2, 1), (6, 0), (6, 1), (6, 2), (6, 3), (6, 4), (6, 5), (6, 6), (6, 7), (5, 0), (5, 1), (5, 2), (5, 3), (5, 4), (5, 5)] rfl (by decide +kernel)
set_option maxRecDepth 20000 in
theorem gX7_presentPlans_X4_show : GoodIn wsX7_presentPlans (wsV RX7 262 RX4 yX4_show wsX4_show) := goodIn_app (goodIn_bb bs_X7_presentPlans bi_X7_presentPlans _ [(1, 5), (1, 6), (1, 7), (1, 8)] rfl (by decide +kernel)) ggX7_presentPlans_X4_show
set_option maxRecDepth 20000 in
theorem ggX7_presentPlans_X3_begin : GoodIn wsX7_presentPlans wsX3_begin := goodIn_bb bs_X7_presentPlans bi_X7_presentPlans _ [(2, 6), (2, 7), (2, 8), (2, 9), (2, 10), (2, 11), (2, 12), (2, 13), (2, 14), (2, 15), (2, 16), (2, 17), (2, 18), (2, 19), (2, 20), (2, 21), (2, 22), (2, 23), (3, 0), (7, 0), (7, 1), (7, 2), (7, 3), (7, 4), (7, 5), (7, 6), (7, 7), (8, 0)] rfl (by decide +kernel)
set_option maxRecDepth 20000 in
theorem gX7_presentPlans_X3_begin : GoodIn wsX7_presentPlans (wsV RX7 267 RX3 yX3_begin wsX3_begin) := goodIn_app (goodIn_bb bs_X7_presentPlans bi_X7_presentPlans _ [(2, 2), (2, 3), (2, 4), (2, 5)] rfl (by decide +kernel)) ggX7_presentPlans_X3_begin
theorem dX7_presentPlans_0 : decode cX7_presentPlans 0 = .ok (.aload_n 0, 1) := by decide +kernel
theorem dX7_presentPlans_1 : decode cX7_presentPlans 1 = .ok (.getfield 42, 3) := by decide +kernel
theorem dX7_presentPlans_4 : decode cX7_presentPlans 4 = .ok (.aload_n 0, 1) := by decide +kernel
theorem dX7_presentPlans_5 : decode cX7_presentPlans 5 = .ok (.getfield 19, 3) := by decide +kernel
theorem dX7_presentPlans_8 : decode cX7_presentPlans 8 = .ok (.invokevirtual 262, 3) := by decide +kernel
theorem dX7_presentPlans_11 : decode cX7_presentPlans 11 = .ok (.aload_n 0, 1) := by decide +kernel
theorem dX7_presentPlans_12 : decode cX7_presentPlans 12 = .ok (.getfield 51, 3) := by decide +kernel
theorem dX7_presentPlans_15 : decode cX7_presentPlans 15 = .ok (.aload_n 0, 1) := by decide +kernel
theorem dX7_presentPlans_16 : decode cX7_presentPlans 16 = .ok (.getfield 19, 3) := by decide +kernel
theorem dX7_presentPlans_19 : decode cX7_presentPlans 19 = .ok (.getfield 132, 3) := by decide +kernel
theorem dX7_presentPlans_22 : decode cX7_presentPlans 22 = .ok (.aload_n 0, 1) := by decide +kernel
theorem dX7_presentPlans_23 : decode cX7_presentPlans 23 = .ok (.getfield 19, 3) := by decide +kernel
theorem dX7_presentPlans_26 : decode cX7_presentPlans 26 = .ok (.getfield 128, 3) := by decide +kernel
theorem dX7_presentPlans_29 : decode cX7_presentPlans 29 = .ok (.invokevirtual 267, 3) := by decide +kernel
theorem dX7_presentPlans_32 : decode cX7_presentPlans 32 = .ok (.aload_n 0, 1) := by decide +kernel
theorem dX7_presentPlans_33 : decode cX7_presentPlans 33 = .ok (.getfield 51, 3) := by decide +kernel
theorem dX7_presentPlans_36 : decode cX7_presentPlans 36 = .ok (.areturn, 1) := by decide +kernel
def bs_X7_presentOrders : List (List Cond) := [[.code yX7_presentOrders cX7_presentOrders 1 (some (.object "SlewPlanner$Orders"))], wsX7_presentOrders_r1, wsX7_presentOrders_r2, wsX7_presentOrders_r3, wsX7_presentOrders_r4, wsX7_presentOrders_r5, wsX7_presentOrders_r6, wsX7_presentOrders_r7, wsX70, wsX60, wsX40, wsX20, wsX30, wsX00, wsX50]
theorem bi_X7_presentOrders : ∀ w ∈ bs_X7_presentOrders.flatten, w ∈ wsX7_presentOrders := by
  have h : bs_X7_presentOrders.flatten = wsX7_presentOrders := by simp only [bs_X7_presentOrders, wsX7_presentOrders, List.flatten_cons, List.flatten_nil, List.append_assoc, List.append_nil, List.nil_append, List.cons_append]
  intro w hw; rw [h] at hw; exact hw
set_option maxRecDepth 20000 in
theorem ggX7_presentOrders_X4_show : GoodIn wsX7_presentOrders wsX4_show := goodIn_bb bs_X7_presentOrders bi_X7_presentOrders _ [(1, 9), (1, 10), (1, 11), (1, 12), (1, 13), (1, 14), (1, 15), (1, 16), (1, 17), (1, 18), (1, 19), (1, 20), (1, 21), (1, 22), (1, 23), (2, 0), (2, 1), (10, 0), (10, 1), (10, 2), (10, 3), (10, 4), (10, 5), (10, 6), (10, 7), (9, 0), (9, 1), (9, 2), (9, 3), (9, 4), (9, 5)] rfl (by decide +kernel)
set_option maxRecDepth 20000 in
theorem gX7_presentOrders_X4_show : GoodIn wsX7_presentOrders (wsV RX7 262 RX4 yX4_show wsX4_show) := goodIn_app (goodIn_bb bs_X7_presentOrders bi_X7_presentOrders _ [(1, 5), (1, 6), (1, 7), (1, 8)] rfl (by decide +kernel)) ggX7_presentOrders_X4_show
set_option maxRecDepth 20000 in
theorem ggX7_presentOrders_X2_begin : GoodIn wsX7_presentOrders wsX2_begin := goodIn_bb bs_X7_presentOrders bi_X7_presentOrders _ [(2, 6), (2, 7), (2, 8), (2, 9), (2, 10), (2, 11), (2, 12), (1, 15), (2, 13), (2, 14), (2, 15), (2, 16), (2, 17), (2, 18), (1, 22), (1, 23), (2, 0), (2, 1), (2, 19), (1, 19), (1, 20), (1, 21), (1, 17), (11, 0), (11, 1), (11, 2), (11, 3), (9, 0), (9, 1), (9, 2), (9, 3), (9, 4), (9, 5)] rfl (by decide +kernel)
set_option maxRecDepth 20000 in
theorem gX7_presentOrders_X2_begin : GoodIn wsX7_presentOrders (wsV RX7 271 RX2 yX2_begin wsX2_begin) := goodIn_app (goodIn_bb bs_X7_presentOrders bi_X7_presentOrders _ [(2, 2), (2, 3), (2, 4), (2, 5)] rfl (by decide +kernel)) ggX7_presentOrders_X2_begin
set_option maxRecDepth 20000 in
theorem ggX7_presentOrders_X2_tryAll : GoodIn wsX7_presentOrders wsX2_tryAll := goodIn_bb bs_X7_presentOrders bi_X7_presentOrders _ [(2, 21), (2, 7), (2, 22), (2, 8), (2, 9), (2, 23), (3, 0), (3, 1), (3, 2), (3, 3), (1, 15), (3, 4), (2, 18), (3, 5), (3, 6), (3, 7), (3, 8), (3, 9), (3, 10), (3, 11), (3, 12), (3, 13), (3, 14), (3, 15), (3, 16), (3, 17), (3, 18), (3, 19), (3, 20), (3, 21), (3, 22), (3, 23), (4, 0), (4, 1), (4, 2), (4, 3), (4, 4), (4, 5), (4, 6), (4, 7), (4, 8), (4, 9), (4, 10), (4, 11), (1, 8), (4, 12), (4, 13), (4, 14), (4, 15), (4, 16), (1, 11), (4, 17), (4, 18), (4, 19), (4, 20), (4, 21), (4, 22), (4, 23), (5, 0), (5, 1), (5, 2), (5, 3), (5, 4), (5, 5), (1, 10), (5, 6), (5, 7), (5, 8), (5, 9), (5, 10), (5, 11), (5, 12), (5, 13), (1, 17), (5, 14), (5, 15), (5, 16), (5, 17), (5, 18), (5, 19), (5, 20), (5, 21), (5, 22), (5, 23), (6, 0), (6, 1), (6, 2), (6, 3), (6, 4), (6, 5), (6, 6), (6, 7), (6, 8), (6, 9), (6, 10), (6, 11), (6, 12), (6, 13), (6, 14), (6, 15), (6, 16), (6, 17), (6, 18), (6, 19), (6, 20), (6, 21), (6, 22), (6, 23), (7, 0), (7, 1), (7, 2), (7, 3), (7, 4), (7, 5), (7, 6), (7, 7), (7, 8), (7, 9), (7, 10), (7, 11), (7, 12), (7, 13), (7, 14), (7, 15), (2, 20), (2, 5), (11, 0), (11, 1), (11, 2), (11, 3), (9, 0), (9, 1), (9, 2), (9, 3), (9, 4), (9, 5), (12, 0), (12, 1), (12, 2), (12, 3), (12, 4), (12, 5), (12, 6), (12, 7), (13, 0), (10, 0), (10, 1), (10, 2), (10, 3), (10, 4), (10, 5), (10, 6), (10, 7), (14, 0), (14, 1), (14, 2), (14, 3)] rfl (by decide +kernel)
set_option maxRecDepth 20000 in
theorem gX7_presentOrders_X2_tryAll_n273 : GoodIn wsX7_presentOrders (wsX2_tryAll) := ggX7_presentOrders_X2_tryAll
theorem dX7_presentOrders_0 : decode cX7_presentOrders 0 = .ok (.aload_n 0, 1) := by decide +kernel
theorem dX7_presentOrders_1 : decode cX7_presentOrders 1 = .ok (.getfield 42, 3) := by decide +kernel
theorem dX7_presentOrders_4 : decode cX7_presentOrders 4 = .ok (.aload_n 0, 1) := by decide +kernel
theorem dX7_presentOrders_5 : decode cX7_presentOrders 5 = .ok (.getfield 19, 3) := by decide +kernel
theorem dX7_presentOrders_8 : decode cX7_presentOrders 8 = .ok (.invokevirtual 262, 3) := by decide +kernel
theorem dX7_presentOrders_11 : decode cX7_presentOrders 11 = .ok (.aload_n 0, 1) := by decide +kernel
theorem dX7_presentOrders_12 : decode cX7_presentOrders 12 = .ok (.getfield 60, 3) := by decide +kernel
theorem dX7_presentOrders_15 : decode cX7_presentOrders 15 = .ok (.aload_n 0, 1) := by decide +kernel
theorem dX7_presentOrders_16 : decode cX7_presentOrders 16 = .ok (.getfield 19, 3) := by decide +kernel
theorem dX7_presentOrders_19 : decode cX7_presentOrders 19 = .ok (.invokevirtual 271, 3) := by decide +kernel
theorem dX7_presentOrders_22 : decode cX7_presentOrders 22 = .ok (.aload_n 0, 1) := by decide +kernel
theorem dX7_presentOrders_23 : decode cX7_presentOrders 23 = .ok (.getfield 60, 3) := by decide +kernel
theorem dX7_presentOrders_26 : decode cX7_presentOrders 26 = .ok (.iconst 0, 1) := by decide +kernel
theorem dX7_presentOrders_27 : decode cX7_presentOrders 27 = .ok (.iconst 0, 1) := by decide +kernel
theorem dX7_presentOrders_28 : decode cX7_presentOrders 28 = .ok (.aload_n 0, 1) := by decide +kernel
theorem dX7_presentOrders_29 : decode cX7_presentOrders 29 = .ok (.getfield 19, 3) := by decide +kernel
theorem dX7_presentOrders_32 : decode cX7_presentOrders 32 = .ok (.getfield 132, 3) := by decide +kernel
theorem dX7_presentOrders_35 : decode cX7_presentOrders 35 = .ok (.aload_n 0, 1) := by decide +kernel
theorem dX7_presentOrders_36 : decode cX7_presentOrders 36 = .ok (.getfield 19, 3) := by decide +kernel
theorem dX7_presentOrders_39 : decode cX7_presentOrders 39 = .ok (.getfield 128, 3) := by decide +kernel
theorem dX7_presentOrders_42 : decode cX7_presentOrders 42 = .ok (.iconst 0, 1) := by decide +kernel
theorem dX7_presentOrders_43 : decode cX7_presentOrders 43 = .ok (.iconst 0, 1) := by decide +kernel
theorem dX7_presentOrders_44 : decode cX7_presentOrders 44 = .ok (.invokestatic 273, 3) := by decide +kernel
theorem dX7_presentOrders_47 : decode cX7_presentOrders 47 = .ok (.aload_n 0, 1) := by decide +kernel
theorem dX7_presentOrders_48 : decode cX7_presentOrders 48 = .ok (.getfield 60, 3) := by decide +kernel
theorem dX7_presentOrders_51 : decode cX7_presentOrders 51 = .ok (.areturn, 1) := by decide +kernel
theorem dX7_rootOf_0 : decode cX7_rootOf 0 = .ok (.lconst 0, 1) := by decide +kernel
theorem dX7_rootOf_1 : decode cX7_rootOf 1 = .ok (.lstore_n 1, 1) := by decide +kernel
theorem dX7_rootOf_2 : decode cX7_rootOf 2 = .ok (.lconst 0, 1) := by decide +kernel
theorem dX7_rootOf_3 : decode cX7_rootOf 3 = .ok (.lstore_n 3, 1) := by decide +kernel
theorem dX7_rootOf_4 : decode cX7_rootOf 4 = .ok (.lconst 1, 1) := by decide +kernel
theorem dX7_rootOf_5 : decode cX7_rootOf 5 = .ok (.lstore 5, 2) := by decide +kernel
theorem dX7_rootOf_7 : decode cX7_rootOf 7 = .ok (.bipush 30, 2) := by decide +kernel
theorem dX7_rootOf_9 : decode cX7_rootOf 9 = .ok (.istore 7, 2) := by decide +kernel
theorem dX7_rootOf_11 : decode cX7_rootOf 11 = .ok (.iload 7, 2) := by decide +kernel
theorem dX7_rootOf_13 : decode cX7_rootOf 13 = .ok (.bipush (-110), 2) := by decide +kernel
theorem dX7_rootOf_15 : decode cX7_rootOf 15 = .ok (.if_icmp .le 77, 3) := by decide +kernel
theorem dX7_rootOf_18 : decode cX7_rootOf 18 = .ok (.lload_n 1, 1) := by decide +kernel
theorem dX7_rootOf_19 : decode cX7_rootOf 19 = .ok (.ldc2_w 277, 3) := by decide +kernel
theorem dX7_rootOf_22 : decode cX7_rootOf 22 = .ok (.lcmp, 1) := by decide +kernel
theorem dX7_rootOf_23 : decode cX7_rootOf 23 = .ok (.ifCond .ge 69, 3) := by decide +kernel
theorem dX7_rootOf_26 : decode cX7_rootOf 26 = .ok (.lload_n 3, 1) := by decide +kernel
theorem dX7_rootOf_27 : decode cX7_rootOf 27 = .ok (.iconst 2, 1) := by decide +kernel
theorem dX7_rootOf_28 : decode cX7_rootOf 28 = .ok (.lshl, 1) := by decide +kernel
theorem dX7_rootOf_29 : decode cX7_rootOf 29 = .ok (.iload 7, 2) := by decide +kernel
theorem dX7_rootOf_31 : decode cX7_rootOf 31 = .ok (.ifCond .lt 12, 3) := by decide +kernel
theorem dX7_rootOf_34 : decode cX7_rootOf 34 = .ok (.iload_n 0, 1) := by decide +kernel
theorem dX7_rootOf_35 : decode cX7_rootOf 35 = .ok (.iload 7, 2) := by decide +kernel
theorem dX7_rootOf_37 : decode cX7_rootOf 37 = .ok (.ishr, 1) := by decide +kernel
theorem dX7_rootOf_38 : decode cX7_rootOf 38 = .ok (.iconst 3, 1) := by decide +kernel
theorem dX7_rootOf_39 : decode cX7_rootOf 39 = .ok (.iand, 1) := by decide +kernel
theorem dX7_rootOf_40 : decode cX7_rootOf 40 = .ok (.goto 4, 3) := by decide +kernel
theorem dX7_rootOf_43 : decode cX7_rootOf 43 = .ok (.iconst 0, 1) := by decide +kernel
theorem dX7_rootOf_44 : decode cX7_rootOf 44 = .ok (.i2l, 1) := by decide +kernel
theorem dX7_rootOf_45 : decode cX7_rootOf 45 = .ok (.lor, 1) := by decide +kernel
theorem dX7_rootOf_46 : decode cX7_rootOf 46 = .ok (.lstore_n 3, 1) := by decide +kernel
theorem dX7_rootOf_47 : decode cX7_rootOf 47 = .ok (.lload_n 1, 1) := by decide +kernel
theorem dX7_rootOf_48 : decode cX7_rootOf 48 = .ok (.iconst 1, 1) := by decide +kernel
theorem dX7_rootOf_49 : decode cX7_rootOf 49 = .ok (.lshl, 1) := by decide +kernel
theorem dX7_rootOf_50 : decode cX7_rootOf 50 = .ok (.lstore_n 1, 1) := by decide +kernel
theorem dX7_rootOf_51 : decode cX7_rootOf 51 = .ok (.lload_n 3, 1) := by decide +kernel
theorem dX7_rootOf_52 : decode cX7_rootOf 52 = .ok (.ldc2_w 279, 3) := by decide +kernel
theorem dX7_rootOf_55 : decode cX7_rootOf 55 = .ok (.lload_n 1, 1) := by decide +kernel
theorem dX7_rootOf_56 : decode cX7_rootOf 56 = .ok (.lmul, 1) := by decide +kernel
theorem dX7_rootOf_57 : decode cX7_rootOf 57 = .ok (.lcmp, 1) := by decide +kernel
theorem dX7_rootOf_58 : decode cX7_rootOf 58 = .ok (.ifCond .le 17, 3) := by decide +kernel
theorem dX7_rootOf_61 : decode cX7_rootOf 61 = .ok (.lload_n 3, 1) := by decide +kernel
theorem dX7_rootOf_62 : decode cX7_rootOf 62 = .ok (.ldc2_w 279, 3) := by decide +kernel
theorem dX7_rootOf_65 : decode cX7_rootOf 65 = .ok (.lload_n 1, 1) := by decide +kernel
theorem dX7_rootOf_66 : decode cX7_rootOf 66 = .ok (.lmul, 1) := by decide +kernel
theorem dX7_rootOf_67 : decode cX7_rootOf 67 = .ok (.lconst 1, 1) := by decide +kernel
theorem dX7_rootOf_68 : decode cX7_rootOf 68 = .ok (.ladd, 1) := by decide +kernel
theorem dX7_rootOf_69 : decode cX7_rootOf 69 = .ok (.lsub, 1) := by decide +kernel
theorem dX7_rootOf_70 : decode cX7_rootOf 70 = .ok (.lstore_n 3, 1) := by decide +kernel
theorem dX7_rootOf_71 : decode cX7_rootOf 71 = .ok (.lload_n 1, 1) := by decide +kernel
theorem dX7_rootOf_72 : decode cX7_rootOf 72 = .ok (.lconst 1, 1) := by decide +kernel
theorem dX7_rootOf_73 : decode cX7_rootOf 73 = .ok (.ladd, 1) := by decide +kernel
theorem dX7_rootOf_74 : decode cX7_rootOf 74 = .ok (.lstore_n 1, 1) := by decide +kernel
theorem dX7_rootOf_75 : decode cX7_rootOf 75 = .ok (.iload 7, 2) := by decide +kernel
theorem dX7_rootOf_77 : decode cX7_rootOf 77 = .ok (.ifCond .ge 9, 3) := by decide +kernel
theorem dX7_rootOf_80 : decode cX7_rootOf 80 = .ok (.lload 5, 2) := by decide +kernel
theorem dX7_rootOf_82 : decode cX7_rootOf 82 = .ok (.iconst 1, 1) := by decide +kernel
theorem dX7_rootOf_83 : decode cX7_rootOf 83 = .ok (.lshl, 1) := by decide +kernel
theorem dX7_rootOf_84 : decode cX7_rootOf 84 = .ok (.lstore 5, 2) := by decide +kernel
theorem dX7_rootOf_86 : decode cX7_rootOf 86 = .ok (.iinc 7 (-2), 3) := by decide +kernel
theorem dX7_rootOf_89 : decode cX7_rootOf 89 = .ok (.goto (-78), 3) := by decide +kernel
theorem dX7_rootOf_92 : decode cX7_rootOf 92 = .ok (.lload_n 1, 1) := by decide +kernel
theorem dX7_rootOf_93 : decode cX7_rootOf 93 = .ok (.lconst 1, 1) := by decide +kernel
theorem dX7_rootOf_94 : decode cX7_rootOf 94 = .ok (.ladd, 1) := by decide +kernel
theorem dX7_rootOf_95 : decode cX7_rootOf 95 = .ok (.iconst 1, 1) := by decide +kernel
theorem dX7_rootOf_96 : decode cX7_rootOf 96 = .ok (.lshr, 1) := by decide +kernel
theorem dX7_rootOf_97 : decode cX7_rootOf 97 = .ok (.l2d, 1) := by decide +kernel
theorem dX7_rootOf_98 : decode cX7_rootOf 98 = .ok (.lload 5, 2) := by decide +kernel
theorem dX7_rootOf_100 : decode cX7_rootOf 100 = .ok (.iconst 1, 1) := by decide +kernel
theorem dX7_rootOf_101 : decode cX7_rootOf 101 = .ok (.lshr, 1) := by decide +kernel
theorem dX7_rootOf_102 : decode cX7_rootOf 102 = .ok (.l2d, 1) := by decide +kernel
theorem dX7_rootOf_103 : decode cX7_rootOf 103 = .ok (.ddiv, 1) := by decide +kernel
theorem dX7_rootOf_104 : decode cX7_rootOf 104 = .ok (.dreturn, 1) := by decide +kernel
theorem dX7_requireOpen_0 : decode cX7_requireOpen 0 = .ok (.aload_n 0, 1) := by decide +kernel
theorem dX7_requireOpen_1 : decode cX7_requireOpen 1 = .ok (.getfield 19, 3) := by decide +kernel
theorem dX7_requireOpen_4 : decode cX7_requireOpen 4 = .ok (.getfield 135, 3) := by decide +kernel
theorem dX7_requireOpen_7 : decode cX7_requireOpen 7 = .ok (.ifCond .eq 14, 3) := by decide +kernel
theorem dX7_requireOpen_10 : decode cX7_requireOpen 10 = .ok (.new 176, 3) := by decide +kernel
theorem dX7_requireOpen_13 : decode cX7_requireOpen 13 = .ok (.dup, 1) := by decide +kernel
theorem dX7_requireOpen_14 : decode cX7_requireOpen 14 = .ok (.ldc_w 281, 3) := by decide +kernel
theorem dX7_requireOpen_17 : decode cX7_requireOpen 17 = .ok (.invokespecial 180, 3) := by decide +kernel
theorem dX7_requireOpen_20 : decode cX7_requireOpen 20 = .ok (.athrow, 1) := by decide +kernel
theorem dX7_requireOpen_21 : decode cX7_requireOpen 21 = .ok (.return_, 1) := by decide +kernel
theorem dX7_requireShut_0 : decode cX7_requireShut 0 = .ok (.aload_n 0, 1) := by decide +kernel
theorem dX7_requireShut_1 : decode cX7_requireShut 1 = .ok (.getfield 19, 3) := by decide +kernel
theorem dX7_requireShut_4 : decode cX7_requireShut 4 = .ok (.getfield 135, 3) := by decide +kernel
theorem dX7_requireShut_7 : decode cX7_requireShut 7 = .ok (.ifCond .ne 14, 3) := by decide +kernel
theorem dX7_requireShut_10 : decode cX7_requireShut 10 = .ok (.new 176, 3) := by decide +kernel
theorem dX7_requireShut_13 : decode cX7_requireShut 13 = .ok (.dup, 1) := by decide +kernel
theorem dX7_requireShut_14 : decode cX7_requireShut 14 = .ok (.ldc_w 283, 3) := by decide +kernel
theorem dX7_requireShut_17 : decode cX7_requireShut 17 = .ok (.invokespecial 180, 3) := by decide +kernel
theorem dX7_requireShut_20 : decode cX7_requireShut 20 = .ok (.athrow, 1) := by decide +kernel
theorem dX7_requireShut_21 : decode cX7_requireShut 21 = .ok (.return_, 1) := by decide +kernel
theorem dX7_requireRequest_0 : decode cX7_requireRequest 0 = .ok (.iload_n 1, 1) := by decide +kernel
theorem dX7_requireRequest_1 : decode cX7_requireRequest 1 = .ok (.ifCond .lt 14, 3) := by decide +kernel
theorem dX7_requireRequest_4 : decode cX7_requireRequest 4 = .ok (.iload_n 1, 1) := by decide +kernel
theorem dX7_requireRequest_5 : decode cX7_requireRequest 5 = .ok (.aload_n 0, 1) := by decide +kernel
theorem dX7_requireRequest_6 : decode cX7_requireRequest 6 = .ok (.getfield 19, 3) := by decide +kernel
theorem dX7_requireRequest_9 : decode cX7_requireRequest 9 = .ok (.getfield 139, 3) := by decide +kernel
theorem dX7_requireRequest_12 : decode cX7_requireRequest 12 = .ok (.if_icmp .lt 14, 3) := by decide +kernel
theorem dX7_requireRequest_15 : decode cX7_requireRequest 15 = .ok (.new 285, 3) := by decide +kernel
theorem dX7_requireRequest_18 : decode cX7_requireRequest 18 = .ok (.dup, 1) := by decide +kernel
theorem dX7_requireRequest_19 : decode cX7_requireRequest 19 = .ok (.ldc_w 287, 3) := by decide +kernel
theorem dX7_requireRequest_22 : decode cX7_requireRequest 22 = .ok (.invokespecial 289, 3) := by decide +kernel
theorem dX7_requireRequest_25 : decode cX7_requireRequest 25 = .ok (.athrow, 1) := by decide +kernel
theorem dX7_requireRequest_26 : decode cX7_requireRequest 26 = .ok (.return_, 1) := by decide +kernel
theorem dX7_requireCell_0 : decode cX7_requireCell 0 = .ok (.iload_n 0, 1) := by decide +kernel
theorem dX7_requireCell_1 : decode cX7_requireCell 1 = .ok (.ifCond .lt 10, 3) := by decide +kernel
theorem dX7_requireCell_4 : decode cX7_requireCell 4 = .ok (.iload_n 0, 1) := by decide +kernel
theorem dX7_requireCell_5 : decode cX7_requireCell 5 = .ok (.sipush 150, 3) := by decide +kernel
theorem dX7_requireCell_8 : decode cX7_requireCell 8 = .ok (.if_icmp .lt 14, 3) := by decide +kernel
theorem dX7_requireCell_11 : decode cX7_requireCell 11 = .ok (.new 285, 3) := by decide +kernel
theorem dX7_requireCell_14 : decode cX7_requireCell 14 = .ok (.dup, 1) := by decide +kernel
theorem dX7_requireCell_15 : decode cX7_requireCell 15 = .ok (.ldc_w 290, 3) := by decide +kernel
theorem dX7_requireCell_18 : decode cX7_requireCell 18 = .ok (.invokespecial 289, 3) := by decide +kernel
theorem dX7_requireCell_21 : decode cX7_requireCell 21 = .ok (.athrow, 1) := by decide +kernel
theorem dX7_requireCell_22 : decode cX7_requireCell 22 = .ok (.return_, 1) := by decide +kernel
theorem dX7_requireCoordinate_0 : decode cX7_requireCoordinate 0 = .ok (.iload_n 0, 1) := by decide +kernel
theorem dX7_requireCoordinate_1 : decode cX7_requireCoordinate 1 = .ok (.ifCond .lt 8, 3) := by decide +kernel
theorem dX7_requireCoordinate_4 : decode cX7_requireCoordinate 4 = .ok (.iload_n 0, 1) := by decide +kernel
theorem dX7_requireCoordinate_5 : decode cX7_requireCoordinate 5 = .ok (.iconst 3, 1) := by decide +kernel
theorem dX7_requireCoordinate_6 : decode cX7_requireCoordinate 6 = .ok (.if_icmp .lt 14, 3) := by decide +kernel
theorem dX7_requireCoordinate_9 : decode cX7_requireCoordinate 9 = .ok (.new 285, 3) := by decide +kernel
theorem dX7_requireCoordinate_12 : decode cX7_requireCoordinate 12 = .ok (.dup, 1) := by decide +kernel
theorem dX7_requireCoordinate_13 : decode cX7_requireCoordinate 13 = .ok (.ldc_w 292, 3) := by decide +kernel
theorem dX7_requireCoordinate_16 : decode cX7_requireCoordinate 16 = .ok (.invokespecial 289, 3) := by decide +kernel
theorem dX7_requireCoordinate_19 : decode cX7_requireCoordinate 19 = .ok (.athrow, 1) := by decide +kernel
theorem dX7_requireCoordinate_20 : decode cX7_requireCoordinate 20 = .ok (.return_, 1) := by decide +kernel
theorem dX7_requireObject_0 : decode cX7_requireObject 0 = .ok (.iload_n 0, 1) := by decide +kernel
theorem dX7_requireObject_1 : decode cX7_requireObject 1 = .ok (.ifCond .lt 8, 3) := by decide +kernel
theorem dX7_requireObject_4 : decode cX7_requireObject 4 = .ok (.iload_n 0, 1) := by decide +kernel
theorem dX7_requireObject_5 : decode cX7_requireObject 5 = .ok (.iconst 3, 1) := by decide +kernel
theorem dX7_requireObject_6 : decode cX7_requireObject 6 = .ok (.if_icmp .lt 14, 3) := by decide +kernel
theorem dX7_requireObject_9 : decode cX7_requireObject 9 = .ok (.new 285, 3) := by decide +kernel
theorem dX7_requireObject_12 : decode cX7_requireObject 12 = .ok (.dup, 1) := by decide +kernel
theorem dX7_requireObject_13 : decode cX7_requireObject 13 = .ok (.ldc_w 294, 3) := by decide +kernel
theorem dX7_requireObject_16 : decode cX7_requireObject 16 = .ok (.invokespecial 289, 3) := by decide +kernel
theorem dX7_requireObject_19 : decode cX7_requireObject 19 = .ok (.athrow, 1) := by decide +kernel
theorem dX7_requireObject_20 : decode cX7_requireObject 20 = .ok (.return_, 1) := by decide +kernel
theorem dX7_requireSlot_0 : decode cX7_requireSlot 0 = .ok (.iload_n 0, 1) := by decide +kernel
theorem dX7_requireSlot_1 : decode cX7_requireSlot 1 = .ok (.ifCond .lt 8, 3) := by decide +kernel
theorem dX7_requireSlot_4 : decode cX7_requireSlot 4 = .ok (.iload_n 0, 1) := by decide +kernel
theorem dX7_requireSlot_5 : decode cX7_requireSlot 5 = .ok (.iconst 2, 1) := by decide +kernel
theorem dX7_requireSlot_6 : decode cX7_requireSlot 6 = .ok (.if_icmp .lt 14, 3) := by decide +kernel
theorem dX7_requireSlot_9 : decode cX7_requireSlot 9 = .ok (.new 285, 3) := by decide +kernel
theorem dX7_requireSlot_12 : decode cX7_requireSlot 12 = .ok (.dup, 1) := by decide +kernel
theorem dX7_requireSlot_13 : decode cX7_requireSlot 13 = .ok (.ldc_w 296, 3) := by decide +kernel
theorem dX7_requireSlot_16 : decode cX7_requireSlot 16 = .ok (.invokespecial 289, 3) := by decide +kernel
theorem dX7_requireSlot_19 : decode cX7_requireSlot 19 = .ok (.athrow, 1) := by decide +kernel
theorem dX7_requireSlot_20 : decode cX7_requireSlot 20 = .ok (.return_, 1) := by decide +kernel
def bs_X7_requireTime : List (List Cond) := [[.code yX7_requireTime cX7_requireTime 1 none], [.methodLink RX7 79 yX7_requireRange, .static yX7_requireRange, .initialized RX7, .code yX7_requireRange cX7_requireRange 3 none, .classLink RX7 146 "java/lang/IllegalArgumentException", .initialized "java/lang/IllegalArgumentException"], (vx_atS RX7 150 "java/lang/IllegalArgumentException" ["java/lang/RuntimeException", "java/lang/Exception"]).filter goodWord]
theorem bi_X7_requireTime : ∀ w ∈ bs_X7_requireTime.flatten, w ∈ wsX7_requireTime := by
  have h : bs_X7_requireTime.flatten = wsX7_requireTime := by simp only [bs_X7_requireTime, wsX7_requireTime, List.flatten_cons, List.flatten_nil, List.append_assoc, List.append_nil, List.nil_append, List.cons_append]
  intro w hw; rw [h] at hw; exact hw
set_option maxRecDepth 20000 in
theorem ggX7_requireTime_X7_requireRange : GoodIn wsX7_requireTime wsX7_requireRange := goodIn_ca (goodIn_bb bs_X7_requireTime bi_X7_requireTime _ [(1, 3), (1, 4), (1, 5)] rfl (by decide +kernel)) (goodIn_sub (fun _ h => List.mem_cons_of_mem _ (List.mem_append_right _ h)) (by decide +kernel))
set_option maxRecDepth 20000 in
theorem gX7_requireTime_X7_requireRange : GoodIn wsX7_requireTime (va_wsS RX7 79 yX7_requireRange wsX7_requireRange) := goodIn_app (goodIn_bb bs_X7_requireTime bi_X7_requireTime _ [(1, 0), (1, 1), (1, 2)] rfl (by decide +kernel)) ggX7_requireTime_X7_requireRange
theorem dX7_requireTime_0 : decode cX7_requireTime 0 = .ok (.iload_n 0, 1) := by decide +kernel
theorem dX7_requireTime_1 : decode cX7_requireTime 1 = .ok (.iconst 0, 1) := by decide +kernel
theorem dX7_requireTime_2 : decode cX7_requireTime 2 = .ok (.sipush 300, 3) := by decide +kernel
theorem dX7_requireTime_5 : decode cX7_requireTime 5 = .ok (.invokestatic 79, 3) := by decide +kernel
theorem dX7_requireTime_8 : decode cX7_requireTime 8 = .ok (.return_, 1) := by decide +kernel
def bs_X7_requireVector : List (List Cond) := [[.code yX7_requireVector cX7_requireVector 4 none], [.methodLink RX7 79 yX7_requireRange, .static yX7_requireRange, .initialized RX7, .code yX7_requireRange cX7_requireRange 3 none, .classLink RX7 146 "java/lang/IllegalArgumentException", .initialized "java/lang/IllegalArgumentException"], (vx_atS RX7 150 "java/lang/IllegalArgumentException" ["java/lang/RuntimeException", "java/lang/Exception"]).filter goodWord]
theorem bi_X7_requireVector : ∀ w ∈ bs_X7_requireVector.flatten, w ∈ wsX7_requireVector := by
  have h : bs_X7_requireVector.flatten = wsX7_requireVector := by simp only [bs_X7_requireVector, wsX7_requireVector, List.flatten_cons, List.flatten_nil, List.append_assoc, List.append_nil, List.nil_append, List.cons_append]
  intro w hw; rw [h] at hw; exact hw
set_option maxRecDepth 20000 in
theorem ggX7_requireVector_X7_requireRange : GoodIn wsX7_requireVector wsX7_requireRange := goodIn_ca (goodIn_bb bs_X7_requireVector bi_X7_requireVector _ [(1, 3), (1, 4), (1, 5)] rfl (by decide +kernel)) (goodIn_sub (fun _ h => List.mem_cons_of_mem _ (List.mem_append_right _ h)) (by decide +kernel))
set_option maxRecDepth 20000 in
theorem gX7_requireVector_X7_requireRange : GoodIn wsX7_requireVector (va_wsS RX7 79 yX7_requireRange wsX7_requireRange) := goodIn_app (goodIn_bb bs_X7_requireVector bi_X7_requireVector _ [(1, 0), (1, 1), (1, 2)] rfl (by decide +kernel)) ggX7_requireVector_X7_requireRange
theorem dX7_requireVector_0 : decode cX7_requireVector 0 = .ok (.iload_n 0, 1) := by decide +kernel
theorem dX7_requireVector_1 : decode cX7_requireVector 1 = .ok (.iload_n 3, 1) := by decide +kernel
theorem dX7_requireVector_2 : decode cX7_requireVector 2 = .ok (.ineg, 1) := by decide +kernel
theorem dX7_requireVector_3 : decode cX7_requireVector 3 = .ok (.iload_n 3, 1) := by decide +kernel
theorem dX7_requireVector_4 : decode cX7_requireVector 4 = .ok (.invokestatic 79, 3) := by decide +kernel
theorem dX7_requireVector_7 : decode cX7_requireVector 7 = .ok (.iload_n 1, 1) := by decide +kernel
theorem dX7_requireVector_8 : decode cX7_requireVector 8 = .ok (.iload_n 3, 1) := by decide +kernel
theorem dX7_requireVector_9 : decode cX7_requireVector 9 = .ok (.ineg, 1) := by decide +kernel
theorem dX7_requireVector_10 : decode cX7_requireVector 10 = .ok (.iload_n 3, 1) := by decide +kernel
theorem dX7_requireVector_11 : decode cX7_requireVector 11 = .ok (.invokestatic 79, 3) := by decide +kernel
theorem dX7_requireVector_14 : decode cX7_requireVector 14 = .ok (.iload_n 2, 1) := by decide +kernel
theorem dX7_requireVector_15 : decode cX7_requireVector 15 = .ok (.iload_n 3, 1) := by decide +kernel
theorem dX7_requireVector_16 : decode cX7_requireVector 16 = .ok (.ineg, 1) := by decide +kernel
theorem dX7_requireVector_17 : decode cX7_requireVector 17 = .ok (.iload_n 3, 1) := by decide +kernel
theorem dX7_requireVector_18 : decode cX7_requireVector 18 = .ok (.invokestatic 79, 3) := by decide +kernel
theorem dX7_requireVector_21 : decode cX7_requireVector 21 = .ok (.return_, 1) := by decide +kernel
theorem dX7_requireRange_0 : decode cX7_requireRange 0 = .ok (.iload_n 0, 1) := by decide +kernel
theorem dX7_requireRange_1 : decode cX7_requireRange 1 = .ok (.iload_n 1, 1) := by decide +kernel
theorem dX7_requireRange_2 : decode cX7_requireRange 2 = .ok (.if_icmp .lt 8, 3) := by decide +kernel
theorem dX7_requireRange_5 : decode cX7_requireRange 5 = .ok (.iload_n 0, 1) := by decide +kernel
theorem dX7_requireRange_6 : decode cX7_requireRange 6 = .ok (.iload_n 2, 1) := by decide +kernel
theorem dX7_requireRange_7 : decode cX7_requireRange 7 = .ok (.if_icmp .le 14, 3) := by decide +kernel
theorem dX7_requireRange_10 : decode cX7_requireRange 10 = .ok (.new 146, 3) := by decide +kernel
theorem dX7_requireRange_13 : decode cX7_requireRange 13 = .ok (.dup, 1) := by decide +kernel
theorem dX7_requireRange_14 : decode cX7_requireRange 14 = .ok (.ldc_w 298, 3) := by decide +kernel
theorem dX7_requireRange_17 : decode cX7_requireRange 17 = .ok (.invokespecial 150, 3) := by decide +kernel
theorem dX7_requireRange_20 : decode cX7_requireRange 20 = .ok (.athrow, 1) := by decide +kernel
theorem dX7_requireRange_21 : decode cX7_requireRange 21 = .ok (.return_, 1) := by decide +kernel
