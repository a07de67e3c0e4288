set_option maxRecDepth 20000 in
theorem ggX9_init_X5_init : GoodIn wsX9_init wsX5_init := goodIn_r _ [25, 26, 2, 3, 27, 28, 29, 21, 22, 30, 31, 32, 33, 34, 35, 36, 37, 38, 39, 40, 41, 42, 43, 44, 45, 46, 47, 48, 49, 50, 51, 52, 53, 54, 55, 56, 57, 58, 79, 80, 81, 82, 83, 84, 85, 86, 87, 88, 108, 109, 110, 111, 112, 113, 114, 115, 116, 117, 118, 119, 120] (by decide +kernel) (by decide +kernel)
set_option maxRecDepth 20000 in
theorem gX9_init_X5_init_n9 : GoodIn wsX9_init (wsX5_init) := ggX9_init_X5_init
set_option maxRecDepth 20000 in
theorem ggX9_init_X7_init : GoodIn wsX9_init wsX7_init := goodIn_r _ [61, 62, 2, 3, 63, 64, 5, 6, 24, 25, 26, 27, 28, 29, 21, 22, 30, 31, 32, 33, 34, 35, 36, 37, 38, 39, 40, 41, 42, 43, 44, 45, 46, 47, 48, 49, 50, 51, 52, 53, 54, 55, 56, 57, 58, 94, 95, 96, 79, 80, 81, 82, 83, 84, 85, 86, 87, 88, 108, 109, 110, 111, 112, 113, 114, 115, 116, 117, 118, 119, 120] (by decide +kernel) (by decide +kernel)
set_option maxRecDepth 20000 in
theorem gX9_init_X7_init : GoodIn wsX9_init (wsX7_init) := ggX9_init_X7_init
set_option maxRecDepth 20000 in
theorem ggX9_init_X3_init : GoodIn wsX9_init wsX3_init := goodIn_r _ [66, 67, 2, 3, 27, 68, 69, 70, 71, 97, 98, 99, 100, 101, 102] (by decide +kernel) (by decide +kernel)
set_option maxRecDepth 20000 in
theorem gX9_init_X3_init_n25 : GoodIn wsX9_init (wsX3_init) := ggX9_init_X3_init
set_option maxRecDepth 20000 in
theorem ggX9_init_X2_init : GoodIn wsX9_init wsX2_init := goodIn_r _ [73, 74, 2, 3, 75, 76, 77, 27, 78, 103, 104, 105, 106, 107] (by decide +kernel) (by decide +kernel)
set_option maxRecDepth 20000 in
theorem gX9_init_X2_init_n32 : GoodIn wsX9_init (wsX2_init) := ggX9_init_X2_init
set_option maxRecDepth 20000 in
theorem ggX9_init_X4_init : GoodIn wsX9_init wsX4_init := goodIn_r _ [40, 41, 2, 3, 27, 42, 43, 44, 45, 46, 47, 48, 108, 109, 110, 111, 112, 113, 114] (by decide +kernel) (by decide +kernel)
set_option maxRecDepth 20000 in
theorem gX9_init_X4_init_n39 : GoodIn wsX9_init (wsX4_init) := ggX9_init_X4_init
set_option maxRecDepth 20000 in
theorem ggX9_addSnow_X9_snowRefusal : GoodIn wsX9_addSnow wsX9_snowRefusal := goodIn_r _ [8, 2, 3, 9, 10, 7, 11, 86, 87, 88, 89, 90, 91, 92, 93, 94, 95, 96, 97, 98, 99, 100] (by decide +kernel) (by decide +kernel)
set_option maxRecDepth 20000 in
theorem gX9_addSnow_X9_snowRefusal : GoodIn wsX9_addSnow (wsV RX9 44 RX9 yX9_snowRefusal wsX9_snowRefusal) := goodIn_app (goodIn_of _ (by decide +kernel)) ggX9_addSnow_X9_snowRefusal
set_option maxRecDepth 20000 in
theorem ggX9_addSnow_X9_throwFor : GoodIn wsX9_addSnow wsX9_throwFor := goodIn_ca (goodIn_ca (goodIn_ca (goodIn_r _ [14, 15, 16, 17, 18, 19, 20] (by decide +kernel) (by decide +kernel)) (goodIn_sub (fun _ h => List.mem_cons_of_mem _ (List.mem_append_left _ (List.mem_append_left _ (List.mem_append_right _ h)))) (by decide +kernel))) (goodIn_sub (fun _ h => List.mem_cons_of_mem _ (List.mem_append_left _ (List.mem_append_right _ h))) (by decide +kernel))) (goodIn_sub (fun _ h => List.mem_cons_of_mem _ (List.mem_append_right _ h)) (by decide +kernel))
set_option maxRecDepth 20000 in
theorem gX9_addSnow_X9_throwFor : GoodIn wsX9_addSnow (va_wsS RX9 48 yX9_throwFor wsX9_throwFor) := goodIn_app (goodIn_of _ (by decide +kernel)) ggX9_addSnow_X9_throwFor
set_option maxRecDepth 20000 in
theorem ggX9_addSnow_X7_push : GoodIn wsX9_addSnow wsX7_push := goodIn_r _ [25, 26, 27, 28, 29, 30, 31, 32, 33, 34, 35, 36, 37, 38, 39, 40, 41, 42, 43, 44, 45, 46, 47, 48, 7, 49, 50, 51, 52, 53, 54, 55, 56, 57, 58, 59, 60, 61, 62, 63, 64, 65, 66, 67, 68, 69, 70, 71, 72, 73, 74, 75, 76, 77, 78, 79, 80, 81, 101, 102, 103, 91, 92, 93, 94, 95, 96, 97, 98, 99, 100, 104, 105, 106, 107, 108, 109, 110, 111, 112, 113, 114, 115, 116] (by decide +kernel) (by decide +kernel)
set_option maxRecDepth 20000 in
theorem gX9_addSnow_X7_push : GoodIn wsX9_addSnow (wsV RX9 52 RX7 yX7_push wsX7_push) := goodIn_app (goodIn_of _ (by decide +kernel)) ggX9_addSnow_X7_push
set_option maxRecDepth 20000 in
theorem ggX9_addSnow_X5_takeSnow : GoodIn wsX9_addSnow wsX5_takeSnow := goodIn_r _ [85, 38, 91, 92, 93, 94, 95, 96, 97, 98, 99, 100] (by decide +kernel) (by decide +kernel)
set_option maxRecDepth 20000 in
theorem gX9_addSnow_X5_takeSnow : GoodIn wsX9_addSnow (wsV RX9 56 RX5 yX5_takeSnow wsX5_takeSnow) := goodIn_app (goodIn_of _ (by decide +kernel)) ggX9_addSnow_X5_takeSnow
set_option maxRecDepth 20000 in
theorem ggX9_press_X9_pressRefusal : GoodIn wsX9_press wsX9_pressRefusal := goodIn_r _ [8, 2, 9, 3, 10, 11, 7, 12, 87, 88, 89, 90, 91, 92, 93, 94, 95, 96, 97, 98, 99, 100, 101] (by decide +kernel) (by decide +kernel)
set_option maxRecDepth 20000 in
theorem gX9_press_X9_pressRefusal : GoodIn wsX9_press (wsV RX9 63 RX9 yX9_pressRefusal wsX9_pressRefusal) := goodIn_app (goodIn_of _ (by decide +kernel)) ggX9_press_X9_pressRefusal
set_option maxRecDepth 20000 in
theorem ggX9_press_X9_throwFor : GoodIn wsX9_press wsX9_throwFor := goodIn_ca (goodIn_ca (goodIn_ca (goodIn_r _ [15, 16, 17, 18, 19, 20, 21] (by decide +kernel) (by decide +kernel)) (goodIn_sub (fun _ h => List.mem_cons_of_mem _ (List.mem_append_left _ (List.mem_append_left _ (List.mem_append_right _ h)))) (by decide +kernel))) (goodIn_sub (fun _ h => List.mem_cons_of_mem _ (List.mem_append_left _ (List.mem_append_right _ h))) (by decide +kernel))) (goodIn_sub (fun _ h => List.mem_cons_of_mem _ (List.mem_append_right _ h)) (by decide +kernel))
set_option maxRecDepth 20000 in
theorem gX9_press_X9_throwFor : GoodIn wsX9_press (va_wsS RX9 48 yX9_throwFor wsX9_throwFor) := goodIn_app (goodIn_of _ (by decide +kernel)) ggX9_press_X9_throwFor
set_option maxRecDepth 20000 in
theorem ggX9_press_X7_push : GoodIn wsX9_press wsX7_push := goodIn_r _ [26, 27, 28, 29, 30, 31, 32, 33, 34, 35, 36, 37, 38, 39, 40, 41, 42, 43, 44, 45, 46, 47, 48, 49, 7, 50, 51, 52, 53, 54, 55, 56, 57, 58, 59, 60, 61, 62, 63, 64, 65, 66, 67, 68, 69, 70, 71, 72, 73, 74, 75, 76, 77, 78, 79, 80, 81, 82, 102, 103, 104, 92, 93, 94, 95, 96, 97, 98, 99, 100, 101, 105, 106, 107, 108, 109, 110, 111, 112, 113, 114, 115, 116, 117] (by decide +kernel) (by decide +kernel)
set_option maxRecDepth 20000 in
theorem gX9_press_X7_push : GoodIn wsX9_press (wsV RX9 52 RX7 yX7_push wsX7_push) := goodIn_app (goodIn_of _ (by decide +kernel)) ggX9_press_X7_push
set_option maxRecDepth 20000 in
theorem ggX9_press_X5_makeBlocks : GoodIn wsX9_press wsX5_makeBlocks := goodIn_r _ [86, 39, 45, 40, 92, 93, 94, 95, 96, 97, 98, 99, 100, 101] (by decide +kernel) (by decide +kernel)
set_option maxRecDepth 20000 in
theorem gX9_press_X5_makeBlocks : GoodIn wsX9_press (wsV RX9 67 RX5 yX5_makeBlocks wsX5_makeBlocks) := goodIn_app (goodIn_of _ (by decide +kernel)) ggX9_press_X5_makeBlocks
set_option maxRecDepth 20000 in
theorem ggX9_stack_X9_stackRefusal : GoodIn wsX9_stack wsX9_stackRefusal := goodIn_r _ [9, 2, 10, 3, 4, 11, 12, 8, 13, 14, 15, 16, 97, 98, 99, 100, 101, 102, 103, 104, 105, 106, 107, 108, 109, 110, 111, 112, 113, 114, 115, 116, 117, 118] (by decide +kernel) (by decide +kernel)
set_option maxRecDepth 20000 in
theorem gX9_stack_X9_stackRefusal : GoodIn wsX9_stack (wsV RX9 75 RX9 yX9_stackRefusal wsX9_stackRefusal) := goodIn_app (goodIn_of _ (by decide +kernel)) ggX9_stack_X9_stackRefusal
set_option maxRecDepth 20000 in
theorem ggX9_stack_X9_throwFor : GoodIn wsX9_stack wsX9_throwFor := goodIn_ca (goodIn_ca (goodIn_ca (goodIn_r _ [19, 20, 21, 22, 23, 24, 25] (by decide +kernel) (by decide +kernel)) (goodIn_sub (fun _ h => List.mem_cons_of_mem _ (List.mem_append_left _ (List.mem_append_left _ (List.mem_append_right _ h)))) (by decide +kernel))) (goodIn_sub (fun _ h => List.mem_cons_of_mem _ (List.mem_append_left _ (List.mem_append_right _ h))) (by decide +kernel))) (goodIn_sub (fun _ h => List.mem_cons_of_mem _ (List.mem_append_right _ h)) (by decide +kernel))
set_option maxRecDepth 20000 in
theorem gX9_stack_X9_throwFor : GoodIn wsX9_stack (va_wsS RX9 48 yX9_throwFor wsX9_throwFor) := goodIn_app (goodIn_of _ (by decide +kernel)) ggX9_stack_X9_throwFor
set_option maxRecDepth 20000 in
theorem ggX9_stack_X7_push : GoodIn wsX9_stack wsX7_push := goodIn_r _ [30, 31, 32, 33, 34, 35, 36, 37, 38, 39, 40, 41, 42, 43, 44, 45, 46, 47, 48, 49, 50, 51, 52, 53, 8, 54, 55, 56, 57, 58, 59, 60, 61, 62, 63, 64, 65, 66, 67, 68, 69, 70, 71, 72, 73, 74, 75, 76, 77, 78, 79, 80, 81, 82, 83, 84, 85, 86, 119, 120, 121, 102, 103, 104, 105, 106, 107, 108, 109, 110, 111, 112, 113, 114, 115, 116, 117, 118, 122, 123, 124, 125, 126, 127] (by decide +kernel) (by decide +kernel)
set_option maxRecDepth 20000 in
theorem gX9_stack_X7_push : GoodIn wsX9_stack (wsV RX9 52 RX7 yX7_push wsX7_push) := goodIn_app (goodIn_of _ (by decide +kernel)) ggX9_stack_X7_push
set_option maxRecDepth 20000 in
theorem ggX9_stack_X5_putBlock : GoodIn wsX9_stack wsX5_putBlock := goodIn_r _ [90, 49, 50, 91, 92, 93, 63, 94, 65, 69, 70, 95, 8, 96, 102, 103, 104, 105, 106, 107, 108, 109, 110, 111, 112, 113, 114, 115, 116, 117, 118] (by decide +kernel) (by decide +kernel)
set_option maxRecDepth 20000 in
theorem gX9_stack_X5_putBlock : GoodIn wsX9_stack (wsV RX9 78 RX5 yX5_putBlock wsX5_putBlock) := goodIn_app (goodIn_of _ (by decide +kernel)) ggX9_stack_X5_putBlock
set_option maxRecDepth 20000 in
theorem ggX9_setWall_X9_siteRefusal : GoodIn wsX9_setWall wsX9_siteRefusal := goodIn_r _ [8, 9, 10, 7, 11, 12, 13, 14] (by decide +kernel) (by decide +kernel)
set_option maxRecDepth 20000 in
theorem gX9_setWall_X9_siteRefusal : GoodIn wsX9_setWall (va_wsS RX9 87 yX9_siteRefusal wsX9_siteRefusal) := goodIn_app (goodIn_of _ (by decide +kernel)) ggX9_setWall_X9_siteRefusal
set_option maxRecDepth 20000 in
theorem ggX9_setWall_X9_throwFor : GoodIn wsX9_setWall wsX9_throwFor := goodIn_ca (goodIn_ca (goodIn_ca (goodIn_r _ [17, 18, 19, 20, 21, 22, 23] (by decide +kernel) (by decide +kernel)) (goodIn_sub (fun _ h => List.mem_cons_of_mem _ (List.mem_append_left _ (List.mem_append_left _ (List.mem_append_right _ h)))) (by decide +kernel))) (goodIn_sub (fun _ h => List.mem_cons_of_mem _ (List.mem_append_left _ (List.mem_append_right _ h))) (by decide +kernel))) (goodIn_sub (fun _ h => List.mem_cons_of_mem _ (List.mem_append_right _ h)) (by decide +kernel))
set_option maxRecDepth 20000 in
theorem gX9_setWall_X9_throwFor : GoodIn wsX9_setWall (va_wsS RX9 48 yX9_throwFor wsX9_throwFor) := goodIn_app (goodIn_of _ (by decide +kernel)) ggX9_setWall_X9_throwFor
set_option maxRecDepth 20000 in
theorem ggX9_setWall_X7_push : GoodIn wsX9_setWall wsX7_push := goodIn_r _ [28, 29, 30, 31, 32, 33, 34, 35, 36, 37, 38, 39, 40, 41, 42, 43, 44, 45, 46, 47, 48, 49, 50, 51, 7, 52, 53, 54, 55, 56, 57, 58, 59, 60, 61, 62, 63, 64, 65, 66, 67, 68, 69, 70, 71, 72, 73, 74, 75, 76, 77, 78, 79, 80, 81, 82, 83, 84, 110, 111, 112, 93, 94, 95, 96, 97, 98, 99, 100, 101, 102, 103, 104, 105, 106, 107, 108, 109, 113, 114, 115, 116, 117, 118] (by decide +kernel) (by decide +kernel)
set_option maxRecDepth 20000 in
theorem gX9_setWall_X7_push : GoodIn wsX9_setWall (wsV RX9 52 RX7 yX7_push wsX7_push) := goodIn_app (goodIn_of _ (by decide +kernel)) ggX9_setWall_X7_push
set_option maxRecDepth 20000 in
theorem ggX9_setWall_X9_sum : GoodIn wsX9_setWall wsX9_sum := goodIn_r _ [87] (by decide +kernel) (by decide +kernel)
set_option maxRecDepth 20000 in
theorem gX9_setWall_X9_sum : GoodIn wsX9_setWall (va_wsS RX9 93 yX9_sum wsX9_sum) := goodIn_app (goodIn_of _ (by decide +kernel)) ggX9_setWall_X9_sum
set_option maxRecDepth 20000 in
theorem ggX9_addTool_X9_toolRefusal : GoodIn wsX9_addTool wsX9_toolRefusal := goodIn_r _ [9, 2, 3, 4, 10, 11, 8, 12, 87, 88, 89, 90, 91, 92, 93, 94, 95, 96, 97, 98, 99, 100, 101, 102, 103, 104, 105] (by decide +kernel) (by decide +kernel)
set_option maxRecDepth 20000 in
theorem gX9_addTool_X9_toolRefusal : GoodIn wsX9_addTool (wsV RX9 97 RX9 yX9_toolRefusal wsX9_toolRefusal) := goodIn_app (goodIn_of _ (by decide +kernel)) ggX9_addTool_X9_toolRefusal
set_option maxRecDepth 20000 in
theorem ggX9_addTool_X9_throwFor : GoodIn wsX9_addTool wsX9_throwFor := goodIn_ca (goodIn_ca (goodIn_ca (goodIn_r _ [15, 16, 17, 18, 19, 20, 21] (by decide +kernel) (by decide +kernel)) (goodIn_sub (fun _ h => List.mem_cons_of_mem _ (List.mem_append_left _ (List.mem_append_left _ (List.mem_append_right _ h)))) (by decide +kernel))) (goodIn_sub (fun _ h => List.mem_cons_of_mem _ (List.mem_append_left _ (List.mem_append_right _ h))) (by decide +kernel))) (goodIn_sub (fun _ h => List.mem_cons_of_mem _ (List.mem_append_right _ h)) (by decide +kernel))
set_option maxRecDepth 20000 in
theorem gX9_addTool_X9_throwFor : GoodIn wsX9_addTool (va_wsS RX9 48 yX9_throwFor wsX9_throwFor) := goodIn_app (goodIn_of _ (by decide +kernel)) ggX9_addTool_X9_throwFor
set_option maxRecDepth 20000 in
theorem ggX9_addTool_X7_push : GoodIn wsX9_addTool wsX7_push := goodIn_r _ [26, 27, 28, 29, 30, 31, 32, 33, 34, 35, 36, 37, 38, 39, 40, 41, 42, 43, 44, 45, 46, 47, 48, 49, 8, 50, 51, 52, 53, 54, 55, 56, 57, 58, 59, 60, 61, 62, 63, 64, 65, 66, 67, 68, 69, 70, 71, 72, 73, 74, 75, 76, 77, 78, 79, 80, 81, 82, 106, 107, 108, 92, 93, 94, 95, 96, 97, 98, 99, 100, 101, 109, 110, 111, 112, 113, 114, 115, 102, 103, 104, 105, 116, 117] (by decide +kernel) (by decide +kernel)
set_option maxRecDepth 20000 in
theorem gX9_addTool_X7_push : GoodIn wsX9_addTool (wsV RX9 52 RX7 yX7_push wsX7_push) := goodIn_app (goodIn_of _ (by decide +kernel)) ggX9_addTool_X7_push
set_option maxRecDepth 20000 in
theorem ggX9_addTool_X6_add : GoodIn wsX9_addTool wsX6_add := goodIn_r _ [86, 73, 72, 74, 75, 102, 103, 104, 105] (by decide +kernel) (by decide +kernel)
set_option maxRecDepth 20000 in
theorem gX9_addTool_X6_add : GoodIn wsX9_addTool (wsV RX9 104 RX6 yX6_add wsX6_add) := goodIn_app (goodIn_of _ (by decide +kernel)) ggX9_addTool_X6_add
set_option maxRecDepth 20000 in
theorem ggX9_carve_X9_carveRefusal : GoodIn wsX9_carve wsX9_carveRefusal := goodIn_r _ [7, 2, 8, 9, 10, 6, 11, 12, 13, 14, 15, 16, 17, 18, 19, 20, 21, 22, 23, 24, 25, 26, 27, 28, 29, 30, 31, 32, 33, 34, 35, 36, 37, 38, 39, 40, 41, 42, 43, 44, 45, 46, 47, 48, 49, 50, 130, 131, 132, 133, 134, 135, 136, 137, 138, 139, 140, 141, 142, 143, 144, 145, 146, 147, 148, 149, 150, 151, 152, 153, 154, 155] (by decide +kernel) (by decide +kernel)
set_option maxRecDepth 20000 in
theorem gX9_carve_X9_carveRefusal : GoodIn wsX9_carve (wsV RX9 112 RX9 yX9_carveRefusal wsX9_carveRefusal) := goodIn_app (goodIn_of _ (by decide +kernel)) ggX9_carve_X9_carveRefusal
set_option maxRecDepth 20000 in
theorem ggX9_carve_X9_throwFor : GoodIn wsX9_carve wsX9_throwFor := goodIn_ca (goodIn_ca (goodIn_ca (goodIn_r _ [53, 54, 55, 56, 57, 58, 59] (by decide +kernel) (by decide +kernel)) (goodIn_sub (fun _ h => List.mem_cons_of_mem _ (List.mem_append_left _ (List.mem_append_left _ (List.mem_append_right _ h)))) (by decide +kernel))) (goodIn_sub (fun _ h => List.mem_cons_of_mem _ (List.mem_append_left _ (List.mem_append_right _ h))) (by decide +kernel))) (goodIn_sub (fun _ h => List.mem_cons_of_mem _ (List.mem_append_right _ h)) (by decide +kernel))
set_option maxRecDepth 20000 in
theorem gX9_carve_X9_throwFor : GoodIn wsX9_carve (va_wsS RX9 48 yX9_throwFor wsX9_throwFor) := goodIn_app (goodIn_of _ (by decide +kernel)) ggX9_carve_X9_throwFor
set_option maxRecDepth 20000 in
theorem ggX9_carve_X7_push : GoodIn wsX9_carve wsX7_push := goodIn_r _ [64, 65, 66, 67, 68, 69, 70, 71, 72, 73, 74, 27, 75, 76, 77, 78, 79, 80, 81, 82, 29, 31, 83, 84, 6, 85, 86, 87, 88, 89, 90, 91, 92, 93, 36, 94, 42, 95, 96, 97, 98, 99, 100, 101, 102, 48, 103, 104, 50, 105, 106, 107, 108, 109, 110, 111, 112, 113, 156, 157, 158, 135, 136, 137, 138, 139, 140, 141, 142, 143, 144, 149, 150, 151, 152, 153, 154, 155, 145, 146, 147, 148, 159, 160] (by decide +kernel) (by decide +kernel)
set_option maxRecDepth 20000 in
theorem gX9_carve_X7_push : GoodIn wsX9_carve (wsV RX9 52 RX7 yX7_push wsX7_push) := goodIn_app (goodIn_of _ (by decide +kernel)) ggX9_carve_X7_push
set_option maxRecDepth 20000 in
theorem ggX9_carve_X5_cutOff : GoodIn wsX9_carve wsX5_cutOff := goodIn_r _ [117, 31, 78, 29, 45, 46, 47, 48, 49, 50, 118, 119, 120, 121, 105, 106, 122, 123, 124, 36, 125, 99, 96, 43, 6, 44, 126, 127, 128, 129, 42, 98, 135, 136, 137, 138, 139, 140, 141, 142, 143, 144, 145, 146, 147, 148, 149, 150, 151, 152, 153, 154, 155] (by decide +kernel) (by decide +kernel)
set_option maxRecDepth 20000 in
theorem gX9_carve_X5_cutOff : GoodIn wsX9_carve (wsV RX9 116 RX5 yX5_cutOff wsX5_cutOff) := goodIn_app (goodIn_of _ (by decide +kernel)) ggX9_carve_X5_cutOff
set_option maxRecDepth 20000 in
theorem ggX9_recycle_X7_push : GoodIn wsX9_recycle wsX7_push := goodIn_r _ [7, 8, 9, 10, 11, 12, 13, 14, 15, 16, 17, 18, 19, 20, 21, 22, 23, 24, 25, 26, 27, 28, 29, 30, 31, 32, 33, 34, 35, 36, 37, 38, 39, 40, 41, 42, 43, 44, 45, 46, 47, 48, 49, 50, 51, 52, 53, 54, 55, 56, 57, 58, 59, 60, 61, 62, 63, 64, 75, 76, 77, 78, 79, 80, 81, 82, 83, 84, 85, 86, 87, 88, 89, 90, 91, 92, 93, 94, 95, 96, 97, 98, 99, 100] (by decide +kernel) (by decide +kernel)
set_option maxRecDepth 20000 in
theorem gX9_recycle_X7_push : GoodIn wsX9_recycle (wsV RX9 52 RX7 yX7_push wsX7_push) := goodIn_app (goodIn_of _ (by decide +kernel)) ggX9_recycle_X7_push
set_option maxRecDepth 20000 in
theorem ggX9_recycle_X5_putOffcutsBack : GoodIn wsX9_recycle wsX5_putOffcutsBack := goodIn_r _ [68, 22, 20, 69, 12, 13, 14, 23, 78, 79, 80, 81, 82, 83, 84, 85, 86, 87] (by decide +kernel) (by decide +kernel)
set_option maxRecDepth 20000 in
theorem gX9_recycle_X5_putOffcutsBack : GoodIn wsX9_recycle (wsV RX9 119 RX5 yX5_putOffcutsBack wsX5_putOffcutsBack) := goodIn_app (goodIn_of _ (by decide +kernel)) ggX9_recycle_X5_putOffcutsBack
set_option maxRecDepth 20000 in
theorem ggX9_hour_X7_push : GoodIn wsX9_hour wsX7_push := goodIn_r _ [7, 8, 9, 10, 11, 12, 13, 14, 15, 16, 17, 18, 19, 20, 21, 22, 23, 24, 25, 26, 27, 28, 29, 30, 31, 32, 33, 34, 35, 36, 37, 38, 39, 40, 41, 42, 43, 44, 45, 46, 47, 48, 49, 50, 51, 52, 53, 54, 55, 56, 57, 58, 59, 60, 61, 62, 63, 64, 105, 106, 107, 108, 109, 110, 111, 112, 113, 114, 115, 116, 117, 118, 119, 120, 121, 122, 123, 124, 125, 126, 127, 128, 129, 130] (by decide +kernel) (by decide +kernel)
set_option maxRecDepth 20000 in
theorem gX9_hour_X7_push : GoodIn wsX9_hour (wsV RX9 52 RX7 yX7_push wsX7_push) := goodIn_app (goodIn_of _ (by decide +kernel)) ggX9_hour_X7_push
set_option maxRecDepth 20000 in
theorem ggX9_hour_X5_passHours : GoodIn wsX9_hour wsX5_passHours := goodIn_r _ [68, 27, 24, 28, 25, 69, 70, 71, 41, 72, 43, 47, 73, 48, 74, 12, 13, 14, 75, 31, 76, 77, 78, 79, 80, 81, 82, 83, 44, 84, 85, 86, 87, 88, 89, 90, 91, 46, 92, 93, 94, 95, 96, 97, 98, 52, 99, 54, 56, 108, 109, 110, 111, 112, 113, 114, 115, 116, 117, 118, 119, 120, 121, 122, 123, 124, 125, 126, 127, 128] (by decide +kernel) (by decide +kernel)
set_option maxRecDepth 20000 in
theorem gX9_hour_X5_passHours : GoodIn wsX9_hour (wsV RX9 123 RX5 yX5_passHours wsX5_passHours) := goodIn_app (goodIn_of _ (by decide +kernel)) ggX9_hour_X5_passHours
set_option maxRecDepth 20000 in
theorem ggX9_ballot_X9_ballotRefusal : GoodIn wsX9_ballot wsX9_ballotRefusal := goodIn_r _ [9, 2, 3, 4, 10, 11, 8, 12, 13, 14, 15, 16, 17, 18, 93, 94, 95, 96, 97, 98, 99, 100, 101, 102, 103, 104, 105, 106, 107, 108, 109] (by decide +kernel) (by decide +kernel)
set_option maxRecDepth 20000 in
theorem gX9_ballot_X9_ballotRefusal : GoodIn wsX9_ballot (wsV RX9 127 RX9 yX9_ballotRefusal wsX9_ballotRefusal) := goodIn_app (goodIn_of _ (by decide +kernel)) ggX9_ballot_X9_ballotRefusal
set_option maxRecDepth 20000 in
theorem ggX9_ballot_X9_throwFor : GoodIn wsX9_ballot wsX9_throwFor := goodIn_ca (goodIn_ca (goodIn_ca (goodIn_r _ [21, 22, 23, 24, 25, 26, 27] (by decide +kernel) (by decide +kernel)) (goodIn_sub (fun _ h => List.mem_cons_of_mem _ (List.mem_append_left _ (List.mem_append_left _ (List.mem_append_right _ h)))) (by decide +kernel))) (goodIn_sub (fun _ h => List.mem_cons_of_mem _ (List.mem_append_left _ (List.mem_append_right _ h))) (by decide +kernel))) (goodIn_sub (fun _ h => List.mem_cons_of_mem _ (List.mem_append_right _ h)) (by decide +kernel))
set_option maxRecDepth 20000 in
theorem gX9_ballot_X9_throwFor : GoodIn wsX9_ballot (va_wsS RX9 48 yX9_throwFor wsX9_throwFor) := goodIn_app (goodIn_of _ (by decide +kernel)) ggX9_ballot_X9_throwFor
set_option maxRecDepth 20000 in
theorem ggX9_ballot_X7_push : GoodIn wsX9_ballot wsX7_push := goodIn_r _ [32, 33, 34, 35, 36, 37, 38, 39, 40, 41, 42, 43, 44, 45, 46, 47, 48, 49, 50, 51, 52, 53, 54, 55, 8, 56, 57, 58, 59, 60, 61, 62, 63, 64, 65, 66, 67, 68, 69, 70, 71, 72, 73, 74, 75, 76, 77, 78, 79, 80, 81, 82, 83, 84, 85, 86, 87, 88, 110, 111, 112, 98, 99, 100, 101, 102, 103, 104, 105, 106, 107, 113, 114, 115, 116, 117, 118, 119, 120, 121, 122, 123, 108, 109] (by decide +kernel) (by decide +kernel)
set_option maxRecDepth 20000 in
theorem gX9_ballot_X7_push : GoodIn wsX9_ballot (wsV RX9 52 RX7 yX7_push wsX7_push) := goodIn_app (goodIn_of _ (by decide +kernel)) ggX9_ballot_X7_push
set_option maxRecDepth 20000 in
theorem ggX9_ballot_X1_add : GoodIn wsX9_ballot wsX1_add := goodIn_r _ [92, 87, 88, 108, 109] (by decide +kernel) (by decide +kernel)
set_option maxRecDepth 20000 in
theorem gX9_ballot_X1_add : GoodIn wsX9_ballot (wsV RX9 135 RX1 yX1_add wsX1_add) := goodIn_app (goodIn_of _ (by decide +kernel)) ggX9_ballot_X1_add
set_option maxRecDepth 20000 in
theorem ggX9_block_X9_siteRefusal : GoodIn wsX9_block wsX9_siteRefusal := goodIn_r _ [11, 12, 13, 10, 14, 15, 16, 17] (by decide +kernel) (by decide +kernel)
set_option maxRecDepth 20000 in
theorem gX9_block_X9_siteRefusal : GoodIn wsX9_block (va_wsS RX9 87 yX9_siteRefusal wsX9_siteRefusal) := goodIn_app (goodIn_of _ (by decide +kernel)) ggX9_block_X9_siteRefusal
set_option maxRecDepth 20000 in
theorem ggX9_block_X9_throwFor : GoodIn wsX9_block wsX9_throwFor := goodIn_ca (goodIn_ca (goodIn_ca (goodIn_r _ [20, 21, 22, 1, 2, 23, 24] (by decide +kernel) (by decide +kernel)) (goodIn_sub (fun _ h => List.mem_cons_of_mem _ (List.mem_append_left _ (List.mem_append_right _ h))) (by decide +kernel))) (goodIn_sub (fun _ h => List.mem_cons_of_mem _ (List.mem_append_left _ (List.mem_append_left _ (List.mem_append_right _ h)))) (by decide +kernel))) (goodIn_sub (fun _ h => List.mem_cons_of_mem _ (List.mem_append_right _ h)) (by decide +kernel))
set_option maxRecDepth 20000 in
theorem gX9_block_X9_throwFor : GoodIn wsX9_block (va_wsS RX9 48 yX9_throwFor wsX9_throwFor) := goodIn_app (goodIn_of _ (by decide +kernel)) ggX9_block_X9_throwFor
set_option maxRecDepth 20000 in
theorem ggX9_block_X9_isWithin : GoodIn wsX9_block wsX9_isWithin := goodIn_r _ [17] (by decide +kernel) (by decide +kernel)
set_option maxRecDepth 20000 in
theorem gX9_block_X9_isWithin : GoodIn wsX9_block (va_wsS RX9 141 yX9_isWithin wsX9_isWithin) := goodIn_app (goodIn_of _ (by decide +kernel)) ggX9_block_X9_isWithin
set_option maxRecDepth 20000 in
theorem ggX9_block_X4_hasBlock : GoodIn wsX9_block wsX4_hasBlock := goodIn_r _ [29, 30, 31, 32, 28, 33, 34, 58, 59, 60, 61, 62, 63, 64] (by decide +kernel) (by decide +kernel)
set_option maxRecDepth 20000 in
theorem gX9_block_X4_hasBlock : GoodIn wsX9_block (wsV RX9 152 RX4 yX4_hasBlock wsX4_hasBlock) := goodIn_app (goodIn_of _ (by decide +kernel)) ggX9_block_X4_hasBlock
set_option maxRecDepth 20000 in
theorem ggX9_block_X9_placeOf : GoodIn wsX9_block wsX9_placeOf := goodIn_r _ [37] (by decide +kernel) (by decide +kernel)
set_option maxRecDepth 20000 in
theorem gX9_block_X9_placeOf : GoodIn wsX9_block (va_wsS RX9 159 yX9_placeOf wsX9_placeOf) := goodIn_app (goodIn_of _ (by decide +kernel)) ggX9_block_X9_placeOf
set_option maxRecDepth 20000 in
theorem ggX9_block_X4_facesInSun : GoodIn wsX9_block wsX4_facesInSun := goodIn_r _ [41, 42, 34, 30, 31, 32, 28, 33, 58, 59, 60, 61, 62, 63, 64] (by decide +kernel) (by decide +kernel)
set_option maxRecDepth 20000 in
theorem gX9_block_X4_facesInSun : GoodIn wsX9_block (wsV RX9 168 RX4 yX4_facesInSun wsX4_facesInSun) := goodIn_app (goodIn_of _ (by decide +kernel)) ggX9_block_X4_facesInSun
set_option maxRecDepth 20000 in
theorem ggX9_site_X9_siteRefusal : GoodIn wsX9_site wsX9_siteRefusal := goodIn_r _ [12, 13, 14, 11, 15, 16, 17, 18] (by decide +kernel) (by decide +kernel)
set_option maxRecDepth 20000 in
theorem gX9_site_X9_siteRefusal : GoodIn wsX9_site (va_wsS RX9 87 yX9_siteRefusal wsX9_siteRefusal) := goodIn_app (goodIn_of _ (by decide +kernel)) ggX9_site_X9_siteRefusal
set_option maxRecDepth 20000 in
theorem ggX9_site_X9_throwFor : GoodIn wsX9_site wsX9_throwFor := goodIn_ca (goodIn_ca (goodIn_ca (goodIn_r _ [21, 22, 23, 1, 2, 24, 25] (by decide +kernel) (by decide +kernel)) (goodIn_sub (fun _ h => List.mem_cons_of_mem _ (List.mem_append_left _ (List.mem_append_right _ h))) (by decide +kernel))) (goodIn_sub (fun _ h => List.mem_cons_of_mem _ (List.mem_append_left _ (List.mem_append_left _ (List.mem_append_right _ h)))) (by decide +kernel))) (goodIn_sub (fun _ h => List.mem_cons_of_mem _ (List.mem_append_right _ h)) (by decide +kernel))
set_option maxRecDepth 20000 in
theorem gX9_site_X9_throwFor : GoodIn wsX9_site (va_wsS RX9 48 yX9_throwFor wsX9_throwFor) := goodIn_app (goodIn_of _ (by decide +kernel)) ggX9_site_X9_throwFor
set_option maxRecDepth 20000 in
theorem ggX9_site_X4_volumeOf : GoodIn wsX9_site wsX4_volumeOf := goodIn_r _ [30, 31, 32, 33, 11, 34, 50, 51, 52, 53, 54, 55, 56] (by decide +kernel) (by decide +kernel)
set_option maxRecDepth 20000 in
theorem gX9_site_X4_volumeOf : GoodIn wsX9_site (wsV RX9 171 RX4 yX4_volumeOf wsX4_volumeOf) := goodIn_app (goodIn_of _ (by decide +kernel)) ggX9_site_X4_volumeOf
set_option maxRecDepth 20000 in
theorem ggX9_tool_X9_isTool : GoodIn wsX9_tool wsX9_isTool := goodIn_r _ [14, 5, 6, 15, 16, 17, 18, 19, 20, 21, 22, 23, 24, 25, 26, 27, 28, 29, 30, 31, 32, 33, 34] (by decide +kernel) (by decide +kernel)
set_option maxRecDepth 20000 in
theorem gX9_tool_X9_isTool : GoodIn wsX9_tool (wsV RX9 182 RX9 yX9_isTool wsX9_isTool) := goodIn_app (goodIn_of _ (by decide +kernel)) ggX9_tool_X9_isTool
set_option maxRecDepth 20000 in
theorem ggX9_whole_X4_sculptures : GoodIn wsX9_whole wsX4_sculptures := goodIn_r _ [24, 25, 56, 57, 58, 59, 60, 61, 62] (by decide +kernel) (by decide +kernel)
set_option maxRecDepth 20000 in
theorem gX9_whole_X4_sculptures : GoodIn wsX9_whole (wsV RX9 203 RX4 yX4_sculptures wsX4_sculptures) := goodIn_app (goodIn_of _ (by decide +kernel)) ggX9_whole_X4_sculptures
set_option maxRecDepth 20000 in
theorem ggX9_whole_X4_volumeOfAll : GoodIn wsX9_whole wsX4_volumeOfAll := goodIn_r _ [29, 30, 31, 32, 23, 33, 25, 34, 35, 36, 37, 56, 57, 58, 59, 60, 61, 62] (by decide +kernel) (by decide +kernel)
set_option maxRecDepth 20000 in
theorem gX9_whole_X4_volumeOfAll : GoodIn wsX9_whole (wsV RX9 206 RX4 yX4_volumeOfAll wsX4_volumeOfAll) := goodIn_app (goodIn_of _ (by decide +kernel)) ggX9_whole_X4_volumeOfAll
set_option maxRecDepth 20000 in
theorem ggX9_whole_X9_sum : GoodIn wsX9_whole wsX9_sum := goodIn_r _ [40] (by decide +kernel) (by decide +kernel)
set_option maxRecDepth 20000 in
theorem gX9_whole_X9_sum : GoodIn wsX9_whole (va_wsS RX9 93 yX9_sum wsX9_sum) := goodIn_app (goodIn_of _ (by decide +kernel)) ggX9_whole_X9_sum
set_option maxRecDepth 20000 in
theorem ggX9_rounds_X2_take : GoodIn wsX9_rounds wsX2_take := goodIn_r _ [10, 11, 12, 13, 14, 15, 16, 17, 18, 19, 20, 21, 22, 23, 24, 25, 26, 27, 28, 29, 30, 9, 31, 32, 33, 34, 35, 36, 37, 38, 39, 40, 41, 42, 43, 44, 45, 46, 47, 48, 49, 50, 51, 52, 53, 54, 55, 56, 57, 58, 59, 60, 61, 62, 63, 64, 65, 81, 82, 83, 84, 85, 86, 87, 88, 89, 90, 91, 92, 93, 94] (by decide +kernel) (by decide +kernel)
set_option maxRecDepth 20000 in
theorem gX9_rounds_X2_take : GoodIn wsX9_rounds (wsV RX9 221 RX2 yX2_take wsX2_take) := goodIn_app (goodIn_of _ (by decide +kernel)) ggX9_rounds_X2_take
set_option maxRecDepth 20000 in
theorem ggX9_votes_X9_siteRefusal : GoodIn wsX9_votes wsX9_siteRefusal := goodIn_r _ [10, 11, 12, 9, 13, 14, 15, 16] (by decide +kernel) (by decide +kernel)
set_option maxRecDepth 20000 in
theorem gX9_votes_X9_siteRefusal : GoodIn wsX9_votes (va_wsS RX9 87 yX9_siteRefusal wsX9_siteRefusal) := goodIn_app (goodIn_of _ (by decide +kernel)) ggX9_votes_X9_siteRefusal
set_option maxRecDepth 20000 in
theorem ggX9_votes_X9_throwFor : GoodIn wsX9_votes wsX9_throwFor := goodIn_ca (goodIn_ca (goodIn_ca (goodIn_r _ [19, 20, 21, 1, 2, 22, 23] (by decide +kernel) (by decide +kernel)) (goodIn_sub (fun _ h => List.mem_cons_of_mem _ (List.mem_append_left _ (List.mem_append_right _ h))) (by decide +kernel))) (goodIn_sub (fun _ h => List.mem_cons_of_mem _ (List.mem_append_left _ (List.mem_append_left _ (List.mem_append_right _ h)))) (by decide +kernel))) (goodIn_sub (fun _ h => List.mem_cons_of_mem _ (List.mem_append_right _ h)) (by decide +kernel))
set_option maxRecDepth 20000 in
theorem gX9_votes_X9_throwFor : GoodIn wsX9_votes (va_wsS RX9 48 yX9_throwFor wsX9_throwFor) := goodIn_app (goodIn_of _ (by decide +kernel)) ggX9_votes_X9_throwFor
set_option maxRecDepth 20000 in
theorem ggX9_votes_X2_take : GoodIn wsX9_votes wsX2_take := goodIn_r _ [28, 29, 30, 31, 32, 33, 34, 35, 36, 37, 38, 39, 40, 41, 42, 43, 44, 45, 46, 47, 48, 27, 49, 50, 51, 52, 53, 54, 55, 56, 57, 58, 12, 9, 13, 14, 15, 16, 59, 60, 61, 62, 63, 64, 65, 66, 67, 68, 69, 70, 71, 72, 73, 74, 75, 76, 77, 97, 98, 99, 100, 101, 102, 103, 104, 105, 106, 107, 108, 109, 110] (by decide +kernel) (by decide +kernel)
set_option maxRecDepth 20000 in
theorem gX9_votes_X2_take : GoodIn wsX9_votes (wsV RX9 221 RX2 yX2_take wsX2_take) := goodIn_app (goodIn_of _ (by decide +kernel)) ggX9_votes_X2_take
set_option maxRecDepth 20000 in
theorem ggX9_votes_X2_votesIn : GoodIn wsX9_votes wsX2_votesIn := goodIn_r _ [81, 29, 51, 97, 98, 99, 100, 101] (by decide +kernel) (by decide +kernel)
set_option maxRecDepth 20000 in
theorem gX9_votes_X2_votesIn : GoodIn wsX9_votes (wsV RX9 230 RX2 yX2_votesIn wsX2_votesIn) := goodIn_app (goodIn_of _ (by decide +kernel)) ggX9_votes_X2_votesIn
set_option maxRecDepth 20000 in
theorem ggX9_winner_X2_take : GoodIn wsX9_winner wsX2_take := goodIn_r _ [10, 11, 12, 13, 14, 15, 16, 17, 18, 19, 20, 21, 22, 23, 24, 25, 26, 27, 28, 29, 30, 9, 31, 32, 33, 34, 35, 36, 37, 38, 39, 40, 41, 42, 43, 44, 45, 46, 47, 48, 49, 50, 51, 52, 53, 54, 55, 56, 57, 58, 59, 60, 61, 62, 63, 64, 65, 81, 82, 83, 84, 85, 86, 87, 88, 89, 90, 91, 92, 93, 94] (by decide +kernel) (by decide +kernel)
set_option maxRecDepth 20000 in
theorem gX9_winner_X2_take : GoodIn wsX9_winner (wsV RX9 221 RX2 yX2_take wsX2_take) := goodIn_app (goodIn_of _ (by decide +kernel)) ggX9_winner_X2_take
set_option maxRecDepth 20000 in
theorem ggX9_reason_X9_carveArgumentsRefusal : GoodIn wsX9_reason wsX9_carveArgumentsRefusal := goodIn_r _ [6, 7, 8, 9, 5, 10, 1, 11, 12, 13, 14, 15, 16, 17, 18, 55, 56, 57, 58, 59, 60, 61, 62, 63, 64, 65, 66, 67, 68, 69, 70, 71, 72, 73] (by decide +kernel) (by decide +kernel)
set_option maxRecDepth 20000 in
theorem gX9_reason_X9_carveArgumentsRefusal : GoodIn wsX9_reason (wsV RX9 236 RX9 yX9_carveArgumentsRefusal wsX9_carveArgumentsRefusal) := goodIn_app (goodIn_of _ (by decide +kernel)) ggX9_reason_X9_carveArgumentsRefusal
set_option maxRecDepth 20000 in
theorem ggX9_reason_X9_throwFor : GoodIn wsX9_reason wsX9_throwFor := goodIn_ca (goodIn_ca (goodIn_ca (goodIn_r _ [21, 22, 23, 24, 25, 26, 27] (by decide +kernel) (by decide +kernel)) (goodIn_sub (fun _ h => List.mem_cons_of_mem _ (List.mem_append_left _ (List.mem_append_left _ (List.mem_append_right _ h)))) (by decide +kernel))) (goodIn_sub (fun _ h => List.mem_cons_of_mem _ (List.mem_append_left _ (List.mem_append_right _ h))) (by decide +kernel))) (goodIn_sub (fun _ h => List.mem_cons_of_mem _ (List.mem_append_right _ h)) (by decide +kernel))
set_option maxRecDepth 20000 in
theorem gX9_reason_X9_throwFor : GoodIn wsX9_reason (va_wsS RX9 48 yX9_throwFor wsX9_throwFor) := goodIn_app (goodIn_of _ (by decide +kernel)) ggX9_reason_X9_throwFor
set_option maxRecDepth 20000 in
theorem ggX9_reason_X5_reasonAgainst : GoodIn wsX9_reason wsX5_reasonAgainst := goodIn_r _ [32, 33, 34, 35, 36, 37, 38, 39, 40, 41, 42, 43, 44, 45, 46, 47, 5, 48, 49, 50, 51, 52, 53, 54, 60, 61, 62, 63, 64, 65, 66, 67, 68, 69, 74, 75, 76, 77, 78, 79, 80, 70, 71, 72, 73] (by decide +kernel) (by decide +kernel)
set_option maxRecDepth 20000 in
theorem gX9_reason_X5_reasonAgainst : GoodIn wsX9_reason (wsV RX9 239 RX5 yX5_reasonAgainst wsX5_reasonAgainst) := goodIn_app (goodIn_of _ (by decide +kernel)) ggX9_reason_X5_reasonAgainst
set_option maxRecDepth 20000 in
theorem ggX9_volumeIn_X9_siteRefusal : GoodIn wsX9_volumeIn wsX9_siteRefusal := goodIn_r _ [9, 10, 11, 8, 12, 13, 14, 15] (by decide +kernel) (by decide +kernel)
set_option maxRecDepth 20000 in
theorem gX9_volumeIn_X9_siteRefusal : GoodIn wsX9_volumeIn (va_wsS RX9 87 yX9_siteRefusal wsX9_siteRefusal) := goodIn_app (goodIn_of _ (by decide +kernel)) ggX9_volumeIn_X9_siteRefusal
set_option maxRecDepth 20000 in
theorem ggX9_volumeIn_X9_throwFor : GoodIn wsX9_volumeIn wsX9_throwFor := goodIn_ca (goodIn_ca (goodIn_ca (goodIn_r _ [18, 19, 20, 1, 2, 21, 22] (by decide +kernel) (by decide +kernel)) (goodIn_sub (fun _ h => List.mem_cons_of_mem _ (List.mem_append_left _ (List.mem_append_right _ h))) (by decide +kernel))) (goodIn_sub (fun _ h => List.mem_cons_of_mem _ (List.mem_append_left _ (List.mem_append_left _ (List.mem_append_right _ h)))) (by decide +kernel))) (goodIn_sub (fun _ h => List.mem_cons_of_mem _ (List.mem_append_right _ h)) (by decide +kernel))
set_option maxRecDepth 20000 in
theorem gX9_volumeIn_X9_throwFor : GoodIn wsX9_volumeIn (va_wsS RX9 48 yX9_throwFor wsX9_throwFor) := goodIn_app (goodIn_of _ (by decide +kernel)) ggX9_volumeIn_X9_throwFor
set_option maxRecDepth 20000 in
theorem ggX9_volumeIn_X9_isWithin : GoodIn wsX9_volumeIn wsX9_isWithin := goodIn_r _ [15] (by decide +kernel) (by decide +kernel)
set_option maxRecDepth 20000 in
theorem gX9_volumeIn_X9_isWithin : GoodIn wsX9_volumeIn (va_wsS RX9 141 yX9_isWithin wsX9_isWithin) := goodIn_app (goodIn_of _ (by decide +kernel)) ggX9_volumeIn_X9_isWithin
set_option maxRecDepth 20000 in
theorem ggX9_volumeIn_X4_copyFrom : GoodIn wsX9_volumeIn wsX4_copyFrom := goodIn_r _ [27, 28, 29, 30, 31, 32, 33, 34, 8, 35, 36, 37, 38, 39, 40, 41, 42, 43, 95, 96, 97, 98, 99, 100, 101] (by decide +kernel) (by decide +kernel)
set_option maxRecDepth 20000 in
theorem gX9_volumeIn_X4_copyFrom : GoodIn wsX9_volumeIn (wsV RX9 244 RX4 yX4_copyFrom wsX4_copyFrom) := goodIn_app (goodIn_of _ (by decide +kernel)) ggX9_volumeIn_X4_copyFrom
set_option maxRecDepth 20000 in
theorem ggX9_volumeIn_X9_meltTrial : GoodIn wsX9_volumeIn wsX9_meltTrial := goodIn_r _ [47, 3, 4, 48, 49, 50, 51, 26, 52, 28, 32, 53, 33, 54, 37, 38, 39, 55, 8, 56, 57, 58, 59, 60, 61, 62, 63, 29, 64, 65, 66, 67, 68, 69, 70, 71, 31, 72, 73, 74, 75, 80, 81, 82, 83, 84, 85, 86, 87, 88, 89, 90, 91, 92, 93, 94, 95, 96, 97, 98, 99, 100, 101] (by decide +kernel) (by decide +kernel)
set_option maxRecDepth 20000 in
theorem gX9_volumeIn_X9_meltTrial : GoodIn wsX9_volumeIn (wsV RX9 248 RX9 yX9_meltTrial wsX9_meltTrial) := goodIn_app (goodIn_of _ (by decide +kernel)) ggX9_volumeIn_X9_meltTrial
set_option maxRecDepth 20000 in
theorem ggX9_volumeIn_X4_volumeOf : GoodIn wsX9_volumeIn wsX4_volumeOf := goodIn_r _ [79, 28, 33, 55, 8, 56, 95, 96, 97, 98, 99, 100, 101] (by decide +kernel) (by decide +kernel)
set_option maxRecDepth 20000 in
theorem gX9_volumeIn_X4_volumeOf : GoodIn wsX9_volumeIn (wsV RX9 171 RX4 yX4_volumeOf wsX4_volumeOf) := goodIn_app (goodIn_of _ (by decide +kernel)) ggX9_volumeIn_X4_volumeOf
set_option maxRecDepth 20000 in
theorem ggX9_goneIn_X9_siteRefusal : GoodIn wsX9_goneIn wsX9_siteRefusal := goodIn_r _ [8, 9, 10, 7, 11, 12, 13, 14] (by decide +kernel) (by decide +kernel)
set_option maxRecDepth 20000 in
theorem gX9_goneIn_X9_siteRefusal : GoodIn wsX9_goneIn (va_wsS RX9 87 yX9_siteRefusal wsX9_siteRefusal) := goodIn_app (goodIn_of _ (by decide +kernel)) ggX9_goneIn_X9_siteRefusal
set_option maxRecDepth 20000 in
theorem ggX9_goneIn_X9_throwFor : GoodIn wsX9_goneIn wsX9_throwFor := goodIn_ca (goodIn_ca (goodIn_ca (goodIn_r _ [17, 18, 19, 20, 21, 22, 23] (by decide +kernel) (by decide +kernel)) (goodIn_sub (fun _ h => List.mem_cons_of_mem _ (List.mem_append_left _ (List.mem_append_left _ (List.mem_append_right _ h)))) (by decide +kernel))) (goodIn_sub (fun _ h => List.mem_cons_of_mem _ (List.mem_append_left _ (List.mem_append_right _ h))) (by decide +kernel))) (goodIn_sub (fun _ h => List.mem_cons_of_mem _ (List.mem_append_right _ h)) (by decide +kernel))
set_option maxRecDepth 20000 in
theorem gX9_goneIn_X9_throwFor : GoodIn wsX9_goneIn (va_wsS RX9 48 yX9_throwFor wsX9_throwFor) := goodIn_app (goodIn_of _ (by decide +kernel)) ggX9_goneIn_X9_throwFor
set_option maxRecDepth 20000 in
theorem ggX9_goneIn_X4_hasBlock : GoodIn wsX9_goneIn wsX4_hasBlock := goodIn_r _ [28, 29, 30, 31, 27, 32, 33, 91, 92, 93, 94, 95, 96, 97] (by decide +kernel) (by decide +kernel)
set_option maxRecDepth 20000 in
theorem gX9_goneIn_X4_hasBlock : GoodIn wsX9_goneIn (wsV RX9 152 RX4 yX4_hasBlock wsX4_hasBlock) := goodIn_app (goodIn_of _ (by decide +kernel)) ggX9_goneIn_X4_hasBlock
set_option maxRecDepth 20000 in
theorem ggX9_goneIn_X4_copyFrom : GoodIn wsX9_goneIn wsX4_copyFrom := goodIn_r _ [37, 33, 38, 39, 40, 41, 42, 43, 7, 44, 45, 46, 47, 48, 49, 50, 51, 52, 91, 92, 93, 94, 95, 96, 97] (by decide +kernel) (by decide +kernel)
set_option maxRecDepth 20000 in
theorem gX9_goneIn_X4_copyFrom : GoodIn wsX9_goneIn (wsV RX9 244 RX4 yX4_copyFrom wsX4_copyFrom) := goodIn_app (goodIn_of _ (by decide +kernel)) ggX9_goneIn_X4_copyFrom
set_option maxRecDepth 20000 in
theorem ggX9_goneIn_X4_melt : GoodIn wsX9_goneIn wsX4_melt := goodIn_r _ [56, 33, 41, 57, 42, 58, 46, 47, 48, 59, 7, 60, 61, 62, 27, 63, 64, 65, 66, 67, 38, 29, 30, 31, 32, 68, 69, 70, 71, 40, 72, 73, 74, 75, 91, 92, 93, 94, 95, 96, 97] (by decide +kernel) (by decide +kernel)
set_option maxRecDepth 20000 in
theorem gX9_goneIn_X4_melt : GoodIn wsX9_goneIn (wsV RX9 251 RX4 yX4_melt wsX4_melt) := goodIn_app (goodIn_of _ (by decide +kernel)) ggX9_goneIn_X4_melt
set_option maxRecDepth 20000 in
theorem ggX9_bestWall_X4_copyFrom : GoodIn wsX9_bestWall wsX4_copyFrom := goodIn_r _ [9, 10, 11, 12, 13, 14, 15, 16, 17, 18, 19, 20, 21, 22, 23, 24, 25, 26, 74, 75, 76, 77, 78, 79, 80] (by decide +kernel) (by decide +kernel)
set_option maxRecDepth 20000 in
theorem gX9_bestWall_X4_copyFrom : GoodIn wsX9_bestWall (wsV RX9 244 RX4 yX4_copyFrom wsX4_copyFrom) := goodIn_app (goodIn_of _ (by decide +kernel)) ggX9_bestWall_X4_copyFrom
set_option maxRecDepth 20000 in
theorem ggX9_bestWall_X9_meltTrial : GoodIn wsX9_bestWall wsX9_meltTrial := goodIn_r _ [30, 1, 2, 31, 32, 33, 34, 8, 35, 10, 14, 36, 15, 37, 20, 21, 22, 38, 17, 39, 40, 41, 42, 43, 44, 45, 46, 11, 47, 48, 49, 50, 51, 52, 53, 54, 13, 55, 56, 57, 58, 59, 60, 61, 62, 63, 64, 65, 66, 67, 68, 69, 70, 71, 72, 73, 74, 75, 76, 77, 78, 79, 80] (by decide +kernel) (by decide +kernel)
set_option maxRecDepth 20000 in
theorem gX9_bestWall_X9_meltTrial : GoodIn wsX9_bestWall (wsV RX9 248 RX9 yX9_meltTrial wsX9_meltTrial) := goodIn_app (goodIn_of _ (by decide +kernel)) ggX9_bestWall_X9_meltTrial
set_option maxRecDepth 20000 in
theorem ggX9_undo_X7_pop : GoodIn wsX9_undo wsX7_pop := goodIn_r _ [10, 11, 12, 13, 14, 15, 16, 17, 18, 19, 20, 21, 22, 23, 24, 25, 26, 27, 28, 29, 30, 31, 32, 33, 34, 35, 36, 37, 38, 39, 40, 41, 42, 43, 44, 45, 46, 47, 48, 49, 50, 51, 52, 53, 54, 55, 56, 57, 58, 59, 60, 61, 62, 63, 64, 65, 66, 72, 73, 74, 75, 76, 77, 78, 79, 80, 81, 82, 83, 84, 85, 86, 87, 88, 89, 90, 91, 92, 93, 94, 95, 96, 97] (by decide +kernel) (by decide +kernel)
set_option maxRecDepth 20000 in
theorem gX9_undo_X7_pop : GoodIn wsX9_undo (wsV RX9 293 RX7 yX7_pop wsX7_pop) := goodIn_app (goodIn_of _ (by decide +kernel)) ggX9_undo_X7_pop
set_option maxRecDepth 20000 in
theorem ggX9_digest_X9_mix : GoodIn wsX9_digest wsX9_mix := goodIn_r _ [10, 11] (by decide +kernel) (by decide +kernel)
set_option maxRecDepth 20000 in
theorem gX9_digest_X9_mix : GoodIn wsX9_digest (va_wsS RX9 298 yX9_mix wsX9_mix) := goodIn_app (goodIn_of _ (by decide +kernel)) ggX9_digest_X9_mix
set_option maxRecDepth 20000 in
theorem ggX9_digest_X9_whole : GoodIn wsX9_digest wsX9_whole := goodIn_ca (goodIn_r _ [15, 16, 17, 4, 18, 19, 20, 21, 22, 23, 24, 5, 6, 25, 26, 27, 28, 29, 30, 31, 32, 33, 34, 35, 36, 37, 38, 39, 40, 41, 42, 43, 44, 45, 46, 47, 9, 48, 49, 50, 51, 201, 202, 203, 204, 205, 209, 210, 211, 212, 213, 214, 215, 216, 217, 218, 223, 224, 225, 226, 227, 228, 229, 219, 220, 221, 222, 230, 231, 232, 233, 234, 235, 236, 237] (by decide +kernel) (by decide +kernel)) (goodIn_sub (fun _ h => List.mem_cons_of_mem _ (List.mem_append_left _ (List.mem_append_left _ (List.mem_append_right _ h)))) (by decide +kernel))
set_option maxRecDepth 20000 in
theorem gX9_digest_X9_whole : GoodIn wsX9_digest (wsV RX9 302 RX9 yX9_whole wsX9_whole) := goodIn_app (goodIn_of _ (by decide +kernel)) ggX9_digest_X9_whole
set_option maxRecDepth 20000 in
theorem ggX9_digest_X9_mixSite : GoodIn wsX9_digest wsX9_mixSite := goodIn_ca (goodIn_ca (goodIn_ca (goodIn_r _ [55, 4, 21, 56, 57, 58, 59, 9, 60, 16, 17, 25, 61, 23, 62, 63, 64, 65, 66, 67, 68, 69, 70, 71, 72, 73, 74, 75, 76, 77, 78, 43, 44, 35, 45, 37, 46, 47, 48, 7, 8, 10, 11, 79, 80, 81, 82, 83, 84, 26, 85, 86, 87, 88, 89, 90, 91, 92, 93, 94, 95, 96, 97, 98, 201, 202, 203, 204, 205, 209, 210, 211, 212, 213, 214, 215, 216, 217, 218, 223, 224, 225, 226, 227, 228, 229] (by decide +kernel) (by decide +kernel)) (goodIn_sub (fun _ h => List.mem_cons_of_mem _ (List.mem_append_left _ (List.mem_append_left _ (List.mem_append_right _ h)))) (by decide +kernel))) (goodIn_sub (fun _ h => List.mem_cons_of_mem _ (List.mem_append_left _ (List.mem_append_right _ h))) (by decide +kernel))) (goodIn_sub (fun _ h => List.mem_cons_of_mem _ (List.mem_append_right _ h)) (by decide +kernel))
set_option maxRecDepth 20000 in
theorem gX9_digest_X9_mixSite : GoodIn wsX9_digest (wsV RX9 305 RX9 yX9_mixSite wsX9_mixSite) := goodIn_app (goodIn_of _ (by decide +kernel)) ggX9_digest_X9_mixSite
set_option maxRecDepth 20000 in
theorem ggX9_digest_X9_tool : GoodIn wsX9_digest wsX9_tool := goodIn_ca (goodIn_ca (goodIn_r _ [102, 74, 75, 16, 17, 4, 5, 103, 104, 105, 106, 107, 108, 9, 109, 6, 201, 202, 203, 204, 205, 209, 210, 211, 212, 213, 214, 215, 216, 217, 218, 219, 220, 221, 222] (by decide +kernel) (by decide +kernel)) (goodIn_sub (fun _ h => List.mem_cons_of_mem _ (List.mem_append_left _ (List.mem_append_right _ h))) (by decide +kernel))) (goodIn_sub (fun _ h => List.mem_cons_of_mem _ (List.mem_append_left _ (List.mem_append_left _ (List.mem_append_right _ h)))) (by decide +kernel))
set_option maxRecDepth 20000 in
theorem gX9_digest_X9_tool : GoodIn wsX9_digest (wsV RX9 308 RX9 yX9_tool wsX9_tool) := goodIn_app (goodIn_of _ (by decide +kernel)) ggX9_digest_X9_tool
set_option maxRecDepth 20000 in
theorem ggX9_digest_X9_mixCount : GoodIn wsX9_digest wsX9_mixCount := goodIn_r _ [113, 114, 4, 21, 28, 115, 116, 117, 118, 119, 120, 121, 122, 123, 124, 125, 86, 87, 35, 88, 89, 90, 91, 92, 37, 126, 33, 34, 36, 127, 128, 129, 130, 131, 132, 133, 134, 135, 136, 137, 138, 139, 66, 9, 67, 68, 69, 70, 140, 141, 142, 143, 144, 145, 146, 147, 148, 149, 150, 151, 152, 43, 44, 45, 46, 47, 48, 7, 8, 10, 11, 153, 154, 155, 156, 201, 202, 203, 204, 205, 209, 210, 211, 212, 213, 214, 215, 216, 217, 218, 238, 239, 240, 241, 242, 223, 224, 225, 226, 227, 228, 229, 230, 231] (by decide +kernel) (by decide +kernel)
set_option maxRecDepth 20000 in
theorem gX9_digest_X9_mixCount : GoodIn wsX9_digest (wsV RX9 311 RX9 yX9_mixCount wsX9_mixCount) := goodIn_app (goodIn_of _ (by decide +kernel)) ggX9_digest_X9_mixCount
set_option maxRecDepth 20000 in
theorem ggX9_digest_X9_bestWall : GoodIn wsX9_digest wsX9_bestWall := goodIn_r _ [160, 161, 4, 21, 25, 162, 163, 164, 35, 165, 37, 98, 166, 167, 168, 46, 169, 9, 170, 171, 172, 173, 174, 175, 176, 177, 178, 179, 180, 181, 182, 26, 183, 184, 185, 186, 187, 188, 47, 48, 189, 190, 191, 192, 95, 96, 97, 89, 90, 91, 92, 193, 194, 195, 196, 197, 198, 199, 200, 201, 202, 203, 204, 205, 209, 210, 211, 212, 213, 214, 215, 216, 217, 218, 223, 224, 225, 226, 227, 228, 229] (by decide +kernel) (by decide +kernel)
set_option maxRecDepth 20000 in
theorem gX9_digest_X9_bestWall : GoodIn wsX9_digest (wsV RX9 315 RX9 yX9_bestWall wsX9_bestWall) := goodIn_app (goodIn_of _ (by decide +kernel)) ggX9_digest_X9_bestWall
set_option maxRecDepth 20000 in
theorem ggX9_mixSite_X9_site : GoodIn wsX9_mixSite wsX9_site := goodIn_ca (goodIn_ca (goodIn_ca (goodIn_r _ [8, 9, 10, 1, 2, 3, 11, 12, 13, 14, 15, 7, 16, 17, 18, 19, 20, 21, 22, 23, 24, 25, 26, 27, 28, 29, 30, 31, 32, 33, 34, 35, 36, 37, 38, 64, 65, 66, 67, 68, 69, 70, 71, 72, 73, 74, 75, 76, 77, 78, 79, 80, 81, 82, 83, 84, 85] (by decide +kernel) (by decide +kernel)) (goodIn_sub (fun _ h => List.mem_cons_of_mem _ (List.mem_append_left _ (List.mem_append_left _ (List.mem_append_right _ h)))) (by decide +kernel))) (goodIn_sub (fun _ h => List.mem_cons_of_mem _ (List.mem_append_left _ (List.mem_append_right _ h))) (by decide +kernel))) (goodIn_sub (fun _ h => List.mem_cons_of_mem _ (List.mem_append_right _ h)) (by decide +kernel))
set_option maxRecDepth 20000 in
theorem gX9_mixSite_X9_site : GoodIn wsX9_mixSite (wsV RX9 320 RX9 yX9_site wsX9_site) := goodIn_app (goodIn_of _ (by decide +kernel)) ggX9_mixSite_X9_site
set_option maxRecDepth 20000 in
theorem ggX9_mixSite_X9_mix : GoodIn wsX9_mixSite wsX9_mix := goodIn_r _ [41, 42] (by decide +kernel) (by decide +kernel)
set_option maxRecDepth 20000 in
theorem gX9_mixSite_X9_mix : GoodIn wsX9_mixSite (va_wsS RX9 298 yX9_mix wsX9_mix) := goodIn_app (goodIn_of _ (by decide +kernel)) ggX9_mixSite_X9_mix
set_option maxRecDepth 20000 in
theorem ggX9_mixSite_X9_block : GoodIn wsX9_mixSite wsX9_block := goodIn_ca (goodIn_ca (goodIn_ca (goodIn_r _ [46, 9, 10, 1, 2, 47, 48, 49, 14, 15, 7, 16, 17, 18, 19, 20, 21, 22, 23, 24, 25, 26, 27, 28, 29, 50, 51, 52, 33, 53, 54, 55, 56, 57, 35, 58, 37, 38, 59, 60, 61, 62, 63, 64, 65, 66, 67, 68, 69, 70, 71, 72, 73, 74, 75, 76, 77, 78, 79, 80, 81, 82, 83, 84, 85] (by decide +kernel) (by decide +kernel)) (goodIn_sub (fun _ h => List.mem_cons_of_mem _ (List.mem_append_left _ (List.mem_append_left _ (List.mem_append_right _ h)))) (by decide +kernel))) (goodIn_sub (fun _ h => List.mem_cons_of_mem _ (List.mem_append_left _ (List.mem_append_right _ h))) (by decide +kernel))) (goodIn_sub (fun _ h => List.mem_cons_of_mem _ (List.mem_append_right _ h)) (by decide +kernel))
set_option maxRecDepth 20000 in
theorem gX9_mixSite_X9_block : GoodIn wsX9_mixSite (wsV RX9 323 RX9 yX9_block wsX9_block) := goodIn_app (goodIn_of _ (by decide +kernel)) ggX9_mixSite_X9_block
set_option maxRecDepth 20000 in
theorem ggX9_mixCount_X2_take : GoodIn wsX9_mixCount wsX2_take := goodIn_r _ [11, 12, 13, 14, 15, 16, 17, 18, 19, 20, 21, 22, 23, 24, 25, 26, 27, 28, 29, 30, 31, 10, 32, 33, 34, 35, 36, 37, 38, 39, 40, 41, 42, 43, 44, 45, 46, 47, 48, 49, 50, 51, 52, 53, 54, 55, 56, 57, 58, 59, 60, 61, 62, 63, 64, 65, 66, 90, 91, 92, 93, 94, 95, 96, 97, 98, 99, 100, 101, 102, 103] (by decide +kernel) (by decide +kernel)
set_option maxRecDepth 20000 in
theorem gX9_mixCount_X2_take : GoodIn wsX9_mixCount (wsV RX9 221 RX2 yX2_take wsX2_take) := goodIn_app (goodIn_of _ (by decide +kernel)) ggX9_mixCount_X2_take
set_option maxRecDepth 20000 in
theorem ggX9_mixCount_X9_mix : GoodIn wsX9_mixCount wsX9_mix := goodIn_r _ [69, 70] (by decide +kernel) (by decide +kernel)
set_option maxRecDepth 20000 in
theorem gX9_mixCount_X9_mix : GoodIn wsX9_mixCount (va_wsS RX9 298 yX9_mix wsX9_mix) := goodIn_app (goodIn_of _ (by decide +kernel)) ggX9_mixCount_X9_mix
set_option maxRecDepth 20000 in
theorem ggX9_mixCount_X2_votesIn : GoodIn wsX9_mixCount wsX2_votesIn := goodIn_r _ [74, 12, 34, 90, 91, 92, 93, 94] (by decide +kernel) (by decide +kernel)
set_option maxRecDepth 20000 in
theorem gX9_mixCount_X2_votesIn : GoodIn wsX9_mixCount (wsV RX9 230 RX2 yX2_votesIn wsX2_votesIn) := goodIn_app (goodIn_of _ (by decide +kernel)) ggX9_mixCount_X2_votesIn
set_option maxRecDepth 20000 in
theorem ggX9_snowRefusal_X9_isWithin : GoodIn wsX9_snowRefusal wsX9_isWithin := goodIn_r _ [6] (by decide +kernel) (by decide +kernel)
set_option maxRecDepth 20000 in
theorem gX9_snowRefusal_X9_isWithin : GoodIn wsX9_snowRefusal (va_wsS RX9 141 yX9_isWithin wsX9_isWithin) := goodIn_app (goodIn_of _ (by decide +kernel)) ggX9_snowRefusal_X9_isWithin
set_option maxRecDepth 20000 in
theorem ggX9_pressRefusal_X9_isWithin : GoodIn wsX9_pressRefusal wsX9_isWithin := goodIn_r _ [7] (by decide +kernel) (by decide +kernel)
set_option maxRecDepth 20000 in
theorem gX9_pressRefusal_X9_isWithin : GoodIn wsX9_pressRefusal (va_wsS RX9 141 yX9_isWithin wsX9_isWithin) := goodIn_app (goodIn_of _ (by decide +kernel)) ggX9_pressRefusal_X9_isWithin
set_option maxRecDepth 20000 in
theorem ggX9_stackRefusal_X9_isSite : GoodIn wsX9_stackRefusal wsX9_isSite := goodIn_r _ [8, 9, 10, 7, 11] (by decide +kernel) (by decide +kernel)
set_option maxRecDepth 20000 in
theorem gX9_stackRefusal_X9_isSite : GoodIn wsX9_stackRefusal (va_wsS RX9 332 yX9_isSite wsX9_isSite) := goodIn_app (goodIn_of _ (by decide +kernel)) ggX9_stackRefusal_X9_isSite
set_option maxRecDepth 20000 in
theorem ggX9_stackRefusal_X9_isWithin : GoodIn wsX9_stackRefusal wsX9_isWithin := goodIn_r _ [11] (by decide +kernel) (by decide +kernel)
set_option maxRecDepth 20000 in
theorem gX9_stackRefusal_X9_isWithin : GoodIn wsX9_stackRefusal (va_wsS RX9 141 yX9_isWithin wsX9_isWithin) := goodIn_app (goodIn_of _ (by decide +kernel)) ggX9_stackRefusal_X9_isWithin
set_option maxRecDepth 20000 in
theorem ggX9_siteRefusal_X9_isSite : GoodIn wsX9_siteRefusal wsX9_isSite := goodIn_r _ [4, 5, 6, 3, 7] (by decide +kernel) (by decide +kernel)
set_option maxRecDepth 20000 in
theorem gX9_siteRefusal_X9_isSite : GoodIn wsX9_siteRefusal (va_wsS RX9 332 yX9_isSite wsX9_isSite) := goodIn_app (goodIn_of _ (by decide +kernel)) ggX9_siteRefusal_X9_isSite
set_option maxRecDepth 20000 in
theorem ggX9_toolRefusal_X9_isWithin : GoodIn wsX9_toolRefusal wsX9_isWithin := goodIn_r _ [7] (by decide +kernel) (by decide +kernel)
set_option maxRecDepth 20000 in
theorem gX9_toolRefusal_X9_isWithin : GoodIn wsX9_toolRefusal (va_wsS RX9 141 yX9_isWithin wsX9_isWithin) := goodIn_app (goodIn_of _ (by decide +kernel)) ggX9_toolRefusal_X9_isWithin
set_option maxRecDepth 20000 in
theorem ggX9_carveArgumentsRefusal_X9_isTool : GoodIn wsX9_carveArgumentsRefusal wsX9_isTool := goodIn_r _ [5, 6, 7, 8, 15, 16, 17, 18, 19, 20, 21, 22, 23, 24, 25, 26, 27, 28, 29, 30, 31, 32, 33] (by decide +kernel) (by decide +kernel)
set_option maxRecDepth 20000 in
theorem gX9_carveArgumentsRefusal_X9_isTool : GoodIn wsX9_carveArgumentsRefusal (wsV RX9 182 RX9 yX9_isTool wsX9_isTool) := goodIn_app (goodIn_of _ (by decide +kernel)) ggX9_carveArgumentsRefusal_X9_isTool
set_option maxRecDepth 20000 in
theorem ggX9_carveArgumentsRefusal_X9_isSite : GoodIn wsX9_carveArgumentsRefusal wsX9_isSite := goodIn_r _ [11, 12, 13, 4, 14] (by decide +kernel) (by decide +kernel)
set_option maxRecDepth 20000 in
theorem gX9_carveArgumentsRefusal_X9_isSite : GoodIn wsX9_carveArgumentsRefusal (va_wsS RX9 332 yX9_isSite wsX9_isSite) := goodIn_app (goodIn_of _ (by decide +kernel)) ggX9_carveArgumentsRefusal_X9_isSite
set_option maxRecDepth 20000 in
theorem ggX9_carveArgumentsRefusal_X9_isWithin : GoodIn wsX9_carveArgumentsRefusal wsX9_isWithin := goodIn_r _ [14] (by decide +kernel) (by decide +kernel)
set_option maxRecDepth 20000 in
theorem gX9_carveArgumentsRefusal_X9_isWithin : GoodIn wsX9_carveArgumentsRefusal (va_wsS RX9 141 yX9_isWithin wsX9_isWithin) := goodIn_app (goodIn_of _ (by decide +kernel)) ggX9_carveArgumentsRefusal_X9_isWithin
set_option maxRecDepth 20000 in
theorem ggX9_carveRefusal_X9_carveArgumentsRefusal : GoodIn wsX9_carveRefusal wsX9_carveArgumentsRefusal := goodIn_r _ [6, 7, 8, 9, 5, 10, 1, 11, 12, 13, 14, 15, 16, 17, 18, 46, 47, 48, 49, 50, 51, 52, 53, 54, 55, 56, 57, 58, 59, 60, 61, 62, 63, 64] (by decide +kernel) (by decide +kernel)
set_option maxRecDepth 20000 in
theorem gX9_carveRefusal_X9_carveArgumentsRefusal : GoodIn wsX9_carveRefusal (wsV RX9 236 RX9 yX9_carveArgumentsRefusal wsX9_carveArgumentsRefusal) := goodIn_app (goodIn_of _ (by decide +kernel)) ggX9_carveRefusal_X9_carveArgumentsRefusal
set_option maxRecDepth 20000 in
theorem ggX9_carveRefusal_X5_reasonAgainst : GoodIn wsX9_carveRefusal wsX5_reasonAgainst := goodIn_r _ [23, 24, 25, 26, 27, 28, 29, 30, 31, 32, 33, 34, 35, 36, 37, 38, 5, 39, 40, 41, 42, 43, 44, 45, 51, 52, 53, 54, 55, 56, 57, 58, 59, 60, 65, 66, 67, 68, 69, 70, 71, 61, 62, 63, 64] (by decide +kernel) (by decide +kernel)
set_option maxRecDepth 20000 in
theorem gX9_carveRefusal_X5_reasonAgainst : GoodIn wsX9_carveRefusal (wsV RX9 239 RX5 yX5_reasonAgainst wsX5_reasonAgainst) := goodIn_app (goodIn_of _ (by decide +kernel)) ggX9_carveRefusal_X5_reasonAgainst
set_option maxRecDepth 20000 in
theorem ggX9_ballotRefusal_X9_isSite : GoodIn wsX9_ballotRefusal wsX9_isSite := goodIn_r _ [7, 8, 9, 6, 10] (by decide +kernel) (by decide +kernel)
set_option maxRecDepth 20000 in
theorem gX9_ballotRefusal_X9_isSite : GoodIn wsX9_ballotRefusal (va_wsS RX9 332 yX9_isSite wsX9_isSite) := goodIn_app (goodIn_of _ (by decide +kernel)) ggX9_ballotRefusal_X9_isSite
set_option maxRecDepth 20000 in
theorem ggX9_ballotRefusal_X9_isSiteOrNone : GoodIn wsX9_ballotRefusal wsX9_isSiteOrNone := goodIn_r _ [13, 4, 5, 6, 7, 8, 9, 10] (by decide +kernel) (by decide +kernel)
set_option maxRecDepth 20000 in
theorem gX9_ballotRefusal_X9_isSiteOrNone : GoodIn wsX9_ballotRefusal (va_wsS RX9 335 yX9_isSiteOrNone wsX9_isSiteOrNone) := goodIn_app (goodIn_of _ (by decide +kernel)) ggX9_ballotRefusal_X9_isSiteOrNone
set_option maxRecDepth 20000 in
theorem ggX9_meltTrial_X4_melt : GoodIn wsX9_meltTrial wsX4_melt := goodIn_r _ [8, 9, 10, 11, 12, 13, 14, 15, 16, 17, 18, 19, 20, 21, 7, 22, 23, 24, 25, 26, 27, 28, 29, 30, 31, 32, 33, 34, 35, 36, 37, 38, 39, 40, 56, 57, 58, 59, 60, 61, 62] (by decide +kernel) (by decide +kernel)
set_option maxRecDepth 20000 in
theorem gX9_meltTrial_X4_melt : GoodIn wsX9_meltTrial (wsV RX9 251 RX4 yX4_melt wsX4_melt) := goodIn_app (goodIn_of _ (by decide +kernel)) ggX9_meltTrial_X4_melt
set_option maxRecDepth 20000 in
theorem ggX9_isSite_X9_isWithin : GoodIn wsX9_isSite wsX9_isWithin := goodIn_r _ [4] (by decide +kernel) (by decide +kernel)
set_option maxRecDepth 20000 in
theorem gX9_isSite_X9_isWithin : GoodIn wsX9_isSite (va_wsS RX9 141 yX9_isWithin wsX9_isWithin) := goodIn_app (goodIn_of _ (by decide +kernel)) ggX9_isSite_X9_isWithin
set_option maxRecDepth 20000 in
theorem ggX9_isSiteOrNone_X9_isSite : GoodIn wsX9_isSiteOrNone wsX9_isSite := goodIn_r _ [4, 5, 6, 3, 7] (by decide +kernel) (by decide +kernel)
set_option maxRecDepth 20000 in
theorem gX9_isSiteOrNone_X9_isSite : GoodIn wsX9_isSiteOrNone (va_wsS RX9 332 yX9_isSite wsX9_isSite) := goodIn_app (goodIn_of _ (by decide +kernel)) ggX9_isSiteOrNone_X9_isSite
