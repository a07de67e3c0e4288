set_option maxRecDepth 20000 in
theorem ggX10_isSite_X10_in : GoodIn wsX10_isSite wsX10_in := goodIn_r _ [4] (by decide +kernel) (by decide +kernel)
set_option maxRecDepth 20000 in
theorem gX10_isSite_X10_in : GoodIn wsX10_isSite (va_wsS RX10 36 yX10_in wsX10_in) := goodIn_app (goodIn_of _ (by decide +kernel)) ggX10_isSite_X10_in
set_option maxRecDepth 20000 in
theorem ggX10_isKind_X10_in : GoodIn wsX10_isKind wsX10_in := goodIn_r _ [4] (by decide +kernel) (by decide +kernel)
set_option maxRecDepth 20000 in
theorem gX10_isKind_X10_in : GoodIn wsX10_isKind (va_wsS RX10 36 yX10_in wsX10_in) := goodIn_app (goodIn_of _ (by decide +kernel)) ggX10_isKind_X10_in
set_option maxRecDepth 20000 in
theorem ggX10_isLevel_X10_in : GoodIn wsX10_isLevel wsX10_in := goodIn_r _ [4] (by decide +kernel) (by decide +kernel)
set_option maxRecDepth 20000 in
theorem gX10_isLevel_X10_in : GoodIn wsX10_isLevel (va_wsS RX10 36 yX10_in wsX10_in) := goodIn_app (goodIn_of _ (by decide +kernel)) ggX10_isLevel_X10_in
set_option maxRecDepth 20000 in
theorem ggX10_isTool_X10_in : GoodIn wsX10_isTool wsX10_in := goodIn_r _ [5] (by decide +kernel) (by decide +kernel)
set_option maxRecDepth 20000 in
theorem gX10_isTool_X10_in : GoodIn wsX10_isTool (va_wsS RX10 36 yX10_in wsX10_in) := goodIn_app (goodIn_of _ (by decide +kernel)) ggX10_isTool_X10_in
set_option maxRecDepth 20000 in
theorem ggX10_isSideLit_X10_isSite : GoodIn wsX10_isSideLit wsX10_isSite := goodIn_r _ [5, 6, 7, 4, 8] (by decide +kernel) (by decide +kernel)
set_option maxRecDepth 20000 in
theorem gX10_isSideLit_X10_isSite : GoodIn wsX10_isSideLit (va_wsS RX10 40 yX10_isSite wsX10_isSite) := goodIn_app (goodIn_of _ (by decide +kernel)) ggX10_isSideLit_X10_isSite
set_option maxRecDepth 20000 in
theorem ggX10_faces_X10_isSideLit : GoodIn wsX10_faces wsX10_isSideLit := goodIn_r _ [6, 1, 7, 8, 5, 9, 10, 11, 12, 13, 14, 15, 16, 17, 18, 19, 20, 21, 22, 23, 24, 25, 26, 27] (by decide +kernel) (by decide +kernel)
set_option maxRecDepth 20000 in
theorem gX10_faces_X10_isSideLit : GoodIn wsX10_faces (wsV RX10 44 RX10 yX10_isSideLit wsX10_isSideLit) := goodIn_app (goodIn_of _ (by decide +kernel)) ggX10_faces_X10_isSideLit
set_option maxRecDepth 20000 in
theorem ggX10_pass_X10_rate : GoodIn wsX10_pass wsX10_rate := goodIn_r _ [5] (by decide +kernel) (by decide +kernel)
set_option maxRecDepth 20000 in
theorem gX10_pass_X10_rate : GoodIn wsX10_pass (va_wsS RX10 48 yX10_rate wsX10_rate) := goodIn_app (goodIn_of _ (by decide +kernel)) ggX10_pass_X10_rate
set_option maxRecDepth 20000 in
theorem ggX10_pass_X10_faces : GoodIn wsX10_pass wsX10_faces := goodIn_r _ [9, 1, 10, 11, 12, 4, 13, 14, 15, 16, 17, 18, 19, 24, 25, 26, 27, 28, 29, 30, 31, 32, 33, 34, 35, 36, 37, 38] (by decide +kernel) (by decide +kernel)
set_option maxRecDepth 20000 in
theorem gX10_pass_X10_faces : GoodIn wsX10_pass (wsV RX10 52 RX10 yX10_faces wsX10_faces) := goodIn_app (goodIn_of _ (by decide +kernel)) ggX10_pass_X10_faces
set_option maxRecDepth 20000 in
theorem ggX10_pass_X10_drop : GoodIn wsX10_pass wsX10_drop := goodIn_r _ [23, 1, 24, 25, 26, 27, 28, 29, 30, 31, 32, 33, 34, 35, 36, 37, 38] (by decide +kernel) (by decide +kernel)
set_option maxRecDepth 20000 in
theorem gX10_pass_X10_drop : GoodIn wsX10_pass (wsV RX10 56 RX10 yX10_drop wsX10_drop) := goodIn_app (goodIn_of _ (by decide +kernel)) ggX10_pass_X10_drop
set_option maxRecDepth 20000 in
theorem ggX10_passAll_X10_pass : GoodIn wsX10_passAll wsX10_pass := goodIn_r _ [5, 6, 7, 8, 4, 9, 10, 11, 12, 13, 14, 15, 16, 17, 18, 19, 20, 21, 22, 23, 24, 25, 26, 27, 28, 29, 30, 31, 32, 33, 34, 35, 36, 37, 38, 39, 40, 41, 42] (by decide +kernel) (by decide +kernel)
set_option maxRecDepth 20000 in
theorem gX10_passAll_X10_pass : GoodIn wsX10_passAll (wsV RX10 60 RX10 yX10_pass wsX10_pass) := goodIn_app (goodIn_of _ (by decide +kernel)) ggX10_passAll_X10_pass
set_option maxRecDepth 20000 in
theorem ggX10_addsSnow_X10_in : GoodIn wsX10_addsSnow wsX10_in := goodIn_r _ [5] (by decide +kernel) (by decide +kernel)
set_option maxRecDepth 20000 in
theorem gX10_addsSnow_X10_in : GoodIn wsX10_addsSnow (va_wsS RX10 36 yX10_in wsX10_in) := goodIn_app (goodIn_of _ (by decide +kernel)) ggX10_addsSnow_X10_in
set_option maxRecDepth 20000 in
theorem ggX10_addsSnow_X10_fails : GoodIn wsX10_addsSnow wsX10_fails := goodIn_r _ [9, 10, 17, 18, 19, 20, 21, 22, 23, 24, 25, 26, 27, 28, 29, 30, 31] (by decide +kernel) (by decide +kernel)
set_option maxRecDepth 20000 in
theorem gX10_addsSnow_X10_fails : GoodIn wsX10_addsSnow (wsV RX10 64 RX10 yX10_fails wsX10_fails) := goodIn_app (goodIn_of _ (by decide +kernel)) ggX10_addsSnow_X10_fails
set_option maxRecDepth 20000 in
theorem ggX10_addsSnow_X10_save : GoodIn wsX10_addsSnow wsX10_save := goodIn_r _ [14, 15, 16, 1, 17, 18, 19, 20, 21, 22, 23, 24, 25, 26, 27, 28, 29, 30, 31] (by decide +kernel) (by decide +kernel)
set_option maxRecDepth 20000 in
theorem gX10_addsSnow_X10_save : GoodIn wsX10_addsSnow (wsV RX10 68 RX10 yX10_save wsX10_save) := goodIn_app (goodIn_of _ (by decide +kernel)) ggX10_addsSnow_X10_save
set_option maxRecDepth 20000 in
theorem ggX10_addSnow_X10_addsSnow : GoodIn wsX10_addSnow wsX10_addsSnow := goodIn_r _ [5, 6, 7, 8, 4, 9, 10, 11, 12, 13, 14, 15, 16, 17, 18, 19, 20, 21, 22, 23, 24, 25, 26, 27, 28, 29, 30, 31, 32, 33, 34, 35] (by decide +kernel) (by decide +kernel)
set_option maxRecDepth 20000 in
theorem gX10_addSnow_X10_addsSnow : GoodIn wsX10_addSnow (wsV RX10 71 RX10 yX10_addsSnow wsX10_addsSnow) := goodIn_app (goodIn_of _ (by decide +kernel)) ggX10_addSnow_X10_addsSnow
set_option maxRecDepth 20000 in
theorem ggX10_presses_X10_isKind : GoodIn wsX10_presses wsX10_isKind := goodIn_r _ [5, 6, 7, 4, 8] (by decide +kernel) (by decide +kernel)
set_option maxRecDepth 20000 in
theorem gX10_presses_X10_isKind : GoodIn wsX10_presses (va_wsS RX10 75 yX10_isKind wsX10_isKind) := goodIn_app (goodIn_of _ (by decide +kernel)) ggX10_presses_X10_isKind
set_option maxRecDepth 20000 in
theorem ggX10_presses_X10_in : GoodIn wsX10_presses wsX10_in := goodIn_r _ [8] (by decide +kernel) (by decide +kernel)
set_option maxRecDepth 20000 in
theorem gX10_presses_X10_in : GoodIn wsX10_presses (va_wsS RX10 36 yX10_in wsX10_in) := goodIn_app (goodIn_of _ (by decide +kernel)) ggX10_presses_X10_in
set_option maxRecDepth 20000 in
theorem ggX10_presses_X10_fails : GoodIn wsX10_presses wsX10_fails := goodIn_r _ [12, 13, 20, 21, 22, 23, 24, 25, 26, 27, 28, 29, 30, 31, 32, 33, 34] (by decide +kernel) (by decide +kernel)
set_option maxRecDepth 20000 in
theorem gX10_presses_X10_fails : GoodIn wsX10_presses (wsV RX10 64 RX10 yX10_fails wsX10_fails) := goodIn_app (goodIn_of _ (by decide +kernel)) ggX10_presses_X10_fails
set_option maxRecDepth 20000 in
theorem ggX10_presses_X10_save : GoodIn wsX10_presses wsX10_save := goodIn_r _ [17, 18, 19, 1, 20, 21, 22, 23, 24, 25, 26, 27, 28, 29, 30, 31, 32, 33, 34] (by decide +kernel) (by decide +kernel)
set_option maxRecDepth 20000 in
theorem gX10_presses_X10_save : GoodIn wsX10_presses (wsV RX10 68 RX10 yX10_save wsX10_save) := goodIn_app (goodIn_of _ (by decide +kernel)) ggX10_presses_X10_save
set_option maxRecDepth 20000 in
theorem ggX10_press_X10_presses : GoodIn wsX10_press wsX10_presses := goodIn_r _ [5, 6, 7, 8, 4, 9, 10, 11, 12, 13, 14, 15, 16, 17, 18, 19, 20, 21, 22, 23, 24, 25, 26, 27, 28, 29, 30, 31, 32, 33, 34, 35, 36, 37, 38] (by decide +kernel) (by decide +kernel)
set_option maxRecDepth 20000 in
theorem gX10_press_X10_presses : GoodIn wsX10_press (wsV RX10 78 RX10 yX10_presses wsX10_presses) := goodIn_app (goodIn_of _ (by decide +kernel)) ggX10_press_X10_presses
set_option maxRecDepth 20000 in
theorem ggX10_stacks_X10_isSite : GoodIn wsX10_stacks wsX10_isSite := goodIn_r _ [5, 6, 7, 4, 8] (by decide +kernel) (by decide +kernel)
set_option maxRecDepth 20000 in
theorem gX10_stacks_X10_isSite : GoodIn wsX10_stacks (va_wsS RX10 40 yX10_isSite wsX10_isSite) := goodIn_app (goodIn_of _ (by decide +kernel)) ggX10_stacks_X10_isSite
set_option maxRecDepth 20000 in
theorem ggX10_stacks_X10_isKind : GoodIn wsX10_stacks wsX10_isKind := goodIn_r _ [11, 6, 7, 4, 8] (by decide +kernel) (by decide +kernel)
set_option maxRecDepth 20000 in
theorem gX10_stacks_X10_isKind : GoodIn wsX10_stacks (va_wsS RX10 75 yX10_isKind wsX10_isKind) := goodIn_app (goodIn_of _ (by decide +kernel)) ggX10_stacks_X10_isKind
set_option maxRecDepth 20000 in
theorem ggX10_stacks_X10_fails : GoodIn wsX10_stacks wsX10_fails := goodIn_r _ [15, 16, 23, 24, 25, 26, 27, 28, 29, 30, 31, 32, 33, 34, 35, 36, 37] (by decide +kernel) (by decide +kernel)
set_option maxRecDepth 20000 in
theorem gX10_stacks_X10_fails : GoodIn wsX10_stacks (wsV RX10 64 RX10 yX10_fails wsX10_fails) := goodIn_app (goodIn_of _ (by decide +kernel)) ggX10_stacks_X10_fails
set_option maxRecDepth 20000 in
theorem ggX10_stacks_X10_save : GoodIn wsX10_stacks wsX10_save := goodIn_r _ [20, 21, 22, 1, 23, 24, 25, 26, 27, 28, 29, 30, 31, 32, 33, 34, 35, 36, 37] (by decide +kernel) (by decide +kernel)
set_option maxRecDepth 20000 in
theorem gX10_stacks_X10_save : GoodIn wsX10_stacks (wsV RX10 68 RX10 yX10_save wsX10_save) := goodIn_app (goodIn_of _ (by decide +kernel)) ggX10_stacks_X10_save
set_option maxRecDepth 20000 in
theorem ggX10_stack_X10_stacks : GoodIn wsX10_stack wsX10_stacks := goodIn_r _ [5, 6, 7, 8, 4, 9, 10, 11, 12, 13, 14, 15, 16, 17, 18, 19, 20, 21, 22, 23, 24, 25, 26, 27, 28, 29, 30, 31, 32, 33, 34, 35, 36, 37, 38, 39, 40, 41] (by decide +kernel) (by decide +kernel)
set_option maxRecDepth 20000 in
theorem gX10_stack_X10_stacks : GoodIn wsX10_stack (wsV RX10 82 RX10 yX10_stacks wsX10_stacks) := goodIn_app (goodIn_of _ (by decide +kernel)) ggX10_stack_X10_stacks
set_option maxRecDepth 20000 in
theorem ggX10_setsWall_X10_isSite : GoodIn wsX10_setsWall wsX10_isSite := goodIn_r _ [5, 6, 7, 4, 8] (by decide +kernel) (by decide +kernel)
set_option maxRecDepth 20000 in
theorem gX10_setsWall_X10_isSite : GoodIn wsX10_setsWall (va_wsS RX10 40 yX10_isSite wsX10_isSite) := goodIn_app (goodIn_of _ (by decide +kernel)) ggX10_setsWall_X10_isSite
set_option maxRecDepth 20000 in
theorem ggX10_setsWall_X10_fails : GoodIn wsX10_setsWall wsX10_fails := goodIn_r _ [12, 13, 24, 25, 26, 27, 28, 29, 30, 31, 32, 33, 34, 35, 36, 37, 38] (by decide +kernel) (by decide +kernel)
set_option maxRecDepth 20000 in
theorem gX10_setsWall_X10_fails : GoodIn wsX10_setsWall (wsV RX10 64 RX10 yX10_fails wsX10_fails) := goodIn_app (goodIn_of _ (by decide +kernel)) ggX10_setsWall_X10_fails
set_option maxRecDepth 20000 in
theorem ggX10_setsWall_X10_save : GoodIn wsX10_setsWall wsX10_save := goodIn_r _ [17, 18, 19, 1, 24, 25, 26, 27, 28, 29, 30, 31, 32, 33, 34, 35, 36, 37, 38] (by decide +kernel) (by decide +kernel)
set_option maxRecDepth 20000 in
theorem gX10_setsWall_X10_save : GoodIn wsX10_setsWall (wsV RX10 68 RX10 yX10_save wsX10_save) := goodIn_app (goodIn_of _ (by decide +kernel)) ggX10_setsWall_X10_save
set_option maxRecDepth 20000 in
theorem ggX10_setsWall_X10_walls : GoodIn wsX10_setsWall wsX10_walls := goodIn_r _ [23, 1, 24, 25, 26, 27, 28, 29, 30, 31, 32, 33, 34, 35, 36, 37, 38] (by decide +kernel) (by decide +kernel)
set_option maxRecDepth 20000 in
theorem gX10_setsWall_X10_walls : GoodIn wsX10_setsWall (wsV RX10 85 RX10 yX10_walls wsX10_walls) := goodIn_app (goodIn_of _ (by decide +kernel)) ggX10_setsWall_X10_walls
set_option maxRecDepth 20000 in
theorem ggX10_setWall_X10_setsWall : GoodIn wsX10_setWall wsX10_setsWall := goodIn_r _ [5, 6, 7, 8, 4, 9, 10, 11, 12, 13, 14, 15, 16, 17, 18, 19, 20, 21, 22, 23, 24, 25, 26, 27, 28, 29, 30, 31, 32, 33, 34, 35, 36, 37, 38, 39, 40, 41, 42] (by decide +kernel) (by decide +kernel)
set_option maxRecDepth 20000 in
theorem gX10_setWall_X10_setsWall : GoodIn wsX10_setWall (wsV RX10 89 RX10 yX10_setsWall wsX10_setsWall) := goodIn_app (goodIn_of _ (by decide +kernel)) ggX10_setWall_X10_setsWall
set_option maxRecDepth 20000 in
theorem ggX10_addsTool_X10_in : GoodIn wsX10_addsTool wsX10_in := goodIn_r _ [5] (by decide +kernel) (by decide +kernel)
set_option maxRecDepth 20000 in
theorem gX10_addsTool_X10_in : GoodIn wsX10_addsTool (va_wsS RX10 36 yX10_in wsX10_in) := goodIn_app (goodIn_of _ (by decide +kernel)) ggX10_addsTool_X10_in
set_option maxRecDepth 20000 in
theorem ggX10_addsTool_X10_fails : GoodIn wsX10_addsTool wsX10_fails := goodIn_r _ [9, 10, 17, 18, 19, 20, 21, 22, 23, 24, 25, 26, 27, 28, 29, 30, 31] (by decide +kernel) (by decide +kernel)
set_option maxRecDepth 20000 in
theorem gX10_addsTool_X10_fails : GoodIn wsX10_addsTool (wsV RX10 64 RX10 yX10_fails wsX10_fails) := goodIn_app (goodIn_of _ (by decide +kernel)) ggX10_addsTool_X10_fails
set_option maxRecDepth 20000 in
theorem ggX10_addsTool_X10_save : GoodIn wsX10_addsTool wsX10_save := goodIn_r _ [14, 15, 16, 1, 17, 18, 19, 20, 21, 22, 23, 24, 25, 26, 27, 28, 29, 30, 31] (by decide +kernel) (by decide +kernel)
set_option maxRecDepth 20000 in
theorem gX10_addsTool_X10_save : GoodIn wsX10_addsTool (wsV RX10 68 RX10 yX10_save wsX10_save) := goodIn_app (goodIn_of _ (by decide +kernel)) ggX10_addsTool_X10_save
set_option maxRecDepth 20000 in
theorem ggX10_addTool_X10_addsTool : GoodIn wsX10_addTool wsX10_addsTool := goodIn_r _ [5, 6, 7, 8, 4, 9, 10, 11, 12, 13, 14, 15, 16, 17, 18, 19, 20, 21, 22, 23, 24, 25, 26, 27, 28, 29, 30, 31, 32, 33, 34, 35] (by decide +kernel) (by decide +kernel)
set_option maxRecDepth 20000 in
theorem gX10_addTool_X10_addsTool : GoodIn wsX10_addTool (wsV RX10 93 RX10 yX10_addsTool wsX10_addsTool) := goodIn_app (goodIn_of _ (by decide +kernel)) ggX10_addTool_X10_addsTool
set_option maxRecDepth 20000 in
theorem ggX10_why_X10_upwards : GoodIn wsX10_why wsX10_upwards := goodIn_r _ [5] (by decide +kernel) (by decide +kernel)
set_option maxRecDepth 20000 in
theorem gX10_why_X10_upwards : GoodIn wsX10_why (va_wsS RX10 96 yX10_upwards wsX10_upwards) := goodIn_app (goodIn_of _ (by decide +kernel)) ggX10_why_X10_upwards
set_option maxRecDepth 20000 in
theorem ggX10_carves_X10_isTool : GoodIn wsX10_carves wsX10_isTool := goodIn_r _ [6, 1, 7, 8, 5, 9, 38, 39, 40, 41, 42, 43, 44, 45, 46, 47, 48, 49, 50, 51, 52] (by decide +kernel) (by decide +kernel)
set_option maxRecDepth 20000 in
theorem gX10_carves_X10_isTool : GoodIn wsX10_carves (wsV RX10 99 RX10 yX10_isTool wsX10_isTool) := goodIn_app (goodIn_of _ (by decide +kernel)) ggX10_carves_X10_isTool
set_option maxRecDepth 20000 in
theorem ggX10_carves_X10_isSite : GoodIn wsX10_carves wsX10_isSite := goodIn_r _ [12, 7, 8, 5, 9] (by decide +kernel) (by decide +kernel)
set_option maxRecDepth 20000 in
theorem gX10_carves_X10_isSite : GoodIn wsX10_carves (va_wsS RX10 40 yX10_isSite wsX10_isSite) := goodIn_app (goodIn_of _ (by decide +kernel)) ggX10_carves_X10_isSite
set_option maxRecDepth 20000 in
theorem ggX10_carves_X10_isLevel : GoodIn wsX10_carves wsX10_isLevel := goodIn_r _ [15, 7, 8, 5, 9] (by decide +kernel) (by decide +kernel)
set_option maxRecDepth 20000 in
theorem gX10_carves_X10_isLevel : GoodIn wsX10_carves (va_wsS RX10 102 yX10_isLevel wsX10_isLevel) := goodIn_app (goodIn_of _ (by decide +kernel)) ggX10_carves_X10_isLevel
set_option maxRecDepth 20000 in
theorem ggX10_carves_X10_in : GoodIn wsX10_carves wsX10_in := goodIn_r _ [9] (by decide +kernel) (by decide +kernel)
set_option maxRecDepth 20000 in
theorem gX10_carves_X10_in : GoodIn wsX10_carves (va_wsS RX10 36 yX10_in wsX10_in) := goodIn_app (goodIn_of _ (by decide +kernel)) ggX10_carves_X10_in
set_option maxRecDepth 20000 in
theorem ggX10_carves_X10_why : GoodIn wsX10_carves wsX10_why := goodIn_r _ [19, 1, 20, 21, 5, 22, 38, 39, 40, 41, 42, 43, 44, 45, 46, 47, 48, 49, 50, 51, 52] (by decide +kernel) (by decide +kernel)
set_option maxRecDepth 20000 in
theorem gX10_carves_X10_why : GoodIn wsX10_carves (wsV RX10 105 RX10 yX10_why wsX10_why) := goodIn_app (goodIn_of _ (by decide +kernel)) ggX10_carves_X10_why
set_option maxRecDepth 20000 in
theorem ggX10_carves_X10_fails : GoodIn wsX10_carves wsX10_fails := goodIn_r _ [26, 27, 38, 39, 40, 41, 42, 43, 44, 45, 46, 47, 48, 49, 50, 51, 52] (by decide +kernel) (by decide +kernel)
set_option maxRecDepth 20000 in
theorem gX10_carves_X10_fails : GoodIn wsX10_carves (wsV RX10 64 RX10 yX10_fails wsX10_fails) := goodIn_app (goodIn_of _ (by decide +kernel)) ggX10_carves_X10_fails
set_option maxRecDepth 20000 in
theorem ggX10_carves_X10_save : GoodIn wsX10_carves wsX10_save := goodIn_r _ [31, 32, 33, 1, 38, 39, 40, 41, 42, 43, 44, 45, 46, 47, 48, 49, 50, 51, 52] (by decide +kernel) (by decide +kernel)
set_option maxRecDepth 20000 in
theorem gX10_carves_X10_save : GoodIn wsX10_carves (wsV RX10 68 RX10 yX10_save wsX10_save) := goodIn_app (goodIn_of _ (by decide +kernel)) ggX10_carves_X10_save
set_option maxRecDepth 20000 in
theorem ggX10_carves_X10_upwards : GoodIn wsX10_carves wsX10_upwards := goodIn_r _ [22] (by decide +kernel) (by decide +kernel)
set_option maxRecDepth 20000 in
theorem gX10_carves_X10_upwards : GoodIn wsX10_carves (va_wsS RX10 96 yX10_upwards wsX10_upwards) := goodIn_app (goodIn_of _ (by decide +kernel)) ggX10_carves_X10_upwards
set_option maxRecDepth 20000 in
theorem ggX10_carves_X10_drop : GoodIn wsX10_carves wsX10_drop := goodIn_r _ [37, 1, 38, 39, 40, 41, 42, 43, 44, 45, 46, 47, 48, 49, 50, 51, 52] (by decide +kernel) (by decide +kernel)
set_option maxRecDepth 20000 in
theorem gX10_carves_X10_drop : GoodIn wsX10_carves (wsV RX10 56 RX10 yX10_drop wsX10_drop) := goodIn_app (goodIn_of _ (by decide +kernel)) ggX10_carves_X10_drop
set_option maxRecDepth 20000 in
theorem ggX10_carve_X10_carves : GoodIn wsX10_carve wsX10_carves := goodIn_r _ [5, 6, 7, 8, 9, 4, 10, 11, 12, 13, 14, 15, 16, 17, 18, 19, 20, 21, 22, 23, 24, 25, 26, 27, 28, 29, 30, 31, 32, 33, 34, 35, 36, 37, 38, 39, 40, 41, 42, 43, 44, 45, 46, 47, 48, 49, 50, 51, 52, 53, 54, 55, 56] (by decide +kernel) (by decide +kernel)
set_option maxRecDepth 20000 in
theorem gX10_carve_X10_carves : GoodIn wsX10_carve (wsV RX10 109 RX10 yX10_carves wsX10_carves) := goodIn_app (goodIn_of _ (by decide +kernel)) ggX10_carve_X10_carves
set_option maxRecDepth 20000 in
theorem ggX10_recycles_X10_save : GoodIn wsX10_recycles wsX10_save := goodIn_r _ [7, 8, 9, 2, 10, 11, 12, 13, 14, 15, 16, 17, 18, 19, 20, 21, 22, 23, 24] (by decide +kernel) (by decide +kernel)
set_option maxRecDepth 20000 in
theorem gX10_recycles_X10_save : GoodIn wsX10_recycles (wsV RX10 68 RX10 yX10_save wsX10_save) := goodIn_app (goodIn_of _ (by decide +kernel)) ggX10_recycles_X10_save
set_option maxRecDepth 20000 in
theorem ggX10_recycle_X10_recycles : GoodIn wsX10_recycle wsX10_recycles := goodIn_r _ [5, 6, 7, 8, 9, 10, 4, 11, 12, 13, 14, 15, 16, 17, 18, 19, 20, 21, 22, 23, 24, 25, 26, 27, 28] (by decide +kernel) (by decide +kernel)
set_option maxRecDepth 20000 in
theorem gX10_recycle_X10_recycles : GoodIn wsX10_recycle (wsV RX10 113 RX10 yX10_recycles wsX10_recycles) := goodIn_app (goodIn_of _ (by decide +kernel)) ggX10_recycle_X10_recycles
set_option maxRecDepth 20000 in
theorem ggX10_hour_X10_save : GoodIn wsX10_hour wsX10_save := goodIn_r _ [6, 7, 8, 9, 35, 36, 37, 38, 39, 40, 41, 42, 43, 44, 45, 46, 47, 48, 49] (by decide +kernel) (by decide +kernel)
set_option maxRecDepth 20000 in
theorem gX10_hour_X10_save : GoodIn wsX10_hour (wsV RX10 68 RX10 yX10_save wsX10_save) := goodIn_app (goodIn_of _ (by decide +kernel)) ggX10_hour_X10_save
set_option maxRecDepth 20000 in
theorem ggX10_hour_X10_pass : GoodIn wsX10_hour wsX10_pass := goodIn_r _ [13, 9, 14, 15, 5, 16, 17, 18, 19, 20, 21, 22, 23, 24, 25, 26, 27, 28, 29, 30, 31, 32, 33, 34, 35, 36, 37, 38, 39, 40, 41, 42, 43, 44, 45, 46, 47, 48, 49] (by decide +kernel) (by decide +kernel)
set_option maxRecDepth 20000 in
theorem gX10_hour_X10_pass : GoodIn wsX10_hour (wsV RX10 60 RX10 yX10_pass wsX10_pass) := goodIn_app (goodIn_of _ (by decide +kernel)) ggX10_hour_X10_pass
set_option maxRecDepth 20000 in
theorem ggX10_goesBy_X10_in : GoodIn wsX10_goesBy wsX10_in := goodIn_r _ [4] (by decide +kernel) (by decide +kernel)
set_option maxRecDepth 20000 in
theorem gX10_goesBy_X10_in : GoodIn wsX10_goesBy (va_wsS RX10 36 yX10_in wsX10_in) := goodIn_app (goodIn_of _ (by decide +kernel)) ggX10_goesBy_X10_in
set_option maxRecDepth 20000 in
theorem ggX10_goesBy_X10_fails : GoodIn wsX10_goesBy wsX10_fails := goodIn_r _ [8, 9, 37, 38, 39, 40, 41, 42, 43, 44, 45, 46, 47, 48, 49, 50, 51] (by decide +kernel) (by decide +kernel)
set_option maxRecDepth 20000 in
theorem gX10_goesBy_X10_fails : GoodIn wsX10_goesBy (wsV RX10 64 RX10 yX10_fails wsX10_fails) := goodIn_app (goodIn_of _ (by decide +kernel)) ggX10_goesBy_X10_fails
set_option maxRecDepth 20000 in
theorem ggX10_goesBy_X10_passAll : GoodIn wsX10_goesBy wsX10_passAll := goodIn_r _ [13, 14, 15, 16, 3, 17, 18, 19, 20, 21, 22, 23, 24, 25, 26, 27, 28, 29, 30, 31, 32, 1, 2, 4, 33, 34, 35, 36, 37, 38, 39, 40, 41, 42, 43, 44, 45, 46, 47, 48, 49, 50, 51] (by decide +kernel) (by decide +kernel)
set_option maxRecDepth 20000 in
theorem gX10_goesBy_X10_passAll : GoodIn wsX10_goesBy (wsV RX10 116 RX10 yX10_passAll wsX10_passAll) := goodIn_app (goodIn_of _ (by decide +kernel)) ggX10_goesBy_X10_passAll
set_option maxRecDepth 20000 in
theorem ggX10_ballot_X10_isSite : GoodIn wsX10_ballot wsX10_isSite := goodIn_r _ [5, 6, 7, 4, 8] (by decide +kernel) (by decide +kernel)
set_option maxRecDepth 20000 in
theorem gX10_ballot_X10_isSite : GoodIn wsX10_ballot (va_wsS RX10 40 yX10_isSite wsX10_isSite) := goodIn_app (goodIn_of _ (by decide +kernel)) ggX10_ballot_X10_isSite
set_option maxRecDepth 20000 in
theorem ggX10_ballot_X10_fails : GoodIn wsX10_ballot wsX10_fails := goodIn_r _ [12, 13, 20, 21, 22, 23, 24, 25, 26, 27, 28, 29, 30, 31, 32, 33, 34] (by decide +kernel) (by decide +kernel)
set_option maxRecDepth 20000 in
theorem gX10_ballot_X10_fails : GoodIn wsX10_ballot (wsV RX10 64 RX10 yX10_fails wsX10_fails) := goodIn_app (goodIn_of _ (by decide +kernel)) ggX10_ballot_X10_fails
set_option maxRecDepth 20000 in
theorem ggX10_ballot_X10_save : GoodIn wsX10_ballot wsX10_save := goodIn_r _ [17, 18, 19, 1, 20, 21, 22, 23, 24, 25, 26, 27, 28, 29, 30, 31, 32, 33, 34] (by decide +kernel) (by decide +kernel)
set_option maxRecDepth 20000 in
theorem gX10_ballot_X10_save : GoodIn wsX10_ballot (wsV RX10 68 RX10 yX10_save wsX10_save) := goodIn_app (goodIn_of _ (by decide +kernel)) ggX10_ballot_X10_save
set_option maxRecDepth 20000 in
theorem ggX10_clearBallots_X10_save : GoodIn wsX10_clearBallots wsX10_save := goodIn_r _ [7, 8, 9, 2, 10, 11, 12, 13, 14, 15, 16, 17, 18, 19, 20, 21, 22, 23, 24] (by decide +kernel) (by decide +kernel)
set_option maxRecDepth 20000 in
theorem gX10_clearBallots_X10_save : GoodIn wsX10_clearBallots (wsV RX10 68 RX10 yX10_save wsX10_save) := goodIn_app (goodIn_of _ (by decide +kernel)) ggX10_clearBallots_X10_save
set_option maxRecDepth 20000 in
theorem ggX10_blockValue_X10_faces : GoodIn wsX10_blockValue wsX10_faces := goodIn_r _ [6, 1, 7, 8, 9, 5, 10, 11, 12, 13, 14, 15, 16, 17, 18, 19, 20, 21, 22, 23, 24, 25, 26, 27, 28, 29, 30, 31] (by decide +kernel) (by decide +kernel)
set_option maxRecDepth 20000 in
theorem gX10_blockValue_X10_faces : GoodIn wsX10_blockValue (wsV RX10 52 RX10 yX10_faces wsX10_faces) := goodIn_app (goodIn_of _ (by decide +kernel)) ggX10_blockValue_X10_faces
set_option maxRecDepth 20000 in
theorem ggX10_block_X10_isSite : GoodIn wsX10_block wsX10_isSite := goodIn_r _ [4, 5, 6, 3, 7] (by decide +kernel) (by decide +kernel)
set_option maxRecDepth 20000 in
theorem gX10_block_X10_isSite : GoodIn wsX10_block (va_wsS RX10 40 yX10_isSite wsX10_isSite) := goodIn_app (goodIn_of _ (by decide +kernel)) ggX10_block_X10_isSite
set_option maxRecDepth 20000 in
theorem ggX10_block_X10_isLevel : GoodIn wsX10_block wsX10_isLevel := goodIn_r _ [10, 5, 6, 3, 7] (by decide +kernel) (by decide +kernel)
set_option maxRecDepth 20000 in
theorem gX10_block_X10_isLevel : GoodIn wsX10_block (va_wsS RX10 102 yX10_isLevel wsX10_isLevel) := goodIn_app (goodIn_of _ (by decide +kernel)) ggX10_block_X10_isLevel
set_option maxRecDepth 20000 in
theorem ggX10_block_X10_in : GoodIn wsX10_block wsX10_in := goodIn_r _ [7] (by decide +kernel) (by decide +kernel)
set_option maxRecDepth 20000 in
theorem gX10_block_X10_in : GoodIn wsX10_block (va_wsS RX10 36 yX10_in wsX10_in) := goodIn_app (goodIn_of _ (by decide +kernel)) ggX10_block_X10_in
set_option maxRecDepth 20000 in
theorem ggX10_block_X10_fails : GoodIn wsX10_block wsX10_fails := goodIn_r _ [14, 15, 29, 30, 31, 32, 33, 34, 35, 36, 37, 38, 39, 40, 41, 42, 43] (by decide +kernel) (by decide +kernel)
set_option maxRecDepth 20000 in
theorem gX10_block_X10_fails : GoodIn wsX10_block (wsV RX10 64 RX10 yX10_fails wsX10_fails) := goodIn_app (goodIn_of _ (by decide +kernel)) ggX10_block_X10_fails
set_option maxRecDepth 20000 in
theorem ggX10_block_X10_blockValue : GoodIn wsX10_block wsX10_blockValue := goodIn_r _ [19, 20, 21, 22, 23, 3, 24, 25, 26, 27, 28, 1, 2, 4, 5, 6, 7, 29, 30, 31, 32, 33, 34, 35, 36, 37, 38, 39, 40, 41, 42, 43] (by decide +kernel) (by decide +kernel)
set_option maxRecDepth 20000 in
theorem gX10_block_X10_blockValue : GoodIn wsX10_block (wsV RX10 119 RX10 yX10_blockValue wsX10_blockValue) := goodIn_app (goodIn_of _ (by decide +kernel)) ggX10_block_X10_blockValue
set_option maxRecDepth 20000 in
theorem ggX10_siteValue_X10_volumes : GoodIn wsX10_siteValue wsX10_volumes := goodIn_r _ [6, 1, 7, 8, 9, 10, 11, 12, 13, 14, 15, 16, 17, 18, 19, 20, 21] (by decide +kernel) (by decide +kernel)
set_option maxRecDepth 20000 in
theorem gX10_siteValue_X10_volumes : GoodIn wsX10_siteValue (wsV RX10 123 RX10 yX10_volumes wsX10_volumes) := goodIn_app (goodIn_of _ (by decide +kernel)) ggX10_siteValue_X10_volumes
set_option maxRecDepth 20000 in
theorem ggX10_site_X10_isSite : GoodIn wsX10_site wsX10_isSite := goodIn_r _ [4, 5, 6, 3, 7] (by decide +kernel) (by decide +kernel)
set_option maxRecDepth 20000 in
theorem gX10_site_X10_isSite : GoodIn wsX10_site (va_wsS RX10 40 yX10_isSite wsX10_isSite) := goodIn_app (goodIn_of _ (by decide +kernel)) ggX10_site_X10_isSite
set_option maxRecDepth 20000 in
theorem ggX10_site_X10_in : GoodIn wsX10_site wsX10_in := goodIn_r _ [7] (by decide +kernel) (by decide +kernel)
set_option maxRecDepth 20000 in
theorem gX10_site_X10_in : GoodIn wsX10_site (va_wsS RX10 36 yX10_in wsX10_in) := goodIn_app (goodIn_of _ (by decide +kernel)) ggX10_site_X10_in
set_option maxRecDepth 20000 in
theorem ggX10_site_X10_fails : GoodIn wsX10_site wsX10_fails := goodIn_r _ [11, 12, 22, 23, 24, 25, 26, 27, 28, 29, 30, 31, 32, 33, 34, 35, 36] (by decide +kernel) (by decide +kernel)
set_option maxRecDepth 20000 in
theorem gX10_site_X10_fails : GoodIn wsX10_site (wsV RX10 64 RX10 yX10_fails wsX10_fails) := goodIn_app (goodIn_of _ (by decide +kernel)) ggX10_site_X10_fails
set_option maxRecDepth 20000 in
theorem ggX10_site_X10_siteValue : GoodIn wsX10_site wsX10_siteValue := goodIn_r _ [16, 17, 18, 19, 20, 3, 21, 22, 23, 24, 25, 26, 27, 28, 29, 30, 31, 32, 33, 34, 35, 36] (by decide +kernel) (by decide +kernel)
set_option maxRecDepth 20000 in
theorem gX10_site_X10_siteValue : GoodIn wsX10_site (wsV RX10 126 RX10 yX10_siteValue wsX10_siteValue) := goodIn_app (goodIn_of _ (by decide +kernel)) ggX10_site_X10_siteValue
set_option maxRecDepth 20000 in
theorem ggX10_tool_X10_isTool : GoodIn wsX10_tool wsX10_isTool := goodIn_r _ [5, 6, 7, 8, 4, 9, 19, 20, 21, 22, 23, 24, 25, 26, 27, 28, 29, 30, 31, 32, 33] (by decide +kernel) (by decide +kernel)
set_option maxRecDepth 20000 in
theorem gX10_tool_X10_isTool : GoodIn wsX10_tool (wsV RX10 99 RX10 yX10_isTool wsX10_isTool) := goodIn_app (goodIn_of _ (by decide +kernel)) ggX10_tool_X10_isTool
set_option maxRecDepth 20000 in
theorem ggX10_tool_X10_in : GoodIn wsX10_tool wsX10_in := goodIn_r _ [9] (by decide +kernel) (by decide +kernel)
set_option maxRecDepth 20000 in
theorem gX10_tool_X10_in : GoodIn wsX10_tool (va_wsS RX10 36 yX10_in wsX10_in) := goodIn_app (goodIn_of _ (by decide +kernel)) ggX10_tool_X10_in
set_option maxRecDepth 20000 in
theorem ggX10_tool_X10_fails : GoodIn wsX10_tool wsX10_fails := goodIn_r _ [13, 14, 19, 20, 21, 22, 23, 24, 25, 26, 27, 28, 29, 30, 31, 32, 33] (by decide +kernel) (by decide +kernel)
set_option maxRecDepth 20000 in
theorem gX10_tool_X10_fails : GoodIn wsX10_tool (wsV RX10 64 RX10 yX10_fails wsX10_fails) := goodIn_app (goodIn_of _ (by decide +kernel)) ggX10_tool_X10_fails
set_option maxRecDepth 20000 in
theorem ggX10_tool_X10_toolValue : GoodIn wsX10_tool wsX10_toolValue := goodIn_r _ [18, 6, 19, 20, 21, 22, 23, 24, 25, 26, 27, 28, 29, 30, 31, 32, 33] (by decide +kernel) (by decide +kernel)
set_option maxRecDepth 20000 in
theorem gX10_tool_X10_toolValue : GoodIn wsX10_tool (wsV RX10 129 RX10 yX10_toolValue wsX10_toolValue) := goodIn_app (goodIn_of _ (by decide +kernel)) ggX10_tool_X10_toolValue
set_option maxRecDepth 20000 in
theorem ggX10_wholeValue_X10_volumes : GoodIn wsX10_wholeValue wsX10_volumes := goodIn_r _ [7, 1, 12, 13, 14, 15, 16, 17, 18, 19, 20, 21, 22, 23, 24, 25, 26] (by decide +kernel) (by decide +kernel)
set_option maxRecDepth 20000 in
theorem gX10_wholeValue_X10_volumes : GoodIn wsX10_wholeValue (wsV RX10 123 RX10 yX10_volumes wsX10_volumes) := goodIn_app (goodIn_of _ (by decide +kernel)) ggX10_wholeValue_X10_volumes
set_option maxRecDepth 20000 in
theorem ggX10_wholeValue_X10_walls : GoodIn wsX10_wholeValue wsX10_walls := goodIn_r _ [11, 1, 12, 13, 14, 15, 16, 17, 18, 19, 20, 21, 22, 23, 24, 25, 26] (by decide +kernel) (by decide +kernel)
set_option maxRecDepth 20000 in
theorem gX10_wholeValue_X10_walls : GoodIn wsX10_wholeValue (wsV RX10 85 RX10 yX10_walls wsX10_walls) := goodIn_app (goodIn_of _ (by decide +kernel)) ggX10_wholeValue_X10_walls
set_option maxRecDepth 20000 in
theorem ggX10_whole_X10_in : GoodIn wsX10_whole wsX10_in := goodIn_r _ [4] (by decide +kernel) (by decide +kernel)
set_option maxRecDepth 20000 in
theorem gX10_whole_X10_in : GoodIn wsX10_whole (va_wsS RX10 36 yX10_in wsX10_in) := goodIn_app (goodIn_of _ (by decide +kernel)) ggX10_whole_X10_in
set_option maxRecDepth 20000 in
theorem ggX10_whole_X10_fails : GoodIn wsX10_whole wsX10_fails := goodIn_r _ [8, 9, 24, 25, 26, 27, 28, 29, 30, 31, 32, 33, 34, 35, 36, 37, 38] (by decide +kernel) (by decide +kernel)
set_option maxRecDepth 20000 in
theorem gX10_whole_X10_fails : GoodIn wsX10_whole (wsV RX10 64 RX10 yX10_fails wsX10_fails) := goodIn_app (goodIn_of _ (by decide +kernel)) ggX10_whole_X10_fails
set_option maxRecDepth 20000 in
theorem ggX10_whole_X10_wholeValue : GoodIn wsX10_whole wsX10_wholeValue := goodIn_r _ [13, 14, 15, 16, 17, 18, 3, 19, 20, 21, 22, 23, 24, 25, 26, 27, 28, 29, 30, 31, 32, 33, 34, 35, 36, 37, 38] (by decide +kernel) (by decide +kernel)
set_option maxRecDepth 20000 in
theorem gX10_whole_X10_wholeValue : GoodIn wsX10_whole (wsV RX10 135 RX10 yX10_wholeValue wsX10_wholeValue) := goodIn_app (goodIn_of _ (by decide +kernel)) ggX10_whole_X10_wholeValue
set_option maxRecDepth 20000 in
theorem ggX10_isWorse_X10_volumes : GoodIn wsX10_isWorse wsX10_volumes := goodIn_r _ [6, 7, 8, 9, 10, 11, 12, 13, 14, 15, 16, 17, 18, 19, 20, 21, 22] (by decide +kernel) (by decide +kernel)
set_option maxRecDepth 20000 in
theorem gX10_isWorse_X10_volumes : GoodIn wsX10_isWorse (wsV RX10 123 RX10 yX10_volumes wsX10_volumes) := goodIn_app (goodIn_of _ (by decide +kernel)) ggX10_isWorse_X10_volumes
set_option maxRecDepth 20000 in
theorem ggX10_count_X10_countRound : GoodIn wsX10_count wsX10_countRound := goodIn_r _ [9, 4, 1, 18, 19, 20, 21, 22, 23, 24, 25, 26, 27, 28, 29, 30, 31, 32] (by decide +kernel) (by decide +kernel)
set_option maxRecDepth 20000 in
theorem gX10_count_X10_countRound : GoodIn wsX10_count (wsV RX10 144 RX10 yX10_countRound wsX10_countRound) := goodIn_app (goodIn_of _ (by decide +kernel)) ggX10_count_X10_countRound
set_option maxRecDepth 20000 in
theorem ggX10_count_X10_isWorse : GoodIn wsX10_count wsX10_isWorse := goodIn_r _ [13, 4, 14, 15, 16, 8, 17, 1, 18, 19, 20, 21, 22, 23, 24, 25, 26, 27, 28, 29, 30, 31, 32] (by decide +kernel) (by decide +kernel)
set_option maxRecDepth 20000 in
theorem gX10_count_X10_isWorse : GoodIn wsX10_count (wsV RX10 147 RX10 yX10_isWorse wsX10_isWorse) := goodIn_app (goodIn_of _ (by decide +kernel)) ggX10_count_X10_isWorse
set_option maxRecDepth 20000 in
theorem ggX10_rounds_X10_count : GoodIn wsX10_rounds wsX10_count := goodIn_r _ [7, 8, 2, 9, 10, 11, 12, 13, 6, 14, 15, 16, 17, 18, 19, 20, 21, 22, 23, 24, 25, 26, 27, 28, 29, 30, 31, 32, 33, 34, 35, 36, 37] (by decide +kernel) (by decide +kernel)
set_option maxRecDepth 20000 in
theorem gX10_rounds_X10_count : GoodIn wsX10_rounds (wsV RX10 150 RX10 yX10_count wsX10_count) := goodIn_app (goodIn_of _ (by decide +kernel)) ggX10_rounds_X10_count
set_option maxRecDepth 20000 in
theorem ggX10_votes_X10_isSite : GoodIn wsX10_votes wsX10_isSite := goodIn_r _ [6, 7, 8, 5, 9] (by decide +kernel) (by decide +kernel)
set_option maxRecDepth 20000 in
theorem gX10_votes_X10_isSite : GoodIn wsX10_votes (va_wsS RX10 40 yX10_isSite wsX10_isSite) := goodIn_app (goodIn_of _ (by decide +kernel)) ggX10_votes_X10_isSite
set_option maxRecDepth 20000 in
theorem ggX10_votes_X10_fails : GoodIn wsX10_votes wsX10_fails := goodIn_r _ [13, 14, 33, 34, 35, 36, 37, 38, 39, 40, 41, 42, 43, 44, 45, 46, 47] (by decide +kernel) (by decide +kernel)
set_option maxRecDepth 20000 in
theorem gX10_votes_X10_fails : GoodIn wsX10_votes (wsV RX10 64 RX10 yX10_fails wsX10_fails) := goodIn_app (goodIn_of _ (by decide +kernel)) ggX10_votes_X10_fails
set_option maxRecDepth 20000 in
theorem ggX10_votes_X10_count : GoodIn wsX10_votes wsX10_count := goodIn_r _ [18, 19, 1, 20, 2, 21, 22, 23, 5, 24, 25, 26, 27, 28, 29, 30, 31, 32, 33, 34, 35, 36, 37, 38, 39, 40, 41, 42, 43, 44, 45, 46, 47] (by decide +kernel) (by decide +kernel)
set_option maxRecDepth 20000 in
theorem gX10_votes_X10_count : GoodIn wsX10_votes (wsV RX10 150 RX10 yX10_count wsX10_count) := goodIn_app (goodIn_of _ (by decide +kernel)) ggX10_votes_X10_count
set_option maxRecDepth 20000 in
theorem ggX10_winner_X10_count : GoodIn wsX10_winner wsX10_count := goodIn_r _ [7, 8, 9, 2, 10, 11, 12, 13, 6, 14, 15, 16, 17, 18, 19, 20, 21, 22, 23, 24, 25, 26, 27, 28, 29, 30, 31, 32, 33, 34, 35, 36, 37] (by decide +kernel) (by decide +kernel)
set_option maxRecDepth 20000 in
theorem gX10_winner_X10_count : GoodIn wsX10_winner (wsV RX10 150 RX10 yX10_count wsX10_count) := goodIn_app (goodIn_of _ (by decide +kernel)) ggX10_winner_X10_count
set_option maxRecDepth 20000 in
theorem ggX10_reason_X10_isTool : GoodIn wsX10_reason wsX10_isTool := goodIn_r _ [5, 6, 7, 8, 4, 9, 28, 29, 30, 31, 32, 33, 34, 35, 36, 37, 38, 39, 40, 41, 42] (by decide +kernel) (by decide +kernel)
set_option maxRecDepth 20000 in
theorem gX10_reason_X10_isTool : GoodIn wsX10_reason (wsV RX10 99 RX10 yX10_isTool wsX10_isTool) := goodIn_app (goodIn_of _ (by decide +kernel)) ggX10_reason_X10_isTool
set_option maxRecDepth 20000 in
theorem ggX10_reason_X10_isSite : GoodIn wsX10_reason wsX10_isSite := goodIn_r _ [12, 7, 8, 4, 9] (by decide +kernel) (by decide +kernel)
set_option maxRecDepth 20000 in
theorem gX10_reason_X10_isSite : GoodIn wsX10_reason (va_wsS RX10 40 yX10_isSite wsX10_isSite) := goodIn_app (goodIn_of _ (by decide +kernel)) ggX10_reason_X10_isSite
set_option maxRecDepth 20000 in
theorem ggX10_reason_X10_isLevel : GoodIn wsX10_reason wsX10_isLevel := goodIn_r _ [15, 7, 8, 4, 9] (by decide +kernel) (by decide +kernel)
set_option maxRecDepth 20000 in
theorem gX10_reason_X10_isLevel : GoodIn wsX10_reason (va_wsS RX10 102 yX10_isLevel wsX10_isLevel) := goodIn_app (goodIn_of _ (by decide +kernel)) ggX10_reason_X10_isLevel
set_option maxRecDepth 20000 in
theorem ggX10_reason_X10_in : GoodIn wsX10_reason wsX10_in := goodIn_r _ [9] (by decide +kernel) (by decide +kernel)
set_option maxRecDepth 20000 in
theorem gX10_reason_X10_in : GoodIn wsX10_reason (va_wsS RX10 36 yX10_in wsX10_in) := goodIn_app (goodIn_of _ (by decide +kernel)) ggX10_reason_X10_in
set_option maxRecDepth 20000 in
theorem ggX10_reason_X10_fails : GoodIn wsX10_reason wsX10_fails := goodIn_r _ [19, 20, 28, 29, 30, 31, 32, 33, 34, 35, 36, 37, 38, 39, 40, 41, 42] (by decide +kernel) (by decide +kernel)
set_option maxRecDepth 20000 in
theorem gX10_reason_X10_fails : GoodIn wsX10_reason (wsV RX10 64 RX10 yX10_fails wsX10_fails) := goodIn_app (goodIn_of _ (by decide +kernel)) ggX10_reason_X10_fails
set_option maxRecDepth 20000 in
theorem ggX10_reason_X10_why : GoodIn wsX10_reason wsX10_why := goodIn_r _ [24, 6, 25, 26, 4, 27, 28, 29, 30, 31, 32, 33, 34, 35, 36, 37, 38, 39, 40, 41, 42] (by decide +kernel) (by decide +kernel)
set_option maxRecDepth 20000 in
theorem gX10_reason_X10_why : GoodIn wsX10_reason (wsV RX10 105 RX10 yX10_why wsX10_why) := goodIn_app (goodIn_of _ (by decide +kernel)) ggX10_reason_X10_why
set_option maxRecDepth 20000 in
theorem ggX10_volumeIn_X10_isSite : GoodIn wsX10_volumeIn wsX10_isSite := goodIn_r _ [4, 5, 6, 3, 7] (by decide +kernel) (by decide +kernel)
set_option maxRecDepth 20000 in
theorem gX10_volumeIn_X10_isSite : GoodIn wsX10_volumeIn (va_wsS RX10 40 yX10_isSite wsX10_isSite) := goodIn_app (goodIn_of _ (by decide +kernel)) ggX10_volumeIn_X10_isSite
set_option maxRecDepth 20000 in
theorem ggX10_volumeIn_X10_in : GoodIn wsX10_volumeIn wsX10_in := goodIn_r _ [7] (by decide +kernel) (by decide +kernel)
set_option maxRecDepth 20000 in
theorem gX10_volumeIn_X10_in : GoodIn wsX10_volumeIn (va_wsS RX10 36 yX10_in wsX10_in) := goodIn_app (goodIn_of _ (by decide +kernel)) ggX10_volumeIn_X10_in
set_option maxRecDepth 20000 in
theorem ggX10_volumeIn_X10_fails : GoodIn wsX10_volumeIn wsX10_fails := goodIn_r _ [11, 12, 50, 51, 52, 53, 54, 55, 56, 57, 58, 59, 60, 61, 62, 63, 64] (by decide +kernel) (by decide +kernel)
set_option maxRecDepth 20000 in
theorem gX10_volumeIn_X10_fails : GoodIn wsX10_volumeIn (wsV RX10 64 RX10 yX10_fails wsX10_fails) := goodIn_app (goodIn_of _ (by decide +kernel)) ggX10_volumeIn_X10_fails
set_option maxRecDepth 20000 in
theorem ggX10_volumeIn_X10_hold : GoodIn wsX10_volumeIn wsX10_hold := goodIn_r _ [16, 17, 18, 50, 51, 52, 53, 54, 55, 56, 57, 58, 59, 60, 61, 62, 63, 64] (by decide +kernel) (by decide +kernel)
set_option maxRecDepth 20000 in
theorem gX10_volumeIn_X10_hold : GoodIn wsX10_volumeIn (wsV RX10 153 RX10 yX10_hold wsX10_hold) := goodIn_app (goodIn_of _ (by decide +kernel)) ggX10_volumeIn_X10_hold
set_option maxRecDepth 20000 in
theorem ggX10_volumeIn_X10_passAll : GoodIn wsX10_volumeIn wsX10_passAll := goodIn_r _ [22, 23, 24, 25, 3, 26, 18, 27, 28, 29, 30, 31, 32, 33, 34, 35, 36, 37, 1, 2, 4, 5, 6, 7, 38, 39, 40, 41, 50, 51, 52, 53, 54, 55, 56, 57, 58, 59, 60, 61, 62, 63, 64] (by decide +kernel) (by decide +kernel)
set_option maxRecDepth 20000 in
theorem gX10_volumeIn_X10_passAll : GoodIn wsX10_volumeIn (wsV RX10 116 RX10 yX10_passAll wsX10_passAll) := goodIn_app (goodIn_of _ (by decide +kernel)) ggX10_volumeIn_X10_passAll
set_option maxRecDepth 20000 in
theorem ggX10_volumeIn_X10_volumes : GoodIn wsX10_volumeIn wsX10_volumes := goodIn_r _ [45, 18, 50, 51, 52, 53, 54, 55, 56, 57, 58, 59, 60, 61, 62, 63, 64] (by decide +kernel) (by decide +kernel)
set_option maxRecDepth 20000 in
theorem gX10_volumeIn_X10_volumes : GoodIn wsX10_volumeIn (wsV RX10 123 RX10 yX10_volumes wsX10_volumes) := goodIn_app (goodIn_of _ (by decide +kernel)) ggX10_volumeIn_X10_volumes
set_option maxRecDepth 20000 in
theorem ggX10_volumeIn_X10_putBack : GoodIn wsX10_volumeIn wsX10_putBack := goodIn_r _ [49, 18, 17, 50, 51, 52, 53, 54, 55, 56, 57, 58, 59, 60, 61, 62, 63, 64] (by decide +kernel) (by decide +kernel)
set_option maxRecDepth 20000 in
theorem gX10_volumeIn_X10_putBack : GoodIn wsX10_volumeIn (wsV RX10 156 RX10 yX10_putBack wsX10_putBack) := goodIn_app (goodIn_of _ (by decide +kernel)) ggX10_volumeIn_X10_putBack
set_option maxRecDepth 20000 in
theorem ggX10_goneIn_X10_isSite : GoodIn wsX10_goneIn wsX10_isSite := goodIn_r _ [5, 6, 7, 4, 8] (by decide +kernel) (by decide +kernel)
set_option maxRecDepth 20000 in
theorem gX10_goneIn_X10_isSite : GoodIn wsX10_goneIn (va_wsS RX10 40 yX10_isSite wsX10_isSite) := goodIn_app (goodIn_of _ (by decide +kernel)) ggX10_goneIn_X10_isSite
set_option maxRecDepth 20000 in
theorem ggX10_goneIn_X10_fails : GoodIn wsX10_goneIn wsX10_fails := goodIn_r _ [12, 13, 42, 43, 44, 45, 46, 47, 48, 49, 50, 51, 52, 53, 54, 55, 56] (by decide +kernel) (by decide +kernel)
set_option maxRecDepth 20000 in
theorem gX10_goneIn_X10_fails : GoodIn wsX10_goneIn (wsV RX10 64 RX10 yX10_fails wsX10_fails) := goodIn_app (goodIn_of _ (by decide +kernel)) ggX10_goneIn_X10_fails
set_option maxRecDepth 20000 in
theorem ggX10_goneIn_X10_hold : GoodIn wsX10_goneIn wsX10_hold := goodIn_r _ [17, 18, 1, 42, 43, 44, 45, 46, 47, 48, 49, 50, 51, 52, 53, 54, 55, 56] (by decide +kernel) (by decide +kernel)
set_option maxRecDepth 20000 in
theorem gX10_goneIn_X10_hold : GoodIn wsX10_goneIn (wsV RX10 153 RX10 yX10_hold wsX10_hold) := goodIn_app (goodIn_of _ (by decide +kernel)) ggX10_goneIn_X10_hold
set_option maxRecDepth 20000 in
theorem ggX10_goneIn_X10_pass : GoodIn wsX10_goneIn wsX10_pass := goodIn_r _ [22, 1, 23, 24, 4, 25, 26, 27, 28, 29, 30, 31, 32, 33, 2, 3, 5, 6, 7, 8, 34, 35, 36, 37, 42, 43, 44, 45, 46, 47, 48, 49, 50, 51, 52, 53, 54, 55, 56] (by decide +kernel) (by decide +kernel)
set_option maxRecDepth 20000 in
theorem gX10_goneIn_X10_pass : GoodIn wsX10_goneIn (wsV RX10 60 RX10 yX10_pass wsX10_pass) := goodIn_app (goodIn_of _ (by decide +kernel)) ggX10_goneIn_X10_pass
set_option maxRecDepth 20000 in
theorem ggX10_goneIn_X10_putBack : GoodIn wsX10_goneIn wsX10_putBack := goodIn_r _ [41, 1, 18, 42, 43, 44, 45, 46, 47, 48, 49, 50, 51, 52, 53, 54, 55, 56] (by decide +kernel) (by decide +kernel)
set_option maxRecDepth 20000 in
theorem gX10_goneIn_X10_putBack : GoodIn wsX10_goneIn (wsV RX10 156 RX10 yX10_putBack wsX10_putBack) := goodIn_app (goodIn_of _ (by decide +kernel)) ggX10_goneIn_X10_putBack
set_option maxRecDepth 20000 in
theorem ggX10_best_X10_hold : GoodIn wsX10_best wsX10_hold := goodIn_r _ [6, 7, 1, 41, 42, 43, 44, 45, 46, 47, 48, 49, 50, 51, 52, 53, 54, 55] (by decide +kernel) (by decide +kernel)
set_option maxRecDepth 20000 in
theorem gX10_best_X10_hold : GoodIn wsX10_best (wsV RX10 153 RX10 yX10_hold wsX10_hold) := goodIn_app (goodIn_of _ (by decide +kernel)) ggX10_best_X10_hold
set_option maxRecDepth 20000 in
theorem ggX10_best_X10_passAll : GoodIn wsX10_best wsX10_passAll := goodIn_r _ [11, 12, 13, 14, 5, 15, 1, 16, 17, 18, 19, 20, 21, 22, 23, 24, 25, 26, 27, 28, 29, 30, 31, 32, 33, 34, 35, 36, 41, 42, 43, 44, 45, 46, 47, 48, 49, 50, 51, 52, 53, 54, 55] (by decide +kernel) (by decide +kernel)
set_option maxRecDepth 20000 in
theorem gX10_best_X10_passAll : GoodIn wsX10_best (wsV RX10 116 RX10 yX10_passAll wsX10_passAll) := goodIn_app (goodIn_of _ (by decide +kernel)) ggX10_best_X10_passAll
set_option maxRecDepth 20000 in
theorem ggX10_best_X10_putBack : GoodIn wsX10_best wsX10_putBack := goodIn_r _ [40, 1, 7, 41, 42, 43, 44, 45, 46, 47, 48, 49, 50, 51, 52, 53, 54, 55] (by decide +kernel) (by decide +kernel)
set_option maxRecDepth 20000 in
theorem gX10_best_X10_putBack : GoodIn wsX10_best (wsV RX10 156 RX10 yX10_putBack wsX10_putBack) := goodIn_app (goodIn_of _ (by decide +kernel)) ggX10_best_X10_putBack
set_option maxRecDepth 20000 in
theorem ggX10_bestWall_X10_best : GoodIn wsX10_bestWall wsX10_best := goodIn_r _ [6, 7, 8, 9, 10, 5, 11, 12, 13, 14, 15, 16, 17, 18, 19, 20, 21, 22, 23, 24, 25, 26, 27, 28, 29, 30, 31, 32, 33, 34, 35, 36, 37, 38, 39, 40, 41, 42, 43, 44, 45, 46, 47, 48, 49, 50, 51, 52, 53, 54, 55, 56, 57, 58, 59, 60] (by decide +kernel) (by decide +kernel)
set_option maxRecDepth 20000 in
theorem gX10_bestWall_X10_best : GoodIn wsX10_bestWall (wsV RX10 159 RX10 yX10_best wsX10_best) := goodIn_app (goodIn_of _ (by decide +kernel)) ggX10_bestWall_X10_best
set_option maxRecDepth 20000 in
theorem ggX10_minutesFor_X10_isTool : GoodIn wsX10_minutesFor wsX10_isTool := goodIn_r _ [6, 1, 7, 8, 5, 9, 18, 19, 20, 21, 22, 23, 24, 25, 26, 27, 28, 29, 30, 31, 32] (by decide +kernel) (by decide +kernel)
set_option maxRecDepth 20000 in
theorem gX10_minutesFor_X10_isTool : GoodIn wsX10_minutesFor (wsV RX10 99 RX10 yX10_isTool wsX10_isTool) := goodIn_app (goodIn_of _ (by decide +kernel)) ggX10_minutesFor_X10_isTool
set_option maxRecDepth 20000 in
theorem ggX10_minutesFor_X10_in : GoodIn wsX10_minutesFor wsX10_in := goodIn_r _ [9] (by decide +kernel) (by decide +kernel)
set_option maxRecDepth 20000 in
theorem gX10_minutesFor_X10_in : GoodIn wsX10_minutesFor (va_wsS RX10 36 yX10_in wsX10_in) := goodIn_app (goodIn_of _ (by decide +kernel)) ggX10_minutesFor_X10_in
set_option maxRecDepth 20000 in
theorem ggX10_minutesFor_X10_fails : GoodIn wsX10_minutesFor wsX10_fails := goodIn_r _ [13, 14, 18, 19, 20, 21, 22, 23, 24, 25, 26, 27, 28, 29, 30, 31, 32] (by decide +kernel) (by decide +kernel)
set_option maxRecDepth 20000 in
theorem gX10_minutesFor_X10_fails : GoodIn wsX10_minutesFor (wsV RX10 64 RX10 yX10_fails wsX10_fails) := goodIn_app (goodIn_of _ (by decide +kernel)) ggX10_minutesFor_X10_fails
set_option maxRecDepth 20000 in
theorem ggX10_minutesFor_X10_upwards : GoodIn wsX10_minutesFor wsX10_upwards := goodIn_r _ [17] (by decide +kernel) (by decide +kernel)
set_option maxRecDepth 20000 in
theorem gX10_minutesFor_X10_upwards : GoodIn wsX10_minutesFor (va_wsS RX10 96 yX10_upwards wsX10_upwards) := goodIn_app (goodIn_of _ (by decide +kernel)) ggX10_minutesFor_X10_upwards
set_option maxRecDepth 20000 in
theorem ggX10_type_X10_in : GoodIn wsX10_type wsX10_in := goodIn_r _ [6] (by decide +kernel) (by decide +kernel)
set_option maxRecDepth 20000 in
theorem gX10_type_X10_in : GoodIn wsX10_type (va_wsS RX10 36 yX10_in wsX10_in) := goodIn_app (goodIn_of _ (by decide +kernel)) ggX10_type_X10_in
set_option maxRecDepth 20000 in
theorem ggX10_type_X10_fails : GoodIn wsX10_type wsX10_fails := goodIn_r _ [10, 11, 12, 13, 14, 15, 16, 17, 18, 19, 20, 21, 22, 23, 24, 25, 26] (by decide +kernel) (by decide +kernel)
set_option maxRecDepth 20000 in
theorem gX10_type_X10_fails : GoodIn wsX10_type (wsV RX10 64 RX10 yX10_fails wsX10_fails) := goodIn_app (goodIn_of _ (by decide +kernel)) ggX10_type_X10_fails
set_option maxRecDepth 20000 in
theorem ggX10_isAt_X10_in : GoodIn wsX10_isAt wsX10_in := goodIn_r _ [7] (by decide +kernel) (by decide +kernel)
set_option maxRecDepth 20000 in
theorem gX10_isAt_X10_in : GoodIn wsX10_isAt (va_wsS RX10 36 yX10_in wsX10_in) := goodIn_app (goodIn_of _ (by decide +kernel)) ggX10_isAt_X10_in
set_option maxRecDepth 20000 in
theorem ggX10_passSpaces_X10_isAt : GoodIn wsX10_passSpaces wsX10_isAt := goodIn_r _ [6, 1, 7, 8, 9, 10, 5, 11, 12, 13, 14, 15, 16, 17, 18, 19, 20, 21, 22, 23, 24, 25, 26] (by decide +kernel) (by decide +kernel)
set_option maxRecDepth 20000 in
theorem gX10_passSpaces_X10_isAt : GoodIn wsX10_passSpaces (wsV RX10 165 RX10 yX10_isAt wsX10_isAt) := goodIn_app (goodIn_of _ (by decide +kernel)) ggX10_passSpaces_X10_isAt
set_option maxRecDepth 20000 in
theorem ggX10_readWord_X10_isAt : GoodIn wsX10_readWord wsX10_isAt := goodIn_r _ [9, 1, 10, 2, 11, 12, 8, 13, 17, 18, 19, 20, 21, 22, 23, 24, 25, 26, 27, 28, 29, 30, 31] (by decide +kernel) (by decide +kernel)
set_option maxRecDepth 20000 in
theorem gX10_readWord_X10_isAt : GoodIn wsX10_readWord (wsV RX10 165 RX10 yX10_isAt wsX10_isAt) := goodIn_app (goodIn_of _ (by decide +kernel)) ggX10_readWord_X10_isAt
set_option maxRecDepth 20000 in
theorem ggX10_readWord_X10_wordOf : GoodIn wsX10_readWord wsX10_wordOf := goodIn_r _ [16] (by decide +kernel) (by decide +kernel)
set_option maxRecDepth 20000 in
theorem gX10_readWord_X10_wordOf : GoodIn wsX10_readWord (va_wsS RX10 171 yX10_wordOf wsX10_wordOf) := goodIn_app (goodIn_of _ (by decide +kernel)) ggX10_readWord_X10_wordOf
set_option maxRecDepth 20000 in
theorem ggX10_readNumber_X10_isAt : GoodIn wsX10_readNumber wsX10_isAt := goodIn_r _ [7, 2, 8, 1, 9, 10, 6, 11, 21, 22, 23, 24, 25, 26, 27, 28, 29, 30, 31, 32, 33, 34, 35] (by decide +kernel) (by decide +kernel)
set_option maxRecDepth 20000 in
theorem gX10_readNumber_X10_isAt : GoodIn wsX10_readNumber (wsV RX10 165 RX10 yX10_isAt wsX10_isAt) := goodIn_app (goodIn_of _ (by decide +kernel)) ggX10_readNumber_X10_isAt
set_option maxRecDepth 20000 in
theorem ggX10_readNumber_X10_due : GoodIn wsX10_readNumber wsX10_due := goodIn_r _ [15, 16, 2, 21, 22, 23, 24, 25, 26, 27, 28, 29, 30, 31, 32, 33, 34, 35] (by decide +kernel) (by decide +kernel)
set_option maxRecDepth 20000 in
theorem gX10_readNumber_X10_due : GoodIn wsX10_readNumber (wsV RX10 177 RX10 yX10_due wsX10_due) := goodIn_app (goodIn_of _ (by decide +kernel)) ggX10_readNumber_X10_due
set_option maxRecDepth 20000 in
theorem ggX10_readNumber_X10_passSpaces : GoodIn wsX10_readNumber wsX10_passSpaces := goodIn_r _ [20, 2, 3, 4, 5, 6, 7, 8, 1, 9, 10, 11, 21, 22, 23, 24, 25, 26, 27, 28, 29, 30, 31, 32, 33, 34, 35] (by decide +kernel) (by decide +kernel)
set_option maxRecDepth 20000 in
theorem gX10_readNumber_X10_passSpaces : GoodIn wsX10_readNumber (wsV RX10 181 RX10 yX10_passSpaces wsX10_passSpaces) := goodIn_app (goodIn_of _ (by decide +kernel)) ggX10_readNumber_X10_passSpaces
set_option maxRecDepth 20000 in
theorem ggX10_order_X10_isAt : GoodIn wsX10_order wsX10_isAt := goodIn_r _ [9, 4, 10, 11, 12, 13, 8, 14, 133, 134, 135, 136, 137, 138, 139, 140, 141, 142, 143, 144, 145, 146, 147] (by decide +kernel) (by decide +kernel)
set_option maxRecDepth 20000 in
theorem gX10_order_X10_isAt : GoodIn wsX10_order (wsV RX10 165 RX10 yX10_isAt wsX10_isAt) := goodIn_app (goodIn_of _ (by decide +kernel)) ggX10_order_X10_isAt
set_option maxRecDepth 20000 in
theorem ggX10_order_X10_due : GoodIn wsX10_order wsX10_due := goodIn_r _ [18, 1, 4, 133, 134, 135, 136, 137, 138, 139, 140, 141, 142, 143, 144, 145, 146, 147] (by decide +kernel) (by decide +kernel)
set_option maxRecDepth 20000 in
theorem gX10_order_X10_due : GoodIn wsX10_order (wsV RX10 177 RX10 yX10_due wsX10_due) := goodIn_app (goodIn_of _ (by decide +kernel)) ggX10_order_X10_due
set_option maxRecDepth 20000 in
theorem ggX10_order_X10_readWord : GoodIn wsX10_order wsX10_readWord := goodIn_r _ [22, 4, 11, 2, 1, 5, 6, 7, 8, 9, 10, 12, 13, 14, 23, 24, 25, 133, 134, 135, 136, 137, 138, 139, 140, 141, 142, 143, 144, 145, 146, 147] (by decide +kernel) (by decide +kernel)
set_option maxRecDepth 20000 in
theorem gX10_order_X10_readWord : GoodIn wsX10_order (wsV RX10 184 RX10 yX10_readWord wsX10_readWord) := goodIn_app (goodIn_of _ (by decide +kernel)) ggX10_order_X10_readWord
set_option maxRecDepth 20000 in
theorem ggX10_order_X10_numbersOf : GoodIn wsX10_order wsX10_numbersOf := goodIn_r _ [28] (by decide +kernel) (by decide +kernel)
set_option maxRecDepth 20000 in
theorem gX10_order_X10_numbersOf : GoodIn wsX10_order (va_wsS RX10 187 yX10_numbersOf wsX10_numbersOf) := goodIn_app (goodIn_of _ (by decide +kernel)) ggX10_order_X10_numbersOf
set_option maxRecDepth 20000 in
theorem ggX10_order_X10_readNumber : GoodIn wsX10_order wsX10_readNumber := goodIn_r _ [32, 11, 4, 5, 6, 7, 8, 9, 10, 12, 13, 14, 15, 16, 17, 18, 1, 33, 34, 35, 36, 133, 134, 135, 136, 137, 138, 139, 140, 141, 142, 143, 144, 145, 146, 147] (by decide +kernel) (by decide +kernel)
set_option maxRecDepth 20000 in
theorem gX10_order_X10_readNumber : GoodIn wsX10_order (wsV RX10 190 RX10 yX10_readNumber wsX10_readNumber) := goodIn_app (goodIn_of _ (by decide +kernel)) ggX10_order_X10_readNumber
set_option maxRecDepth 20000 in
theorem ggX10_order_X10_passSpaces : GoodIn wsX10_order wsX10_passSpaces := goodIn_r _ [36, 4, 5, 6, 7, 8, 9, 10, 11, 12, 13, 14, 133, 134, 135, 136, 137, 138, 139, 140, 141, 142, 143, 144, 145, 146, 147] (by decide +kernel) (by decide +kernel)
set_option maxRecDepth 20000 in
theorem gX10_order_X10_passSpaces : GoodIn wsX10_order (wsV RX10 181 RX10 yX10_passSpaces wsX10_passSpaces) := goodIn_app (goodIn_of _ (by decide +kernel)) ggX10_order_X10_passSpaces
set_option maxRecDepth 20000 in
theorem ggX10_order_X10_carriesOut : GoodIn wsX10_order wsX10_carriesOut := goodIn_r _ [40, 2, 3, 41, 42, 43, 44, 45, 8, 46, 47, 12, 13, 14, 48, 49, 50, 51, 52, 53, 54, 55, 56, 57, 58, 59, 60, 61, 62, 63, 64, 65, 66, 67, 68, 69, 70, 71, 72, 73, 74, 75, 76, 77, 78, 79, 80, 81, 82, 83, 84, 85, 86, 87, 88, 89, 90, 91, 92, 93, 94, 95, 96, 97, 98, 99, 100, 101, 102, 103, 104, 105, 106, 107, 108, 109, 110, 111, 112, 113, 114, 115, 116, 117, 118, 119, 120, 121, 122, 123, 124, 125, 126, 127, 128, 129, 130, 131, 132, 133, 134, 135, 136, 137, 138, 139, 140, 141, 142, 143, 144, 145, 146, 147] (by decide +kernel) (by decide +kernel)
set_option maxRecDepth 20000 in
theorem gX10_order_X10_carriesOut : GoodIn wsX10_order (wsV RX10 193 RX10 yX10_carriesOut wsX10_carriesOut) := goodIn_app (goodIn_of _ (by decide +kernel)) ggX10_order_X10_carriesOut
set_option maxRecDepth 20000 in
theorem ggX10_carriesOut_X10_addsSnow : GoodIn wsX10_carriesOut wsX10_addsSnow := goodIn_r _ [9, 10, 11, 12, 8, 13, 14, 15, 16, 17, 4, 18, 19, 20, 21, 22, 23, 99, 100, 101, 102, 103, 104, 105, 106, 107, 108, 109, 110, 111, 112, 113] (by decide +kernel) (by decide +kernel)
set_option maxRecDepth 20000 in
theorem gX10_carriesOut_X10_addsSnow : GoodIn wsX10_carriesOut (wsV RX10 71 RX10 yX10_addsSnow wsX10_addsSnow) := goodIn_app (goodIn_of _ (by decide +kernel)) ggX10_carriesOut_X10_addsSnow
set_option maxRecDepth 20000 in
theorem ggX10_carriesOut_X10_presses : GoodIn wsX10_carriesOut wsX10_presses := goodIn_r _ [27, 10, 28, 29, 8, 30, 11, 12, 13, 14, 15, 16, 17, 4, 18, 19, 20, 21, 22, 23, 99, 100, 101, 102, 103, 104, 105, 106, 107, 108, 109, 110, 111, 112, 113] (by decide +kernel) (by decide +kernel)
set_option maxRecDepth 20000 in
theorem gX10_carriesOut_X10_presses : GoodIn wsX10_carriesOut (wsV RX10 78 RX10 yX10_presses wsX10_presses) := goodIn_app (goodIn_of _ (by decide +kernel)) ggX10_carriesOut_X10_presses
set_option maxRecDepth 20000 in
theorem ggX10_carriesOut_X10_stacks : GoodIn wsX10_carriesOut wsX10_stacks := goodIn_r _ [34, 10, 35, 36, 8, 37, 11, 12, 13, 28, 29, 30, 14, 15, 16, 17, 4, 18, 19, 20, 21, 22, 23, 99, 100, 101, 102, 103, 104, 105, 106, 107, 108, 109, 110, 111, 112, 113] (by decide +kernel) (by decide +kernel)
set_option maxRecDepth 20000 in
theorem gX10_carriesOut_X10_stacks : GoodIn wsX10_carriesOut (wsV RX10 82 RX10 yX10_stacks wsX10_stacks) := goodIn_app (goodIn_of _ (by decide +kernel)) ggX10_carriesOut_X10_stacks
set_option maxRecDepth 20000 in
theorem ggX10_carriesOut_X10_addsTool : GoodIn wsX10_carriesOut wsX10_addsTool := goodIn_r _ [41, 10, 11, 12, 8, 13, 14, 15, 16, 17, 4, 18, 19, 20, 21, 22, 23, 99, 100, 101, 102, 103, 104, 105, 106, 107, 108, 109, 110, 111, 112, 113] (by decide +kernel) (by decide +kernel)
set_option maxRecDepth 20000 in
theorem gX10_carriesOut_X10_addsTool : GoodIn wsX10_carriesOut (wsV RX10 93 RX10 yX10_addsTool wsX10_addsTool) := goodIn_app (goodIn_of _ (by decide +kernel)) ggX10_carriesOut_X10_addsTool
set_option maxRecDepth 20000 in
theorem ggX10_carriesOut_X10_carves : GoodIn wsX10_carriesOut wsX10_carves := goodIn_r _ [45, 10, 46, 47, 48, 8, 49, 11, 12, 13, 35, 36, 37, 50, 51, 52, 53, 54, 55, 56, 57, 58, 59, 14, 15, 16, 17, 4, 18, 19, 20, 21, 22, 23, 60, 61, 62, 63, 99, 100, 101, 102, 103, 104, 105, 106, 107, 108, 109, 110, 111, 112, 113] (by decide +kernel) (by decide +kernel)
set_option maxRecDepth 20000 in
theorem gX10_carriesOut_X10_carves : GoodIn wsX10_carriesOut (wsV RX10 109 RX10 yX10_carves wsX10_carves) := goodIn_app (goodIn_of _ (by decide +kernel)) ggX10_carriesOut_X10_carves
set_option maxRecDepth 20000 in
theorem ggX10_carriesOut_X10_setsWall : GoodIn wsX10_carriesOut wsX10_setsWall := goodIn_r _ [67, 10, 35, 36, 8, 37, 11, 12, 13, 14, 15, 16, 17, 4, 18, 19, 20, 21, 22, 23, 68, 69, 70, 71, 99, 100, 101, 102, 103, 104, 105, 106, 107, 108, 109, 110, 111, 112, 113] (by decide +kernel) (by decide +kernel)
set_option maxRecDepth 20000 in
theorem gX10_carriesOut_X10_setsWall : GoodIn wsX10_carriesOut (wsV RX10 89 RX10 yX10_setsWall wsX10_setsWall) := goodIn_app (goodIn_of _ (by decide +kernel)) ggX10_carriesOut_X10_setsWall
set_option maxRecDepth 20000 in
theorem ggX10_carriesOut_X10_goesBy : GoodIn wsX10_carriesOut wsX10_goesBy := goodIn_r _ [75, 11, 12, 8, 13, 14, 15, 16, 17, 4, 76, 77, 78, 79, 80, 81, 82, 83, 10, 84, 85, 86, 87, 88, 89, 90, 91, 92, 93, 94, 35, 36, 37, 60, 61, 62, 63, 99, 100, 101, 102, 103, 104, 105, 106, 107, 108, 109, 110, 111, 112, 113] (by decide +kernel) (by decide +kernel)
set_option maxRecDepth 20000 in
theorem gX10_carriesOut_X10_goesBy : GoodIn wsX10_carriesOut (wsV RX10 197 RX10 yX10_goesBy wsX10_goesBy) := goodIn_app (goodIn_of _ (by decide +kernel)) ggX10_carriesOut_X10_goesBy
set_option maxRecDepth 20000 in
theorem ggX10_carriesOut_X10_recycles : GoodIn wsX10_carriesOut wsX10_recycles := goodIn_r _ [98, 4, 10, 18, 19, 20, 8, 21, 22, 23, 99, 100, 101, 102, 103, 104, 105, 106, 107, 108, 109, 110, 111, 112, 113] (by decide +kernel) (by decide +kernel)
set_option maxRecDepth 20000 in
theorem gX10_carriesOut_X10_recycles : GoodIn wsX10_carriesOut (wsV RX10 113 RX10 yX10_recycles wsX10_recycles) := goodIn_app (goodIn_of _ (by decide +kernel)) ggX10_carriesOut_X10_recycles
set_option maxRecDepth 20000 in
theorem ggX10_goThrough_X10_passSpaces : GoodIn wsX10_goThrough wsX10_passSpaces := goodIn_r _ [9, 1, 10, 11, 12, 8, 13, 4, 14, 15, 16, 17, 137, 138, 139, 140, 141, 142, 143, 144, 145, 146, 147, 148, 149, 150, 151] (by decide +kernel) (by decide +kernel)
set_option maxRecDepth 20000 in
theorem gX10_goThrough_X10_passSpaces : GoodIn wsX10_goThrough (wsV RX10 181 RX10 yX10_passSpaces wsX10_passSpaces) := goodIn_app (goodIn_of _ (by decide +kernel)) ggX10_goThrough_X10_passSpaces
set_option maxRecDepth 20000 in
theorem ggX10_goThrough_X10_order : GoodIn wsX10_goThrough wsX10_order := goodIn_r _ [21, 2, 22, 23, 1, 10, 11, 12, 8, 13, 4, 14, 15, 16, 17, 24, 25, 26, 27, 28, 29, 30, 31, 32, 33, 34, 35, 36, 37, 38, 39, 40, 41, 5, 6, 7, 9, 42, 43, 44, 45, 3, 46, 47, 48, 49, 50, 51, 52, 53, 54, 55, 56, 57, 58, 59, 60, 61, 62, 63, 64, 65, 66, 67, 68, 69, 70, 71, 72, 73, 74, 75, 76, 77, 78, 79, 80, 81, 82, 83, 84, 85, 86, 87, 88, 89, 90, 91, 92, 93, 94, 95, 96, 97, 98, 99, 100, 101, 102, 103, 104, 105, 106, 107, 108, 109, 110, 111, 112, 113, 114, 115, 116, 117, 118, 119, 120, 121, 122, 123, 124, 125, 126, 127, 128, 129, 130, 131, 132, 133, 134, 135, 136, 137, 138, 139, 140, 141, 142, 143, 144, 145, 146, 147, 148, 149, 150, 151] (by decide +kernel) (by decide +kernel)
set_option maxRecDepth 20000 in
theorem gX10_goThrough_X10_order : GoodIn wsX10_goThrough (wsV RX10 203 RX10 yX10_order wsX10_order) := goodIn_app (goodIn_of _ (by decide +kernel)) ggX10_goThrough_X10_order
set_option maxRecDepth 20000 in
theorem ggX10_runOrders_X10_goThrough : GoodIn wsX10_runOrders wsX10_goThrough := goodIn_r _ [8, 9, 2, 3, 10, 11, 12, 13, 7, 14, 15, 16, 17, 18, 19, 20, 21, 22, 23, 24, 25, 26, 27, 28, 29, 30, 31, 32, 33, 34, 35, 36, 37, 38, 39, 40, 41, 42, 43, 44, 45, 46, 47, 48, 49, 50, 1, 51, 52, 53, 54, 55, 56, 57, 58, 59, 60, 61, 62, 63, 64, 65, 66, 67, 68, 69, 70, 71, 72, 73, 74, 75, 76, 77, 78, 79, 80, 81, 82, 83, 84, 85, 86, 87, 88, 89, 90, 91, 92, 93, 94, 95, 96, 97, 98, 99, 100, 101, 102, 103, 104, 105, 106, 107, 108, 109, 110, 111, 112, 113, 114, 115, 116, 117, 118, 119, 120, 121, 122, 123, 124, 125, 126, 127, 128, 129, 130, 131, 132, 133, 134, 135, 136, 137, 138, 139, 140, 141, 142, 143, 144, 145, 146, 147, 148, 149, 150, 151, 152, 153, 154, 155] (by decide +kernel) (by decide +kernel)
set_option maxRecDepth 20000 in
theorem gX10_runOrders_X10_goThrough : GoodIn wsX10_runOrders (wsV RX10 206 RX10 yX10_goThrough wsX10_goThrough) := goodIn_app (goodIn_of _ (by decide +kernel)) ggX10_runOrders_X10_goThrough
set_option maxRecDepth 20000 in
theorem ggX10_runOrders_X10_save : GoodIn wsX10_runOrders wsX10_save := goodIn_r _ [63, 64, 65, 55, 141, 142, 143, 144, 145, 146, 147, 148, 149, 150, 151, 152, 153, 154, 155] (by decide +kernel) (by decide +kernel)
set_option maxRecDepth 20000 in
theorem gX10_runOrders_X10_save : GoodIn wsX10_runOrders (wsV RX10 68 RX10 yX10_save wsX10_save) := goodIn_app (goodIn_of _ (by decide +kernel)) ggX10_runOrders_X10_save
set_option maxRecDepth 20000 in
theorem ggX10_undo_X10_fails : GoodIn wsX10_undo wsX10_fails := goodIn_r _ [8, 9, 10, 11, 12, 13, 14, 15, 16, 17, 18, 19, 20, 21, 22, 23, 24] (by decide +kernel) (by decide +kernel)
set_option maxRecDepth 20000 in
theorem gX10_undo_X10_fails : GoodIn wsX10_undo (wsV RX10 64 RX10 yX10_fails wsX10_fails) := goodIn_app (goodIn_of _ (by decide +kernel)) ggX10_undo_X10_fails
set_option maxRecDepth 20000 in
theorem ggX10_digest_X10_wholeValue : GoodIn wsX10_digest wsX10_wholeValue := goodIn_r _ [13, 5, 14, 15, 16, 17, 12, 18, 19, 20, 21, 22, 89, 90, 91, 92, 93, 94, 95, 96, 97, 98, 99, 100, 101, 102, 103] (by decide +kernel) (by decide +kernel)
set_option maxRecDepth 20000 in
theorem gX10_digest_X10_wholeValue : GoodIn wsX10_digest (wsV RX10 135 RX10 yX10_wholeValue wsX10_wholeValue) := goodIn_app (goodIn_of _ (by decide +kernel)) ggX10_digest_X10_wholeValue
set_option maxRecDepth 20000 in
theorem ggX10_digest_X10_siteValue : GoodIn wsX10_digest wsX10_siteValue := goodIn_r _ [26, 5, 15, 16, 17, 12, 18, 89, 90, 91, 92, 93, 94, 95, 96, 97, 98, 99, 100, 101, 102, 103] (by decide +kernel) (by decide +kernel)
set_option maxRecDepth 20000 in
theorem gX10_digest_X10_siteValue : GoodIn wsX10_digest (wsV RX10 126 RX10 yX10_siteValue wsX10_siteValue) := goodIn_app (goodIn_of _ (by decide +kernel)) ggX10_digest_X10_siteValue
set_option maxRecDepth 20000 in
theorem ggX10_digest_X10_blockValue : GoodIn wsX10_digest wsX10_blockValue := goodIn_r _ [30, 5, 31, 32, 33, 12, 34, 35, 36, 37, 38, 39, 40, 41, 42, 43, 44, 89, 90, 91, 92, 93, 94, 95, 96, 97, 98, 99, 100, 101, 102, 103] (by decide +kernel) (by decide +kernel)
set_option maxRecDepth 20000 in
theorem gX10_digest_X10_blockValue : GoodIn wsX10_digest (wsV RX10 119 RX10 yX10_blockValue wsX10_blockValue) := goodIn_app (goodIn_of _ (by decide +kernel)) ggX10_digest_X10_blockValue
set_option maxRecDepth 20000 in
theorem ggX10_digest_X10_toolValue : GoodIn wsX10_digest wsX10_toolValue := goodIn_r _ [48, 5, 89, 90, 91, 92, 93, 94, 95, 96, 97, 98, 99, 100, 101, 102, 103] (by decide +kernel) (by decide +kernel)
set_option maxRecDepth 20000 in
theorem gX10_digest_X10_toolValue : GoodIn wsX10_digest (wsV RX10 129 RX10 yX10_toolValue wsX10_toolValue) := goodIn_app (goodIn_of _ (by decide +kernel)) ggX10_digest_X10_toolValue
set_option maxRecDepth 20000 in
theorem ggX10_digest_X10_count : GoodIn wsX10_digest wsX10_count := goodIn_r _ [52, 5, 6, 8, 7, 53, 54, 55, 12, 56, 57, 58, 59, 60, 15, 16, 17, 18, 89, 90, 91, 92, 93, 94, 95, 96, 97, 98, 99, 100, 101, 102, 103] (by decide +kernel) (by decide +kernel)
set_option maxRecDepth 20000 in
theorem gX10_digest_X10_count : GoodIn wsX10_digest (wsV RX10 150 RX10 yX10_count wsX10_count) := goodIn_app (goodIn_of _ (by decide +kernel)) ggX10_digest_X10_count
set_option maxRecDepth 20000 in
theorem ggX10_digest_X10_best : GoodIn wsX10_digest wsX10_best := goodIn_r _ [64, 5, 65, 66, 67, 12, 68, 69, 70, 71, 72, 73, 74, 75, 76, 77, 78, 79, 80, 31, 32, 33, 34, 35, 36, 37, 38, 39, 40, 41, 42, 43, 44, 81, 82, 83, 84, 85, 86, 87, 88, 89, 90, 91, 92, 93, 94, 95, 96, 97, 98, 99, 100, 101, 102, 103] (by decide +kernel) (by decide +kernel)
set_option maxRecDepth 20000 in
theorem gX10_digest_X10_best : GoodIn wsX10_digest (wsV RX10 159 RX10 yX10_best wsX10_best) := goodIn_app (goodIn_of _ (by decide +kernel)) ggX10_digest_X10_best
