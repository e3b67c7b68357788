set_option maxRecDepth 20000 in
theorem ggX1_init_X5_init : GoodIn wsX1_init wsX5_init := goodIn_r _ [14, 15, 2, 3, 16, 17, 18, 19, 25, 26, 27] rfl (by decide +kernel)
set_option maxRecDepth 20000 in
theorem gX1_init_X5_init_n17 : GoodIn wsX1_init (wsX5_init) := ggX1_init_X5_init
set_option maxRecDepth 20000 in
theorem ggX1_has_X11_isBelow : GoodIn wsX1_has wsX11_isBelow := goodIn_r _ [4] rfl (by decide +kernel)
set_option maxRecDepth 20000 in
theorem gX1_has_X11_isBelow_n33 : GoodIn wsX1_has (wsX11_isBelow) := ggX1_has_X11_isBelow
set_option maxRecDepth 20000 in
theorem ggX1_put_X11_isBelow : GoodIn wsX1_put wsX11_isBelow := goodIn_r _ [6] rfl (by decide +kernel)
set_option maxRecDepth 20000 in
theorem gX1_put_X11_isBelow_n33 : GoodIn wsX1_put (wsX11_isBelow) := ggX1_put_X11_isBelow
set_option maxRecDepth 20000 in
theorem ggX1_close_X5_begin : GoodIn wsX1_close wsX5_begin := goodIn_ca (goodIn_r _ [9, 10, 11, 12, 13, 14, 15, 100, 101, 102] rfl (by decide +kernel)) (goodIn_sub (fun _ h => List.mem_cons_of_mem _ (List.mem_append_right _ h)) (by decide +kernel))
set_option maxRecDepth 20000 in
theorem gX1_close_X5_begin : GoodIn wsX1_close (wsV RX1 49 RX5 yX5_begin wsX5_begin) := goodIn_app (goodIn_of _ (by decide +kernel)) ggX1_close_X5_begin
set_option maxRecDepth 20000 in
theorem ggX1_close_Jx4a65c_size_8abf5 : GoodIn wsX1_close wsJx4a65c_size_8abf5 := goodIn_r _ [20, 21, 103, 104, 105] rfl (by decide +kernel)
set_option maxRecDepth 20000 in
theorem gX1_close_Jx4a65c_size_8abf5 : GoodIn wsX1_close (wsV RX1 53 RJx4a65c yJx4a65c_size_8abf5 wsJx4a65c_size_8abf5) := goodIn_app (goodIn_of _ (by decide +kernel)) ggX1_close_Jx4a65c_size_8abf5
set_option maxRecDepth 20000 in
theorem ggX3_init_X6_init : GoodIn wsX3_init wsX6_init := goodIn_r _ [10, 11, 12, 13, 1, 14, 15, 24, 25, 26, 27, 28, 29, 30, 31, 32, 33, 34, 35, 16, 17, 18, 19, 20, 21, 22, 23, 36, 37, 38, 39, 40, 41, 42, 43, 44] rfl (by decide +kernel)
set_option maxRecDepth 20000 in
theorem gX3_init_X6_init_n3 : GoodIn wsX3_init (wsX6_init) := ggX3_init_X6_init
set_option maxRecDepth 20000 in
theorem ggX4_init_X6_init : GoodIn wsX4_init wsX6_init := goodIn_r _ [7, 8, 9, 10, 11, 12, 13, 20, 21, 22, 23, 24, 25, 26, 27, 28, 29, 30, 31, 32, 33, 34, 35, 36, 37, 38, 39, 14, 15, 16, 17, 18, 19, 40, 41, 42] rfl (by decide +kernel)
set_option maxRecDepth 20000 in
theorem gX4_init_X6_init_n3 : GoodIn wsX4_init (wsX6_init) := ggX4_init_X6_init
set_option maxRecDepth 20000 in
theorem ggX5_begin_J7_fill_d0a16 : GoodIn wsX5_begin wsJ7_fill_d0a16 := goodIn_r _ [6] rfl (by decide +kernel)
set_option maxRecDepth 20000 in
theorem gX5_begin_J7_fill_d0a16 : GoodIn wsX5_begin (va_wsS RX5 22 yJ7_fill_d0a16 wsJ7_fill_d0a16) := goodIn_app (goodIn_of _ (by decide +kernel)) ggX5_begin_J7_fill_d0a16
set_option maxRecDepth 20000 in
theorem ggX5_has_X11_isBelow : GoodIn wsX5_has wsX11_isBelow := goodIn_r _ [4] rfl (by decide +kernel)
set_option maxRecDepth 20000 in
theorem gX5_has_X11_isBelow_n28 : GoodIn wsX5_has (wsX11_isBelow) := ggX5_has_X11_isBelow
set_option maxRecDepth 20000 in
theorem ggX5_count_X5_has : GoodIn wsX5_count wsX5_has := goodIn_ca (goodIn_r _ [5, 6, 7, 8, 9, 10, 11, 12] rfl (by decide +kernel)) (goodIn_sub (fun _ h => List.mem_cons_of_mem _ (List.mem_append_right _ h)) (by decide +kernel))
set_option maxRecDepth 20000 in
theorem gX5_count_X5_has : GoodIn wsX5_count (wsV RX5 32 RX5 yX5_has wsX5_has) := goodIn_app (goodIn_of _ (by decide +kernel)) ggX5_count_X5_has
set_option maxRecDepth 20000 in
theorem ggX11_init_Jx4a65c_init_da8c8 : GoodIn wsX11_init wsJx4a65c_init_da8c8 := goodIn_r _ [23, 24, 25, 26, 27, 28, 29, 30, 31, 32, 33, 34, 35, 2, 3, 63, 64, 65] rfl (by decide +kernel)
set_option maxRecDepth 20000 in
theorem gX11_init_Jx4a65c_init_da8c8 : GoodIn wsX11_init (wsJx4a65c_init_da8c8) := ggX11_init_Jx4a65c_init_da8c8
set_option maxRecDepth 20000 in
theorem ggX11_init_X1_init : GoodIn wsX11_init wsX1_init := goodIn_r _ [37, 38, 2, 3, 12, 39, 40, 41, 42, 43, 44, 45, 46, 47, 48, 49, 50, 51, 52, 53, 66, 67, 68, 69, 70, 71, 72, 73] rfl (by decide +kernel)
set_option maxRecDepth 20000 in
theorem gX11_init_X1_init_n49 : GoodIn wsX11_init (wsX1_init) := ggX11_init_X1_init
set_option maxRecDepth 20000 in
theorem ggX11_add_X11_askedTriple : GoodIn wsX11_add wsX11_askedTriple := goodIn_ca (goodIn_r _ [7, 8, 9, 10, 11, 6, 12, 13, 14, 15] rfl (by decide +kernel)) (goodIn_sub (fun _ h => List.mem_cons_of_mem _ (List.mem_append_left _ (List.mem_append_right _ h))) (by decide +kernel))
set_option maxRecDepth 20000 in
theorem gX11_add_X11_askedTriple : GoodIn wsX11_add (va_wsS RX11 50 yX11_askedTriple wsX11_askedTriple) := goodIn_app (goodIn_of _ (by decide +kernel)) ggX11_add_X11_askedTriple
set_option maxRecDepth 20000 in
theorem ggX11_add_X1_has : GoodIn wsX11_add wsX1_has := goodIn_ca (goodIn_r _ [20, 21, 14, 6, 15, 52, 53, 54, 55, 56] rfl (by decide +kernel)) (goodIn_sub (fun _ h => List.mem_cons_of_mem _ (List.mem_append_right _ h)) (by decide +kernel))
set_option maxRecDepth 20000 in
theorem gX11_add_X1_has : GoodIn wsX11_add (wsV RX11 54 RX1 yX1_has wsX1_has) := goodIn_app (goodIn_of _ (by decide +kernel)) ggX11_add_X1_has
set_option maxRecDepth 20000 in
theorem ggX11_add_X11_total : GoodIn wsX11_add wsX11_total := goodIn_r _ [25, 3, 26, 43, 44, 45, 46, 47, 48, 49, 50, 51, 52, 53, 54, 55, 56] rfl (by decide +kernel)
set_option maxRecDepth 20000 in
theorem gX11_add_X11_total : GoodIn wsX11_add (wsV RX11 58 RX11 yX11_total wsX11_total) := goodIn_app (goodIn_of _ (by decide +kernel)) ggX11_add_X11_total
set_option maxRecDepth 20000 in
theorem ggX11_add_X11_put : GoodIn wsX11_add wsX11_put := goodIn_ca (goodIn_r _ [30, 3, 31, 32, 33, 19, 34, 21, 35, 36, 14, 6, 15, 37, 38, 39, 40, 41, 42, 43, 44, 45, 46, 47, 48, 49, 50, 51, 52, 53, 54, 55, 56] rfl (by decide +kernel)) (goodIn_sub (fun _ h => List.mem_cons_of_mem _ (List.mem_append_right _ h)) (by decide +kernel))
set_option maxRecDepth 20000 in
theorem gX11_add_X11_put : GoodIn wsX11_add (wsV RX11 65 RX11 yX11_put wsX11_put) := goodIn_app (goodIn_of _ (by decide +kernel)) ggX11_add_X11_put
set_option maxRecDepth 20000 in
theorem ggX11_remove_X11_askedTriple : GoodIn wsX11_remove wsX11_askedTriple := goodIn_ca (goodIn_r _ [5, 6, 7, 8, 9, 4, 10, 11, 12, 13] rfl (by decide +kernel)) (goodIn_sub (fun _ h => List.mem_cons_of_mem _ (List.mem_append_left _ (List.mem_append_right _ h))) (by decide +kernel))
set_option maxRecDepth 20000 in
theorem gX11_remove_X11_askedTriple : GoodIn wsX11_remove (va_wsS RX11 50 yX11_askedTriple wsX11_askedTriple) := goodIn_app (goodIn_of _ (by decide +kernel)) ggX11_remove_X11_askedTriple
set_option maxRecDepth 20000 in
theorem ggX11_remove_X1_has : GoodIn wsX11_remove wsX1_has := goodIn_ca (goodIn_r _ [18, 19, 12, 4, 13, 45, 46, 47, 48, 49] rfl (by decide +kernel)) (goodIn_sub (fun _ h => List.mem_cons_of_mem _ (List.mem_append_right _ h)) (by decide +kernel))
set_option maxRecDepth 20000 in
theorem gX11_remove_X1_has : GoodIn wsX11_remove (wsV RX11 54 RX1 yX1_has wsX1_has) := goodIn_app (goodIn_of _ (by decide +kernel)) ggX11_remove_X1_has
set_option maxRecDepth 20000 in
theorem ggX11_size_X11_isBelow : GoodIn wsX11_size wsX11_isBelow := goodIn_r _ [8] rfl (by decide +kernel)
set_option maxRecDepth 20000 in
theorem gX11_size_X11_isBelow : GoodIn wsX11_size (va_wsS RX11 72 yX11_isBelow wsX11_isBelow) := goodIn_app (goodIn_of _ (by decide +kernel)) ggX11_size_X11_isBelow
set_option maxRecDepth 20000 in
theorem ggX11_addRule_X11_isRule : GoodIn wsX11_addRule wsX11_isRule := goodIn_r _ [12, 13, 14, 11, 15] rfl (by decide +kernel)
set_option maxRecDepth 20000 in
theorem gX11_addRule_X11_isRule : GoodIn wsX11_addRule (va_wsS RX11 82 yX11_isRule wsX11_isRule) := goodIn_app (goodIn_of _ (by decide +kernel)) ggX11_addRule_X11_isRule
set_option maxRecDepth 20000 in
theorem ggX11_addRule_Jx4a65c_size_8abf5 : GoodIn wsX11_addRule wsJx4a65c_size_8abf5 := goodIn_r _ [20, 21, 111, 112, 113] rfl (by decide +kernel)
set_option maxRecDepth 20000 in
theorem gX11_addRule_Jx4a65c_size_8abf5 : GoodIn wsX11_addRule (wsV RX11 86 RJx4a65c yJx4a65c_size_8abf5 wsJx4a65c_size_8abf5) := goodIn_app (goodIn_of _ (by decide +kernel)) ggX11_addRule_Jx4a65c_size_8abf5
set_option maxRecDepth 20000 in
theorem ggX11_addRule_X8_init : GoodIn wsX11_addRule wsX8_init := goodIn_r _ [24, 25, 26, 27, 28, 29, 30, 31, 107, 108, 109, 110] rfl (by decide +kernel)
set_option maxRecDepth 20000 in
theorem gX11_addRule_X8_init : GoodIn wsX11_addRule (wsX8_init) := ggX11_addRule_X8_init
set_option maxRecDepth 20000 in
theorem ggX11_addRule_Jx4a65c_add_9ea2d : GoodIn wsX11_addRule wsJx4a65c_add_9ea2d := goodIn_r _ [35, 36, 37, 38, 21, 39, 40, 41, 19, 42, 43, 44, 45, 46, 47, 48, 49, 50, 51, 52, 53, 54, 55, 56, 57, 58, 59, 60, 61, 62, 63, 64, 65, 66, 67, 68, 69, 70, 71, 72, 73, 74, 75, 76, 77, 78, 79, 80, 81, 82, 83, 84, 85, 111, 112, 113] rfl (by decide +kernel)
set_option maxRecDepth 20000 in
theorem gX11_addRule_Jx4a65c_add_9ea2d : GoodIn wsX11_addRule (wsV RX11 94 RJx4a65c yJx4a65c_add_9ea2d wsJx4a65c_add_9ea2d) := goodIn_app (goodIn_of _ (by decide +kernel)) ggX11_addRule_Jx4a65c_add_9ea2d
set_option maxRecDepth 20000 in
theorem ggX11_addRule_X11_openGraphs : GoodIn wsX11_addRule wsX11_openGraphs := goodIn_r _ [89, 90, 91, 92, 93, 94, 11, 95, 96, 97, 98, 99, 100, 101, 102, 103, 104, 105, 106, 114, 115, 116, 117, 118] rfl (by decide +kernel)
set_option maxRecDepth 20000 in
theorem gX11_addRule_X11_openGraphs : GoodIn wsX11_addRule (wsV RX11 98 RX11 yX11_openGraphs wsX11_openGraphs) := goodIn_app (goodIn_of _ (by decide +kernel)) ggX11_addRule_X11_openGraphs
set_option maxRecDepth 20000 in
theorem ggX11_clearRules_Jx4a65c_size_8abf5 : GoodIn wsX11_clearRules wsJx4a65c_size_8abf5 := goodIn_r _ [6, 7, 37, 38, 39] rfl (by decide +kernel)
set_option maxRecDepth 20000 in
theorem gX11_clearRules_Jx4a65c_size_8abf5 : GoodIn wsX11_clearRules (wsV RX11 86 RJx4a65c yJx4a65c_size_8abf5 wsJx4a65c_size_8abf5) := goodIn_app (goodIn_of _ (by decide +kernel)) ggX11_clearRules_Jx4a65c_size_8abf5
set_option maxRecDepth 20000 in
theorem ggX11_clearRules_Jx4a65c_clear_da8c8 : GoodIn wsX11_clearRules wsJx4a65c_clear_da8c8 := goodIn_r _ [11, 12, 13, 14, 7, 37, 38, 39] rfl (by decide +kernel)
set_option maxRecDepth 20000 in
theorem gX11_clearRules_Jx4a65c_clear_da8c8 : GoodIn wsX11_clearRules (wsV RX11 101 RJx4a65c yJx4a65c_clear_da8c8 wsJx4a65c_clear_da8c8) := goodIn_app (goodIn_of _ (by decide +kernel)) ggX11_clearRules_Jx4a65c_clear_da8c8
set_option maxRecDepth 20000 in
theorem ggX11_clearRules_X11_openGraphs : GoodIn wsX11_clearRules wsX11_openGraphs := goodIn_r _ [19, 20, 21, 22, 23, 24, 18, 25, 26, 27, 28, 29, 30, 31, 32, 33, 34, 35, 36, 40, 41, 42, 43, 44] rfl (by decide +kernel)
set_option maxRecDepth 20000 in
theorem gX11_clearRules_X11_openGraphs : GoodIn wsX11_clearRules (wsV RX11 98 RX11 yX11_openGraphs wsX11_openGraphs) := goodIn_app (goodIn_of _ (by decide +kernel)) ggX11_clearRules_X11_openGraphs
set_option maxRecDepth 20000 in
theorem ggX11_entails_X11_askedTriple : GoodIn wsX11_entails wsX11_askedTriple := goodIn_ca (goodIn_r _ [5, 6, 7, 8, 9, 4, 10, 11, 12, 13] rfl (by decide +kernel)) (goodIn_sub (fun _ h => List.mem_cons_of_mem _ (List.mem_append_left _ (List.mem_append_right _ h))) (by decide +kernel))
set_option maxRecDepth 20000 in
theorem gX11_entails_X11_askedTriple : GoodIn wsX11_entails (va_wsS RX11 50 yX11_askedTriple wsX11_askedTriple) := goodIn_app (goodIn_of _ (by decide +kernel)) ggX11_entails_X11_askedTriple
set_option maxRecDepth 20000 in
theorem ggX11_entails_X11_closed : GoodIn wsX11_entails wsX11_closed := goodIn_ca (goodIn_r _ [17, 18, 19, 20, 21, 22, 23, 24, 25, 26, 27, 28, 29, 30, 31, 32, 33, 34, 35, 36, 37, 38, 39, 40, 41, 42, 43, 44, 45, 46, 47, 48, 49, 50, 51, 52, 53, 54, 55, 56, 57, 58, 59, 60, 61, 62, 63, 64, 65, 66, 67, 68, 69, 70, 71, 72, 4, 73, 74, 75, 76, 77, 12, 13, 78, 79, 80, 81, 9, 10, 82, 83, 84, 85, 86, 87, 88, 89, 90, 91, 92, 93, 94, 95, 96, 97, 98, 99, 100, 101, 102, 103, 104, 105, 106, 107, 108, 109, 110, 111, 112, 113, 120, 121, 122, 123, 124, 125, 126, 127, 128, 115, 116, 117, 118, 119, 129, 130, 131, 132, 133, 134, 135, 136, 137, 138] rfl (by decide +kernel)) (goodIn_sub (fun _ h => List.mem_cons_of_mem _ (List.mem_append_right _ h)) (by decide +kernel))
set_option maxRecDepth 20000 in
theorem gX11_entails_X11_closed : GoodIn wsX11_entails (wsV RX11 104 RX11 yX11_closed wsX11_closed) := goodIn_app (goodIn_of _ (by decide +kernel)) ggX11_entails_X11_closed
set_option maxRecDepth 20000 in
theorem ggX11_entails_X5_has : GoodIn wsX11_entails wsX5_has := goodIn_ca (goodIn_r _ [77, 34, 12, 4, 13, 129, 130, 131] rfl (by decide +kernel)) (goodIn_sub (fun _ h => List.mem_cons_of_mem _ (List.mem_append_right _ h)) (by decide +kernel))
set_option maxRecDepth 20000 in
theorem gX11_entails_X5_has : GoodIn wsX11_entails (wsV RX11 112 RX5 yX5_has wsX5_has) := goodIn_app (goodIn_of _ (by decide +kernel)) ggX11_entails_X5_has
set_option maxRecDepth 20000 in
theorem ggX11_leastProof_X11_askedTriple : GoodIn wsX11_leastProof wsX11_askedTriple := goodIn_ca (goodIn_r _ [7, 8, 9, 10, 11, 6, 12, 13, 14, 15] rfl (by decide +kernel)) (goodIn_sub (fun _ h => List.mem_cons_of_mem _ (List.mem_append_left _ (List.mem_append_right _ h))) (by decide +kernel))
set_option maxRecDepth 20000 in
theorem gX11_leastProof_X11_askedTriple : GoodIn wsX11_leastProof (va_wsS RX11 50 yX11_askedTriple wsX11_askedTriple) := goodIn_app (goodIn_of _ (by decide +kernel)) ggX11_leastProof_X11_askedTriple
set_option maxRecDepth 20000 in
theorem ggX11_leastProof_X11_closed : GoodIn wsX11_leastProof wsX11_closed := goodIn_ca (goodIn_r _ [19, 20, 21, 22, 23, 24, 25, 26, 27, 28, 29, 30, 31, 32, 33, 34, 35, 36, 37, 38, 39, 40, 41, 42, 43, 44, 45, 46, 47, 48, 49, 50, 51, 52, 53, 54, 55, 56, 57, 58, 59, 60, 61, 62, 63, 64, 65, 66, 67, 68, 69, 70, 71, 72, 73, 74, 6, 75, 76, 77, 78, 79, 14, 15, 80, 81, 82, 83, 11, 12, 84, 85, 86, 87, 88, 89, 90, 91, 92, 93, 94, 95, 96, 97, 98, 99, 100, 101, 102, 103, 104, 105, 106, 107, 108, 109, 110, 111, 112, 113, 114, 115, 131, 132, 133, 134, 135, 136, 137, 138, 139, 126, 127, 128, 129, 130, 140, 141, 142, 143, 144, 145, 146, 147, 148, 149] rfl (by decide +kernel)) (goodIn_sub (fun _ h => List.mem_cons_of_mem _ (List.mem_append_right _ h)) (by decide +kernel))
set_option maxRecDepth 20000 in
theorem gX11_leastProof_X11_closed : GoodIn wsX11_leastProof (wsV RX11 104 RX11 yX11_closed wsX11_closed) := goodIn_app (goodIn_of _ (by decide +kernel)) ggX11_leastProof_X11_closed
set_option maxRecDepth 20000 in
theorem ggX11_leastProof_X5_has : GoodIn wsX11_leastProof wsX5_has := goodIn_ca (goodIn_r _ [79, 36, 14, 6, 15, 140, 141, 142] rfl (by decide +kernel)) (goodIn_sub (fun _ h => List.mem_cons_of_mem _ (List.mem_append_right _ h)) (by decide +kernel))
set_option maxRecDepth 20000 in
theorem gX11_leastProof_X5_has : GoodIn wsX11_leastProof (wsV RX11 112 RX5 yX5_has wsX5_has) := goodIn_app (goodIn_of _ (by decide +kernel)) ggX11_leastProof_X5_has
set_option maxRecDepth 20000 in
theorem ggX11_entailed_X11_isBelow : GoodIn wsX11_entailed wsX11_isBelow := goodIn_r _ [7] rfl (by decide +kernel)
set_option maxRecDepth 20000 in
theorem gX11_entailed_X11_isBelow : GoodIn wsX11_entailed (va_wsS RX11 72 yX11_isBelow wsX11_isBelow) := goodIn_app (goodIn_of _ (by decide +kernel)) ggX11_entailed_X11_isBelow
set_option maxRecDepth 20000 in
theorem ggX11_entailed_X11_closed : GoodIn wsX11_entailed wsX11_closed := goodIn_ca (goodIn_r _ [11, 12, 13, 14, 15, 16, 17, 18, 19, 20, 21, 22, 23, 24, 25, 26, 27, 28, 29, 30, 31, 32, 33, 34, 35, 36, 37, 38, 39, 40, 41, 42, 43, 44, 45, 46, 47, 48, 49, 50, 51, 52, 53, 54, 55, 56, 57, 58, 59, 60, 61, 62, 63, 64, 65, 66, 6, 67, 68, 69, 70, 71, 5, 7, 72, 73, 74, 75, 76, 77, 78, 79, 80, 81, 82, 83, 84, 85, 86, 87, 88, 89, 90, 91, 92, 93, 94, 95, 96, 97, 98, 99, 100, 101, 102, 103, 104, 105, 106, 107, 108, 109, 120, 121, 122, 123, 124, 125, 126, 127, 128, 115, 116, 117, 118, 119, 129, 130, 131, 132, 133, 134, 135, 136, 137, 138] rfl (by decide +kernel)) (goodIn_sub (fun _ h => List.mem_cons_of_mem _ (List.mem_append_right _ h)) (by decide +kernel))
set_option maxRecDepth 20000 in
theorem gX11_entailed_X11_closed : GoodIn wsX11_entailed (wsV RX11 104 RX11 yX11_closed wsX11_closed) := goodIn_app (goodIn_of _ (by decide +kernel)) ggX11_entailed_X11_closed
set_option maxRecDepth 20000 in
theorem ggX11_entailed_X5_count : GoodIn wsX11_entailed wsX5_count := goodIn_ca (goodIn_r _ [113, 114, 69, 70, 26, 71, 28, 5, 6, 7, 129, 130, 131] rfl (by decide +kernel)) (goodIn_sub (fun _ h => List.mem_cons_of_mem _ (List.mem_append_right _ h)) (by decide +kernel))
set_option maxRecDepth 20000 in
theorem gX11_entailed_X5_count : GoodIn wsX11_entailed (wsV RX11 122 RX5 yX5_count wsX5_count) := goodIn_app (goodIn_of _ (by decide +kernel)) ggX11_entailed_X5_count
set_option maxRecDepth 20000 in
theorem ggX11_setEntailed_X11_forgetRows : GoodIn wsX11_setEntailed wsX11_forgetRows := goodIn_r _ [8, 9, 10, 11, 12, 13, 14, 15, 16, 17, 18, 19] rfl (by decide +kernel)
set_option maxRecDepth 20000 in
theorem gX11_setEntailed_X11_forgetRows : GoodIn wsX11_setEntailed (wsV RX11 127 RX11 yX11_forgetRows wsX11_forgetRows) := goodIn_app (goodIn_of _ (by decide +kernel)) ggX11_setEntailed_X11_forgetRows
set_option maxRecDepth 20000 in
theorem ggX11_pattern_X11_isBelow : GoodIn wsX11_pattern wsX11_isBelow := goodIn_r _ [10] rfl (by decide +kernel)
set_option maxRecDepth 20000 in
theorem gX11_pattern_X11_isBelow : GoodIn wsX11_pattern (va_wsS RX11 72 yX11_isBelow wsX11_isBelow) := goodIn_app (goodIn_of _ (by decide +kernel)) ggX11_pattern_X11_isBelow
set_option maxRecDepth 20000 in
theorem ggX11_pattern_X11_arePlaces : GoodIn wsX11_pattern wsX11_arePlaces := goodIn_r _ [13, 14, 15, 9, 16, 7, 8, 10] rfl (by decide +kernel)
set_option maxRecDepth 20000 in
theorem gX11_pattern_X11_arePlaces : GoodIn wsX11_pattern (va_wsS RX11 130 yX11_arePlaces wsX11_arePlaces) := goodIn_app (goodIn_of _ (by decide +kernel)) ggX11_pattern_X11_arePlaces
set_option maxRecDepth 20000 in
theorem ggX11_pattern_X11_needRoomForQuery : GoodIn wsX11_pattern wsX11_needRoomForQuery := goodIn_ca (goodIn_r _ [20, 21, 22, 23, 24, 25, 26, 27, 28, 29, 110, 111, 112, 113, 114, 115, 116, 117, 118, 119, 120, 121] rfl (by decide +kernel)) (goodIn_sub (fun _ h => List.mem_cons_of_mem _ (List.mem_append_right _ h)) (by decide +kernel))
set_option maxRecDepth 20000 in
theorem gX11_pattern_X11_needRoomForQuery : GoodIn wsX11_pattern (wsV RX11 134 RX11 yX11_needRoomForQuery wsX11_needRoomForQuery) := goodIn_app (goodIn_of _ (by decide +kernel)) ggX11_pattern_X11_needRoomForQuery
set_option maxRecDepth 20000 in
theorem ggX11_pattern_X4_init : GoodIn wsX11_pattern wsX4_init := goodIn_r _ [32, 33, 34, 35, 36, 37, 38, 39, 40, 41, 42, 43, 44, 45, 104, 105, 106, 107, 108, 109, 122, 123, 124, 125, 126, 127, 128, 129, 130, 131, 132, 133, 134, 135, 136, 137, 138, 139, 140, 141, 142, 143, 144] rfl (by decide +kernel)
set_option maxRecDepth 20000 in
theorem gX11_pattern_X4_init : GoodIn wsX11_pattern (wsX4_init) := ggX11_pattern_X4_init
set_option maxRecDepth 20000 in
theorem ggX11_pattern_X11_numbered : GoodIn wsX11_pattern wsX11_numbered := goodIn_r _ [49, 23, 50, 51, 52, 27, 53, 54, 55, 56, 29, 57, 58, 59, 60, 61, 62, 63, 64, 65, 66, 67, 68, 69, 70, 71, 72, 73, 74, 75, 76, 77, 78, 79, 80, 81, 82, 83, 84, 85, 86, 87, 88, 89, 90, 91, 92, 93, 94, 95, 96, 97, 98, 99, 100, 101, 102, 103, 24, 25, 26, 28, 110, 111, 112, 113, 114, 115, 116, 117, 118, 119, 120, 121] rfl (by decide +kernel)
set_option maxRecDepth 20000 in
theorem gX11_pattern_X11_numbered : GoodIn wsX11_pattern (wsV RX11 142 RX11 yX11_numbered wsX11_numbered) := goodIn_app (goodIn_of _ (by decide +kernel)) ggX11_pattern_X11_numbered
set_option maxRecDepth 20000 in
theorem ggX11_path_X11_isBelow : GoodIn wsX11_path wsX11_isBelow := goodIn_r _ [10] rfl (by decide +kernel)
set_option maxRecDepth 20000 in
theorem gX11_path_X11_isBelow : GoodIn wsX11_path (va_wsS RX11 72 yX11_isBelow wsX11_isBelow) := goodIn_app (goodIn_of _ (by decide +kernel)) ggX11_path_X11_isBelow
set_option maxRecDepth 20000 in
theorem ggX11_path_X11_arePlaces : GoodIn wsX11_path wsX11_arePlaces := goodIn_r _ [13, 14, 15, 9, 16, 7, 8, 10] rfl (by decide +kernel)
set_option maxRecDepth 20000 in
theorem gX11_path_X11_arePlaces : GoodIn wsX11_path (va_wsS RX11 130 yX11_arePlaces wsX11_arePlaces) := goodIn_app (goodIn_of _ (by decide +kernel)) ggX11_path_X11_arePlaces
set_option maxRecDepth 20000 in
theorem ggX11_path_X11_needRoomForQuery : GoodIn wsX11_path wsX11_needRoomForQuery := goodIn_ca (goodIn_r _ [20, 21, 22, 23, 24, 25, 26, 27, 28, 29, 114, 115, 116, 117, 118, 119, 120, 121, 122, 123, 124, 125] rfl (by decide +kernel)) (goodIn_sub (fun _ h => List.mem_cons_of_mem _ (List.mem_append_right _ h)) (by decide +kernel))
set_option maxRecDepth 20000 in
theorem gX11_path_X11_needRoomForQuery : GoodIn wsX11_path (wsV RX11 134 RX11 yX11_needRoomForQuery wsX11_needRoomForQuery) := goodIn_app (goodIn_of _ (by decide +kernel)) ggX11_path_X11_needRoomForQuery
set_option maxRecDepth 20000 in
theorem ggX11_path_X3_init : GoodIn wsX11_path wsX3_init := goodIn_r _ [32, 33, 34, 35, 36, 37, 38, 39, 40, 41, 42, 43, 44, 45, 46, 47, 106, 107, 108, 109, 110, 111, 112, 113, 126, 127, 128, 129, 130, 131, 132, 133, 134, 135, 136, 137, 138, 139, 140, 141, 142, 143, 144, 145, 146] rfl (by decide +kernel)
set_option maxRecDepth 20000 in
theorem gX11_path_X3_init : GoodIn wsX11_path (wsX3_init) := ggX11_path_X3_init
set_option maxRecDepth 20000 in
theorem ggX11_path_X11_numbered : GoodIn wsX11_path wsX11_numbered := goodIn_r _ [51, 23, 52, 53, 54, 27, 55, 56, 57, 58, 29, 59, 60, 61, 62, 63, 64, 65, 66, 67, 68, 69, 70, 71, 72, 73, 74, 75, 76, 77, 78, 79, 80, 81, 82, 83, 84, 85, 86, 87, 88, 89, 90, 91, 92, 93, 94, 95, 96, 97, 98, 99, 100, 101, 102, 103, 104, 105, 24, 25, 26, 28, 114, 115, 116, 117, 118, 119, 120, 121, 122, 123, 124, 125] rfl (by decide +kernel)
set_option maxRecDepth 20000 in
theorem gX11_path_X11_numbered : GoodIn wsX11_path (wsV RX11 142 RX11 yX11_numbered wsX11_numbered) := goodIn_app (goodIn_of _ (by decide +kernel)) ggX11_path_X11_numbered
set_option maxRecDepth 20000 in
theorem ggX11_both_X11_askedQuery : GoodIn wsX11_both wsX11_askedQuery := goodIn_ca (goodIn_r _ [11, 12, 13, 14, 15, 16, 17, 18, 19, 20, 21, 22, 23, 10, 24, 25, 26, 27, 28, 29, 30, 31, 32, 33, 34, 35, 36, 37, 38, 39, 40, 41, 127, 128, 129, 130, 131, 132, 133, 134, 135, 136, 137, 138] rfl (by decide +kernel)) (goodIn_sub (fun _ h => List.mem_cons_of_mem _ (List.mem_append_left _ (List.mem_append_right _ h))) (by decide +kernel))
set_option maxRecDepth 20000 in
theorem gX11_both_X11_askedQuery : GoodIn wsX11_both (wsV RX11 151 RX11 yX11_askedQuery wsX11_askedQuery) := goodIn_app (goodIn_of _ (by decide +kernel)) ggX11_both_X11_askedQuery
set_option maxRecDepth 20000 in
theorem ggX11_both_X11_needRoomForQuery : GoodIn wsX11_both wsX11_needRoomForQuery := goodIn_ca (goodIn_r _ [45, 46, 47, 14, 16, 17, 18, 19, 20, 21, 127, 128, 129, 130, 131, 132, 133, 134, 135, 136, 137, 138] rfl (by decide +kernel)) (goodIn_sub (fun _ h => List.mem_cons_of_mem _ (List.mem_append_right _ h)) (by decide +kernel))
set_option maxRecDepth 20000 in
theorem gX11_both_X11_needRoomForQuery : GoodIn wsX11_both (wsV RX11 134 RX11 yX11_needRoomForQuery wsX11_needRoomForQuery) := goodIn_app (goodIn_of _ (by decide +kernel)) ggX11_both_X11_needRoomForQuery
set_option maxRecDepth 20000 in
theorem ggX11_both_X11_numbered : GoodIn wsX11_both wsX11_numbered := goodIn_r _ [67, 14, 68, 69, 70, 19, 71, 72, 73, 41, 21, 74, 75, 76, 77, 78, 79, 80, 81, 82, 83, 84, 85, 86, 87, 88, 89, 90, 91, 92, 93, 94, 95, 96, 97, 98, 99, 100, 101, 102, 103, 104, 105, 106, 107, 108, 109, 110, 111, 112, 113, 114, 115, 116, 117, 118, 119, 120, 16, 17, 18, 20, 127, 128, 129, 130, 131, 132, 133, 134, 135, 136, 137, 138] rfl (by decide +kernel)
set_option maxRecDepth 20000 in
theorem gX11_both_X11_numbered : GoodIn wsX11_both (wsV RX11 142 RX11 yX11_numbered wsX11_numbered) := goodIn_app (goodIn_of _ (by decide +kernel)) ggX11_both_X11_numbered
set_option maxRecDepth 20000 in
theorem ggX11_filter_X11_askedQuery : GoodIn wsX11_filter wsX11_askedQuery := goodIn_ca (goodIn_r _ [10, 11, 12, 13, 14, 15, 16, 17, 18, 19, 20, 21, 22, 9, 23, 24, 25, 26, 27, 28, 29, 30, 31, 32, 33, 34, 35, 36, 37, 38, 39, 40, 132, 133, 134, 135, 136, 137, 138, 139, 140, 141, 142, 143] rfl (by decide +kernel)) (goodIn_sub (fun _ h => List.mem_cons_of_mem _ (List.mem_append_left _ (List.mem_append_right _ h))) (by decide +kernel))
set_option maxRecDepth 20000 in
theorem gX11_filter_X11_askedQuery : GoodIn wsX11_filter (wsV RX11 151 RX11 yX11_askedQuery wsX11_askedQuery) := goodIn_app (goodIn_of _ (by decide +kernel)) ggX11_filter_X11_askedQuery
set_option maxRecDepth 20000 in
theorem ggX11_filter_X11_needRoomForQuery : GoodIn wsX11_filter wsX11_needRoomForQuery := goodIn_ca (goodIn_r _ [50, 51, 52, 13, 15, 16, 17, 18, 19, 20, 132, 133, 134, 135, 136, 137, 138, 139, 140, 141, 142, 143] rfl (by decide +kernel)) (goodIn_sub (fun _ h => List.mem_cons_of_mem _ (List.mem_append_right _ h)) (by decide +kernel))
set_option maxRecDepth 20000 in
theorem gX11_filter_X11_needRoomForQuery : GoodIn wsX11_filter (wsV RX11 134 RX11 yX11_needRoomForQuery wsX11_needRoomForQuery) := goodIn_app (goodIn_of _ (by decide +kernel)) ggX11_filter_X11_needRoomForQuery
set_option maxRecDepth 20000 in
theorem ggX11_filter_X11_numbered : GoodIn wsX11_filter wsX11_numbered := goodIn_r _ [72, 13, 73, 74, 75, 18, 76, 77, 78, 40, 20, 79, 80, 81, 82, 83, 84, 85, 86, 87, 88, 89, 90, 91, 92, 93, 94, 95, 96, 97, 98, 99, 100, 101, 102, 103, 104, 105, 106, 107, 108, 109, 110, 111, 112, 113, 114, 115, 116, 117, 118, 119, 120, 121, 122, 123, 124, 125, 15, 16, 17, 19, 132, 133, 134, 135, 136, 137, 138, 139, 140, 141, 142, 143] rfl (by decide +kernel)
set_option maxRecDepth 20000 in
theorem gX11_filter_X11_numbered : GoodIn wsX11_filter (wsV RX11 142 RX11 yX11_numbered wsX11_numbered) := goodIn_app (goodIn_of _ (by decide +kernel)) ggX11_filter_X11_numbered
set_option maxRecDepth 20000 in
theorem ggX11_single_X11_askedQuery : GoodIn wsX11_single wsX11_askedQuery := goodIn_ca (goodIn_r _ [8, 9, 10, 11, 12, 13, 14, 15, 16, 17, 18, 19, 20, 7, 21, 22, 23, 24, 25, 26, 27, 28, 29, 30, 31, 32, 33, 34, 35, 36, 37, 38, 118, 119, 120, 121, 122, 123, 124, 125, 126, 127, 128, 129] rfl (by decide +kernel)) (goodIn_sub (fun _ h => List.mem_cons_of_mem _ (List.mem_append_left _ (List.mem_append_right _ h))) (by decide +kernel))
set_option maxRecDepth 20000 in
theorem gX11_single_X11_askedQuery : GoodIn wsX11_single (wsV RX11 151 RX11 yX11_askedQuery wsX11_askedQuery) := goodIn_app (goodIn_of _ (by decide +kernel)) ggX11_single_X11_askedQuery
set_option maxRecDepth 20000 in
theorem ggX11_single_X11_needRoomForQuery : GoodIn wsX11_single wsX11_needRoomForQuery := goodIn_ca (goodIn_r _ [42, 43, 44, 11, 13, 14, 15, 16, 17, 18, 118, 119, 120, 121, 122, 123, 124, 125, 126, 127, 128, 129] rfl (by decide +kernel)) (goodIn_sub (fun _ h => List.mem_cons_of_mem _ (List.mem_append_right _ h)) (by decide +kernel))
set_option maxRecDepth 20000 in
theorem gX11_single_X11_needRoomForQuery : GoodIn wsX11_single (wsV RX11 134 RX11 yX11_needRoomForQuery wsX11_needRoomForQuery) := goodIn_app (goodIn_of _ (by decide +kernel)) ggX11_single_X11_needRoomForQuery
set_option maxRecDepth 20000 in
theorem ggX11_single_X11_numbered : GoodIn wsX11_single wsX11_numbered := goodIn_r _ [61, 11, 62, 63, 64, 16, 65, 66, 67, 38, 18, 68, 69, 70, 71, 72, 73, 74, 75, 76, 77, 78, 79, 80, 81, 82, 83, 84, 85, 86, 87, 88, 89, 90, 91, 92, 93, 94, 95, 96, 97, 98, 99, 100, 101, 102, 103, 104, 105, 106, 107, 108, 109, 110, 111, 112, 113, 114, 13, 14, 15, 17, 118, 119, 120, 121, 122, 123, 124, 125, 126, 127, 128, 129] rfl (by decide +kernel)
set_option maxRecDepth 20000 in
theorem gX11_single_X11_numbered : GoodIn wsX11_single (wsV RX11 142 RX11 yX11_numbered wsX11_numbered) := goodIn_app (goodIn_of _ (by decide +kernel)) ggX11_single_X11_numbered
set_option maxRecDepth 20000 in
theorem ggX11_rows_X11_askedQuery : GoodIn wsX11_rows wsX11_askedQuery := goodIn_ca (goodIn_r _ [6, 7, 8, 9, 10, 11, 12, 13, 14, 15, 16, 17, 18, 5, 19, 20, 21, 22, 23, 24, 25, 26, 27, 28, 29, 30, 31, 32, 33, 34, 35, 36, 310, 311, 312, 313, 314, 315, 316, 317, 318, 319, 320, 321] rfl (by decide +kernel)) (goodIn_sub (fun _ h => List.mem_cons_of_mem _ (List.mem_append_left _ (List.mem_append_right _ h))) (by decide +kernel))
set_option maxRecDepth 20000 in
theorem gX11_rows_X11_askedQuery : GoodIn wsX11_rows (wsV RX11 151 RX11 yX11_askedQuery wsX11_askedQuery) := goodIn_app (goodIn_of _ (by decide +kernel)) ggX11_rows_X11_askedQuery
set_option maxRecDepth 20000 in
theorem ggX11_rows_X11_reckonTo : GoodIn wsX11_rows wsX11_reckonTo := goodIn_ca (goodIn_r _ [40, 41, 9, 10, 42, 43, 44, 5, 45, 46, 47, 48, 49, 50, 51, 52, 53, 54, 55, 56, 57, 58, 59, 60, 61, 62, 63, 64, 65, 66, 67, 68, 69, 12, 13, 14, 15, 16, 70, 21, 22, 23, 24, 25, 26, 27, 28, 29, 30, 31, 32, 33, 34, 35, 36, 71, 72, 73, 74, 75, 76, 77, 78, 79, 80, 81, 82, 83, 84, 85, 18, 19, 86, 87, 88, 89, 90, 91, 92, 93, 94, 95, 96, 97, 98, 99, 100, 101, 102, 103, 104, 105, 106, 107, 108, 109, 110, 111, 112, 113, 114, 115, 116, 117, 118, 119, 120, 121, 122, 123, 11, 20, 124, 125, 126, 127, 128, 129, 130, 131, 132, 133, 134, 135, 136, 137, 138, 139, 140, 141, 142, 143, 144, 145, 146, 147, 148, 149, 150, 151, 152, 153, 154, 155, 156, 157, 158, 159, 160, 161, 162, 163, 164, 165, 166, 167, 168, 169, 170, 171, 172, 173, 174, 175, 176, 177, 178, 179, 180, 181, 182, 183, 184, 185, 186, 187, 188, 189, 190, 191, 192, 193, 194, 195, 196, 197, 198, 199, 200, 201, 202, 203, 204, 205, 206, 207, 208, 209, 210, 211, 212, 213, 214, 215, 216, 217, 218, 219, 220, 221, 222, 223, 224, 225, 226, 227, 228, 229, 230, 231, 232, 233, 234, 235, 236, 237, 238, 239, 240, 241, 242, 243, 244, 245, 246, 247, 248, 249, 250, 251, 252, 253, 254, 255, 256, 257, 258, 259, 260, 261, 262, 263, 264, 265, 266, 267, 268, 269, 270, 271, 272, 273, 274, 275, 276, 277, 310, 311, 312, 313, 314, 315, 316, 317, 318, 322, 323, 324, 325, 326, 327, 328, 329, 319, 320, 321, 330, 331, 332, 333, 281, 282, 283, 284, 285, 286, 287, 288, 289, 290, 291, 292, 293, 294, 295, 296, 297, 298, 299, 300, 301, 302, 303, 304, 305, 306, 307, 308, 309] rfl (by decide +kernel)) (goodIn_sub (fun _ h => List.mem_cons_of_mem _ (List.mem_append_right _ h)) (by decide +kernel))
set_option maxRecDepth 20000 in
theorem gX11_rows_X11_reckonTo : GoodIn wsX11_rows (wsV RX11 174 RX11 yX11_reckonTo wsX11_reckonTo) := goodIn_app (goodIn_of _ (by decide +kernel)) ggX11_rows_X11_reckonTo
set_option maxRecDepth 20000 in
theorem ggX11_rowsAnew_X11_askedQuery : GoodIn wsX11_rowsAnew wsX11_askedQuery := goodIn_ca (goodIn_r _ [6, 7, 8, 9, 10, 11, 12, 13, 14, 15, 16, 17, 18, 5, 19, 20, 21, 22, 23, 24, 25, 26, 27, 28, 29, 30, 31, 32, 33, 34, 35, 36, 297, 298, 299, 300, 301, 302, 303, 304, 305, 306, 307, 308] rfl (by decide +kernel)) (goodIn_sub (fun _ h => List.mem_cons_of_mem _ (List.mem_append_left _ (List.mem_append_right _ h))) (by decide +kernel))
set_option maxRecDepth 20000 in
theorem gX11_rowsAnew_X11_askedQuery : GoodIn wsX11_rowsAnew (wsV RX11 151 RX11 yX11_askedQuery wsX11_askedQuery) := goodIn_app (goodIn_of _ (by decide +kernel)) ggX11_rowsAnew_X11_askedQuery
set_option maxRecDepth 20000 in
theorem ggX11_rowsAnew_X11_tryTo : GoodIn wsX11_rowsAnew wsX11_tryTo := goodIn_ca (goodIn_r _ [40, 41, 9, 10, 42, 43, 44, 5, 45, 46, 47, 48, 49, 50, 51, 52, 53, 54, 55, 56, 57, 58, 59, 60, 61, 62, 63, 64, 65, 66, 67, 68, 69, 12, 13, 14, 15, 16, 70, 21, 22, 23, 24, 25, 26, 27, 28, 29, 30, 31, 32, 33, 34, 35, 36, 71, 72, 73, 74, 75, 76, 77, 78, 79, 80, 81, 82, 83, 84, 85, 18, 19, 86, 87, 88, 89, 90, 91, 92, 93, 94, 95, 96, 97, 98, 99, 100, 101, 102, 103, 104, 105, 106, 107, 108, 109, 110, 111, 112, 113, 114, 115, 116, 117, 118, 119, 120, 121, 122, 123, 11, 20, 124, 125, 126, 127, 128, 129, 130, 131, 132, 133, 134, 135, 136, 137, 138, 139, 140, 141, 142, 143, 144, 145, 146, 147, 148, 149, 150, 151, 152, 153, 154, 155, 156, 157, 158, 159, 160, 161, 162, 163, 164, 165, 166, 167, 168, 169, 170, 171, 172, 173, 174, 175, 176, 177, 178, 179, 180, 181, 182, 183, 184, 185, 186, 187, 188, 189, 190, 191, 192, 193, 194, 195, 196, 197, 198, 199, 200, 201, 202, 203, 204, 205, 206, 207, 208, 209, 210, 211, 212, 213, 214, 215, 216, 217, 218, 219, 220, 221, 222, 223, 224, 225, 226, 227, 228, 229, 230, 231, 232, 233, 234, 235, 236, 237, 238, 239, 240, 241, 242, 243, 244, 245, 246, 247, 248, 249, 250, 251, 252, 253, 254, 255, 256, 257, 258, 259, 260, 261, 262, 263, 264, 297, 298, 299, 300, 301, 302, 303, 304, 305, 309, 310, 311, 312, 313, 314, 315, 316, 306, 307, 308, 317, 318, 319, 320, 268, 269, 270, 271, 272, 273, 274, 275, 276, 277, 278, 279, 280, 281, 282, 283, 284, 285, 286, 287, 288, 289, 290, 291, 292, 293, 294, 295, 296] rfl (by decide +kernel)) (goodIn_sub (fun _ h => List.mem_cons_of_mem _ (List.mem_append_right _ h)) (by decide +kernel))
set_option maxRecDepth 20000 in
theorem gX11_rowsAnew_X11_tryTo : GoodIn wsX11_rowsAnew (wsV RX11 187 RX11 yX11_tryTo wsX11_tryTo) := goodIn_app (goodIn_of _ (by decide +kernel)) ggX11_rowsAnew_X11_tryTo
set_option maxRecDepth 20000 in
theorem ggX11_row_X11_askedQuery : GoodIn wsX11_row wsX11_askedQuery := goodIn_ca (goodIn_r _ [9, 10, 11, 12, 13, 14, 15, 16, 17, 18, 19, 20, 21, 8, 22, 23, 24, 25, 26, 27, 28, 29, 30, 31, 32, 33, 34, 35, 36, 37, 38, 39, 291, 292, 293, 294, 295, 296, 297, 298, 299, 300, 301, 302] rfl (by decide +kernel)) (goodIn_sub (fun _ h => List.mem_cons_of_mem _ (List.mem_append_left _ (List.mem_append_right _ h))) (by decide +kernel))
set_option maxRecDepth 20000 in
theorem gX11_row_X11_askedQuery : GoodIn wsX11_row (wsV RX11 151 RX11 yX11_askedQuery wsX11_askedQuery) := goodIn_app (goodIn_of _ (by decide +kernel)) ggX11_row_X11_askedQuery
set_option maxRecDepth 20000 in
theorem ggX11_row_X11_isBelow : GoodIn wsX11_row wsX11_isBelow := goodIn_r _ [22] rfl (by decide +kernel)
set_option maxRecDepth 20000 in
theorem gX11_row_X11_isBelow : GoodIn wsX11_row (va_wsS RX11 72 yX11_isBelow wsX11_isBelow) := goodIn_app (goodIn_of _ (by decide +kernel)) ggX11_row_X11_isBelow
set_option maxRecDepth 20000 in
theorem ggX11_row_X11_reckonTo : GoodIn wsX11_row wsX11_reckonTo := goodIn_ca (goodIn_r _ [43, 44, 12, 13, 45, 46, 47, 8, 48, 49, 50, 51, 52, 53, 54, 55, 56, 57, 58, 59, 60, 61, 62, 63, 64, 65, 66, 67, 68, 69, 70, 71, 72, 15, 16, 17, 18, 19, 73, 24, 25, 26, 27, 28, 29, 30, 31, 32, 33, 34, 35, 36, 37, 38, 39, 74, 75, 76, 77, 78, 79, 80, 81, 82, 83, 84, 85, 86, 87, 88, 21, 22, 89, 90, 91, 92, 93, 94, 95, 96, 97, 98, 99, 100, 101, 102, 103, 104, 105, 106, 107, 108, 109, 110, 111, 112, 113, 114, 115, 116, 117, 118, 119, 120, 121, 122, 123, 124, 125, 126, 14, 23, 127, 128, 129, 130, 131, 132, 133, 134, 135, 136, 137, 138, 139, 140, 141, 142, 143, 144, 145, 146, 147, 148, 149, 150, 151, 152, 153, 154, 155, 156, 157, 158, 159, 160, 161, 162, 163, 164, 165, 166, 167, 168, 169, 170, 171, 172, 173, 174, 175, 176, 177, 178, 179, 180, 181, 182, 183, 184, 185, 186, 187, 188, 189, 190, 191, 192, 193, 194, 195, 196, 197, 198, 199, 200, 201, 202, 203, 204, 205, 206, 207, 208, 209, 210, 211, 212, 213, 214, 215, 216, 217, 218, 219, 220, 221, 222, 223, 224, 225, 226, 227, 228, 229, 230, 231, 232, 233, 234, 235, 236, 237, 238, 239, 240, 241, 242, 243, 244, 245, 246, 247, 248, 249, 250, 251, 252, 253, 254, 255, 256, 257, 258, 259, 260, 261, 262, 263, 264, 265, 266, 267, 268, 269, 270, 271, 272, 273, 274, 275, 276, 277, 278, 279, 280, 291, 292, 293, 294, 295, 296, 297, 298, 299, 303, 304, 305, 306, 307, 308, 309, 310, 300, 301, 302, 311, 312, 313, 314, 315, 316, 317, 318, 319, 320, 321, 322, 323, 324, 325, 326, 327, 328, 329, 330, 331, 332, 333, 334, 335, 336, 337, 338, 339, 340, 341, 342, 343] rfl (by decide +kernel)) (goodIn_sub (fun _ h => List.mem_cons_of_mem _ (List.mem_append_right _ h)) (by decide +kernel))
set_option maxRecDepth 20000 in
theorem gX11_row_X11_reckonTo : GoodIn wsX11_row (wsV RX11 174 RX11 yX11_reckonTo wsX11_reckonTo) := goodIn_app (goodIn_of _ (by decide +kernel)) ggX11_row_X11_reckonTo
set_option maxRecDepth 20000 in
theorem ggX11_different_X11_askedQuery : GoodIn wsX11_different wsX11_askedQuery := goodIn_ca (goodIn_r _ [5, 6, 7, 8, 9, 10, 11, 12, 13, 14, 15, 16, 17, 4, 18, 19, 20, 21, 22, 23, 24, 25, 26, 27, 28, 29, 30, 31, 32, 33, 34, 35, 286, 287, 288, 289, 290, 291, 292, 293, 294, 295, 296, 297] rfl (by decide +kernel)) (goodIn_sub (fun _ h => List.mem_cons_of_mem _ (List.mem_append_left _ (List.mem_append_right _ h))) (by decide +kernel))
set_option maxRecDepth 20000 in
theorem gX11_different_X11_askedQuery : GoodIn wsX11_different (wsV RX11 151 RX11 yX11_askedQuery wsX11_askedQuery) := goodIn_app (goodIn_of _ (by decide +kernel)) ggX11_different_X11_askedQuery
set_option maxRecDepth 20000 in
theorem ggX11_different_X11_reckonTo : GoodIn wsX11_different wsX11_reckonTo := goodIn_ca (goodIn_r _ [39, 40, 8, 9, 41, 42, 43, 4, 44, 45, 46, 47, 48, 49, 50, 51, 52, 53, 54, 55, 56, 57, 58, 59, 60, 61, 62, 63, 64, 65, 66, 67, 68, 11, 12, 13, 14, 15, 69, 20, 21, 22, 23, 24, 25, 26, 27, 28, 29, 30, 31, 32, 33, 34, 35, 70, 71, 72, 73, 74, 75, 76, 77, 78, 79, 80, 81, 82, 83, 84, 17, 18, 85, 86, 87, 88, 89, 90, 91, 92, 93, 94, 95, 96, 97, 98, 99, 100, 101, 102, 103, 104, 105, 106, 107, 108, 109, 110, 111, 112, 113, 114, 115, 116, 117, 118, 119, 120, 121, 122, 10, 19, 123, 124, 125, 126, 127, 128, 129, 130, 131, 132, 133, 134, 135, 136, 137, 138, 139, 140, 141, 142, 143, 144, 145, 146, 147, 148, 149, 150, 151, 152, 153, 154, 155, 156, 157, 158, 159, 160, 161, 162, 163, 164, 165, 166, 167, 168, 169, 170, 171, 172, 173, 174, 175, 176, 177, 178, 179, 180, 181, 182, 183, 184, 185, 186, 187, 188, 189, 190, 191, 192, 193, 194, 195, 196, 197, 198, 199, 200, 201, 202, 203, 204, 205, 206, 207, 208, 209, 210, 211, 212, 213, 214, 215, 216, 217, 218, 219, 220, 221, 222, 223, 224, 225, 226, 227, 228, 229, 230, 231, 232, 233, 234, 235, 236, 237, 238, 239, 240, 241, 242, 243, 244, 245, 246, 247, 248, 249, 250, 251, 252, 253, 254, 255, 256, 257, 258, 259, 260, 261, 262, 263, 264, 265, 266, 267, 268, 269, 270, 271, 272, 273, 274, 275, 276, 286, 287, 288, 289, 290, 291, 292, 293, 294, 298, 299, 300, 301, 302, 303, 304, 305, 295, 296, 297, 306, 307, 308, 309, 310, 311, 312, 313, 314, 315, 316, 317, 318, 319, 320, 321, 322, 323, 324, 325, 326, 327, 328, 329, 330, 331, 332, 333, 334, 335, 336, 337, 338] rfl (by decide +kernel)) (goodIn_sub (fun _ h => List.mem_cons_of_mem _ (List.mem_append_right _ h)) (by decide +kernel))
set_option maxRecDepth 20000 in
theorem gX11_different_X11_reckonTo : GoodIn wsX11_different (wsV RX11 174 RX11 yX11_reckonTo wsX11_reckonTo) := goodIn_app (goodIn_of _ (by decide +kernel)) ggX11_different_X11_reckonTo
set_option maxRecDepth 20000 in
theorem ggX11_addRows_X11_askedQuery : GoodIn wsX11_addRows wsX11_askedQuery := goodIn_ca (goodIn_r _ [10, 11, 12, 13, 14, 15, 16, 17, 18, 19, 20, 21, 22, 9, 23, 24, 25, 26, 27, 28, 29, 30, 31, 32, 33, 34, 35, 36, 37, 38, 39, 40, 319, 320, 321, 322, 323, 324, 325, 326, 327, 328, 329, 330] rfl (by decide +kernel)) (goodIn_sub (fun _ h => List.mem_cons_of_mem _ (List.mem_append_right _ h)) (by decide +kernel))
set_option maxRecDepth 20000 in
theorem gX11_addRows_X11_askedQuery : GoodIn wsX11_addRows (wsV RX11 151 RX11 yX11_askedQuery wsX11_askedQuery) := goodIn_app (goodIn_of _ (by decide +kernel)) ggX11_addRows_X11_askedQuery
set_option maxRecDepth 20000 in
theorem ggX11_addRows_X11_isBelow : GoodIn wsX11_addRows wsX11_isBelow := goodIn_r _ [23] rfl (by decide +kernel)
set_option maxRecDepth 20000 in
theorem gX11_addRows_X11_isBelow : GoodIn wsX11_addRows (va_wsS RX11 72 yX11_isBelow wsX11_isBelow) := goodIn_app (goodIn_of _ (by decide +kernel)) ggX11_addRows_X11_isBelow
set_option maxRecDepth 20000 in
theorem ggX11_addRows_X11_arePlaces : GoodIn wsX11_addRows wsX11_arePlaces := goodIn_r _ [43, 44, 45, 9, 46, 21, 22, 23] rfl (by decide +kernel)
set_option maxRecDepth 20000 in
theorem gX11_addRows_X11_arePlaces : GoodIn wsX11_addRows (va_wsS RX11 130 yX11_arePlaces wsX11_arePlaces) := goodIn_app (goodIn_of _ (by decide +kernel)) ggX11_addRows_X11_arePlaces
set_option maxRecDepth 20000 in
theorem ggX11_addRows_X11_reckonTo : GoodIn wsX11_addRows wsX11_reckonTo := goodIn_ca (goodIn_r _ [50, 51, 13, 14, 52, 53, 54, 9, 55, 56, 57, 58, 59, 60, 61, 62, 63, 64, 65, 66, 67, 68, 69, 70, 71, 72, 73, 74, 75, 76, 77, 78, 79, 16, 17, 18, 19, 20, 80, 25, 26, 27, 28, 29, 30, 31, 32, 33, 34, 35, 36, 37, 38, 39, 40, 81, 82, 83, 84, 85, 86, 87, 88, 89, 90, 91, 92, 93, 94, 95, 22, 23, 96, 97, 98, 99, 100, 101, 102, 103, 104, 105, 106, 107, 108, 109, 110, 111, 112, 113, 114, 115, 116, 117, 118, 119, 120, 121, 122, 123, 124, 125, 126, 127, 128, 129, 130, 131, 132, 133, 15, 24, 134, 135, 136, 137, 138, 139, 140, 141, 142, 143, 144, 145, 146, 147, 148, 149, 150, 151, 152, 153, 154, 155, 156, 157, 158, 159, 160, 161, 162, 163, 164, 165, 166, 167, 168, 169, 170, 171, 172, 173, 174, 175, 176, 177, 178, 179, 180, 181, 182, 183, 184, 185, 186, 187, 188, 189, 190, 191, 192, 193, 194, 195, 196, 197, 198, 199, 200, 201, 202, 203, 204, 205, 206, 207, 208, 209, 210, 211, 212, 213, 214, 215, 216, 217, 218, 219, 220, 221, 222, 223, 224, 225, 226, 227, 228, 229, 230, 231, 232, 233, 234, 235, 236, 237, 238, 239, 240, 241, 242, 243, 244, 245, 246, 247, 248, 249, 250, 251, 252, 253, 254, 255, 256, 257, 258, 259, 260, 261, 262, 263, 264, 265, 266, 267, 268, 269, 270, 271, 272, 273, 274, 275, 276, 277, 278, 279, 280, 281, 282, 283, 284, 285, 286, 287, 319, 320, 321, 322, 323, 324, 325, 326, 327, 331, 332, 333, 334, 335, 336, 337, 338, 328, 329, 330, 339, 340, 341, 342, 343, 344, 345, 346, 347, 348, 349, 350, 351, 352, 353, 354, 355, 356, 357, 358, 359, 360, 361, 362, 363, 364, 365, 366, 367, 368, 369, 370, 371] rfl (by decide +kernel)) (goodIn_sub (fun _ h => List.mem_cons_of_mem _ (List.mem_append_left _ (List.mem_append_right _ h))) (by decide +kernel))
set_option maxRecDepth 20000 in
theorem gX11_addRows_X11_reckonTo : GoodIn wsX11_addRows (wsV RX11 174 RX11 yX11_reckonTo wsX11_reckonTo) := goodIn_app (goodIn_of _ (by decide +kernel)) ggX11_addRows_X11_reckonTo
set_option maxRecDepth 20000 in
theorem ggX11_addRows_X11_total : GoodIn wsX11_addRows wsX11_total := goodIn_r _ [303, 57, 304, 319, 320, 321, 322, 323, 324, 325, 326, 327, 331, 332, 333, 334, 335] rfl (by decide +kernel)
set_option maxRecDepth 20000 in
theorem gX11_addRows_X11_total : GoodIn wsX11_addRows (wsV RX11 58 RX11 yX11_total wsX11_total) := goodIn_app (goodIn_of _ (by decide +kernel)) ggX11_addRows_X11_total
set_option maxRecDepth 20000 in
theorem ggX11_addRows_X11_put : GoodIn wsX11_addRows wsX11_put := goodIn_ca (goodIn_r _ [308, 57, 309, 310, 311, 62, 312, 66, 313, 64, 22, 9, 23, 314, 315, 316, 317, 51, 318, 319, 320, 321, 322, 323, 324, 325, 326, 327, 331, 332, 333, 334, 335] rfl (by decide +kernel)) (goodIn_sub (fun _ h => List.mem_cons_of_mem _ (List.mem_append_left _ (List.mem_append_right _ h))) (by decide +kernel))
set_option maxRecDepth 20000 in
theorem gX11_addRows_X11_put : GoodIn wsX11_addRows (wsV RX11 65 RX11 yX11_put wsX11_put) := goodIn_app (goodIn_of _ (by decide +kernel)) ggX11_addRows_X11_put
set_option maxRecDepth 20000 in
theorem ggX11_removeRows_X11_askedQuery : GoodIn wsX11_removeRows wsX11_askedQuery := goodIn_ca (goodIn_r _ [8, 9, 10, 11, 12, 13, 14, 15, 16, 17, 18, 19, 20, 7, 21, 22, 23, 24, 25, 26, 27, 28, 29, 30, 31, 32, 33, 34, 35, 36, 37, 38, 312, 313, 314, 315, 316, 317, 318, 319, 320, 321, 322, 323] rfl (by decide +kernel)) (goodIn_sub (fun _ h => List.mem_cons_of_mem _ (List.mem_append_right _ h)) (by decide +kernel))
set_option maxRecDepth 20000 in
theorem gX11_removeRows_X11_askedQuery : GoodIn wsX11_removeRows (wsV RX11 151 RX11 yX11_askedQuery wsX11_askedQuery) := goodIn_app (goodIn_of _ (by decide +kernel)) ggX11_removeRows_X11_askedQuery
set_option maxRecDepth 20000 in
theorem ggX11_removeRows_X11_isBelow : GoodIn wsX11_removeRows wsX11_isBelow := goodIn_r _ [21] rfl (by decide +kernel)
set_option maxRecDepth 20000 in
theorem gX11_removeRows_X11_isBelow : GoodIn wsX11_removeRows (va_wsS RX11 72 yX11_isBelow wsX11_isBelow) := goodIn_app (goodIn_of _ (by decide +kernel)) ggX11_removeRows_X11_isBelow
set_option maxRecDepth 20000 in
theorem ggX11_removeRows_X11_arePlaces : GoodIn wsX11_removeRows wsX11_arePlaces := goodIn_r _ [41, 42, 43, 7, 44, 19, 20, 21] rfl (by decide +kernel)
set_option maxRecDepth 20000 in
theorem gX11_removeRows_X11_arePlaces : GoodIn wsX11_removeRows (va_wsS RX11 130 yX11_arePlaces wsX11_arePlaces) := goodIn_app (goodIn_of _ (by decide +kernel)) ggX11_removeRows_X11_arePlaces
set_option maxRecDepth 20000 in
theorem ggX11_removeRows_X11_reckonTo : GoodIn wsX11_removeRows wsX11_reckonTo := goodIn_ca (goodIn_r _ [48, 49, 11, 12, 50, 51, 52, 7, 53, 54, 55, 56, 57, 58, 59, 60, 61, 62, 63, 64, 65, 66, 67, 68, 69, 70, 71, 72, 73, 74, 75, 76, 77, 14, 15, 16, 17, 18, 78, 23, 24, 25, 26, 27, 28, 29, 30, 31, 32, 33, 34, 35, 36, 37, 38, 79, 80, 81, 82, 83, 84, 85, 86, 87, 88, 89, 90, 91, 92, 93, 20, 21, 94, 95, 96, 97, 98, 99, 100, 101, 102, 103, 104, 105, 106, 107, 108, 109, 110, 111, 112, 113, 114, 115, 116, 117, 118, 119, 120, 121, 122, 123, 124, 125, 126, 127, 128, 129, 130, 131, 13, 22, 132, 133, 134, 135, 136, 137, 138, 139, 140, 141, 142, 143, 144, 145, 146, 147, 148, 149, 150, 151, 152, 153, 154, 155, 156, 157, 158, 159, 160, 161, 162, 163, 164, 165, 166, 167, 168, 169, 170, 171, 172, 173, 174, 175, 176, 177, 178, 179, 180, 181, 182, 183, 184, 185, 186, 187, 188, 189, 190, 191, 192, 193, 194, 195, 196, 197, 198, 199, 200, 201, 202, 203, 204, 205, 206, 207, 208, 209, 210, 211, 212, 213, 214, 215, 216, 217, 218, 219, 220, 221, 222, 223, 224, 225, 226, 227, 228, 229, 230, 231, 232, 233, 234, 235, 236, 237, 238, 239, 240, 241, 242, 243, 244, 245, 246, 247, 248, 249, 250, 251, 252, 253, 254, 255, 256, 257, 258, 259, 260, 261, 262, 263, 264, 265, 266, 267, 268, 269, 270, 271, 272, 273, 274, 275, 276, 277, 278, 279, 280, 281, 282, 283, 284, 285, 312, 313, 314, 315, 316, 317, 318, 319, 320, 324, 325, 326, 327, 328, 329, 330, 331, 321, 322, 323, 332, 333, 334, 335, 336, 337, 338, 339, 340, 341, 342, 343, 344, 345, 346, 347, 348, 349, 350, 351, 352, 353, 354, 355, 356, 357, 358, 359, 360, 361, 362, 363, 364] rfl (by decide +kernel)) (goodIn_sub (fun _ h => List.mem_cons_of_mem _ (List.mem_append_left _ (List.mem_append_right _ h))) (by decide +kernel))
set_option maxRecDepth 20000 in
theorem gX11_removeRows_X11_reckonTo : GoodIn wsX11_removeRows (wsV RX11 174 RX11 yX11_reckonTo wsX11_reckonTo) := goodIn_app (goodIn_of _ (by decide +kernel)) ggX11_removeRows_X11_reckonTo
set_option maxRecDepth 20000 in
theorem ggX11_addShape_X11_isBelow : GoodIn wsX11_addShape wsX11_isBelow := goodIn_r _ [13] rfl (by decide +kernel)
set_option maxRecDepth 20000 in
theorem gX11_addShape_X11_isBelow : GoodIn wsX11_addShape (va_wsS RX11 72 yX11_isBelow wsX11_isBelow) := goodIn_app (goodIn_of _ (by decide +kernel)) ggX11_addShape_X11_isBelow
set_option maxRecDepth 20000 in
theorem ggX11_addShape_Jx4a65c_size_8abf5 : GoodIn wsX11_addShape wsJx4a65c_size_8abf5 := goodIn_r _ [18, 19, 99, 100, 101] rfl (by decide +kernel)
set_option maxRecDepth 20000 in
theorem gX11_addShape_Jx4a65c_size_8abf5 : GoodIn wsX11_addShape (wsV RX11 86 RJx4a65c yJx4a65c_size_8abf5 wsJx4a65c_size_8abf5) := goodIn_app (goodIn_of _ (by decide +kernel)) ggX11_addShape_Jx4a65c_size_8abf5
set_option maxRecDepth 20000 in
theorem ggX11_addShape_X9_init : GoodIn wsX11_addShape wsX9_init := goodIn_r _ [22, 23, 24, 25, 26, 27, 28, 29, 30, 94, 95, 96, 97, 98] rfl (by decide +kernel)
set_option maxRecDepth 20000 in
theorem gX11_addShape_X9_init : GoodIn wsX11_addShape (wsX9_init) := ggX11_addShape_X9_init
set_option maxRecDepth 20000 in
theorem ggX11_addShape_Jx4a65c_add_9ea2d : GoodIn wsX11_addShape wsJx4a65c_add_9ea2d := goodIn_r _ [34, 35, 36, 37, 19, 38, 39, 40, 17, 41, 42, 43, 44, 45, 46, 47, 48, 49, 50, 51, 52, 53, 54, 55, 56, 57, 58, 59, 60, 61, 62, 63, 64, 65, 66, 67, 68, 69, 70, 71, 72, 73, 74, 75, 76, 77, 78, 79, 80, 81, 82, 83, 84, 99, 100, 101] rfl (by decide +kernel)
set_option maxRecDepth 20000 in
theorem gX11_addShape_Jx4a65c_add_9ea2d : GoodIn wsX11_addShape (wsV RX11 94 RJx4a65c yJx4a65c_add_9ea2d wsJx4a65c_add_9ea2d) := goodIn_app (goodIn_of _ (by decide +kernel)) ggX11_addShape_Jx4a65c_add_9ea2d
set_option maxRecDepth 20000 in
theorem ggX11_faults_X11_closeSeenGraphs : GoodIn wsX11_faults wsX11_closeSeenGraphs := goodIn_ca (goodIn_r _ [7, 8, 9, 10, 11, 12, 13, 14, 15, 16, 17, 18, 19, 20, 21, 22, 23, 24, 25, 26, 27, 28, 29, 30, 31, 32, 33, 34, 35, 36, 37, 38, 39, 40, 41, 42, 43, 44, 45, 46, 47, 48, 49, 50, 51, 52, 53, 54, 55, 56, 57, 58, 59, 60, 61, 62, 63, 6, 64, 65, 66, 67, 68, 69, 70, 71, 72, 73, 74, 75, 76, 77, 78, 79, 80, 81, 82, 83, 84, 85, 86, 87, 88, 89, 90, 91, 92, 93, 94, 95, 96, 97, 98, 99, 100, 101, 102, 103, 104, 105, 106, 107, 108, 142, 143, 144, 145, 146, 147, 148, 149, 150, 151, 152, 153, 154, 155, 156, 157, 158, 159, 160, 161, 162, 163, 164, 165] rfl (by decide +kernel)) (goodIn_sub (fun _ h => List.mem_cons_of_mem _ (List.mem_append_right _ h)) (by decide +kernel))
set_option maxRecDepth 20000 in
theorem gX11_faults_X11_closeSeenGraphs : GoodIn wsX11_faults (wsV RX11 216 RX11 yX11_closeSeenGraphs wsX11_closeSeenGraphs) := goodIn_app (goodIn_of _ (by decide +kernel)) ggX11_faults_X11_closeSeenGraphs
set_option maxRecDepth 20000 in
theorem ggX11_faults_Jx4a65c_size_8abf5 : GoodIn wsX11_faults wsJx4a65c_size_8abf5 := goodIn_r _ [35, 36, 159, 160, 161] rfl (by decide +kernel)
set_option maxRecDepth 20000 in
theorem gX11_faults_Jx4a65c_size_8abf5 : GoodIn wsX11_faults (wsV RX11 86 RJx4a65c yJx4a65c_size_8abf5 wsJx4a65c_size_8abf5) := goodIn_app (goodIn_of _ (by decide +kernel)) ggX11_faults_Jx4a65c_size_8abf5
set_option maxRecDepth 20000 in
theorem ggX11_faultAt_X11_closeSeenGraphs : GoodIn wsX11_faultAt wsX11_closeSeenGraphs := goodIn_ca (goodIn_r _ [9, 10, 11, 12, 13, 14, 15, 16, 17, 18, 19, 20, 21, 22, 23, 24, 25, 26, 27, 28, 29, 30, 31, 32, 33, 34, 35, 36, 37, 38, 39, 40, 41, 42, 43, 44, 45, 46, 47, 48, 49, 50, 51, 52, 53, 54, 55, 56, 57, 58, 59, 60, 61, 62, 63, 64, 65, 8, 66, 67, 68, 69, 70, 71, 72, 73, 74, 75, 76, 77, 78, 79, 80, 81, 82, 83, 84, 85, 86, 87, 88, 89, 90, 91, 92, 93, 94, 95, 96, 97, 98, 99, 100, 101, 102, 103, 104, 105, 106, 107, 108, 109, 110, 144, 145, 146, 147, 148, 149, 150, 151, 152, 153, 154, 155, 156, 157, 158, 159, 160, 161, 162, 163, 164, 165, 166, 167] rfl (by decide +kernel)) (goodIn_sub (fun _ h => List.mem_cons_of_mem _ (List.mem_append_right _ h)) (by decide +kernel))
set_option maxRecDepth 20000 in
theorem gX11_faultAt_X11_closeSeenGraphs : GoodIn wsX11_faultAt (wsV RX11 216 RX11 yX11_closeSeenGraphs wsX11_closeSeenGraphs) := goodIn_app (goodIn_of _ (by decide +kernel)) ggX11_faultAt_X11_closeSeenGraphs
set_option maxRecDepth 20000 in
theorem ggX11_faultAt_Jx4a65c_size_8abf5 : GoodIn wsX11_faultAt wsJx4a65c_size_8abf5 := goodIn_r _ [37, 38, 161, 162, 163] rfl (by decide +kernel)
set_option maxRecDepth 20000 in
theorem gX11_faultAt_Jx4a65c_size_8abf5 : GoodIn wsX11_faultAt (wsV RX11 86 RJx4a65c yJx4a65c_size_8abf5 wsJx4a65c_size_8abf5) := goodIn_app (goodIn_of _ (by decide +kernel)) ggX11_faultAt_Jx4a65c_size_8abf5
set_option maxRecDepth 20000 in
theorem ggX11_checksum_X1_has : GoodIn wsX11_checksum wsX1_has := goodIn_ca (goodIn_r _ [7, 8, 9, 10, 11, 30, 31, 32, 33, 34] rfl (by decide +kernel)) (goodIn_sub (fun _ h => List.mem_cons_of_mem _ (List.mem_append_right _ h)) (by decide +kernel))
set_option maxRecDepth 20000 in
theorem gX11_checksum_X1_has : GoodIn wsX11_checksum (wsV RX11 54 RX1 yX1_has wsX1_has) := goodIn_app (goodIn_of _ (by decide +kernel)) ggX11_checksum_X1_has
set_option maxRecDepth 20000 in
theorem ggX11_thereShare_X11_closed : GoodIn wsX11_thereShare wsX11_closed := goodIn_ca (goodIn_r _ [9, 10, 11, 12, 13, 14, 15, 16, 17, 18, 19, 20, 21, 22, 23, 24, 25, 26, 27, 28, 29, 30, 31, 32, 33, 34, 35, 36, 37, 38, 39, 40, 41, 42, 43, 44, 45, 46, 47, 48, 49, 50, 51, 52, 53, 54, 55, 56, 57, 58, 59, 60, 61, 62, 63, 64, 8, 65, 66, 67, 68, 69, 70, 71, 72, 73, 74, 75, 76, 77, 78, 79, 80, 81, 82, 83, 84, 85, 86, 87, 88, 89, 90, 91, 92, 93, 94, 95, 96, 97, 98, 99, 100, 101, 102, 103, 104, 105, 106, 107, 108, 109, 120, 121, 122, 123, 124, 125, 126, 127, 128, 115, 116, 117, 118, 119, 129, 130, 131, 132, 133, 134, 135, 136, 137, 138] rfl (by decide +kernel)) (goodIn_sub (fun _ h => List.mem_cons_of_mem _ (List.mem_append_right _ h)) (by decide +kernel))
set_option maxRecDepth 20000 in
theorem gX11_thereShare_X11_closed : GoodIn wsX11_thereShare (wsV RX11 104 RX11 yX11_closed wsX11_closed) := goodIn_app (goodIn_of _ (by decide +kernel)) ggX11_thereShare_X11_closed
set_option maxRecDepth 20000 in
theorem ggX11_thereShare_X5_count : GoodIn wsX11_thereShare wsX5_count := goodIn_ca (goodIn_r _ [113, 114, 67, 68, 24, 69, 26, 70, 8, 71, 129, 130, 131] rfl (by decide +kernel)) (goodIn_sub (fun _ h => List.mem_cons_of_mem _ (List.mem_append_right _ h)) (by decide +kernel))
set_option maxRecDepth 20000 in
theorem gX11_thereShare_X5_count : GoodIn wsX11_thereShare (wsV RX11 122 RX5 yX5_count wsX5_count) := goodIn_app (goodIn_of _ (by decide +kernel)) ggX11_thereShare_X5_count
set_option maxRecDepth 20000 in
theorem ggX11_meanProof_X11_closed : GoodIn wsX11_meanProof wsX11_closed := goodIn_ca (goodIn_r _ [8, 9, 10, 11, 12, 13, 14, 15, 16, 17, 18, 19, 20, 21, 22, 23, 24, 25, 26, 27, 28, 29, 30, 31, 32, 33, 34, 35, 36, 37, 38, 39, 40, 41, 42, 43, 44, 45, 46, 47, 48, 49, 50, 51, 52, 53, 54, 55, 56, 57, 58, 59, 60, 61, 62, 63, 7, 64, 65, 66, 67, 68, 69, 70, 71, 72, 73, 74, 75, 76, 77, 78, 79, 80, 81, 82, 83, 84, 85, 86, 87, 88, 89, 90, 91, 92, 93, 94, 95, 96, 97, 98, 99, 100, 101, 102, 103, 104, 105, 106, 107, 108, 130, 131, 132, 133, 134, 135, 136, 137, 138, 125, 126, 127, 128, 129, 139, 140, 141, 142, 143, 144, 145, 146, 147, 148] rfl (by decide +kernel)) (goodIn_sub (fun _ h => List.mem_cons_of_mem _ (List.mem_append_right _ h)) (by decide +kernel))
set_option maxRecDepth 20000 in
theorem gX11_meanProof_X11_closed : GoodIn wsX11_meanProof (wsV RX11 104 RX11 yX11_closed wsX11_closed) := goodIn_app (goodIn_of _ (by decide +kernel)) ggX11_meanProof_X11_closed
set_option maxRecDepth 20000 in
theorem ggX11_meanProof_X5_count : GoodIn wsX11_meanProof wsX5_count := goodIn_ca (goodIn_r _ [112, 113, 66, 67, 23, 68, 25, 69, 7, 70, 139, 140, 141] rfl (by decide +kernel)) (goodIn_sub (fun _ h => List.mem_cons_of_mem _ (List.mem_append_right _ h)) (by decide +kernel))
set_option maxRecDepth 20000 in
theorem gX11_meanProof_X5_count : GoodIn wsX11_meanProof (wsV RX11 122 RX5 yX5_count wsX5_count) := goodIn_app (goodIn_of _ (by decide +kernel)) ggX11_meanProof_X5_count
set_option maxRecDepth 20000 in
theorem ggX11_isSound_Jx4a65c_size_8abf5 : GoodIn wsX11_isSound wsJx4a65c_size_8abf5 := goodIn_r _ [7, 8, 349, 350, 351] rfl (by decide +kernel)
set_option maxRecDepth 20000 in
theorem gX11_isSound_Jx4a65c_size_8abf5 : GoodIn wsX11_isSound (wsV RX11 86 RJx4a65c yJx4a65c_size_8abf5 wsJx4a65c_size_8abf5) := goodIn_app (goodIn_of _ (by decide +kernel)) ggX11_isSound_Jx4a65c_size_8abf5
set_option maxRecDepth 20000 in
theorem ggX11_isSound_X11_reckonTo : GoodIn wsX11_isSound wsX11_reckonTo := goodIn_ca (goodIn_r _ [13, 14, 1, 2, 15, 16, 17, 12, 18, 19, 20, 21, 22, 23, 24, 25, 26, 27, 28, 29, 30, 31, 32, 33, 34, 35, 36, 37, 38, 39, 40, 41, 42, 4, 5, 6, 7, 8, 43, 44, 45, 46, 47, 48, 49, 50, 51, 52, 53, 54, 55, 56, 57, 58, 59, 60, 61, 62, 63, 64, 65, 66, 67, 68, 69, 70, 71, 72, 73, 74, 75, 76, 77, 78, 79, 80, 81, 82, 83, 84, 85, 86, 87, 88, 89, 90, 91, 92, 93, 94, 95, 96, 97, 98, 99, 100, 101, 102, 103, 104, 105, 106, 107, 108, 109, 110, 111, 112, 113, 114, 3, 115, 116, 117, 118, 119, 120, 121, 122, 123, 124, 125, 126, 127, 128, 129, 130, 131, 132, 133, 134, 135, 136, 137, 138, 139, 140, 141, 142, 143, 144, 145, 146, 147, 148, 149, 150, 151, 152, 153, 154, 155, 156, 157, 158, 159, 160, 161, 162, 163, 164, 165, 166, 167, 168, 169, 170, 171, 172, 173, 174, 175, 176, 177, 178, 179, 180, 181, 182, 183, 184, 185, 186, 187, 188, 189, 190, 191, 192, 193, 194, 195, 196, 197, 198, 199, 200, 201, 202, 203, 204, 205, 206, 207, 208, 209, 210, 211, 212, 213, 214, 215, 216, 217, 218, 219, 220, 221, 222, 223, 224, 225, 226, 227, 228, 229, 230, 231, 232, 233, 234, 235, 236, 237, 238, 239, 240, 241, 242, 243, 244, 245, 246, 247, 248, 249, 250, 251, 252, 253, 254, 255, 256, 257, 258, 259, 260, 261, 262, 263, 264, 265, 266, 267, 268, 269, 340, 341, 342, 343, 344, 345, 346, 347, 348, 352, 353, 354, 355, 356, 357, 358, 359, 349, 350, 351, 360, 361, 362, 363, 364, 365, 366, 367, 368, 369, 370, 371, 372, 373, 374, 375, 376, 377, 378, 379, 380, 381, 382, 383, 384, 385, 386, 387, 388, 389, 390, 391, 392] rfl (by decide +kernel)) (goodIn_sub (fun _ h => List.mem_cons_of_mem _ (List.mem_append_right _ h)) (by decide +kernel))
set_option maxRecDepth 20000 in
theorem gX11_isSound_X11_reckonTo : GoodIn wsX11_isSound (wsV RX11 174 RX11 yX11_reckonTo wsX11_reckonTo) := goodIn_app (goodIn_of _ (by decide +kernel)) ggX11_isSound_X11_reckonTo
set_option maxRecDepth 20000 in
theorem ggX11_isSound_X11_tryTo : GoodIn wsX11_isSound wsX11_tryTo := goodIn_ca (goodIn_r _ [273, 274, 1, 2, 15, 16, 17, 12, 18, 19, 20, 21, 22, 23, 24, 25, 26, 27, 28, 29, 30, 31, 32, 33, 34, 35, 36, 37, 38, 39, 40, 41, 42, 4, 5, 6, 7, 8, 43, 44, 45, 46, 47, 48, 49, 50, 51, 52, 53, 54, 55, 56, 57, 58, 59, 60, 61, 62, 63, 64, 65, 66, 67, 68, 69, 70, 71, 72, 73, 74, 75, 76, 77, 78, 79, 80, 81, 82, 83, 84, 85, 86, 87, 88, 89, 90, 91, 92, 93, 94, 95, 96, 97, 98, 99, 100, 101, 102, 103, 104, 105, 106, 107, 108, 109, 110, 111, 112, 113, 114, 3, 115, 275, 276, 277, 278, 120, 279, 280, 157, 158, 159, 160, 281, 282, 283, 284, 134, 285, 136, 286, 138, 139, 140, 141, 142, 143, 144, 145, 146, 147, 148, 149, 150, 151, 287, 288, 163, 289, 165, 166, 290, 168, 291, 292, 293, 294, 295, 296, 297, 298, 299, 300, 301, 302, 191, 192, 303, 304, 305, 306, 307, 308, 309, 310, 311, 312, 313, 314, 199, 200, 201, 202, 180, 181, 182, 183, 184, 185, 186, 187, 188, 189, 190, 203, 204, 205, 315, 316, 208, 317, 236, 237, 210, 216, 217, 318, 232, 233, 234, 235, 238, 239, 240, 218, 219, 220, 221, 222, 223, 224, 225, 226, 227, 228, 229, 230, 231, 319, 320, 246, 321, 254, 255, 256, 248, 322, 250, 251, 252, 253, 257, 249, 323, 324, 263, 325, 265, 326, 327, 328, 329, 330, 340, 341, 342, 343, 344, 345, 346, 347, 348, 352, 353, 354, 355, 356, 357, 358, 359, 349, 350, 351, 360, 361, 362, 363, 364, 365, 366, 367, 368, 369, 370, 371, 372, 373, 374, 375, 376, 377, 378, 379, 380, 381, 382, 383, 384, 385, 386, 387, 388, 389, 390, 391, 392] rfl (by decide +kernel)) (goodIn_sub (fun _ h => List.mem_cons_of_mem _ (List.mem_append_right _ h)) (by decide +kernel))
set_option maxRecDepth 20000 in
theorem gX11_isSound_X11_tryTo : GoodIn wsX11_isSound (wsV RX11 187 RX11 yX11_tryTo wsX11_tryTo) := goodIn_app (goodIn_of _ (by decide +kernel)) ggX11_isSound_X11_tryTo
set_option maxRecDepth 20000 in
theorem ggX11_isPlace_X11_isBelow : GoodIn wsX11_isPlace wsX11_isBelow := goodIn_r _ [4] rfl (by decide +kernel)
set_option maxRecDepth 20000 in
theorem gX11_isPlace_X11_isBelow : GoodIn wsX11_isPlace (va_wsS RX11 72 yX11_isBelow wsX11_isBelow) := goodIn_app (goodIn_of _ (by decide +kernel)) ggX11_isPlace_X11_isBelow
set_option maxRecDepth 20000 in
theorem ggX11_arePlaces_X11_isPlace : GoodIn wsX11_arePlaces wsX11_isPlace := goodIn_r _ [4, 5, 6, 3, 7] rfl (by decide +kernel)
set_option maxRecDepth 20000 in
theorem gX11_arePlaces_X11_isPlace : GoodIn wsX11_arePlaces (va_wsS RX11 250 yX11_isPlace wsX11_isPlace) := goodIn_app (goodIn_of _ (by decide +kernel)) ggX11_arePlaces_X11_isPlace
set_option maxRecDepth 20000 in
theorem ggX11_isRule_X11_isBelow : GoodIn wsX11_isRule wsX11_isBelow := goodIn_r _ [4] rfl (by decide +kernel)
set_option maxRecDepth 20000 in
theorem gX11_isRule_X11_isBelow : GoodIn wsX11_isRule (va_wsS RX11 72 yX11_isBelow wsX11_isBelow) := goodIn_app (goodIn_of _ (by decide +kernel)) ggX11_isRule_X11_isBelow
set_option maxRecDepth 20000 in
theorem ggX11_askedTriple_X11_indexOf : GoodIn wsX11_askedTriple wsX11_indexOf := goodIn_r _ [6] rfl (by decide +kernel)
set_option maxRecDepth 20000 in
theorem gX11_askedTriple_X11_indexOf : GoodIn wsX11_askedTriple (va_wsS RX11 253 yX11_indexOf wsX11_indexOf) := goodIn_app (goodIn_of _ (by decide +kernel)) ggX11_askedTriple_X11_indexOf
set_option maxRecDepth 20000 in
theorem ggX11_askedTriple_X11_isBelow : GoodIn wsX11_askedTriple wsX11_isBelow := goodIn_r _ [9] rfl (by decide +kernel)
set_option maxRecDepth 20000 in
theorem gX11_askedTriple_X11_isBelow : GoodIn wsX11_askedTriple (va_wsS RX11 72 yX11_isBelow wsX11_isBelow) := goodIn_app (goodIn_of _ (by decide +kernel)) ggX11_askedTriple_X11_isBelow
set_option maxRecDepth 20000 in
theorem ggX11_askedQuery_Jx4a65c_size_8abf5 : GoodIn wsX11_askedQuery wsJx4a65c_size_8abf5 := goodIn_r _ [9, 10, 41, 42, 43] rfl (by decide +kernel)
set_option maxRecDepth 20000 in
theorem gX11_askedQuery_Jx4a65c_size_8abf5 : GoodIn wsX11_askedQuery (wsV RX11 86 RJx4a65c yJx4a65c_size_8abf5 wsJx4a65c_size_8abf5) := goodIn_app (goodIn_of _ (by decide +kernel)) ggX11_askedQuery_Jx4a65c_size_8abf5
set_option maxRecDepth 20000 in
theorem ggX11_askedQuery_X11_isBelow : GoodIn wsX11_askedQuery wsX11_isBelow := goodIn_r _ [14] rfl (by decide +kernel)
set_option maxRecDepth 20000 in
theorem gX11_askedQuery_X11_isBelow : GoodIn wsX11_askedQuery (va_wsS RX11 72 yX11_isBelow wsX11_isBelow) := goodIn_app (goodIn_of _ (by decide +kernel)) ggX11_askedQuery_X11_isBelow
set_option maxRecDepth 20000 in
theorem ggX11_needRoomForQuery_Jx4a65c_size_8abf5 : GoodIn wsX11_needRoomForQuery wsJx4a65c_size_8abf5 := goodIn_r _ [8, 9, 19, 20, 21] rfl (by decide +kernel)
set_option maxRecDepth 20000 in
theorem gX11_needRoomForQuery_Jx4a65c_size_8abf5 : GoodIn wsX11_needRoomForQuery (wsV RX11 86 RJx4a65c yJx4a65c_size_8abf5 wsJx4a65c_size_8abf5) := goodIn_app (goodIn_of _ (by decide +kernel)) ggX11_needRoomForQuery_Jx4a65c_size_8abf5
set_option maxRecDepth 20000 in
theorem ggX11_put_X1_put : GoodIn wsX11_put wsX1_put := goodIn_ca (goodIn_r _ [6, 7, 8, 9, 10, 11, 12, 28, 29, 30, 31, 32] rfl (by decide +kernel)) (goodIn_sub (fun _ h => List.mem_cons_of_mem _ (List.mem_append_right _ h)) (by decide +kernel))
set_option maxRecDepth 20000 in
theorem gX11_put_X1_put : GoodIn wsX11_put (wsV RX11 257 RX1 yX1_put wsX1_put) := goodIn_app (goodIn_of _ (by decide +kernel)) ggX11_put_X1_put
set_option maxRecDepth 20000 in
theorem ggX11_put_X11_forgetRows : GoodIn wsX11_put wsX11_forgetRows := goodIn_r _ [16, 17, 18, 19, 20, 21, 22, 23, 24, 25, 26, 27] rfl (by decide +kernel)
set_option maxRecDepth 20000 in
theorem gX11_put_X11_forgetRows : GoodIn wsX11_put (wsV RX11 127 RX11 yX11_forgetRows wsX11_forgetRows) := goodIn_app (goodIn_of _ (by decide +kernel)) ggX11_put_X11_forgetRows
set_option maxRecDepth 20000 in
theorem ggX11_numbered_Jx4a65c_add_9ea2d : GoodIn wsX11_numbered wsJx4a65c_add_9ea2d := goodIn_r _ [6, 7, 8, 9, 10, 11, 12, 13, 5, 14, 15, 16, 17, 18, 19, 20, 21, 22, 23, 24, 25, 26, 27, 28, 29, 30, 31, 32, 33, 34, 35, 36, 37, 38, 39, 40, 41, 42, 43, 44, 45, 46, 47, 48, 49, 50, 51, 52, 53, 54, 55, 56, 57, 71, 72, 73] rfl (by decide +kernel)
set_option maxRecDepth 20000 in
theorem gX11_numbered_Jx4a65c_add_9ea2d : GoodIn wsX11_numbered (wsV RX11 94 RJx4a65c yJx4a65c_add_9ea2d wsJx4a65c_add_9ea2d) := goodIn_app (goodIn_of _ (by decide +kernel)) ggX11_numbered_Jx4a65c_add_9ea2d
set_option maxRecDepth 20000 in
theorem ggX11_numbered_Jx4a65c_size_8abf5 : GoodIn wsX11_numbered wsJx4a65c_size_8abf5 := goodIn_r _ [61, 10, 71, 72, 73] rfl (by decide +kernel)
set_option maxRecDepth 20000 in
theorem gX11_numbered_Jx4a65c_size_8abf5 : GoodIn wsX11_numbered (wsV RX11 86 RJx4a65c yJx4a65c_size_8abf5 wsJx4a65c_size_8abf5) := goodIn_app (goodIn_of _ (by decide +kernel)) ggX11_numbered_Jx4a65c_size_8abf5
set_option maxRecDepth 20000 in
theorem ggX11_openGraphs_X11_forgetRows : GoodIn wsX11_openGraphs wsX11_forgetRows := goodIn_r _ [7, 8, 9, 10, 11, 12, 13, 14, 15, 16, 17, 18] rfl (by decide +kernel)
set_option maxRecDepth 20000 in
theorem gX11_openGraphs_X11_forgetRows : GoodIn wsX11_openGraphs (wsV RX11 127 RX11 yX11_forgetRows wsX11_forgetRows) := goodIn_app (goodIn_of _ (by decide +kernel)) ggX11_openGraphs_X11_forgetRows
set_option maxRecDepth 20000 in
theorem ggX11_closed_X1_close : GoodIn wsX11_closed wsX1_close := goodIn_ca (goodIn_r _ [7, 8, 9, 10, 11, 12, 13, 14, 15, 16, 17, 18, 19, 20, 21, 22, 23, 24, 25, 26, 27, 28, 29, 30, 31, 32, 33, 34, 35, 36, 37, 38, 39, 40, 41, 42, 43, 44, 45, 46, 47, 48, 49, 50, 51, 52, 53, 54, 55, 56, 57, 58, 59, 60, 61, 62, 63, 64, 65, 66, 67, 68, 69, 70, 71, 72, 73, 74, 75, 76, 77, 78, 79, 80, 81, 82, 83, 84, 85, 86, 87, 88, 89, 90, 91, 92, 93, 94, 95, 96, 97, 98, 99, 100, 101, 111, 112, 113, 114, 115, 116, 117, 118, 119, 120, 121, 122, 123, 124, 125] rfl (by decide +kernel)) (goodIn_sub (fun _ h => List.mem_cons_of_mem _ (List.mem_append_right _ h)) (by decide +kernel))
set_option maxRecDepth 20000 in
theorem gX11_closed_X1_close : GoodIn wsX11_closed (wsV RX11 264 RX1 yX1_close wsX1_close) := goodIn_app (goodIn_of _ (by decide +kernel)) ggX11_closed_X1_close
set_option maxRecDepth 20000 in
theorem ggX11_closeSeenGraphs_X1_close : GoodIn wsX11_closeSeenGraphs wsX1_close := goodIn_ca (goodIn_r _ [8, 9, 10, 11, 12, 13, 14, 15, 16, 17, 18, 19, 20, 21, 22, 23, 24, 25, 26, 27, 28, 29, 30, 31, 32, 33, 34, 35, 36, 37, 38, 39, 40, 41, 42, 43, 44, 45, 46, 47, 48, 49, 50, 51, 52, 53, 54, 55, 56, 57, 58, 59, 60, 61, 62, 63, 64, 65, 66, 67, 68, 69, 70, 71, 72, 73, 74, 75, 76, 77, 78, 79, 80, 81, 82, 83, 84, 85, 86, 87, 88, 89, 90, 91, 92, 93, 94, 95, 96, 97, 98, 99, 100, 101, 102, 112, 113, 114, 115, 116, 117, 118, 119, 120, 121, 122, 123, 124, 125, 126] rfl (by decide +kernel)) (goodIn_sub (fun _ h => List.mem_cons_of_mem _ (List.mem_append_right _ h)) (by decide +kernel))
set_option maxRecDepth 20000 in
theorem gX11_closeSeenGraphs_X1_close : GoodIn wsX11_closeSeenGraphs (wsV RX11 264 RX1 yX1_close wsX1_close) := goodIn_app (goodIn_of _ (by decide +kernel)) ggX11_closeSeenGraphs_X1_close
set_option maxRecDepth 20000 in
theorem ggX11_reckonTo_X11_closeSeenGraphs : GoodIn wsX11_reckonTo wsX11_closeSeenGraphs := goodIn_ca (goodIn_r _ [8, 9, 10, 11, 12, 13, 14, 15, 16, 17, 18, 19, 20, 21, 22, 23, 24, 25, 26, 27, 28, 29, 30, 31, 32, 33, 34, 35, 36, 37, 38, 39, 40, 41, 42, 43, 44, 45, 46, 47, 48, 49, 50, 51, 52, 53, 54, 55, 56, 57, 58, 59, 60, 61, 62, 63, 64, 7, 65, 66, 67, 68, 69, 70, 71, 72, 73, 74, 75, 76, 77, 78, 79, 80, 81, 82, 83, 84, 85, 86, 87, 88, 89, 90, 91, 92, 93, 94, 95, 96, 97, 98, 99, 100, 101, 102, 103, 104, 105, 106, 107, 108, 109, 266, 267, 268, 269, 270, 271, 272, 273, 274, 275, 276, 277, 278, 279, 280, 281, 282, 283, 284, 285, 286, 287, 288, 289] rfl (by decide +kernel)) (goodIn_sub (fun _ h => List.mem_cons_of_mem _ (List.mem_append_right _ h)) (by decide +kernel))
set_option maxRecDepth 20000 in
theorem gX11_reckonTo_X11_closeSeenGraphs : GoodIn wsX11_reckonTo (wsV RX11 216 RX11 yX11_closeSeenGraphs wsX11_closeSeenGraphs) := goodIn_app (goodIn_of _ (by decide +kernel)) ggX11_reckonTo_X11_closeSeenGraphs
set_option maxRecDepth 20000 in
theorem ggX11_reckonTo_Jx4a65c_size_8abf5 : GoodIn wsX11_reckonTo wsJx4a65c_size_8abf5 := goodIn_r _ [36, 37, 283, 284, 285] rfl (by decide +kernel)
set_option maxRecDepth 20000 in
theorem gX11_reckonTo_Jx4a65c_size_8abf5 : GoodIn wsX11_reckonTo (wsV RX11 86 RJx4a65c yJx4a65c_size_8abf5 wsJx4a65c_size_8abf5) := goodIn_app (goodIn_of _ (by decide +kernel)) ggX11_reckonTo_Jx4a65c_size_8abf5
set_option maxRecDepth 20000 in
theorem ggX11_tryTo_X11_closeSeenGraphs : GoodIn wsX11_tryTo wsX11_closeSeenGraphs := goodIn_ca (goodIn_r _ [8, 9, 10, 11, 12, 13, 14, 15, 16, 17, 18, 19, 20, 21, 22, 23, 24, 25, 26, 27, 28, 29, 30, 31, 32, 33, 34, 35, 36, 37, 38, 39, 40, 41, 42, 43, 44, 45, 46, 47, 48, 49, 50, 51, 52, 53, 54, 55, 56, 57, 58, 59, 60, 61, 62, 63, 64, 7, 65, 66, 67, 68, 69, 70, 71, 72, 73, 74, 75, 76, 77, 78, 79, 80, 81, 82, 83, 84, 85, 86, 87, 88, 89, 90, 91, 92, 93, 94, 95, 96, 97, 98, 99, 100, 101, 102, 103, 104, 105, 106, 107, 108, 109, 253, 254, 255, 256, 257, 258, 259, 260, 261, 262, 263, 264, 265, 266, 267, 268, 269, 270, 271, 272, 273, 274, 275, 276] rfl (by decide +kernel)) (goodIn_sub (fun _ h => List.mem_cons_of_mem _ (List.mem_append_right _ h)) (by decide +kernel))
set_option maxRecDepth 20000 in
theorem gX11_tryTo_X11_closeSeenGraphs : GoodIn wsX11_tryTo (wsV RX11 216 RX11 yX11_closeSeenGraphs wsX11_closeSeenGraphs) := goodIn_app (goodIn_of _ (by decide +kernel)) ggX11_tryTo_X11_closeSeenGraphs
set_option maxRecDepth 20000 in
theorem ggX11_tryTo_Jx4a65c_size_8abf5 : GoodIn wsX11_tryTo wsJx4a65c_size_8abf5 := goodIn_r _ [36, 37, 270, 271, 272] rfl (by decide +kernel)
set_option maxRecDepth 20000 in
theorem gX11_tryTo_Jx4a65c_size_8abf5 : GoodIn wsX11_tryTo (wsV RX11 86 RJx4a65c yJx4a65c_size_8abf5 wsJx4a65c_size_8abf5) := goodIn_app (goodIn_of _ (by decide +kernel)) ggX11_tryTo_Jx4a65c_size_8abf5
set_option maxRecDepth 20000 in
theorem ggX12_isTriple_X12_in : GoodIn wsX12_isTriple wsX12_in := goodIn_r _ [4] rfl (by decide +kernel)
set_option maxRecDepth 20000 in
theorem gX12_isTriple_X12_in : GoodIn wsX12_isTriple (va_wsS RX12 36 yX12_in wsX12_in) := goodIn_app (goodIn_of _ (by decide +kernel)) ggX12_isTriple_X12_in
set_option maxRecDepth 20000 in
theorem ggX12_add_X12_in : GoodIn wsX12_add wsX12_in := goodIn_r _ [6] rfl (by decide +kernel)
set_option maxRecDepth 20000 in
theorem gX12_add_X12_in : GoodIn wsX12_add (va_wsS RX12 36 yX12_in wsX12_in) := goodIn_app (goodIn_of _ (by decide +kernel)) ggX12_add_X12_in
set_option maxRecDepth 20000 in
theorem ggX12_add_X12_isTriple : GoodIn wsX12_add wsX12_isTriple := goodIn_r _ [9, 3, 4, 5, 6] rfl (by decide +kernel)
set_option maxRecDepth 20000 in
theorem gX12_add_X12_isTriple : GoodIn wsX12_add (va_wsS RX12 40 yX12_isTriple wsX12_isTriple) := goodIn_app (goodIn_of _ (by decide +kernel)) ggX12_add_X12_isTriple
set_option maxRecDepth 20000 in
theorem ggX12_add_X12_fails : GoodIn wsX12_add wsX12_fails := goodIn_r _ [13, 14, 18, 19, 20, 21, 22, 23, 24, 25, 26, 27, 28] rfl (by decide +kernel)
set_option maxRecDepth 20000 in
theorem gX12_add_X12_fails : GoodIn wsX12_add (wsV RX12 43 RX12 yX12_fails wsX12_fails) := goodIn_app (goodIn_of _ (by decide +kernel)) ggX12_add_X12_fails
set_option maxRecDepth 20000 in
theorem ggX12_add_X12_cell : GoodIn wsX12_add wsX12_cell := goodIn_r _ [17] rfl (by decide +kernel)
set_option maxRecDepth 20000 in
theorem gX12_add_X12_cell : GoodIn wsX12_add (va_wsS RX12 47 yX12_cell wsX12_cell) := goodIn_app (goodIn_of _ (by decide +kernel)) ggX12_add_X12_cell
set_option maxRecDepth 20000 in
theorem ggX12_remove_X12_in : GoodIn wsX12_remove wsX12_in := goodIn_r _ [6] rfl (by decide +kernel)
set_option maxRecDepth 20000 in
theorem gX12_remove_X12_in : GoodIn wsX12_remove (va_wsS RX12 36 yX12_in wsX12_in) := goodIn_app (goodIn_of _ (by decide +kernel)) ggX12_remove_X12_in
set_option maxRecDepth 20000 in
theorem ggX12_remove_X12_isTriple : GoodIn wsX12_remove wsX12_isTriple := goodIn_r _ [9, 3, 4, 5, 6] rfl (by decide +kernel)
set_option maxRecDepth 20000 in
theorem gX12_remove_X12_isTriple : GoodIn wsX12_remove (va_wsS RX12 40 yX12_isTriple wsX12_isTriple) := goodIn_app (goodIn_of _ (by decide +kernel)) ggX12_remove_X12_isTriple
set_option maxRecDepth 20000 in
theorem ggX12_remove_X12_fails : GoodIn wsX12_remove wsX12_fails := goodIn_r _ [13, 14, 18, 19, 20, 21, 22, 23, 24, 25, 26, 27, 28] rfl (by decide +kernel)
set_option maxRecDepth 20000 in
theorem gX12_remove_X12_fails : GoodIn wsX12_remove (wsV RX12 43 RX12 yX12_fails wsX12_fails) := goodIn_app (goodIn_of _ (by decide +kernel)) ggX12_remove_X12_fails
set_option maxRecDepth 20000 in
theorem ggX12_remove_X12_cell : GoodIn wsX12_remove wsX12_cell := goodIn_r _ [17] rfl (by decide +kernel)
set_option maxRecDepth 20000 in
theorem gX12_remove_X12_cell : GoodIn wsX12_remove (va_wsS RX12 47 yX12_cell wsX12_cell) := goodIn_app (goodIn_of _ (by decide +kernel)) ggX12_remove_X12_cell
set_option maxRecDepth 20000 in
theorem ggX12_count_X12_has : GoodIn wsX12_count wsX12_has := goodIn_ca (goodIn_r _ [5, 6, 7, 8, 9, 10, 11, 12, 13, 14, 15, 16, 17] rfl (by decide +kernel)) (goodIn_sub (fun _ h => List.mem_cons_of_mem _ (List.mem_append_right _ h)) (by decide +kernel))
set_option maxRecDepth 20000 in
theorem gX12_count_X12_has : GoodIn wsX12_count (wsV RX12 54 RX12 yX12_has wsX12_has) := goodIn_app (goodIn_of _ (by decide +kernel)) ggX12_count_X12_has
set_option maxRecDepth 20000 in
theorem ggX12_size_X12_in : GoodIn wsX12_size wsX12_in := goodIn_r _ [4] rfl (by decide +kernel)
set_option maxRecDepth 20000 in
theorem gX12_size_X12_in : GoodIn wsX12_size (va_wsS RX12 36 yX12_in wsX12_in) := goodIn_app (goodIn_of _ (by decide +kernel)) ggX12_size_X12_in
set_option maxRecDepth 20000 in
theorem ggX12_size_X12_fails : GoodIn wsX12_size wsX12_fails := goodIn_r _ [8, 9, 19, 20, 21, 22, 23, 24, 25, 26, 27, 28, 29] rfl (by decide +kernel)
set_option maxRecDepth 20000 in
theorem gX12_size_X12_fails : GoodIn wsX12_size (wsV RX12 43 RX12 yX12_fails wsX12_fails) := goodIn_app (goodIn_of _ (by decide +kernel)) ggX12_size_X12_fails
set_option maxRecDepth 20000 in
theorem ggX12_size_X12_count : GoodIn wsX12_size wsX12_count := goodIn_ca (goodIn_r _ [13, 14, 15, 16, 3, 17, 18, 19, 20, 21, 22, 23, 24, 25, 26, 27, 28, 29] rfl (by decide +kernel)) (goodIn_sub (fun _ h => List.mem_cons_of_mem _ (List.mem_append_right _ h)) (by decide +kernel))
set_option maxRecDepth 20000 in
theorem gX12_size_X12_count : GoodIn wsX12_size (wsV RX12 58 RX12 yX12_count wsX12_count) := goodIn_app (goodIn_of _ (by decide +kernel)) ggX12_size_X12_count
set_option maxRecDepth 20000 in
theorem ggX12_isName_X12_in : GoodIn wsX12_isName wsX12_in := goodIn_r _ [4] rfl (by decide +kernel)
set_option maxRecDepth 20000 in
theorem gX12_isName_X12_in : GoodIn wsX12_isName (va_wsS RX12 36 yX12_in wsX12_in) := goodIn_app (goodIn_of _ (by decide +kernel)) ggX12_isName_X12_in
set_option maxRecDepth 20000 in
theorem ggX12_addRule_X12_isName : GoodIn wsX12_addRule wsX12_isName := goodIn_r _ [7, 8, 9, 6, 10] rfl (by decide +kernel)
set_option maxRecDepth 20000 in
theorem gX12_addRule_X12_isName : GoodIn wsX12_addRule (va_wsS RX12 62 yX12_isName wsX12_isName) := goodIn_app (goodIn_of _ (by decide +kernel)) ggX12_addRule_X12_isName
set_option maxRecDepth 20000 in
theorem ggX12_addRule_X12_fails : GoodIn wsX12_addRule wsX12_fails := goodIn_r _ [14, 15, 16, 17, 18, 19, 20, 21, 22, 23, 24, 25, 26] rfl (by decide +kernel)
set_option maxRecDepth 20000 in
theorem gX12_addRule_X12_fails : GoodIn wsX12_addRule (wsV RX12 43 RX12 yX12_fails wsX12_fails) := goodIn_app (goodIn_of _ (by decide +kernel)) ggX12_addRule_X12_fails
set_option maxRecDepth 20000 in
theorem ggX12_proofs_X12_has : GoodIn wsX12_proofs wsX12_has := goodIn_ca (goodIn_r _ [8, 9, 28, 29, 30, 31, 32, 33, 34, 35, 36, 37, 38] rfl (by decide +kernel)) (goodIn_sub (fun _ h => List.mem_cons_of_mem _ (List.mem_append_right _ h)) (by decide +kernel))
set_option maxRecDepth 20000 in
theorem gX12_proofs_X12_has : GoodIn wsX12_proofs (wsV RX12 54 RX12 yX12_has wsX12_has) := goodIn_app (goodIn_of _ (by decide +kernel)) ggX12_proofs_X12_has
set_option maxRecDepth 20000 in
theorem ggX12_failsTriple_X12_in : GoodIn wsX12_failsTriple wsX12_in := goodIn_r _ [4] rfl (by decide +kernel)
set_option maxRecDepth 20000 in
theorem gX12_failsTriple_X12_in : GoodIn wsX12_failsTriple (va_wsS RX12 36 yX12_in wsX12_in) := goodIn_app (goodIn_of _ (by decide +kernel)) ggX12_failsTriple_X12_in
set_option maxRecDepth 20000 in
theorem ggX12_failsTriple_X12_isTriple : GoodIn wsX12_failsTriple wsX12_isTriple := goodIn_r _ [7, 1, 2, 3, 4] rfl (by decide +kernel)
set_option maxRecDepth 20000 in
theorem gX12_failsTriple_X12_isTriple : GoodIn wsX12_failsTriple (va_wsS RX12 40 yX12_isTriple wsX12_isTriple) := goodIn_app (goodIn_of _ (by decide +kernel)) ggX12_failsTriple_X12_isTriple
set_option maxRecDepth 20000 in
theorem ggX12_failsTriple_X12_fails : GoodIn wsX12_failsTriple wsX12_fails := goodIn_r _ [11, 12, 13, 14, 15, 16, 17, 18, 19, 20, 21, 22, 23] rfl (by decide +kernel)
set_option maxRecDepth 20000 in
theorem gX12_failsTriple_X12_fails : GoodIn wsX12_failsTriple (wsV RX12 43 RX12 yX12_fails wsX12_fails) := goodIn_app (goodIn_of _ (by decide +kernel)) ggX12_failsTriple_X12_fails
set_option maxRecDepth 20000 in
theorem ggX12_entails_X12_failsTriple : GoodIn wsX12_entails wsX12_failsTriple := goodIn_r _ [5, 6, 7, 4, 8, 9, 10, 11, 12, 13, 14, 15, 16, 44, 45, 46, 47, 48, 49, 50, 51, 52, 53, 54] rfl (by decide +kernel)
set_option maxRecDepth 20000 in
theorem gX12_entails_X12_failsTriple : GoodIn wsX12_entails (wsV RX12 79 RX12 yX12_failsTriple wsX12_failsTriple) := goodIn_app (goodIn_of _ (by decide +kernel)) ggX12_entails_X12_failsTriple
set_option maxRecDepth 20000 in
theorem ggX12_entails_X12_proofs : GoodIn wsX12_entails wsX12_proofs := goodIn_ca (goodIn_r _ [20, 21, 22, 23, 24, 25, 26, 4, 27, 28, 29, 30, 31, 32, 33, 34, 35, 36, 37, 6, 7, 8, 38, 39, 40, 41, 42, 43, 44, 45, 46, 47, 48, 49, 50, 51, 52, 53, 54] rfl (by decide +kernel)) (goodIn_sub (fun _ h => List.mem_cons_of_mem _ (List.mem_append_right _ h)) (by decide +kernel))
set_option maxRecDepth 20000 in
theorem gX12_entails_X12_proofs : GoodIn wsX12_entails (wsV RX12 83 RX12 yX12_proofs wsX12_proofs) := goodIn_app (goodIn_of _ (by decide +kernel)) ggX12_entails_X12_proofs
set_option maxRecDepth 20000 in
theorem ggX12_entails_X12_cell : GoodIn wsX12_entails wsX12_cell := goodIn_r _ [34] rfl (by decide +kernel)
set_option maxRecDepth 20000 in
theorem gX12_entails_X12_cell : GoodIn wsX12_entails (va_wsS RX12 47 yX12_cell wsX12_cell) := goodIn_app (goodIn_of _ (by decide +kernel)) ggX12_entails_X12_cell
set_option maxRecDepth 20000 in
theorem ggX12_leastProof_X12_failsTriple : GoodIn wsX12_leastProof wsX12_failsTriple := goodIn_r _ [5, 6, 7, 4, 8, 9, 10, 11, 12, 13, 14, 15, 16, 44, 45, 46, 47, 48, 49, 50, 51, 52, 53, 54] rfl (by decide +kernel)
set_option maxRecDepth 20000 in
theorem gX12_leastProof_X12_failsTriple : GoodIn wsX12_leastProof (wsV RX12 79 RX12 yX12_failsTriple wsX12_failsTriple) := goodIn_app (goodIn_of _ (by decide +kernel)) ggX12_leastProof_X12_failsTriple
set_option maxRecDepth 20000 in
theorem ggX12_leastProof_X12_proofs : GoodIn wsX12_leastProof wsX12_proofs := goodIn_ca (goodIn_r _ [20, 21, 22, 23, 24, 25, 26, 4, 27, 28, 29, 30, 31, 32, 33, 34, 35, 36, 37, 6, 7, 8, 38, 39, 40, 41, 42, 43, 44, 45, 46, 47, 48, 49, 50, 51, 52, 53, 54] rfl (by decide +kernel)) (goodIn_sub (fun _ h => List.mem_cons_of_mem _ (List.mem_append_right _ h)) (by decide +kernel))
set_option maxRecDepth 20000 in
theorem gX12_leastProof_X12_proofs : GoodIn wsX12_leastProof (wsV RX12 83 RX12 yX12_proofs wsX12_proofs) := goodIn_app (goodIn_of _ (by decide +kernel)) ggX12_leastProof_X12_proofs
set_option maxRecDepth 20000 in
theorem ggX12_leastProof_X12_cell : GoodIn wsX12_leastProof wsX12_cell := goodIn_r _ [34] rfl (by decide +kernel)
set_option maxRecDepth 20000 in
theorem gX12_leastProof_X12_cell : GoodIn wsX12_leastProof (va_wsS RX12 47 yX12_cell wsX12_cell) := goodIn_app (goodIn_of _ (by decide +kernel)) ggX12_leastProof_X12_cell
set_option maxRecDepth 20000 in
theorem ggX12_leastProof_X12_fails : GoodIn wsX12_leastProof wsX12_fails := goodIn_r _ [15, 16, 44, 45, 46, 47, 48, 49, 50, 51, 52, 53, 54] rfl (by decide +kernel)
set_option maxRecDepth 20000 in
theorem gX12_leastProof_X12_fails : GoodIn wsX12_leastProof (wsV RX12 43 RX12 yX12_fails wsX12_fails) := goodIn_app (goodIn_of _ (by decide +kernel)) ggX12_leastProof_X12_fails
set_option maxRecDepth 20000 in
theorem ggX12_entailed_X12_in : GoodIn wsX12_entailed wsX12_in := goodIn_r _ [4] rfl (by decide +kernel)
set_option maxRecDepth 20000 in
theorem gX12_entailed_X12_in : GoodIn wsX12_entailed (va_wsS RX12 36 yX12_in wsX12_in) := goodIn_app (goodIn_of _ (by decide +kernel)) ggX12_entailed_X12_in
set_option maxRecDepth 20000 in
theorem ggX12_entailed_X12_fails : GoodIn wsX12_entailed wsX12_fails := goodIn_r _ [8, 9, 37, 38, 39, 40, 41, 42, 43, 44, 45, 46, 47] rfl (by decide +kernel)
set_option maxRecDepth 20000 in
theorem gX12_entailed_X12_fails : GoodIn wsX12_entailed (wsV RX12 43 RX12 yX12_fails wsX12_fails) := goodIn_app (goodIn_of _ (by decide +kernel)) ggX12_entailed_X12_fails
set_option maxRecDepth 20000 in
theorem ggX12_entailed_X12_proofs : GoodIn wsX12_entailed wsX12_proofs := goodIn_ca (goodIn_r _ [13, 14, 15, 16, 17, 18, 19, 3, 20, 21, 22, 23, 24, 25, 26, 27, 28, 29, 30, 1, 2, 4, 31, 32, 33, 34, 35, 36, 37, 38, 39, 40, 41, 42, 43, 44, 45, 46, 47] rfl (by decide +kernel)) (goodIn_sub (fun _ h => List.mem_cons_of_mem _ (List.mem_append_right _ h)) (by decide +kernel))
set_option maxRecDepth 20000 in
theorem gX12_entailed_X12_proofs : GoodIn wsX12_entailed (wsV RX12 83 RX12 yX12_proofs wsX12_proofs) := goodIn_app (goodIn_of _ (by decide +kernel)) ggX12_entailed_X12_proofs
set_option maxRecDepth 20000 in
theorem ggX12_isPlace_X12_in : GoodIn wsX12_isPlace wsX12_in := goodIn_r _ [4] rfl (by decide +kernel)
set_option maxRecDepth 20000 in
theorem gX12_isPlace_X12_in : GoodIn wsX12_isPlace (va_wsS RX12 36 yX12_in wsX12_in) := goodIn_app (goodIn_of _ (by decide +kernel)) ggX12_isPlace_X12_in
set_option maxRecDepth 20000 in
theorem ggX12_pattern_X12_in : GoodIn wsX12_pattern wsX12_in := goodIn_r _ [6] rfl (by decide +kernel)
set_option maxRecDepth 20000 in
theorem gX12_pattern_X12_in : GoodIn wsX12_pattern (va_wsS RX12 36 yX12_in wsX12_in) := goodIn_app (goodIn_of _ (by decide +kernel)) ggX12_pattern_X12_in
set_option maxRecDepth 20000 in
theorem ggX12_pattern_X12_isPlace : GoodIn wsX12_pattern wsX12_isPlace := goodIn_r _ [9, 3, 4, 5, 6] rfl (by decide +kernel)
set_option maxRecDepth 20000 in
theorem gX12_pattern_X12_isPlace : GoodIn wsX12_pattern (va_wsS RX12 94 yX12_isPlace wsX12_isPlace) := goodIn_app (goodIn_of _ (by decide +kernel)) ggX12_pattern_X12_isPlace
set_option maxRecDepth 20000 in
theorem ggX12_pattern_X12_fails : GoodIn wsX12_pattern wsX12_fails := goodIn_r _ [13, 14, 20, 21, 22, 23, 24, 25, 26, 27, 28, 29, 30] rfl (by decide +kernel)
set_option maxRecDepth 20000 in
theorem gX12_pattern_X12_fails : GoodIn wsX12_pattern (wsV RX12 43 RX12 yX12_fails wsX12_fails) := goodIn_app (goodIn_of _ (by decide +kernel)) ggX12_pattern_X12_fails
set_option maxRecDepth 20000 in
theorem ggX12_pattern_X12_made : GoodIn wsX12_pattern wsX12_made := goodIn_r _ [18, 19, 1, 20, 21, 22, 23, 24, 25, 26, 27, 28, 29, 30] rfl (by decide +kernel)
set_option maxRecDepth 20000 in
theorem gX12_pattern_X12_made : GoodIn wsX12_pattern (wsV RX12 97 RX12 yX12_made wsX12_made) := goodIn_app (goodIn_of _ (by decide +kernel)) ggX12_pattern_X12_made
set_option maxRecDepth 20000 in
theorem ggX12_path_X12_in : GoodIn wsX12_path wsX12_in := goodIn_r _ [6] rfl (by decide +kernel)
set_option maxRecDepth 20000 in
theorem gX12_path_X12_in : GoodIn wsX12_path (va_wsS RX12 36 yX12_in wsX12_in) := goodIn_app (goodIn_of _ (by decide +kernel)) ggX12_path_X12_in
set_option maxRecDepth 20000 in
theorem ggX12_path_X12_isPlace : GoodIn wsX12_path wsX12_isPlace := goodIn_r _ [9, 3, 4, 5, 6] rfl (by decide +kernel)
set_option maxRecDepth 20000 in
theorem gX12_path_X12_isPlace : GoodIn wsX12_path (va_wsS RX12 94 yX12_isPlace wsX12_isPlace) := goodIn_app (goodIn_of _ (by decide +kernel)) ggX12_path_X12_isPlace
set_option maxRecDepth 20000 in
theorem ggX12_path_X12_isName : GoodIn wsX12_path wsX12_isName := goodIn_r _ [12, 3, 4, 5, 6] rfl (by decide +kernel)
set_option maxRecDepth 20000 in
theorem gX12_path_X12_isName : GoodIn wsX12_path (va_wsS RX12 62 yX12_isName wsX12_isName) := goodIn_app (goodIn_of _ (by decide +kernel)) ggX12_path_X12_isName
set_option maxRecDepth 20000 in
theorem ggX12_path_X12_fails : GoodIn wsX12_path wsX12_fails := goodIn_r _ [16, 17, 23, 24, 25, 26, 27, 28, 29, 30, 31, 32, 33] rfl (by decide +kernel)
set_option maxRecDepth 20000 in
theorem gX12_path_X12_fails : GoodIn wsX12_path (wsV RX12 43 RX12 yX12_fails wsX12_fails) := goodIn_app (goodIn_of _ (by decide +kernel)) ggX12_path_X12_fails
set_option maxRecDepth 20000 in
theorem ggX12_path_X12_made : GoodIn wsX12_path wsX12_made := goodIn_r _ [21, 22, 1, 23, 24, 25, 26, 27, 28, 29, 30, 31, 32, 33] rfl (by decide +kernel)
set_option maxRecDepth 20000 in
theorem gX12_path_X12_made : GoodIn wsX12_path (wsV RX12 97 RX12 yX12_made wsX12_made) := goodIn_app (goodIn_of _ (by decide +kernel)) ggX12_path_X12_made
set_option maxRecDepth 20000 in
theorem ggX12_isQuery_X12_in : GoodIn wsX12_isQuery wsX12_in := goodIn_r _ [5] rfl (by decide +kernel)
set_option maxRecDepth 20000 in
theorem gX12_isQuery_X12_in : GoodIn wsX12_isQuery (va_wsS RX12 36 yX12_in wsX12_in) := goodIn_app (goodIn_of _ (by decide +kernel)) ggX12_isQuery_X12_in
set_option maxRecDepth 20000 in
theorem ggX12_both_X12_isQuery : GoodIn wsX12_both wsX12_isQuery := goodIn_r _ [7, 1, 8, 9, 6, 10, 21, 22, 23, 24, 25, 26, 27, 28, 29, 30, 31] rfl (by decide +kernel)
set_option maxRecDepth 20000 in
theorem gX12_both_X12_isQuery : GoodIn wsX12_both (wsV RX12 101 RX12 yX12_isQuery wsX12_isQuery) := goodIn_app (goodIn_of _ (by decide +kernel)) ggX12_both_X12_isQuery
set_option maxRecDepth 20000 in
theorem ggX12_both_X12_fails : GoodIn wsX12_both wsX12_fails := goodIn_r _ [14, 15, 21, 22, 23, 24, 25, 26, 27, 28, 29, 30, 31] rfl (by decide +kernel)
set_option maxRecDepth 20000 in
theorem gX12_both_X12_fails : GoodIn wsX12_both (wsV RX12 43 RX12 yX12_fails wsX12_fails) := goodIn_app (goodIn_of _ (by decide +kernel)) ggX12_both_X12_fails
set_option maxRecDepth 20000 in
theorem ggX12_both_X12_made : GoodIn wsX12_both wsX12_made := goodIn_r _ [19, 20, 1, 21, 22, 23, 24, 25, 26, 27, 28, 29, 30, 31] rfl (by decide +kernel)
set_option maxRecDepth 20000 in
theorem gX12_both_X12_made : GoodIn wsX12_both (wsV RX12 97 RX12 yX12_made wsX12_made) := goodIn_app (goodIn_of _ (by decide +kernel)) ggX12_both_X12_made
set_option maxRecDepth 20000 in
theorem ggX12_filter_X12_isPlace : GoodIn wsX12_filter wsX12_isPlace := goodIn_r _ [6, 7, 8, 5, 9] rfl (by decide +kernel)
set_option maxRecDepth 20000 in
theorem gX12_filter_X12_isPlace : GoodIn wsX12_filter (va_wsS RX12 94 yX12_isPlace wsX12_isPlace) := goodIn_app (goodIn_of _ (by decide +kernel)) ggX12_filter_X12_isPlace
set_option maxRecDepth 20000 in
theorem ggX12_filter_X12_isQuery : GoodIn wsX12_filter wsX12_isQuery := goodIn_r _ [13, 1, 7, 8, 5, 9, 24, 25, 26, 27, 28, 29, 30, 31, 32, 33, 34] rfl (by decide +kernel)
set_option maxRecDepth 20000 in
theorem gX12_filter_X12_isQuery : GoodIn wsX12_filter (wsV RX12 101 RX12 yX12_isQuery wsX12_isQuery) := goodIn_app (goodIn_of _ (by decide +kernel)) ggX12_filter_X12_isQuery
set_option maxRecDepth 20000 in
theorem ggX12_filter_X12_fails : GoodIn wsX12_filter wsX12_fails := goodIn_r _ [17, 18, 24, 25, 26, 27, 28, 29, 30, 31, 32, 33, 34] rfl (by decide +kernel)
set_option maxRecDepth 20000 in
theorem gX12_filter_X12_fails : GoodIn wsX12_filter (wsV RX12 43 RX12 yX12_fails wsX12_fails) := goodIn_app (goodIn_of _ (by decide +kernel)) ggX12_filter_X12_fails
set_option maxRecDepth 20000 in
theorem ggX12_filter_X12_made : GoodIn wsX12_filter wsX12_made := goodIn_r _ [22, 23, 1, 24, 25, 26, 27, 28, 29, 30, 31, 32, 33, 34] rfl (by decide +kernel)
set_option maxRecDepth 20000 in
theorem gX12_filter_X12_made : GoodIn wsX12_filter (wsV RX12 97 RX12 yX12_made wsX12_made) := goodIn_app (goodIn_of _ (by decide +kernel)) ggX12_filter_X12_made
set_option maxRecDepth 20000 in
theorem ggX12_single__X12_isQuery : GoodIn wsX12_single_ wsX12_isQuery := goodIn_r _ [7, 1, 8, 9, 6, 10, 21, 22, 23, 24, 25, 26, 27, 28, 29, 30, 31] rfl (by decide +kernel)
set_option maxRecDepth 20000 in
theorem gX12_single__X12_isQuery : GoodIn wsX12_single_ (wsV RX12 101 RX12 yX12_isQuery wsX12_isQuery) := goodIn_app (goodIn_of _ (by decide +kernel)) ggX12_single__X12_isQuery
set_option maxRecDepth 20000 in
theorem ggX12_single__X12_fails : GoodIn wsX12_single_ wsX12_fails := goodIn_r _ [14, 15, 21, 22, 23, 24, 25, 26, 27, 28, 29, 30, 31] rfl (by decide +kernel)
set_option maxRecDepth 20000 in
theorem gX12_single__X12_fails : GoodIn wsX12_single_ (wsV RX12 43 RX12 yX12_fails wsX12_fails) := goodIn_app (goodIn_of _ (by decide +kernel)) ggX12_single__X12_fails
set_option maxRecDepth 20000 in
theorem ggX12_single__X12_made : GoodIn wsX12_single_ wsX12_made := goodIn_r _ [19, 20, 1, 21, 22, 23, 24, 25, 26, 27, 28, 29, 30, 31] rfl (by decide +kernel)
set_option maxRecDepth 20000 in
theorem gX12_single__X12_made : GoodIn wsX12_single_ (wsV RX12 97 RX12 yX12_made wsX12_made) := goodIn_app (goodIn_of _ (by decide +kernel)) ggX12_single__X12_made
set_option maxRecDepth 20000 in
theorem ggX12_failsQuery_X12_isQuery : GoodIn wsX12_failsQuery wsX12_isQuery := goodIn_r _ [5, 6, 7, 8, 4, 9, 15, 16, 17, 18, 19, 20, 21, 22, 23, 24, 25] rfl (by decide +kernel)
set_option maxRecDepth 20000 in
theorem gX12_failsQuery_X12_isQuery : GoodIn wsX12_failsQuery (wsV RX12 101 RX12 yX12_isQuery wsX12_isQuery) := goodIn_app (goodIn_of _ (by decide +kernel)) ggX12_failsQuery_X12_isQuery
set_option maxRecDepth 20000 in
theorem ggX12_failsQuery_X12_fails : GoodIn wsX12_failsQuery wsX12_fails := goodIn_r _ [13, 14, 15, 16, 17, 18, 19, 20, 21, 22, 23, 24, 25] rfl (by decide +kernel)
set_option maxRecDepth 20000 in
theorem gX12_failsQuery_X12_fails : GoodIn wsX12_failsQuery (wsV RX12 43 RX12 yX12_fails wsX12_fails) := goodIn_app (goodIn_of _ (by decide +kernel)) ggX12_failsQuery_X12_fails
set_option maxRecDepth 20000 in
theorem ggX12_rows_X12_failsQuery : GoodIn wsX12_rows wsX12_failsQuery := goodIn_r _ [5, 6, 7, 8, 4, 9, 10, 11, 12, 13, 14, 15, 16, 17, 18, 127, 128, 129, 130, 131, 132, 133, 134, 135, 136, 137] rfl (by decide +kernel)
set_option maxRecDepth 20000 in
theorem gX12_rows_X12_failsQuery : GoodIn wsX12_rows (wsV RX12 176 RX12 yX12_failsQuery wsX12_failsQuery) := goodIn_app (goodIn_of _ (by decide +kernel)) ggX12_rows_X12_failsQuery
set_option maxRecDepth 20000 in
theorem ggX12_rowsAnew_X12_rows : GoodIn wsX12_rowsAnew wsX12_rows := goodIn_ca (goodIn_r _ [5, 6, 7, 8, 4, 9, 10, 11, 12, 13, 14, 15, 16, 17, 18, 19, 20, 21, 22, 23, 24, 25, 26, 27, 28, 29, 30, 31, 32, 33, 34, 35, 36, 37, 38, 39, 40, 41, 42, 43, 44, 45, 46, 47, 48, 49, 50, 51, 52, 53, 54, 55, 56, 57, 58, 59, 60, 61, 62, 63, 64, 65, 66, 67, 68, 69, 70, 71, 72, 73, 74, 75, 76, 77, 78, 79, 80, 81, 82, 83, 84, 85, 86, 87, 88, 89, 90, 91, 92, 93, 94, 95, 96, 97, 98, 99, 100, 101, 102, 103, 104, 105, 106, 107, 108, 109, 110, 111, 112, 113, 114, 115, 116, 117, 118, 119, 120, 121, 122, 123, 124, 125, 126, 127, 128, 129, 130, 131, 132, 133, 134, 135, 136, 137, 138, 139, 140, 141] rfl (by decide +kernel)) (goodIn_sub (fun _ h => List.mem_cons_of_mem _ (List.mem_append_right _ h)) (by decide +kernel))
set_option maxRecDepth 20000 in
theorem gX12_rowsAnew_X12_rows : GoodIn wsX12_rowsAnew (wsV RX12 182 RX12 yX12_rows wsX12_rows) := goodIn_app (goodIn_of _ (by decide +kernel)) ggX12_rowsAnew_X12_rows
set_option maxRecDepth 20000 in
theorem ggX12_row_X12_isQuery : GoodIn wsX12_row wsX12_isQuery := goodIn_r _ [5, 6, 7, 8, 4, 9, 123, 124, 125, 126, 127, 128, 129, 130, 131, 132, 133] rfl (by decide +kernel)
set_option maxRecDepth 20000 in
theorem gX12_row_X12_isQuery : GoodIn wsX12_row (wsV RX12 101 RX12 yX12_isQuery wsX12_isQuery) := goodIn_app (goodIn_of _ (by decide +kernel)) ggX12_row_X12_isQuery
set_option maxRecDepth 20000 in
theorem ggX12_row_X12_in : GoodIn wsX12_row wsX12_in := goodIn_r _ [9] rfl (by decide +kernel)
set_option maxRecDepth 20000 in
theorem gX12_row_X12_in : GoodIn wsX12_row (va_wsS RX12 36 yX12_in wsX12_in) := goodIn_app (goodIn_of _ (by decide +kernel)) ggX12_row_X12_in
set_option maxRecDepth 20000 in
theorem ggX12_row_X12_fails : GoodIn wsX12_row wsX12_fails := goodIn_r _ [13, 14, 123, 124, 125, 126, 127, 128, 129, 130, 131, 132, 133] rfl (by decide +kernel)
set_option maxRecDepth 20000 in
theorem gX12_row_X12_fails : GoodIn wsX12_row (wsV RX12 43 RX12 yX12_fails wsX12_fails) := goodIn_app (goodIn_of _ (by decide +kernel)) ggX12_row_X12_fails
set_option maxRecDepth 20000 in
theorem ggX12_different_X12_failsQuery : GoodIn wsX12_different wsX12_failsQuery := goodIn_r _ [5, 6, 7, 8, 4, 9, 10, 11, 12, 13, 14, 15, 16, 17, 18, 127, 128, 129, 130, 131, 132, 133, 134, 135, 136, 137] rfl (by decide +kernel)
set_option maxRecDepth 20000 in
theorem gX12_different_X12_failsQuery : GoodIn wsX12_different (wsV RX12 176 RX12 yX12_failsQuery wsX12_failsQuery) := goodIn_app (goodIn_of _ (by decide +kernel)) ggX12_different_X12_failsQuery
set_option maxRecDepth 20000 in
theorem ggX12_failsRows_X12_isQuery : GoodIn wsX12_failsRows wsX12_isQuery := goodIn_r _ [5, 6, 7, 8, 4, 9, 18, 19, 20, 21, 22, 23, 24, 25, 26, 27, 28] rfl (by decide +kernel)
set_option maxRecDepth 20000 in
theorem gX12_failsRows_X12_isQuery : GoodIn wsX12_failsRows (wsV RX12 101 RX12 yX12_isQuery wsX12_isQuery) := goodIn_app (goodIn_of _ (by decide +kernel)) ggX12_failsRows_X12_isQuery
set_option maxRecDepth 20000 in
theorem ggX12_failsRows_X12_in : GoodIn wsX12_failsRows wsX12_in := goodIn_r _ [9] rfl (by decide +kernel)
set_option maxRecDepth 20000 in
theorem gX12_failsRows_X12_in : GoodIn wsX12_failsRows (va_wsS RX12 36 yX12_in wsX12_in) := goodIn_app (goodIn_of _ (by decide +kernel)) ggX12_failsRows_X12_in
set_option maxRecDepth 20000 in
theorem ggX12_failsRows_X12_isPlace : GoodIn wsX12_failsRows wsX12_isPlace := goodIn_r _ [12, 7, 8, 4, 9] rfl (by decide +kernel)
set_option maxRecDepth 20000 in
theorem gX12_failsRows_X12_isPlace : GoodIn wsX12_failsRows (va_wsS RX12 94 yX12_isPlace wsX12_isPlace) := goodIn_app (goodIn_of _ (by decide +kernel)) ggX12_failsRows_X12_isPlace
set_option maxRecDepth 20000 in
theorem ggX12_failsRows_X12_fails : GoodIn wsX12_failsRows wsX12_fails := goodIn_r _ [16, 17, 18, 19, 20, 21, 22, 23, 24, 25, 26, 27, 28] rfl (by decide +kernel)
set_option maxRecDepth 20000 in
theorem gX12_failsRows_X12_fails : GoodIn wsX12_failsRows (wsV RX12 43 RX12 yX12_fails wsX12_fails) := goodIn_app (goodIn_of _ (by decide +kernel)) ggX12_failsRows_X12_fails
set_option maxRecDepth 20000 in
theorem ggX12_addRows_X12_failsRows : GoodIn wsX12_addRows wsX12_failsRows := goodIn_r _ [7, 8, 9, 10, 6, 11, 12, 13, 14, 15, 16, 17, 18, 19, 20, 21, 22, 23, 138, 139, 140, 141, 142, 143, 144, 145, 146, 147, 148] rfl (by decide +kernel)
set_option maxRecDepth 20000 in
theorem gX12_addRows_X12_failsRows : GoodIn wsX12_addRows (wsV RX12 186 RX12 yX12_failsRows wsX12_failsRows) := goodIn_app (goodIn_of _ (by decide +kernel)) ggX12_addRows_X12_failsRows
set_option maxRecDepth 20000 in
theorem ggX12_addRows_X12_fails : GoodIn wsX12_addRows wsX12_fails := goodIn_r _ [22, 23, 138, 139, 140, 141, 142, 143, 144, 145, 146, 147, 148] rfl (by decide +kernel)
set_option maxRecDepth 20000 in
theorem gX12_addRows_X12_fails : GoodIn wsX12_addRows (wsV RX12 43 RX12 yX12_fails wsX12_fails) := goodIn_app (goodIn_of _ (by decide +kernel)) ggX12_addRows_X12_fails
set_option maxRecDepth 20000 in
theorem ggX12_removeRows_X12_failsRows : GoodIn wsX12_removeRows wsX12_failsRows := goodIn_r _ [7, 8, 9, 10, 6, 11, 12, 13, 14, 15, 16, 17, 18, 19, 20, 21, 22, 23, 138, 139, 140, 141, 142, 143, 144, 145, 146, 147, 148] rfl (by decide +kernel)
set_option maxRecDepth 20000 in
theorem gX12_removeRows_X12_failsRows : GoodIn wsX12_removeRows (wsV RX12 186 RX12 yX12_failsRows wsX12_failsRows) := goodIn_app (goodIn_of _ (by decide +kernel)) ggX12_removeRows_X12_failsRows
set_option maxRecDepth 20000 in
theorem ggX12_addShape_X12_in : GoodIn wsX12_addShape wsX12_in := goodIn_r _ [7] rfl (by decide +kernel)
set_option maxRecDepth 20000 in
theorem gX12_addShape_X12_in : GoodIn wsX12_addShape (va_wsS RX12 36 yX12_in wsX12_in) := goodIn_app (goodIn_of _ (by decide +kernel)) ggX12_addShape_X12_in
set_option maxRecDepth 20000 in
theorem ggX12_addShape_X12_isName : GoodIn wsX12_addShape wsX12_isName := goodIn_r _ [10, 4, 5, 6, 7] rfl (by decide +kernel)
set_option maxRecDepth 20000 in
theorem gX12_addShape_X12_isName : GoodIn wsX12_addShape (va_wsS RX12 62 yX12_isName wsX12_isName) := goodIn_app (goodIn_of _ (by decide +kernel)) ggX12_addShape_X12_isName
set_option maxRecDepth 20000 in
theorem ggX12_addShape_X12_fails : GoodIn wsX12_addShape wsX12_fails := goodIn_r _ [14, 15, 16, 17, 18, 19, 20, 21, 22, 23, 24, 25, 26] rfl (by decide +kernel)
set_option maxRecDepth 20000 in
theorem gX12_addShape_X12_fails : GoodIn wsX12_addShape (wsV RX12 43 RX12 yX12_fails wsX12_fails) := goodIn_app (goodIn_of _ (by decide +kernel)) ggX12_addShape_X12_fails
set_option maxRecDepth 20000 in
theorem ggX12_fault_X12_in : GoodIn wsX12_fault wsX12_in := goodIn_r _ [33] rfl (by decide +kernel)
set_option maxRecDepth 20000 in
theorem gX12_fault_X12_in : GoodIn wsX12_fault (va_wsS RX12 36 yX12_in wsX12_in) := goodIn_app (goodIn_of _ (by decide +kernel)) ggX12_fault_X12_in
set_option maxRecDepth 20000 in
theorem ggX12_faults_X12_fault : GoodIn wsX12_faults wsX12_fault := goodIn_ca (goodIn_r _ [6, 7, 8, 9, 10, 11, 5, 12, 13, 14, 15, 16, 17, 18, 19, 20, 21, 22, 23, 24, 25, 26, 27, 28, 29, 30, 31, 32, 33, 34, 35, 36, 37, 38, 39, 40, 41, 42, 43, 44, 45, 46, 47, 48, 49, 50, 51, 52, 53, 54, 55, 56, 57, 58] rfl (by decide +kernel)) (goodIn_sub (fun _ h => List.mem_cons_of_mem _ (List.mem_append_right _ h)) (by decide +kernel))
set_option maxRecDepth 20000 in
theorem gX12_faults_X12_fault : GoodIn wsX12_faults (wsV RX12 201 RX12 yX12_fault wsX12_fault) := goodIn_app (goodIn_of _ (by decide +kernel)) ggX12_faults_X12_fault
set_option maxRecDepth 20000 in
theorem ggX12_faultAt_X12_fault : GoodIn wsX12_faultAt wsX12_fault := goodIn_ca (goodIn_r _ [5, 6, 7, 8, 9, 10, 4, 11, 12, 13, 14, 15, 16, 17, 18, 19, 20, 21, 22, 23, 24, 25, 26, 27, 28, 29, 30, 31, 32, 33, 34, 35, 36, 37, 38, 39, 40, 41, 42, 43, 44, 45, 46, 52, 53, 54, 55, 56, 57, 58, 59, 60, 61, 62] rfl (by decide +kernel)) (goodIn_sub (fun _ h => List.mem_cons_of_mem _ (List.mem_append_right _ h)) (by decide +kernel))
set_option maxRecDepth 20000 in
theorem gX12_faultAt_X12_fault : GoodIn wsX12_faultAt (wsV RX12 201 RX12 yX12_fault wsX12_fault) := goodIn_app (goodIn_of _ (by decide +kernel)) ggX12_faultAt_X12_fault
set_option maxRecDepth 20000 in
theorem ggX12_faultAt_X12_fails : GoodIn wsX12_faultAt wsX12_fails := goodIn_r _ [50, 51, 52, 53, 54, 55, 56, 57, 58, 59, 60, 61, 62] rfl (by decide +kernel)
set_option maxRecDepth 20000 in
theorem gX12_faultAt_X12_fails : GoodIn wsX12_faultAt (wsV RX12 43 RX12 yX12_fails wsX12_fails) := goodIn_app (goodIn_of _ (by decide +kernel)) ggX12_faultAt_X12_fails
set_option maxRecDepth 20000 in
theorem ggX12_thereShare_X12_proofs : GoodIn wsX12_thereShare wsX12_proofs := goodIn_ca (goodIn_r _ [5, 6, 7, 8, 9, 10, 11, 4, 12, 13, 14, 15, 16, 17, 18, 19, 20, 21, 22, 23, 24, 25, 26, 27, 28, 29, 30, 31, 41, 42, 43, 44, 45, 46, 47, 48, 49, 50, 51] rfl (by decide +kernel)) (goodIn_sub (fun _ h => List.mem_cons_of_mem _ (List.mem_append_right _ h)) (by decide +kernel))
set_option maxRecDepth 20000 in
theorem gX12_thereShare_X12_proofs : GoodIn wsX12_thereShare (wsV RX12 83 RX12 yX12_proofs wsX12_proofs) := goodIn_app (goodIn_of _ (by decide +kernel)) ggX12_thereShare_X12_proofs
set_option maxRecDepth 20000 in
theorem ggX12_thereShare_X12_fails : GoodIn wsX12_thereShare wsX12_fails := goodIn_r _ [35, 36, 41, 42, 43, 44, 45, 46, 47, 48, 49, 50, 51] rfl (by decide +kernel)
set_option maxRecDepth 20000 in
theorem gX12_thereShare_X12_fails : GoodIn wsX12_thereShare (wsV RX12 43 RX12 yX12_fails wsX12_fails) := goodIn_app (goodIn_of _ (by decide +kernel)) ggX12_thereShare_X12_fails
set_option maxRecDepth 20000 in
theorem ggX12_thereShare_X12_count : GoodIn wsX12_thereShare wsX12_count := goodIn_ca (goodIn_r _ [40, 9, 10, 11, 4, 12, 13, 41, 42, 43, 44, 45, 46, 47, 48, 49, 50, 51] rfl (by decide +kernel)) (goodIn_sub (fun _ h => List.mem_cons_of_mem _ (List.mem_append_right _ h)) (by decide +kernel))
set_option maxRecDepth 20000 in
theorem gX12_thereShare_X12_count : GoodIn wsX12_thereShare (wsV RX12 58 RX12 yX12_count wsX12_count) := goodIn_app (goodIn_of _ (by decide +kernel)) ggX12_thereShare_X12_count
set_option maxRecDepth 20000 in
theorem ggX12_meanProof_X12_proofs : GoodIn wsX12_meanProof wsX12_proofs := goodIn_ca (goodIn_r _ [5, 6, 7, 8, 9, 10, 11, 4, 12, 13, 14, 15, 16, 17, 18, 19, 20, 21, 22, 23, 24, 25, 26, 27, 28, 29, 30, 31, 37, 38, 39, 40, 41, 42, 43, 44, 45, 46, 47] rfl (by decide +kernel)) (goodIn_sub (fun _ h => List.mem_cons_of_mem _ (List.mem_append_right _ h)) (by decide +kernel))
set_option maxRecDepth 20000 in
theorem gX12_meanProof_X12_proofs : GoodIn wsX12_meanProof (wsV RX12 83 RX12 yX12_proofs wsX12_proofs) := goodIn_app (goodIn_of _ (by decide +kernel)) ggX12_meanProof_X12_proofs
set_option maxRecDepth 20000 in
theorem ggX12_meanProof_X12_fails : GoodIn wsX12_meanProof wsX12_fails := goodIn_r _ [35, 36, 37, 38, 39, 40, 41, 42, 43, 44, 45, 46, 47] rfl (by decide +kernel)
set_option maxRecDepth 20000 in
theorem gX12_meanProof_X12_fails : GoodIn wsX12_meanProof (wsV RX12 43 RX12 yX12_fails wsX12_fails) := goodIn_app (goodIn_of _ (by decide +kernel)) ggX12_meanProof_X12_fails
set_option maxRecDepth 20000 in
theorem ggJxc12de_init_da8c8_Jxa1e45_init_da8c8 : GoodIn wsJxc12de_init_da8c8 wsJxa1e45_init_da8c8 := goodIn_r _ [5, 6, 7, 8] rfl (by decide +kernel)
set_option maxRecDepth 20000 in
theorem gJxc12de_init_da8c8_Jxa1e45_init_da8c8 : GoodIn wsJxc12de_init_da8c8 (wsJxa1e45_init_da8c8) := ggJxc12de_init_da8c8_Jxa1e45_init_da8c8
set_option maxRecDepth 20000 in
theorem ggJx4a65c_init_da8c8_Jxc12de_init_da8c8 : GoodIn wsJx4a65c_init_da8c8 wsJxc12de_init_da8c8 := goodIn_r _ [6, 7, 8, 9, 10, 11, 12, 13, 14, 15, 16, 17] rfl (by decide +kernel)
set_option maxRecDepth 20000 in
theorem gJx4a65c_init_da8c8_Jxc12de_init_da8c8 : GoodIn wsJx4a65c_init_da8c8 (wsJxc12de_init_da8c8) := ggJx4a65c_init_da8c8_Jxc12de_init_da8c8
set_option maxRecDepth 20000 in
theorem ggJx4a65c_grow_d5877_Jx4a65c_grow_92f84 : GoodIn wsJx4a65c_grow_d5877 wsJx4a65c_grow_92f84 := goodIn_r _ [6, 7, 8, 9, 10, 11, 12, 13, 14, 15, 16, 17, 18, 19, 20, 21, 22, 23, 24, 25, 26, 27, 28, 29, 30, 31, 32, 33, 34, 35, 36, 37, 38, 39, 40, 41, 42, 43, 44, 45] rfl (by decide +kernel)
set_option maxRecDepth 20000 in
theorem gJx4a65c_grow_d5877_Jx4a65c_grow_92f84 : GoodIn wsJx4a65c_grow_d5877 (wsV RJx4a65c 69 RJx4a65c yJx4a65c_grow_92f84 wsJx4a65c_grow_92f84) := goodIn_app (goodIn_of _ (by decide +kernel)) ggJx4a65c_grow_d5877_Jx4a65c_grow_92f84
set_option maxRecDepth 20000 in
theorem ggJx4a65c_add_72be8_Jx4a65c_grow_d5877 : GoodIn wsJx4a65c_add_72be8 wsJx4a65c_grow_d5877 := goodIn_r _ [6, 1, 7, 8, 9, 5, 10, 11, 12, 13, 14, 15, 16, 17, 18, 19, 20, 21, 22, 23, 24, 25, 26, 27, 28, 29, 30, 31, 32, 33, 34, 35, 36, 37, 38, 39, 40, 41, 42, 43, 44, 45, 46, 47, 48, 49] rfl (by decide +kernel)
set_option maxRecDepth 20000 in
theorem gJx4a65c_add_72be8_Jx4a65c_grow_d5877 : GoodIn wsJx4a65c_add_72be8 (wsV RJx4a65c 129 RJx4a65c yJx4a65c_grow_d5877 wsJx4a65c_grow_d5877) := goodIn_app (goodIn_of _ (by decide +kernel)) ggJx4a65c_add_72be8_Jx4a65c_grow_d5877
set_option maxRecDepth 20000 in
theorem ggJx4a65c_add_9ea2d_Jx4a65c_add_72be8 : GoodIn wsJx4a65c_add_9ea2d wsJx4a65c_add_72be8 := goodIn_r _ [9, 4, 10, 11, 12, 8, 13, 14, 15, 16, 17, 3, 18, 19, 20, 21, 22, 23, 24, 25, 26, 27, 28, 29, 30, 31, 32, 33, 34, 35, 36, 37, 38, 39, 40, 41, 42, 43, 44, 45, 46, 47, 48, 49, 50, 51, 52, 53, 54, 55] rfl (by decide +kernel)
set_option maxRecDepth 20000 in
theorem gJx4a65c_add_9ea2d_Jx4a65c_add_72be8 : GoodIn wsJx4a65c_add_9ea2d (wsV RJx4a65c 131 RJx4a65c yJx4a65c_add_72be8 wsJx4a65c_add_72be8) := goodIn_app (goodIn_of _ (by decide +kernel)) ggJx4a65c_add_9ea2d_Jx4a65c_add_72be8

