theorem dL_layer_0 : decode cL_layer 0 = .ok (.aload_n 0, 1) := by decide +kernel
theorem dL_layer_1 : decode cL_layer 1 = .ok (.iload_n 1, 1) := by decide +kernel
theorem dL_layer_2 : decode cL_layer 2 = .ok (.iload_n 2, 1) := by decide +kernel
theorem dL_layer_3 : decode cL_layer 3 = .ok (.invokevirtual 10, 3) := by decide +kernel
theorem dL_layer_6 : decode cL_layer 6 = .ok (.ireturn, 1) := by decide +kernel
theorem dL_layer_7 : decode cL_layer 7 = .ok (.astore_n 3, 1) := by decide +kernel
theorem dL_layer_8 : decode cL_layer 8 = .ok (.ldc 18, 2) := by decide +kernel
theorem dL_layer_10 : decode cL_layer 10 = .ok (.ireturn, 1) := by decide +kernel
theorem dL_layer_11 : decode cL_layer 11 = .ok (.astore_n 3, 1) := by decide +kernel
theorem dL_layer_12 : decode cL_layer 12 = .ok (.ldc 21, 2) := by decide +kernel
theorem dL_layer_14 : decode cL_layer 14 = .ok (.ireturn, 1) := by decide +kernel
set_option maxRecDepth 20000 in
theorem ggL_clear_X3_clear : GoodIn wsL_clear wsX3_clear := goodIn_ca (goodIn_r _ [7, 8, 9, 10, 11, 12, 13, 14, 15, 16, 17, 18, 19, 6, 20, 21, 22, 23, 24, 25, 26, 27, 28, 29, 30, 31, 32, 33, 34, 35, 36, 37, 38, 39, 40, 41, 42, 43, 44, 45, 46, 47, 48, 49, 50, 51, 52, 53, 54, 55, 56, 57, 58, 59, 60, 61, 62, 63, 64, 65, 66, 67, 68, 69, 70, 71, 72, 73, 74, 75, 76, 77, 78] (by decide +kernel) (by decide +kernel)) (goodIn_sub (fun _ h => List.mem_cons_of_mem _ (List.mem_append_right _ h)) (by decide +kernel))
set_option maxRecDepth 20000 in
theorem gL_clear_X3_clear : GoodIn wsL_clear (wsV RL 22 RX3 yX3_clear wsX3_clear) := goodIn_app (goodIn_of _ (by decide +kernel)) ggL_clear_X3_clear
theorem dL_clear_0 : decode cL_clear 0 = .ok (.aload_n 0, 1) := by decide +kernel
theorem dL_clear_1 : decode cL_clear 1 = .ok (.iload_n 1, 1) := by decide +kernel
theorem dL_clear_2 : decode cL_clear 2 = .ok (.invokevirtual 22, 3) := by decide +kernel
theorem dL_clear_5 : decode cL_clear 5 = .ok (.ireturn, 1) := by decide +kernel
theorem dL_clear_6 : decode cL_clear 6 = .ok (.astore_n 2, 1) := by decide +kernel
theorem dL_clear_7 : decode cL_clear 7 = .ok (.ldc 28, 2) := by decide +kernel
theorem dL_clear_9 : decode cL_clear 9 = .ok (.ireturn, 1) := by decide +kernel
set_option maxRecDepth 20000 in
theorem ggL_clearThin_X3_clearThin : GoodIn wsL_clearThin wsX3_clearThin := goodIn_ca (goodIn_r _ [7, 8, 9, 10, 11, 12, 6, 13, 14, 15, 16, 17, 18, 19, 20, 21, 22, 23, 24, 25, 26, 27, 28, 29, 30, 31, 32, 33, 34, 35, 36, 37, 38, 39, 40, 41, 42, 43, 44, 45, 46, 47, 48, 49, 50, 51, 52, 53, 54, 55, 56, 57, 58, 59, 60, 61, 62, 63, 64, 65, 66, 67, 68, 69, 70, 71, 72, 73, 74, 75, 76, 77] (by decide +kernel) (by decide +kernel)) (goodIn_sub (fun _ h => List.mem_cons_of_mem _ (List.mem_append_right _ h)) (by decide +kernel))
set_option maxRecDepth 20000 in
theorem gL_clearThin_X3_clearThin : GoodIn wsL_clearThin (wsV RL 29 RX3 yX3_clearThin wsX3_clearThin) := goodIn_app (goodIn_of _ (by decide +kernel)) ggL_clearThin_X3_clearThin
theorem dL_clearThin_0 : decode cL_clearThin 0 = .ok (.aload_n 0, 1) := by decide +kernel
theorem dL_clearThin_1 : decode cL_clearThin 1 = .ok (.iload_n 1, 1) := by decide +kernel
theorem dL_clearThin_2 : decode cL_clearThin 2 = .ok (.invokevirtual 29, 3) := by decide +kernel
theorem dL_clearThin_5 : decode cL_clearThin 5 = .ok (.ireturn, 1) := by decide +kernel
theorem dL_clearThin_6 : decode cL_clearThin 6 = .ok (.astore_n 2, 1) := by decide +kernel
theorem dL_clearThin_7 : decode cL_clearThin 7 = .ok (.ldc 18, 2) := by decide +kernel
theorem dL_clearThin_9 : decode cL_clearThin 9 = .ok (.ireturn, 1) := by decide +kernel
set_option maxRecDepth 20000 in
theorem ggL_aim_X3_aim : GoodIn wsL_aim wsX3_aim := goodIn_ca (goodIn_ca (goodIn_r _ [9, 10, 11, 12, 13, 14, 15, 16, 8, 17, 18, 19, 20, 21, 22, 23, 24, 25, 26, 27, 28, 29, 30, 31, 32, 33, 34, 35, 36, 37, 38, 39, 40, 41, 42, 43, 44, 45, 46, 47, 48, 49, 50, 51, 52, 53, 54, 55, 56, 57, 58, 59, 60, 61, 62, 63, 64, 65, 66, 67, 68, 69, 70, 71, 72, 73, 74, 75, 76, 77, 78, 79, 80, 81] (by decide +kernel) (by decide +kernel)) (goodIn_sub (fun _ h => List.mem_cons_of_mem _ (List.mem_append_left _ (List.mem_append_right _ h))) (by decide +kernel))) (goodIn_sub (fun _ h => List.mem_cons_of_mem _ (List.mem_append_right _ h)) (by decide +kernel))
set_option maxRecDepth 20000 in
theorem gL_aim_X3_aim : GoodIn wsL_aim (wsV RL 32 RX3 yX3_aim wsX3_aim) := goodIn_app (goodIn_of _ (by decide +kernel)) ggL_aim_X3_aim
theorem dL_aim_0 : decode cL_aim 0 = .ok (.aload_n 0, 1) := by decide +kernel
theorem dL_aim_1 : decode cL_aim 1 = .ok (.iload_n 1, 1) := by decide +kernel
theorem dL_aim_2 : decode cL_aim 2 = .ok (.iload_n 2, 1) := by decide +kernel
theorem dL_aim_3 : decode cL_aim 3 = .ok (.invokevirtual 32, 3) := by decide +kernel
theorem dL_aim_6 : decode cL_aim 6 = .ok (.ireturn, 1) := by decide +kernel
theorem dL_aim_7 : decode cL_aim 7 = .ok (.astore_n 3, 1) := by decide +kernel
theorem dL_aim_8 : decode cL_aim 8 = .ok (.ldc 28, 2) := by decide +kernel
theorem dL_aim_10 : decode cL_aim 10 = .ok (.ireturn, 1) := by decide +kernel
theorem dL_aim_11 : decode cL_aim 11 = .ok (.astore_n 3, 1) := by decide +kernel
theorem dL_aim_12 : decode cL_aim 12 = .ok (.ldc 18, 2) := by decide +kernel
theorem dL_aim_14 : decode cL_aim 14 = .ok (.ireturn, 1) := by decide +kernel
set_option maxRecDepth 20000 in
theorem ggL_turn_X3_turn : GoodIn wsL_turn wsX3_turn := goodIn_ca (goodIn_r _ [7, 8, 9, 10, 11, 12, 6, 13, 14, 15, 16, 17, 18, 19, 20, 21, 22, 23, 24, 25, 26, 27, 28, 29, 30, 31, 32, 33, 34, 35, 36, 37, 38, 39, 40, 41, 42, 43, 44, 45, 46, 47, 48, 49, 50, 51, 52, 53, 54, 55, 56, 57, 58, 59, 60, 61, 62, 63, 64, 65, 66, 67, 68, 69, 70, 71, 72, 73, 74, 75, 76, 77, 78, 79, 80, 81] (by decide +kernel) (by decide +kernel)) (goodIn_sub (fun _ h => List.mem_cons_of_mem _ (List.mem_append_right _ h)) (by decide +kernel))
set_option maxRecDepth 20000 in
theorem gL_turn_X3_turn : GoodIn wsL_turn (wsV RL 35 RX3 yX3_turn wsX3_turn) := goodIn_app (goodIn_of _ (by decide +kernel)) ggL_turn_X3_turn
theorem dL_turn_0 : decode cL_turn 0 = .ok (.aload_n 0, 1) := by decide +kernel
theorem dL_turn_1 : decode cL_turn 1 = .ok (.iload_n 1, 1) := by decide +kernel
theorem dL_turn_2 : decode cL_turn 2 = .ok (.invokevirtual 35, 3) := by decide +kernel
theorem dL_turn_5 : decode cL_turn 5 = .ok (.ireturn, 1) := by decide +kernel
theorem dL_turn_6 : decode cL_turn 6 = .ok (.astore_n 2, 1) := by decide +kernel
theorem dL_turn_7 : decode cL_turn 7 = .ok (.ldc 28, 2) := by decide +kernel
theorem dL_turn_9 : decode cL_turn 9 = .ok (.ireturn, 1) := by decide +kernel
set_option maxRecDepth 20000 in
theorem ggL_set_X3_set : GoodIn wsL_set wsX3_set := goodIn_ca (goodIn_ca (goodIn_r _ [9, 10, 11, 12, 13, 14, 15, 16, 17, 18, 19, 20, 8, 21, 22, 23, 24, 25, 26, 27, 28, 29, 30, 31, 32, 33, 34, 35, 36, 37, 38, 39, 40, 41, 42, 43, 44, 45, 46, 47, 48, 49, 50, 51, 52, 53, 54, 55, 56, 57, 58, 59, 60, 61, 62, 63, 64, 65, 66, 67, 68, 69, 70, 71, 72, 73, 74, 75, 76, 77] (by decide +kernel) (by decide +kernel)) (goodIn_sub (fun _ h => List.mem_cons_of_mem _ (List.mem_append_left _ (List.mem_append_right _ h))) (by decide +kernel))) (goodIn_sub (fun _ h => List.mem_cons_of_mem _ (List.mem_append_right _ h)) (by decide +kernel))
set_option maxRecDepth 20000 in
theorem gL_set_X3_set : GoodIn wsL_set (wsV RL 38 RX3 yX3_set wsX3_set) := goodIn_app (goodIn_of _ (by decide +kernel)) ggL_set_X3_set
theorem dL_set_0 : decode cL_set 0 = .ok (.aload_n 0, 1) := by decide +kernel
theorem dL_set_1 : decode cL_set 1 = .ok (.iload_n 1, 1) := by decide +kernel
theorem dL_set_2 : decode cL_set 2 = .ok (.iload_n 2, 1) := by decide +kernel
theorem dL_set_3 : decode cL_set 3 = .ok (.invokevirtual 38, 3) := by decide +kernel
theorem dL_set_6 : decode cL_set 6 = .ok (.ireturn, 1) := by decide +kernel
theorem dL_set_7 : decode cL_set 7 = .ok (.astore_n 3, 1) := by decide +kernel
theorem dL_set_8 : decode cL_set 8 = .ok (.ldc 28, 2) := by decide +kernel
theorem dL_set_10 : decode cL_set 10 = .ok (.ireturn, 1) := by decide +kernel
theorem dL_set_11 : decode cL_set 11 = .ok (.astore_n 3, 1) := by decide +kernel
theorem dL_set_12 : decode cL_set 12 = .ok (.ldc 18, 2) := by decide +kernel
theorem dL_set_14 : decode cL_set 14 = .ok (.ireturn, 1) := by decide +kernel
set_option maxRecDepth 20000 in
theorem ggL_scan_X3_scan : GoodIn wsL_scan wsX3_scan := goodIn_ca (goodIn_r _ [7, 8, 9, 10, 11, 12, 13, 14, 15, 16, 6, 17, 18, 19, 20, 21, 22, 23, 24, 25, 26, 27, 28, 29, 30, 31, 32, 33, 34, 35, 36, 37, 38, 39, 40, 41, 42, 43, 44, 45, 46, 47, 48, 49, 50, 51, 52, 53, 54, 55, 56, 57, 58, 59, 60, 61, 62, 63, 64, 65, 66, 67, 68, 69, 70, 71, 72, 73, 74, 75, 76, 77, 78, 79, 80, 81, 82, 83, 84, 85, 86, 87, 88, 89, 90, 91, 92, 93, 94, 95, 96, 97, 98, 99, 100, 101, 102, 103, 104, 105] (by decide +kernel) (by decide +kernel)) (goodIn_sub (fun _ h => List.mem_cons_of_mem _ (List.mem_append_right _ h)) (by decide +kernel))
set_option maxRecDepth 20000 in
theorem gL_scan_X3_scan : GoodIn wsL_scan (wsV RL 41 RX3 yX3_scan wsX3_scan) := goodIn_app (goodIn_of _ (by decide +kernel)) ggL_scan_X3_scan
theorem dL_scan_0 : decode cL_scan 0 = .ok (.aload_n 0, 1) := by decide +kernel
theorem dL_scan_1 : decode cL_scan 1 = .ok (.iload_n 1, 1) := by decide +kernel
theorem dL_scan_2 : decode cL_scan 2 = .ok (.iload_n 2, 1) := by decide +kernel
theorem dL_scan_3 : decode cL_scan 3 = .ok (.invokevirtual 41, 3) := by decide +kernel
theorem dL_scan_6 : decode cL_scan 6 = .ok (.ireturn, 1) := by decide +kernel
theorem dL_scan_7 : decode cL_scan 7 = .ok (.astore_n 3, 1) := by decide +kernel
theorem dL_scan_8 : decode cL_scan 8 = .ok (.ldc 28, 2) := by decide +kernel
theorem dL_scan_10 : decode cL_scan 10 = .ok (.ireturn, 1) := by decide +kernel
set_option maxRecDepth 20000 in
theorem ggL_undo_X3_undo : GoodIn wsL_undo wsX3_undo := goodIn_ca (goodIn_r _ [7, 8, 9, 10, 11, 12, 13, 14, 15, 6, 16, 17, 18, 19, 20, 21, 22, 23, 24, 25, 26, 27, 28, 29, 30, 31, 32, 33, 34, 35, 36, 37, 38, 39, 40, 41, 42, 43, 44, 45, 46, 47, 48, 49, 50, 51, 52, 53, 54, 55, 56, 57, 58, 59, 60, 61, 62] (by decide +kernel) (by decide +kernel)) (goodIn_sub (fun _ h => List.mem_cons_of_mem _ (List.mem_append_right _ h)) (by decide +kernel))
set_option maxRecDepth 20000 in
theorem gL_undo_X3_undo : GoodIn wsL_undo (wsV RL 44 RX3 yX3_undo wsX3_undo) := goodIn_app (goodIn_of _ (by decide +kernel)) ggL_undo_X3_undo
theorem dL_undo_0 : decode cL_undo 0 = .ok (.aload_n 0, 1) := by decide +kernel
theorem dL_undo_1 : decode cL_undo 1 = .ok (.invokevirtual 44, 3) := by decide +kernel
theorem dL_undo_4 : decode cL_undo 4 = .ok (.ireturn, 1) := by decide +kernel
theorem dL_undo_5 : decode cL_undo 5 = .ok (.astore_n 1, 1) := by decide +kernel
theorem dL_undo_6 : decode cL_undo 6 = .ok (.ldc 21, 2) := by decide +kernel
theorem dL_undo_8 : decode cL_undo 8 = .ok (.ireturn, 1) := by decide +kernel
set_option maxRecDepth 20000 in
theorem ggL_layerOf_X3_layerOf : GoodIn wsL_layerOf wsX3_layerOf := goodIn_ca (goodIn_ca (goodIn_r _ [9, 10, 11, 12, 13, 14, 15, 16, 17, 18, 19, 20, 21, 22, 23, 24, 25, 26, 27, 28, 29, 30, 31, 32, 33, 34, 35, 36, 37, 38, 39, 40, 41, 42, 43, 44, 45, 46, 47, 48, 49, 50, 51, 52, 53, 54, 55, 56, 57, 58, 59, 60, 61, 62, 63, 64, 65, 66, 67, 68, 69, 70, 71, 72, 73, 74, 75, 76, 77, 78, 79, 80, 81, 82, 83, 84, 85] (by decide +kernel) (by decide +kernel)) (goodIn_sub (fun _ h => List.mem_cons_of_mem _ (List.mem_append_left _ (List.mem_append_right _ h))) (by decide +kernel))) (goodIn_sub (fun _ h => List.mem_cons_of_mem _ (List.mem_append_right _ h)) (by decide +kernel))
set_option maxRecDepth 20000 in
theorem gL_layerOf_X3_layerOf : GoodIn wsL_layerOf (wsV RL 48 RX3 yX3_layerOf wsX3_layerOf) := goodIn_app (goodIn_of _ (by decide +kernel)) ggL_layerOf_X3_layerOf
theorem dL_layerOf_0 : decode cL_layerOf 0 = .ok (.aload_n 0, 1) := by decide +kernel
theorem dL_layerOf_1 : decode cL_layerOf 1 = .ok (.iload_n 1, 1) := by decide +kernel
theorem dL_layerOf_2 : decode cL_layerOf 2 = .ok (.iload_n 2, 1) := by decide +kernel
theorem dL_layerOf_3 : decode cL_layerOf 3 = .ok (.invokevirtual 48, 3) := by decide +kernel
theorem dL_layerOf_6 : decode cL_layerOf 6 = .ok (.ireturn, 1) := by decide +kernel
theorem dL_layerOf_7 : decode cL_layerOf 7 = .ok (.astore_n 3, 1) := by decide +kernel
theorem dL_layerOf_8 : decode cL_layerOf 8 = .ok (.ldc 28, 2) := by decide +kernel
theorem dL_layerOf_10 : decode cL_layerOf 10 = .ok (.ireturn, 1) := by decide +kernel
theorem dL_layerOf_11 : decode cL_layerOf 11 = .ok (.astore_n 3, 1) := by decide +kernel
theorem dL_layerOf_12 : decode cL_layerOf 12 = .ok (.ldc 18, 2) := by decide +kernel
theorem dL_layerOf_14 : decode cL_layerOf 14 = .ok (.ireturn, 1) := by decide +kernel
set_option maxRecDepth 20000 in
theorem ggL_spot_X3_spot : GoodIn wsL_spot wsX3_spot := goodIn_ca (goodIn_ca (goodIn_r _ [9, 10, 11, 12, 13, 14, 15, 16, 17, 8, 18, 19, 20, 21, 22, 23, 24, 25, 26, 27, 28, 29, 30, 31, 32, 33, 34, 35, 36, 37, 38, 39, 40, 41, 42, 43, 44, 45, 46, 47, 48, 49, 50, 51, 52, 53, 54, 55, 56, 57, 58, 59, 60, 61, 62, 63, 64, 65, 66, 67, 68] (by decide +kernel) (by decide +kernel)) (goodIn_sub (fun _ h => List.mem_cons_of_mem _ (List.mem_append_left _ (List.mem_append_right _ h))) (by decide +kernel))) (goodIn_sub (fun _ h => List.mem_cons_of_mem _ (List.mem_append_right _ h)) (by decide +kernel))
set_option maxRecDepth 20000 in
theorem gL_spot_X3_spot : GoodIn wsL_spot (wsV RL 51 RX3 yX3_spot wsX3_spot) := goodIn_app (goodIn_of _ (by decide +kernel)) ggL_spot_X3_spot
theorem dL_spot_0 : decode cL_spot 0 = .ok (.aload_n 0, 1) := by decide +kernel
theorem dL_spot_1 : decode cL_spot 1 = .ok (.iload_n 1, 1) := by decide +kernel
theorem dL_spot_2 : decode cL_spot 2 = .ok (.iload_n 2, 1) := by decide +kernel
theorem dL_spot_3 : decode cL_spot 3 = .ok (.iload_n 3, 1) := by decide +kernel
theorem dL_spot_4 : decode cL_spot 4 = .ok (.invokevirtual 51, 3) := by decide +kernel
theorem dL_spot_7 : decode cL_spot 7 = .ok (.ireturn, 1) := by decide +kernel
theorem dL_spot_8 : decode cL_spot 8 = .ok (.astore 4, 2) := by decide +kernel
theorem dL_spot_10 : decode cL_spot 10 = .ok (.ldc 28, 2) := by decide +kernel
theorem dL_spot_12 : decode cL_spot 12 = .ok (.ireturn, 1) := by decide +kernel
theorem dL_spot_13 : decode cL_spot 13 = .ok (.astore 4, 2) := by decide +kernel
theorem dL_spot_15 : decode cL_spot 15 = .ok (.ldc 18, 2) := by decide +kernel
theorem dL_spot_17 : decode cL_spot 17 = .ok (.ireturn, 1) := by decide +kernel
set_option maxRecDepth 20000 in
theorem ggL_reading_X3_reading : GoodIn wsL_reading wsX3_reading := goodIn_ca (goodIn_r _ [7, 8, 9, 10, 11, 12, 13, 14, 15, 16, 17, 18, 19, 20, 21, 22, 23, 24, 25, 26, 27, 28, 29, 30, 31, 32, 33, 34, 35, 36, 37, 38, 39, 40, 41, 42, 43, 44, 45, 46, 47, 48, 49, 50, 51, 52, 53, 54, 55, 56, 57, 58, 59, 60, 61, 62, 63, 64, 65, 66, 67, 68, 69, 70, 71, 72, 73] (by decide +kernel) (by decide +kernel)) (goodIn_sub (fun _ h => List.mem_cons_of_mem _ (List.mem_append_right _ h)) (by decide +kernel))
set_option maxRecDepth 20000 in
theorem gL_reading_X3_reading : GoodIn wsL_reading (wsV RL 55 RX3 yX3_reading wsX3_reading) := goodIn_app (goodIn_of _ (by decide +kernel)) ggL_reading_X3_reading
theorem dL_reading_0 : decode cL_reading 0 = .ok (.aload_n 0, 1) := by decide +kernel
theorem dL_reading_1 : decode cL_reading 1 = .ok (.iload_n 1, 1) := by decide +kernel
theorem dL_reading_2 : decode cL_reading 2 = .ok (.invokevirtual 55, 3) := by decide +kernel
theorem dL_reading_5 : decode cL_reading 5 = .ok (.ireturn, 1) := by decide +kernel
theorem dL_reading_6 : decode cL_reading 6 = .ok (.astore_n 2, 1) := by decide +kernel
theorem dL_reading_7 : decode cL_reading 7 = .ok (.ldc 18, 2) := by decide +kernel
theorem dL_reading_9 : decode cL_reading 9 = .ok (.ireturn, 1) := by decide +kernel
set_option maxRecDepth 20000 in
theorem ggL_night_X3_night : GoodIn wsL_night wsX3_night := goodIn_ca (goodIn_r _ [7, 8, 9, 10, 11, 12, 13, 14, 15, 16, 17, 18, 19, 20, 21, 22, 23, 24, 25, 26, 27, 28, 29, 30, 31, 32, 33, 34, 35, 36, 37, 38, 39] (by decide +kernel) (by decide +kernel)) (goodIn_sub (fun _ h => List.mem_cons_of_mem _ (List.mem_append_right _ h)) (by decide +kernel))
set_option maxRecDepth 20000 in
theorem gL_night_X3_night : GoodIn wsL_night (wsV RL 58 RX3 yX3_night wsX3_night) := goodIn_app (goodIn_of _ (by decide +kernel)) ggL_night_X3_night
theorem dL_night_0 : decode cL_night 0 = .ok (.aload_n 0, 1) := by decide +kernel
theorem dL_night_1 : decode cL_night 1 = .ok (.iload_n 1, 1) := by decide +kernel
theorem dL_night_2 : decode cL_night 2 = .ok (.iload_n 2, 1) := by decide +kernel
theorem dL_night_3 : decode cL_night 3 = .ok (.invokevirtual 58, 3) := by decide +kernel
theorem dL_night_6 : decode cL_night 6 = .ok (.ireturn, 1) := by decide +kernel
theorem dL_night_7 : decode cL_night 7 = .ok (.astore_n 3, 1) := by decide +kernel
theorem dL_night_8 : decode cL_night 8 = .ok (.ldc 18, 2) := by decide +kernel
theorem dL_night_10 : decode cL_night 10 = .ok (.ireturn, 1) := by decide +kernel
set_option maxRecDepth 20000 in
theorem ggL_count_X3_count : GoodIn wsL_count wsX3_count := goodIn_ca (goodIn_r _ [7, 8, 9, 10, 11, 12, 13, 14, 15, 16, 17, 18, 19, 20, 21, 22, 23, 24, 25, 26, 27, 28, 29, 30, 31, 32, 33, 34, 35, 36, 37, 38, 39, 40, 41, 42, 43, 44, 45, 46, 47, 48, 49, 50, 51, 52, 53, 54, 55, 56, 57, 58, 59, 60, 61, 62, 63, 64, 65, 66, 67, 68, 69, 70, 71, 72, 73, 74, 75, 76, 77, 78, 79, 80, 81, 82, 83, 84, 85, 86, 87, 88, 89, 90, 91, 92, 93, 94, 95, 96, 97, 98, 99, 100, 101, 102, 103, 104, 105, 106, 107, 108] (by decide +kernel) (by decide +kernel)) (goodIn_sub (fun _ h => List.mem_cons_of_mem _ (List.mem_append_right _ h)) (by decide +kernel))
set_option maxRecDepth 20000 in
theorem gL_count_X3_count : GoodIn wsL_count (wsV RL 61 RX3 yX3_count wsX3_count) := goodIn_app (goodIn_of _ (by decide +kernel)) ggL_count_X3_count
theorem dL_count_0 : decode cL_count 0 = .ok (.aload_n 0, 1) := by decide +kernel
theorem dL_count_1 : decode cL_count 1 = .ok (.iload_n 1, 1) := by decide +kernel
theorem dL_count_2 : decode cL_count 2 = .ok (.invokevirtual 61, 3) := by decide +kernel
theorem dL_count_5 : decode cL_count 5 = .ok (.ireturn, 1) := by decide +kernel
theorem dL_count_6 : decode cL_count 6 = .ok (.astore_n 2, 1) := by decide +kernel
theorem dL_count_7 : decode cL_count 7 = .ok (.ldc 18, 2) := by decide +kernel
theorem dL_count_9 : decode cL_count 9 = .ok (.ireturn, 1) := by decide +kernel
set_option maxRecDepth 20000 in
theorem ggL_nearest_X3_nearest : GoodIn wsL_nearest wsX3_nearest := goodIn_ca (goodIn_ca (goodIn_r _ [9, 10, 11, 12, 13, 14, 15, 16, 8, 17, 18, 19, 20, 21, 22, 23, 24, 25, 26, 27, 28, 29, 30, 31, 32, 33, 34, 35, 36, 37, 38, 39, 40, 41, 42, 43, 44, 45, 46, 47, 48, 49, 50, 51, 52, 53, 54, 55, 56, 57, 58, 59, 60, 61, 62, 63, 64, 65, 66, 67, 68] (by decide +kernel) (by decide +kernel)) (goodIn_sub (fun _ h => List.mem_cons_of_mem _ (List.mem_append_left _ (List.mem_append_right _ h))) (by decide +kernel))) (goodIn_sub (fun _ h => List.mem_cons_of_mem _ (List.mem_append_right _ h)) (by decide +kernel))
set_option maxRecDepth 20000 in
theorem gL_nearest_X3_nearest : GoodIn wsL_nearest (wsV RL 64 RX3 yX3_nearest wsX3_nearest) := goodIn_app (goodIn_of _ (by decide +kernel)) ggL_nearest_X3_nearest
theorem dL_nearest_0 : decode cL_nearest 0 = .ok (.aload_n 0, 1) := by decide +kernel
theorem dL_nearest_1 : decode cL_nearest 1 = .ok (.iload_n 1, 1) := by decide +kernel
theorem dL_nearest_2 : decode cL_nearest 2 = .ok (.iload_n 2, 1) := by decide +kernel
theorem dL_nearest_3 : decode cL_nearest 3 = .ok (.iload_n 3, 1) := by decide +kernel
theorem dL_nearest_4 : decode cL_nearest 4 = .ok (.invokevirtual 64, 3) := by decide +kernel
theorem dL_nearest_7 : decode cL_nearest 7 = .ok (.ireturn, 1) := by decide +kernel
theorem dL_nearest_8 : decode cL_nearest 8 = .ok (.astore 4, 2) := by decide +kernel
theorem dL_nearest_10 : decode cL_nearest 10 = .ok (.ldc 28, 2) := by decide +kernel
theorem dL_nearest_12 : decode cL_nearest 12 = .ok (.ireturn, 1) := by decide +kernel
theorem dL_nearest_13 : decode cL_nearest 13 = .ok (.astore 4, 2) := by decide +kernel
theorem dL_nearest_15 : decode cL_nearest 15 = .ok (.ldc 18, 2) := by decide +kernel
theorem dL_nearest_17 : decode cL_nearest 17 = .ok (.ireturn, 1) := by decide +kernel
set_option maxRecDepth 20000 in
theorem ggL_ifScanned_X3_ifScanned : GoodIn wsL_ifScanned wsX3_ifScanned := goodIn_ca (goodIn_ca (goodIn_r _ [9, 10, 11, 12, 13, 14, 15, 16, 8, 17, 18, 19, 20, 21, 22, 23, 24, 25, 26, 27, 28, 29, 30, 31, 32, 33, 34, 35, 36, 37, 38, 39, 40, 41, 42, 43, 44, 45, 46, 47, 48, 49, 50, 51, 52, 53, 54, 55, 56, 57, 58, 59, 60, 61, 62, 63, 64, 65, 66, 67, 68, 69, 70, 71, 72, 73, 74, 75, 76, 77, 78, 79, 80, 81, 82, 83, 84, 85, 86, 87, 88, 89, 90, 91, 92] (by decide +kernel) (by decide +kernel)) (goodIn_sub (fun _ h => List.mem_cons_of_mem _ (List.mem_append_left _ (List.mem_append_right _ h))) (by decide +kernel))) (goodIn_sub (fun _ h => List.mem_cons_of_mem _ (List.mem_append_right _ h)) (by decide +kernel))
set_option maxRecDepth 20000 in
theorem gL_ifScanned_X3_ifScanned : GoodIn wsL_ifScanned (wsV RL 67 RX3 yX3_ifScanned wsX3_ifScanned) := goodIn_app (goodIn_of _ (by decide +kernel)) ggL_ifScanned_X3_ifScanned
theorem dL_ifScanned_0 : decode cL_ifScanned 0 = .ok (.aload_n 0, 1) := by decide +kernel
theorem dL_ifScanned_1 : decode cL_ifScanned 1 = .ok (.iload_n 1, 1) := by decide +kernel
theorem dL_ifScanned_2 : decode cL_ifScanned 2 = .ok (.iload_n 2, 1) := by decide +kernel
theorem dL_ifScanned_3 : decode cL_ifScanned 3 = .ok (.invokevirtual 67, 3) := by decide +kernel
theorem dL_ifScanned_6 : decode cL_ifScanned 6 = .ok (.ireturn, 1) := by decide +kernel
theorem dL_ifScanned_7 : decode cL_ifScanned 7 = .ok (.astore_n 3, 1) := by decide +kernel
theorem dL_ifScanned_8 : decode cL_ifScanned 8 = .ok (.ldc 28, 2) := by decide +kernel
theorem dL_ifScanned_10 : decode cL_ifScanned 10 = .ok (.ireturn, 1) := by decide +kernel
theorem dL_ifScanned_11 : decode cL_ifScanned 11 = .ok (.astore_n 3, 1) := by decide +kernel
theorem dL_ifScanned_12 : decode cL_ifScanned 12 = .ok (.ldc 18, 2) := by decide +kernel
theorem dL_ifScanned_14 : decode cL_ifScanned 14 = .ok (.ireturn, 1) := by decide +kernel
theorem dL_size_0 : decode cL_size 0 = .ok (.iload_n 0, 1) := by decide +kernel
theorem dL_size_1 : decode cL_size 1 = .ok (.ifCond .ge 8, 3) := by decide +kernel
theorem dL_size_4 : decode cL_size 4 = .ok (.iload_n 0, 1) := by decide +kernel
theorem dL_size_5 : decode cL_size 5 = .ok (.ineg, 1) := by decide +kernel
theorem dL_size_6 : decode cL_size 6 = .ok (.goto 4, 3) := by decide +kernel
theorem dL_size_9 : decode cL_size 9 = .ok (.iload_n 0, 1) := by decide +kernel
theorem dL_size_10 : decode cL_size 10 = .ok (.ireturn, 1) := by decide +kernel
theorem dL_place_0 : decode cL_place 0 = .ok (.iload_n 0, 1) := by decide +kernel
theorem dL_place_1 : decode cL_place 1 = .ok (.aload_n 2, 1) := by decide +kernel
theorem dL_place_2 : decode cL_place 2 = .ok (.iconst 0, 1) := by decide +kernel
theorem dL_place_3 : decode cL_place 3 = .ok (.iaload, 1) := by decide +kernel
theorem dL_place_4 : decode cL_place 4 = .ok (.imul, 1) := by decide +kernel
theorem dL_place_5 : decode cL_place 5 = .ok (.aload_n 2, 1) := by decide +kernel
theorem dL_place_6 : decode cL_place 6 = .ok (.iconst 4, 1) := by decide +kernel
theorem dL_place_7 : decode cL_place 7 = .ok (.iload_n 0, 1) := by decide +kernel
theorem dL_place_8 : decode cL_place 8 = .ok (.iadd, 1) := by decide +kernel
theorem dL_place_9 : decode cL_place 9 = .ok (.iaload, 1) := by decide +kernel
theorem dL_place_10 : decode cL_place 10 = .ok (.aload_n 3, 1) := by decide +kernel
theorem dL_place_11 : decode cL_place 11 = .ok (.iload_n 1, 1) := by decide +kernel
theorem dL_place_12 : decode cL_place 12 = .ok (.iaload, 1) := by decide +kernel
theorem dL_place_13 : decode cL_place 13 = .ok (.imul, 1) := by decide +kernel
theorem dL_place_14 : decode cL_place 14 = .ok (.bipush 10, 2) := by decide +kernel
theorem dL_place_16 : decode cL_place 16 = .ok (.idiv, 1) := by decide +kernel
theorem dL_place_17 : decode cL_place 17 = .ok (.iadd, 1) := by decide +kernel
theorem dL_place_18 : decode cL_place 18 = .ok (.ireturn, 1) := by decide +kernel
theorem dL_beams_0 : decode cL_beams 0 = .ok (.sipush 1000, 3) := by decide +kernel
theorem dL_beams_3 : decode cL_beams 3 = .ok (.istore 5, 2) := by decide +kernel
theorem dL_beams_5 : decode cL_beams 5 = .ok (.iconst 0, 1) := by decide +kernel
theorem dL_beams_6 : decode cL_beams 6 = .ok (.istore 6, 2) := by decide +kernel
theorem dL_beams_8 : decode cL_beams 8 = .ok (.iload 6, 2) := by decide +kernel
theorem dL_beams_10 : decode cL_beams 10 = .ok (.aload_n 1, 1) := by decide +kernel
theorem dL_beams_11 : decode cL_beams 11 = .ok (.bipush 8, 2) := by decide +kernel
theorem dL_beams_13 : decode cL_beams 13 = .ok (.iaload, 1) := by decide +kernel
theorem dL_beams_14 : decode cL_beams 14 = .ok (.if_icmp .ge 101, 3) := by decide +kernel
theorem dL_beams_17 : decode cL_beams 17 = .ok (.lconst 1, 1) := by decide +kernel
theorem dL_beams_18 : decode cL_beams 18 = .ok (.iload 5, 2) := by decide +kernel
theorem dL_beams_20 : decode cL_beams 20 = .ok (.i2l, 1) := by decide +kernel
theorem dL_beams_21 : decode cL_beams 21 = .ok (.lmul, 1) := by decide +kernel
theorem dL_beams_22 : decode cL_beams 22 = .ok (.iload_n 0, 1) := by decide +kernel
theorem dL_beams_23 : decode cL_beams 23 = .ok (.i2l, 1) := by decide +kernel
theorem dL_beams_24 : decode cL_beams 24 = .ok (.lmul, 1) := by decide +kernel
theorem dL_beams_25 : decode cL_beams 25 = .ok (.aload_n 2, 1) := by decide +kernel
theorem dL_beams_26 : decode cL_beams 26 = .ok (.iload 6, 2) := by decide +kernel
theorem dL_beams_28 : decode cL_beams 28 = .ok (.iaload, 1) := by decide +kernel
theorem dL_beams_29 : decode cL_beams 29 = .ok (.iload 6, 2) := by decide +kernel
theorem dL_beams_31 : decode cL_beams 31 = .ok (.ifCond .ne 7, 3) := by decide +kernel
theorem dL_beams_34 : decode cL_beams 34 = .ok (.iconst 0, 1) := by decide +kernel
theorem dL_beams_35 : decode cL_beams 35 = .ok (.goto 9, 3) := by decide +kernel
theorem dL_beams_38 : decode cL_beams 38 = .ok (.aload_n 2, 1) := by decide +kernel
theorem dL_beams_39 : decode cL_beams 39 = .ok (.iload 6, 2) := by decide +kernel
theorem dL_beams_41 : decode cL_beams 41 = .ok (.iconst 1, 1) := by decide +kernel
theorem dL_beams_42 : decode cL_beams 42 = .ok (.isub, 1) := by decide +kernel
theorem dL_beams_43 : decode cL_beams 43 = .ok (.iaload, 1) := by decide +kernel
theorem dL_beams_44 : decode cL_beams 44 = .ok (.isub, 1) := by decide +kernel
theorem dL_beams_45 : decode cL_beams 45 = .ok (.i2l, 1) := by decide +kernel
theorem dL_beams_46 : decode cL_beams 46 = .ok (.lmul, 1) := by decide +kernel
theorem dL_beams_47 : decode cL_beams 47 = .ok (.ldc2_w 70, 3) := by decide +kernel
theorem dL_beams_50 : decode cL_beams 50 = .ok (.ldiv, 1) := by decide +kernel
theorem dL_beams_51 : decode cL_beams 51 = .ok (.lstore 7, 2) := by decide +kernel
theorem dL_beams_53 : decode cL_beams 53 = .ok (.lload 7, 2) := by decide +kernel
theorem dL_beams_55 : decode cL_beams 55 = .ok (.iload 5, 2) := by decide +kernel
theorem dL_beams_57 : decode cL_beams 57 = .ok (.i2l, 1) := by decide +kernel
theorem dL_beams_58 : decode cL_beams 58 = .ok (.lcmp, 1) := by decide +kernel
theorem dL_beams_59 : decode cL_beams 59 = .ok (.ifCond .le 7, 3) := by decide +kernel
theorem dL_beams_62 : decode cL_beams 62 = .ok (.iconst 0, 1) := by decide +kernel
theorem dL_beams_63 : decode cL_beams 63 = .ok (.goto 9, 3) := by decide +kernel
theorem dL_beams_66 : decode cL_beams 66 = .ok (.iload 5, 2) := by decide +kernel
theorem dL_beams_68 : decode cL_beams 68 = .ok (.lload 7, 2) := by decide +kernel
theorem dL_beams_70 : decode cL_beams 70 = .ok (.l2i, 1) := by decide +kernel
theorem dL_beams_71 : decode cL_beams 71 = .ok (.isub, 1) := by decide +kernel
theorem dL_beams_72 : decode cL_beams 72 = .ok (.istore 5, 2) := by decide +kernel
theorem dL_beams_74 : decode cL_beams 74 = .ok (.aload 4, 2) := by decide +kernel
theorem dL_beams_76 : decode cL_beams 76 = .ok (.iconst 2, 1) := by decide +kernel
theorem dL_beams_77 : decode cL_beams 77 = .ok (.iload 6, 2) := by decide +kernel
theorem dL_beams_79 : decode cL_beams 79 = .ok (.imul, 1) := by decide +kernel
theorem dL_beams_80 : decode cL_beams 80 = .ok (.iload 5, 2) := by decide +kernel
theorem dL_beams_82 : decode cL_beams 82 = .ok (.iastore, 1) := by decide +kernel
theorem dL_beams_83 : decode cL_beams 83 = .ok (.iload 5, 2) := by decide +kernel
theorem dL_beams_85 : decode cL_beams 85 = .ok (.iload 5, 2) := by decide +kernel
theorem dL_beams_87 : decode cL_beams 87 = .ok (.aload_n 3, 1) := by decide +kernel
theorem dL_beams_88 : decode cL_beams 88 = .ok (.iload 6, 2) := by decide +kernel
theorem dL_beams_90 : decode cL_beams 90 = .ok (.iaload, 1) := by decide +kernel
theorem dL_beams_91 : decode cL_beams 91 = .ok (.imul, 1) := by decide +kernel
theorem dL_beams_92 : decode cL_beams 92 = .ok (.bipush 100, 2) := by decide +kernel
theorem dL_beams_94 : decode cL_beams 94 = .ok (.idiv, 1) := by decide +kernel
theorem dL_beams_95 : decode cL_beams 95 = .ok (.isub, 1) := by decide +kernel
theorem dL_beams_96 : decode cL_beams 96 = .ok (.istore 5, 2) := by decide +kernel
theorem dL_beams_98 : decode cL_beams 98 = .ok (.aload 4, 2) := by decide +kernel
theorem dL_beams_100 : decode cL_beams 100 = .ok (.iconst 2, 1) := by decide +kernel
theorem dL_beams_101 : decode cL_beams 101 = .ok (.iload 6, 2) := by decide +kernel
theorem dL_beams_103 : decode cL_beams 103 = .ok (.imul, 1) := by decide +kernel
theorem dL_beams_104 : decode cL_beams 104 = .ok (.iconst 1, 1) := by decide +kernel
theorem dL_beams_105 : decode cL_beams 105 = .ok (.iadd, 1) := by decide +kernel
theorem dL_beams_106 : decode cL_beams 106 = .ok (.iload 5, 2) := by decide +kernel
theorem dL_beams_108 : decode cL_beams 108 = .ok (.iastore, 1) := by decide +kernel
theorem dL_beams_109 : decode cL_beams 109 = .ok (.iinc 6 1, 3) := by decide +kernel
theorem dL_beams_112 : decode cL_beams 112 = .ok (.goto (-104), 3) := by decide +kernel
theorem dL_beams_115 : decode cL_beams 115 = .ok (.return_, 1) := by decide +kernel
theorem dL_seen_0 : decode cL_seen 0 = .ok (.aload_n 2, 1) := by decide +kernel
theorem dL_seen_1 : decode cL_seen 1 = .ok (.bipush 6, 2) := by decide +kernel
theorem dL_seen_3 : decode cL_seen 3 = .ok (.iload_n 0, 1) := by decide +kernel
theorem dL_seen_4 : decode cL_seen 4 = .ok (.iadd, 1) := by decide +kernel
theorem dL_seen_5 : decode cL_seen 5 = .ok (.iaload, 1) := by decide +kernel
theorem dL_seen_6 : decode cL_seen 6 = .ok (.iconst 1, 1) := by decide +kernel
theorem dL_seen_7 : decode cL_seen 7 = .ok (.if_icmp .ne 26, 3) := by decide +kernel
theorem dL_seen_10 : decode cL_seen 10 = .ok (.aload_n 3, 1) := by decide +kernel
theorem dL_seen_11 : decode cL_seen 11 = .ok (.iconst 2, 1) := by decide +kernel
theorem dL_seen_12 : decode cL_seen 12 = .ok (.iload_n 1, 1) := by decide +kernel
theorem dL_seen_13 : decode cL_seen 13 = .ok (.imul, 1) := by decide +kernel
theorem dL_seen_14 : decode cL_seen 14 = .ok (.iaload, 1) := by decide +kernel
theorem dL_seen_15 : decode cL_seen 15 = .ok (.aload_n 3, 1) := by decide +kernel
theorem dL_seen_16 : decode cL_seen 16 = .ok (.iconst 2, 1) := by decide +kernel
theorem dL_seen_17 : decode cL_seen 17 = .ok (.iload_n 1, 1) := by decide +kernel
theorem dL_seen_18 : decode cL_seen 18 = .ok (.imul, 1) := by decide +kernel
theorem dL_seen_19 : decode cL_seen 19 = .ok (.iconst 1, 1) := by decide +kernel
theorem dL_seen_20 : decode cL_seen 20 = .ok (.iadd, 1) := by decide +kernel
theorem dL_seen_21 : decode cL_seen 21 = .ok (.iaload, 1) := by decide +kernel
theorem dL_seen_22 : decode cL_seen 22 = .ok (.isub, 1) := by decide +kernel
theorem dL_seen_23 : decode cL_seen 23 = .ok (.aload_n 2, 1) := by decide +kernel
theorem dL_seen_24 : decode cL_seen 24 = .ok (.iconst 2, 1) := by decide +kernel
theorem dL_seen_25 : decode cL_seen 25 = .ok (.iaload, 1) := by decide +kernel
theorem dL_seen_26 : decode cL_seen 26 = .ok (.if_icmp .lt 7, 3) := by decide +kernel
theorem dL_seen_29 : decode cL_seen 29 = .ok (.iconst 1, 1) := by decide +kernel
theorem dL_seen_30 : decode cL_seen 30 = .ok (.goto 4, 3) := by decide +kernel
theorem dL_seen_33 : decode cL_seen 33 = .ok (.iconst 0, 1) := by decide +kernel
theorem dL_seen_34 : decode cL_seen 34 = .ok (.ireturn, 1) := by decide +kernel
set_option maxRecDepth 20000 in
theorem ggL_apart_L_place : GoodIn wsL_apart wsL_place := goodIn_r _ [4] (by decide +kernel) (by decide +kernel)
set_option maxRecDepth 20000 in
theorem gL_apart_L_place : GoodIn wsL_apart (va_wsS RL 72 yL_place wsL_place) := goodIn_app (goodIn_of _ (by decide +kernel)) ggL_apart_L_place
theorem dL_apart_0 : decode cL_apart 0 = .ok (.iconst 1, 1) := by decide +kernel
theorem dL_apart_1 : decode cL_apart 1 = .ok (.iload_n 0, 1) := by decide +kernel
theorem dL_apart_2 : decode cL_apart 2 = .ok (.aload_n 1, 1) := by decide +kernel
theorem dL_apart_3 : decode cL_apart 3 = .ok (.aload_n 2, 1) := by decide +kernel
theorem dL_apart_4 : decode cL_apart 4 = .ok (.invokestatic 72, 3) := by decide +kernel
theorem dL_apart_7 : decode cL_apart 7 = .ok (.iconst 0, 1) := by decide +kernel
theorem dL_apart_8 : decode cL_apart 8 = .ok (.iload_n 0, 1) := by decide +kernel
theorem dL_apart_9 : decode cL_apart 9 = .ok (.aload_n 1, 1) := by decide +kernel
theorem dL_apart_10 : decode cL_apart 10 = .ok (.aload_n 2, 1) := by decide +kernel
theorem dL_apart_11 : decode cL_apart 11 = .ok (.invokestatic 72, 3) := by decide +kernel
theorem dL_apart_14 : decode cL_apart 14 = .ok (.isub, 1) := by decide +kernel
theorem dL_apart_15 : decode cL_apart 15 = .ok (.ireturn, 1) := by decide +kernel
set_option maxRecDepth 20000 in
theorem ggL_close_L_seen : GoodIn wsL_close wsL_seen := goodIn_r _ [4] (by decide +kernel) (by decide +kernel)
set_option maxRecDepth 20000 in
theorem gL_close_L_seen : GoodIn wsL_close (va_wsS RL 78 yL_seen wsL_seen) := goodIn_app (goodIn_of _ (by decide +kernel)) ggL_close_L_seen
set_option maxRecDepth 20000 in
theorem ggL_close_L_apart : GoodIn wsL_close wsL_apart := goodIn_r _ [7, 8, 9, 3, 10] (by decide +kernel) (by decide +kernel)
set_option maxRecDepth 20000 in
theorem gL_close_L_apart : GoodIn wsL_close (va_wsS RL 82 yL_apart wsL_apart) := goodIn_app (goodIn_of _ (by decide +kernel)) ggL_close_L_apart
set_option maxRecDepth 20000 in
theorem ggL_close_L_size : GoodIn wsL_close wsL_size := goodIn_r _ [13] (by decide +kernel) (by decide +kernel)
set_option maxRecDepth 20000 in
theorem gL_close_L_size : GoodIn wsL_close (va_wsS RL 86 yL_size wsL_size) := goodIn_app (goodIn_of _ (by decide +kernel)) ggL_close_L_size
theorem dL_close_0 : decode cL_close 0 = .ok (.iconst 0, 1) := by decide +kernel
theorem dL_close_1 : decode cL_close 1 = .ok (.iload_n 0, 1) := by decide +kernel
theorem dL_close_2 : decode cL_close 2 = .ok (.aload_n 1, 1) := by decide +kernel
theorem dL_close_3 : decode cL_close 3 = .ok (.aload_n 3, 1) := by decide +kernel
theorem dL_close_4 : decode cL_close 4 = .ok (.invokestatic 78, 3) := by decide +kernel
theorem dL_close_7 : decode cL_close 7 = .ok (.ifCond .eq 32, 3) := by decide +kernel
theorem dL_close_10 : decode cL_close 10 = .ok (.iconst 1, 1) := by decide +kernel
theorem dL_close_11 : decode cL_close 11 = .ok (.iload_n 0, 1) := by decide +kernel
theorem dL_close_12 : decode cL_close 12 = .ok (.aload_n 1, 1) := by decide +kernel
theorem dL_close_13 : decode cL_close 13 = .ok (.aload_n 3, 1) := by decide +kernel
theorem dL_close_14 : decode cL_close 14 = .ok (.invokestatic 78, 3) := by decide +kernel
theorem dL_close_17 : decode cL_close 17 = .ok (.ifCond .eq 22, 3) := by decide +kernel
theorem dL_close_20 : decode cL_close 20 = .ok (.iload_n 0, 1) := by decide +kernel
theorem dL_close_21 : decode cL_close 21 = .ok (.aload_n 1, 1) := by decide +kernel
theorem dL_close_22 : decode cL_close 22 = .ok (.aload_n 2, 1) := by decide +kernel
theorem dL_close_23 : decode cL_close 23 = .ok (.invokestatic 82, 3) := by decide +kernel
theorem dL_close_26 : decode cL_close 26 = .ok (.invokestatic 86, 3) := by decide +kernel
theorem dL_close_29 : decode cL_close 29 = .ok (.aload_n 1, 1) := by decide +kernel
theorem dL_close_30 : decode cL_close 30 = .ok (.iconst 3, 1) := by decide +kernel
theorem dL_close_31 : decode cL_close 31 = .ok (.iaload, 1) := by decide +kernel
theorem dL_close_32 : decode cL_close 32 = .ok (.if_icmp .gt 7, 3) := by decide +kernel
theorem dL_close_35 : decode cL_close 35 = .ok (.iconst 1, 1) := by decide +kernel
theorem dL_close_36 : decode cL_close 36 = .ok (.goto 4, 3) := by decide +kernel
theorem dL_close_39 : decode cL_close 39 = .ok (.iconst 0, 1) := by decide +kernel
theorem dL_close_40 : decode cL_close 40 = .ok (.ireturn, 1) := by decide +kernel
set_option maxRecDepth 20000 in
theorem ggL_reads_L_close : GoodIn wsL_reads wsL_close := goodIn_r _ [5, 6, 7, 4, 8, 9, 10, 11, 12, 13, 14, 15, 16, 17] (by decide +kernel) (by decide +kernel)
set_option maxRecDepth 20000 in
theorem gL_reads_L_close : GoodIn wsL_reads (va_wsS RL 89 yL_close wsL_close) := goodIn_app (goodIn_of _ (by decide +kernel)) ggL_reads_L_close
set_option maxRecDepth 20000 in
theorem ggL_reads_L_apart : GoodIn wsL_reads wsL_apart := goodIn_r _ [11, 12, 13, 4, 14] (by decide +kernel) (by decide +kernel)
set_option maxRecDepth 20000 in
theorem gL_reads_L_apart : GoodIn wsL_reads (va_wsS RL 82 yL_apart wsL_apart) := goodIn_app (goodIn_of _ (by decide +kernel)) ggL_reads_L_apart
set_option maxRecDepth 20000 in
theorem ggL_reads_L_size : GoodIn wsL_reads wsL_size := goodIn_r _ [17] (by decide +kernel) (by decide +kernel)
set_option maxRecDepth 20000 in
theorem gL_reads_L_size : GoodIn wsL_reads (va_wsS RL 86 yL_size wsL_size) := goodIn_app (goodIn_of _ (by decide +kernel)) ggL_reads_L_size
theorem dL_reads_0 : decode cL_reads 0 = .ok (.iconst (-1), 1) := by decide +kernel
theorem dL_reads_1 : decode cL_reads 1 = .ok (.istore 4, 2) := by decide +kernel
theorem dL_reads_3 : decode cL_reads 3 = .ok (.aload_n 0, 1) := by decide +kernel
theorem dL_reads_4 : decode cL_reads 4 = .ok (.bipush 8, 2) := by decide +kernel
theorem dL_reads_6 : decode cL_reads 6 = .ok (.iaload, 1) := by decide +kernel
theorem dL_reads_7 : decode cL_reads 7 = .ok (.iconst 1, 1) := by decide +kernel
theorem dL_reads_8 : decode cL_reads 8 = .ok (.isub, 1) := by decide +kernel
theorem dL_reads_9 : decode cL_reads 9 = .ok (.istore 5, 2) := by decide +kernel
theorem dL_reads_11 : decode cL_reads 11 = .ok (.iload 5, 2) := by decide +kernel
theorem dL_reads_13 : decode cL_reads 13 = .ok (.ifCond .lt 57, 3) := by decide +kernel
theorem dL_reads_16 : decode cL_reads 16 = .ok (.iload 5, 2) := by decide +kernel
theorem dL_reads_18 : decode cL_reads 18 = .ok (.aload_n 0, 1) := by decide +kernel
theorem dL_reads_19 : decode cL_reads 19 = .ok (.aload_n 1, 1) := by decide +kernel
theorem dL_reads_20 : decode cL_reads 20 = .ok (.aload_n 2, 1) := by decide +kernel
theorem dL_reads_21 : decode cL_reads 21 = .ok (.invokestatic 89, 3) := by decide +kernel
theorem dL_reads_24 : decode cL_reads 24 = .ok (.ifCond .eq 36, 3) := by decide +kernel
theorem dL_reads_27 : decode cL_reads 27 = .ok (.iload 4, 2) := by decide +kernel
theorem dL_reads_29 : decode cL_reads 29 = .ok (.ifCond .lt 26, 3) := by decide +kernel
theorem dL_reads_32 : decode cL_reads 32 = .ok (.iload 5, 2) := by decide +kernel
theorem dL_reads_34 : decode cL_reads 34 = .ok (.aload_n 0, 1) := by decide +kernel
theorem dL_reads_35 : decode cL_reads 35 = .ok (.aload_n 1, 1) := by decide +kernel
theorem dL_reads_36 : decode cL_reads 36 = .ok (.invokestatic 82, 3) := by decide +kernel
theorem dL_reads_39 : decode cL_reads 39 = .ok (.invokestatic 86, 3) := by decide +kernel
theorem dL_reads_42 : decode cL_reads 42 = .ok (.iload 4, 2) := by decide +kernel
theorem dL_reads_44 : decode cL_reads 44 = .ok (.aload_n 0, 1) := by decide +kernel
theorem dL_reads_45 : decode cL_reads 45 = .ok (.aload_n 1, 1) := by decide +kernel
theorem dL_reads_46 : decode cL_reads 46 = .ok (.invokestatic 82, 3) := by decide +kernel
theorem dL_reads_49 : decode cL_reads 49 = .ok (.invokestatic 86, 3) := by decide +kernel
theorem dL_reads_52 : decode cL_reads 52 = .ok (.if_icmp .gt 8, 3) := by decide +kernel
theorem dL_reads_55 : decode cL_reads 55 = .ok (.iload 5, 2) := by decide +kernel
theorem dL_reads_57 : decode cL_reads 57 = .ok (.goto 5, 3) := by decide +kernel
theorem dL_reads_60 : decode cL_reads 60 = .ok (.iload 4, 2) := by decide +kernel
theorem dL_reads_62 : decode cL_reads 62 = .ok (.istore 4, 2) := by decide +kernel
theorem dL_reads_64 : decode cL_reads 64 = .ok (.iinc 5 (-1), 3) := by decide +kernel
theorem dL_reads_67 : decode cL_reads 67 = .ok (.goto (-56), 3) := by decide +kernel
theorem dL_reads_70 : decode cL_reads 70 = .ok (.iload 4, 2) := by decide +kernel
theorem dL_reads_72 : decode cL_reads 72 = .ok (.ifCond .lt 16, 3) := by decide +kernel
theorem dL_reads_75 : decode cL_reads 75 = .ok (.aload_n 0, 1) := by decide +kernel
theorem dL_reads_76 : decode cL_reads 76 = .ok (.iconst 4, 1) := by decide +kernel
theorem dL_reads_77 : decode cL_reads 77 = .ok (.iaload, 1) := by decide +kernel
theorem dL_reads_78 : decode cL_reads 78 = .ok (.aload_n 0, 1) := by decide +kernel
theorem dL_reads_79 : decode cL_reads 79 = .ok (.iconst 5, 1) := by decide +kernel
theorem dL_reads_80 : decode cL_reads 80 = .ok (.iaload, 1) := by decide +kernel
theorem dL_reads_81 : decode cL_reads 81 = .ok (.if_icmp .le 7, 3) := by decide +kernel
theorem dL_reads_84 : decode cL_reads 84 = .ok (.iconst 1, 1) := by decide +kernel
theorem dL_reads_85 : decode cL_reads 85 = .ok (.goto 4, 3) := by decide +kernel
theorem dL_reads_88 : decode cL_reads 88 = .ok (.iconst 0, 1) := by decide +kernel
theorem dL_reads_89 : decode cL_reads 89 = .ok (.istore 5, 2) := by decide +kernel
theorem dL_reads_91 : decode cL_reads 91 = .ok (.aload_n 0, 1) := by decide +kernel
theorem dL_reads_92 : decode cL_reads 92 = .ok (.iconst 4, 1) := by decide +kernel
theorem dL_reads_93 : decode cL_reads 93 = .ok (.iaload, 1) := by decide +kernel
theorem dL_reads_94 : decode cL_reads 94 = .ok (.aload_n 0, 1) := by decide +kernel
theorem dL_reads_95 : decode cL_reads 95 = .ok (.iconst 5, 1) := by decide +kernel
theorem dL_reads_96 : decode cL_reads 96 = .ok (.iaload, 1) := by decide +kernel
theorem dL_reads_97 : decode cL_reads 97 = .ok (.if_icmp .le 20, 3) := by decide +kernel
theorem dL_reads_100 : decode cL_reads 100 = .ok (.bipush 10, 2) := by decide +kernel
theorem dL_reads_102 : decode cL_reads 102 = .ok (.aload_n 0, 1) := by decide +kernel
theorem dL_reads_103 : decode cL_reads 103 = .ok (.iconst 0, 1) := by decide +kernel
theorem dL_reads_104 : decode cL_reads 104 = .ok (.iaload, 1) := by decide +kernel
theorem dL_reads_105 : decode cL_reads 105 = .ok (.imul, 1) := by decide +kernel
theorem dL_reads_106 : decode cL_reads 106 = .ok (.aload_n 0, 1) := by decide +kernel
theorem dL_reads_107 : decode cL_reads 107 = .ok (.iconst 4, 1) := by decide +kernel
theorem dL_reads_108 : decode cL_reads 108 = .ok (.iaload, 1) := by decide +kernel
theorem dL_reads_109 : decode cL_reads 109 = .ok (.aload_n 0, 1) := by decide +kernel
theorem dL_reads_110 : decode cL_reads 110 = .ok (.iconst 5, 1) := by decide +kernel
theorem dL_reads_111 : decode cL_reads 111 = .ok (.iaload, 1) := by decide +kernel
theorem dL_reads_112 : decode cL_reads 112 = .ok (.isub, 1) := by decide +kernel
theorem dL_reads_113 : decode cL_reads 113 = .ok (.idiv, 1) := by decide +kernel
theorem dL_reads_114 : decode cL_reads 114 = .ok (.goto 5, 3) := by decide +kernel
theorem dL_reads_117 : decode cL_reads 117 = .ok (.ldc 93, 2) := by decide +kernel
theorem dL_reads_119 : decode cL_reads 119 = .ok (.istore 6, 2) := by decide +kernel
theorem dL_reads_121 : decode cL_reads 121 = .ok (.aload_n 3, 1) := by decide +kernel
theorem dL_reads_122 : decode cL_reads 122 = .ok (.iconst 0, 1) := by decide +kernel
theorem dL_reads_123 : decode cL_reads 123 = .ok (.iload 5, 2) := by decide +kernel
theorem dL_reads_125 : decode cL_reads 125 = .ok (.ifCond .eq 8, 3) := by decide +kernel
theorem dL_reads_128 : decode cL_reads 128 = .ok (.iload 6, 2) := by decide +kernel
theorem dL_reads_130 : decode cL_reads 130 = .ok (.goto 5, 3) := by decide +kernel
theorem dL_reads_133 : decode cL_reads 133 = .ok (.ldc 93, 2) := by decide +kernel
theorem dL_reads_135 : decode cL_reads 135 = .ok (.iastore, 1) := by decide +kernel
theorem dL_reads_136 : decode cL_reads 136 = .ok (.aload_n 3, 1) := by decide +kernel
theorem dL_reads_137 : decode cL_reads 137 = .ok (.iconst 1, 1) := by decide +kernel
theorem dL_reads_138 : decode cL_reads 138 = .ok (.iload 5, 2) := by decide +kernel
theorem dL_reads_140 : decode cL_reads 140 = .ok (.ifCond .eq 8, 3) := by decide +kernel
theorem dL_reads_143 : decode cL_reads 143 = .ok (.iload 4, 2) := by decide +kernel
theorem dL_reads_145 : decode cL_reads 145 = .ok (.goto 5, 3) := by decide +kernel
theorem dL_reads_148 : decode cL_reads 148 = .ok (.ldc 93, 2) := by decide +kernel
theorem dL_reads_150 : decode cL_reads 150 = .ok (.iastore, 1) := by decide +kernel
theorem dL_reads_151 : decode cL_reads 151 = .ok (.aload_n 3, 1) := by decide +kernel
theorem dL_reads_152 : decode cL_reads 152 = .ok (.iconst 2, 1) := by decide +kernel
theorem dL_reads_153 : decode cL_reads 153 = .ok (.iload 5, 2) := by decide +kernel
theorem dL_reads_155 : decode cL_reads 155 = .ok (.ifCond .eq 13, 3) := by decide +kernel
theorem dL_reads_158 : decode cL_reads 158 = .ok (.iload 6, 2) := by decide +kernel
theorem dL_reads_160 : decode cL_reads 160 = .ok (.aload_n 1, 1) := by decide +kernel
theorem dL_reads_161 : decode cL_reads 161 = .ok (.iload 4, 2) := by decide +kernel
theorem dL_reads_163 : decode cL_reads 163 = .ok (.iaload, 1) := by decide +kernel
theorem dL_reads_164 : decode cL_reads 164 = .ok (.isub, 1) := by decide +kernel
theorem dL_reads_165 : decode cL_reads 165 = .ok (.goto 5, 3) := by decide +kernel
theorem dL_reads_168 : decode cL_reads 168 = .ok (.ldc 93, 2) := by decide +kernel
theorem dL_reads_170 : decode cL_reads 170 = .ok (.iastore, 1) := by decide +kernel
theorem dL_reads_171 : decode cL_reads 171 = .ok (.aload_n 3, 1) := by decide +kernel
theorem dL_reads_172 : decode cL_reads 172 = .ok (.iconst 3, 1) := by decide +kernel
theorem dL_reads_173 : decode cL_reads 173 = .ok (.iload 5, 2) := by decide +kernel
theorem dL_reads_175 : decode cL_reads 175 = .ok (.ifCond .eq 7, 3) := by decide +kernel
theorem dL_reads_178 : decode cL_reads 178 = .ok (.iconst 0, 1) := by decide +kernel
theorem dL_reads_179 : decode cL_reads 179 = .ok (.goto 5, 3) := by decide +kernel
theorem dL_reads_182 : decode cL_reads 182 = .ok (.ldc 93, 2) := by decide +kernel
theorem dL_reads_184 : decode cL_reads 184 = .ok (.iastore, 1) := by decide +kernel
theorem dL_reads_185 : decode cL_reads 185 = .ok (.iconst 0, 1) := by decide +kernel
theorem dL_reads_186 : decode cL_reads 186 = .ok (.istore 7, 2) := by decide +kernel
theorem dL_reads_188 : decode cL_reads 188 = .ok (.iload 7, 2) := by decide +kernel
theorem dL_reads_190 : decode cL_reads 190 = .ok (.aload_n 0, 1) := by decide +kernel
theorem dL_reads_191 : decode cL_reads 191 = .ok (.bipush 8, 2) := by decide +kernel
theorem dL_reads_193 : decode cL_reads 193 = .ok (.iaload, 1) := by decide +kernel
theorem dL_reads_194 : decode cL_reads 194 = .ok (.if_icmp .ge 43, 3) := by decide +kernel
theorem dL_reads_197 : decode cL_reads 197 = .ok (.iload 5, 2) := by decide +kernel
theorem dL_reads_199 : decode cL_reads 199 = .ok (.ifCond .eq 38, 3) := by decide +kernel
theorem dL_reads_202 : decode cL_reads 202 = .ok (.aload_n 3, 1) := by decide +kernel
theorem dL_reads_203 : decode cL_reads 203 = .ok (.iconst 3, 1) := by decide +kernel
theorem dL_reads_204 : decode cL_reads 204 = .ok (.aload_n 1, 1) := by decide +kernel
theorem dL_reads_205 : decode cL_reads 205 = .ok (.iload 7, 2) := by decide +kernel
theorem dL_reads_207 : decode cL_reads 207 = .ok (.iaload, 1) := by decide +kernel
theorem dL_reads_208 : decode cL_reads 208 = .ok (.iload 6, 2) := by decide +kernel
theorem dL_reads_210 : decode cL_reads 210 = .ok (.isub, 1) := by decide +kernel
theorem dL_reads_211 : decode cL_reads 211 = .ok (.invokestatic 86, 3) := by decide +kernel
theorem dL_reads_214 : decode cL_reads 214 = .ok (.aload_n 3, 1) := by decide +kernel
theorem dL_reads_215 : decode cL_reads 215 = .ok (.iconst 2, 1) := by decide +kernel
theorem dL_reads_216 : decode cL_reads 216 = .ok (.iaload, 1) := by decide +kernel
theorem dL_reads_217 : decode cL_reads 217 = .ok (.invokestatic 86, 3) := by decide +kernel
theorem dL_reads_220 : decode cL_reads 220 = .ok (.if_icmp .ge 7, 3) := by decide +kernel
theorem dL_reads_223 : decode cL_reads 223 = .ok (.iconst 1, 1) := by decide +kernel
theorem dL_reads_224 : decode cL_reads 224 = .ok (.goto 6, 3) := by decide +kernel
theorem dL_reads_227 : decode cL_reads 227 = .ok (.aload_n 3, 1) := by decide +kernel
theorem dL_reads_228 : decode cL_reads 228 = .ok (.iconst 3, 1) := by decide +kernel
theorem dL_reads_229 : decode cL_reads 229 = .ok (.iaload, 1) := by decide +kernel
theorem dL_reads_230 : decode cL_reads 230 = .ok (.iastore, 1) := by decide +kernel
theorem dL_reads_231 : decode cL_reads 231 = .ok (.iinc 7 1, 3) := by decide +kernel
theorem dL_reads_234 : decode cL_reads 234 = .ok (.goto (-46), 3) := by decide +kernel
theorem dL_reads_237 : decode cL_reads 237 = .ok (.iload 5, 2) := by decide +kernel
theorem dL_reads_239 : decode cL_reads 239 = .ok (.ireturn, 1) := by decide +kernel
set_option maxRecDepth 20000 in
theorem ggL_best_L_apart : GoodIn wsL_best wsL_apart := goodIn_r _ [5, 6, 7, 4, 8] (by decide +kernel) (by decide +kernel)
set_option maxRecDepth 20000 in
theorem gL_best_L_apart : GoodIn wsL_best (va_wsS RL 82 yL_apart wsL_apart) := goodIn_app (goodIn_of _ (by decide +kernel)) ggL_best_L_apart
set_option maxRecDepth 20000 in
theorem ggL_best_L_size : GoodIn wsL_best wsL_size := goodIn_r _ [11] (by decide +kernel) (by decide +kernel)
set_option maxRecDepth 20000 in
theorem gL_best_L_size : GoodIn wsL_best (va_wsS RL 86 yL_size wsL_size) := goodIn_app (goodIn_of _ (by decide +kernel)) ggL_best_L_size
theorem dL_best_0 : decode cL_best 0 = .ok (.aload_n 2, 1) := by decide +kernel
theorem dL_best_1 : decode cL_best 1 = .ok (.iconst 4, 1) := by decide +kernel
theorem dL_best_2 : decode cL_best 2 = .ok (.iload_n 0, 1) := by decide +kernel
theorem dL_best_3 : decode cL_best 3 = .ok (.iadd, 1) := by decide +kernel
theorem dL_best_4 : decode cL_best 4 = .ok (.iaload, 1) := by decide +kernel
theorem dL_best_5 : decode cL_best 5 = .ok (.istore 4, 2) := by decide +kernel
theorem dL_best_7 : decode cL_best 7 = .ok (.bipush 30, 2) := by decide +kernel
theorem dL_best_9 : decode cL_best 9 = .ok (.istore 5, 2) := by decide +kernel
theorem dL_best_11 : decode cL_best 11 = .ok (.ldc 94, 2) := by decide +kernel
theorem dL_best_13 : decode cL_best 13 = .ok (.istore 6, 2) := by decide +kernel
theorem dL_best_15 : decode cL_best 15 = .ok (.bipush 30, 2) := by decide +kernel
theorem dL_best_17 : decode cL_best 17 = .ok (.istore 7, 2) := by decide +kernel
theorem dL_best_19 : decode cL_best 19 = .ok (.iload 7, 2) := by decide +kernel
theorem dL_best_21 : decode cL_best 21 = .ok (.bipush (-30), 2) := by decide +kernel
theorem dL_best_23 : decode cL_best 23 = .ok (.if_icmp .lt 59, 3) := by decide +kernel
theorem dL_best_26 : decode cL_best 26 = .ok (.aload_n 2, 1) := by decide +kernel
theorem dL_best_27 : decode cL_best 27 = .ok (.iconst 4, 1) := by decide +kernel
theorem dL_best_28 : decode cL_best 28 = .ok (.iload_n 0, 1) := by decide +kernel
theorem dL_best_29 : decode cL_best 29 = .ok (.iadd, 1) := by decide +kernel
theorem dL_best_30 : decode cL_best 30 = .ok (.iload 7, 2) := by decide +kernel
theorem dL_best_32 : decode cL_best 32 = .ok (.iastore, 1) := by decide +kernel
theorem dL_best_33 : decode cL_best 33 = .ok (.iload_n 1, 1) := by decide +kernel
theorem dL_best_34 : decode cL_best 34 = .ok (.aload_n 2, 1) := by decide +kernel
theorem dL_best_35 : decode cL_best 35 = .ok (.aload_n 3, 1) := by decide +kernel
theorem dL_best_36 : decode cL_best 36 = .ok (.invokestatic 82, 3) := by decide +kernel
theorem dL_best_39 : decode cL_best 39 = .ok (.invokestatic 86, 3) := by decide +kernel
theorem dL_best_42 : decode cL_best 42 = .ok (.istore 8, 2) := by decide +kernel
theorem dL_best_44 : decode cL_best 44 = .ok (.iload 8, 2) := by decide +kernel
theorem dL_best_46 : decode cL_best 46 = .ok (.iload 6, 2) := by decide +kernel
theorem dL_best_48 : decode cL_best 48 = .ok (.if_icmp .gt 8, 3) := by decide +kernel
theorem dL_best_51 : decode cL_best 51 = .ok (.iload 7, 2) := by decide +kernel
theorem dL_best_53 : decode cL_best 53 = .ok (.goto 5, 3) := by decide +kernel
theorem dL_best_56 : decode cL_best 56 = .ok (.iload 5, 2) := by decide +kernel
theorem dL_best_58 : decode cL_best 58 = .ok (.istore 5, 2) := by decide +kernel
theorem dL_best_60 : decode cL_best 60 = .ok (.iload 8, 2) := by decide +kernel
theorem dL_best_62 : decode cL_best 62 = .ok (.iload 6, 2) := by decide +kernel
theorem dL_best_64 : decode cL_best 64 = .ok (.if_icmp .gt 8, 3) := by decide +kernel
theorem dL_best_67 : decode cL_best 67 = .ok (.iload 8, 2) := by decide +kernel
theorem dL_best_69 : decode cL_best 69 = .ok (.goto 5, 3) := by decide +kernel
theorem dL_best_72 : decode cL_best 72 = .ok (.iload 6, 2) := by decide +kernel
theorem dL_best_74 : decode cL_best 74 = .ok (.istore 6, 2) := by decide +kernel
theorem dL_best_76 : decode cL_best 76 = .ok (.iinc 7 (-1), 3) := by decide +kernel
theorem dL_best_79 : decode cL_best 79 = .ok (.goto (-60), 3) := by decide +kernel
theorem dL_best_82 : decode cL_best 82 = .ok (.aload_n 2, 1) := by decide +kernel
theorem dL_best_83 : decode cL_best 83 = .ok (.iconst 4, 1) := by decide +kernel
theorem dL_best_84 : decode cL_best 84 = .ok (.iload_n 0, 1) := by decide +kernel
theorem dL_best_85 : decode cL_best 85 = .ok (.iadd, 1) := by decide +kernel
theorem dL_best_86 : decode cL_best 86 = .ok (.iload 4, 2) := by decide +kernel
theorem dL_best_88 : decode cL_best 88 = .ok (.iastore, 1) := by decide +kernel
theorem dL_best_89 : decode cL_best 89 = .ok (.iload 5, 2) := by decide +kernel
theorem dL_best_91 : decode cL_best 91 = .ok (.ireturn, 1) := by decide +kernel
theorem dL_drops_0 : decode cL_drops 0 = .ok (.aload_n 2, 1) := by decide +kernel
theorem dL_drops_1 : decode cL_drops 1 = .ok (.iload_n 0, 1) := by decide +kernel
theorem dL_drops_2 : decode cL_drops 2 = .ok (.iaload, 1) := by decide +kernel
theorem dL_drops_3 : decode cL_drops 3 = .ok (.istore 4, 2) := by decide +kernel
theorem dL_drops_5 : decode cL_drops 5 = .ok (.aload_n 1, 1) := by decide +kernel
theorem dL_drops_6 : decode cL_drops 6 = .ok (.bipush 8, 2) := by decide +kernel
theorem dL_drops_8 : decode cL_drops 8 = .ok (.dup2, 1) := by decide +kernel
theorem dL_drops_9 : decode cL_drops 9 = .ok (.iaload, 1) := by decide +kernel
theorem dL_drops_10 : decode cL_drops 10 = .ok (.iconst 1, 1) := by decide +kernel
theorem dL_drops_11 : decode cL_drops 11 = .ok (.isub, 1) := by decide +kernel
theorem dL_drops_12 : decode cL_drops 12 = .ok (.iastore, 1) := by decide +kernel
theorem dL_drops_13 : decode cL_drops 13 = .ok (.iload_n 0, 1) := by decide +kernel
theorem dL_drops_14 : decode cL_drops 14 = .ok (.istore 5, 2) := by decide +kernel
theorem dL_drops_16 : decode cL_drops 16 = .ok (.iload 5, 2) := by decide +kernel
theorem dL_drops_18 : decode cL_drops 18 = .ok (.aload_n 1, 1) := by decide +kernel
theorem dL_drops_19 : decode cL_drops 19 = .ok (.bipush 8, 2) := by decide +kernel
theorem dL_drops_21 : decode cL_drops 21 = .ok (.iaload, 1) := by decide +kernel
theorem dL_drops_22 : decode cL_drops 22 = .ok (.if_icmp .ge 29, 3) := by decide +kernel
theorem dL_drops_25 : decode cL_drops 25 = .ok (.aload_n 2, 1) := by decide +kernel
theorem dL_drops_26 : decode cL_drops 26 = .ok (.iload 5, 2) := by decide +kernel
theorem dL_drops_28 : decode cL_drops 28 = .ok (.aload_n 2, 1) := by decide +kernel
theorem dL_drops_29 : decode cL_drops 29 = .ok (.iload 5, 2) := by decide +kernel
theorem dL_drops_31 : decode cL_drops 31 = .ok (.iconst 1, 1) := by decide +kernel
theorem dL_drops_32 : decode cL_drops 32 = .ok (.iadd, 1) := by decide +kernel
theorem dL_drops_33 : decode cL_drops 33 = .ok (.iaload, 1) := by decide +kernel
theorem dL_drops_34 : decode cL_drops 34 = .ok (.iastore, 1) := by decide +kernel
theorem dL_drops_35 : decode cL_drops 35 = .ok (.aload_n 3, 1) := by decide +kernel
theorem dL_drops_36 : decode cL_drops 36 = .ok (.iload 5, 2) := by decide +kernel
theorem dL_drops_38 : decode cL_drops 38 = .ok (.aload_n 3, 1) := by decide +kernel
theorem dL_drops_39 : decode cL_drops 39 = .ok (.iload 5, 2) := by decide +kernel
theorem dL_drops_41 : decode cL_drops 41 = .ok (.iconst 1, 1) := by decide +kernel
theorem dL_drops_42 : decode cL_drops 42 = .ok (.iadd, 1) := by decide +kernel
theorem dL_drops_43 : decode cL_drops 43 = .ok (.iaload, 1) := by decide +kernel
theorem dL_drops_44 : decode cL_drops 44 = .ok (.iastore, 1) := by decide +kernel
theorem dL_drops_45 : decode cL_drops 45 = .ok (.iinc 5 1, 3) := by decide +kernel
theorem dL_drops_48 : decode cL_drops 48 = .ok (.goto (-32), 3) := by decide +kernel
theorem dL_drops_51 : decode cL_drops 51 = .ok (.iload 4, 2) := by decide +kernel
theorem dL_drops_53 : decode cL_drops 53 = .ok (.ireturn, 1) := by decide +kernel
set_option maxRecDepth 20000 in
theorem ggL_logs_L_reads : GoodIn wsL_logs wsL_reads := goodIn_r _ [5, 1, 6, 7, 4, 8, 9, 10, 11, 12, 13, 14, 15, 16, 17, 18, 19, 20] (by decide +kernel) (by decide +kernel)
set_option maxRecDepth 20000 in
theorem gL_logs_L_reads : GoodIn wsL_logs (va_wsS RL 95 yL_reads wsL_reads) := goodIn_app (goodIn_of _ (by decide +kernel)) ggL_logs_L_reads
theorem dL_logs_0 : decode cL_logs 0 = .ok (.aload_n 0, 1) := by decide +kernel
theorem dL_logs_1 : decode cL_logs 1 = .ok (.aload_n 1, 1) := by decide +kernel
theorem dL_logs_2 : decode cL_logs 2 = .ok (.aload_n 3, 1) := by decide +kernel
theorem dL_logs_3 : decode cL_logs 3 = .ok (.aload 4, 2) := by decide +kernel
theorem dL_logs_5 : decode cL_logs 5 = .ok (.invokestatic 95, 3) := by decide +kernel
theorem dL_logs_8 : decode cL_logs 8 = .ok (.istore 5, 2) := by decide +kernel
theorem dL_logs_10 : decode cL_logs 10 = .ok (.bipush 31, 2) := by decide +kernel
theorem dL_logs_12 : decode cL_logs 12 = .ok (.istore 6, 2) := by decide +kernel
theorem dL_logs_14 : decode cL_logs 14 = .ok (.iload 6, 2) := by decide +kernel
theorem dL_logs_16 : decode cL_logs 16 = .ok (.iconst 3, 1) := by decide +kernel
theorem dL_logs_17 : decode cL_logs 17 = .ok (.if_icmp .le 19, 3) := by decide +kernel
theorem dL_logs_20 : decode cL_logs 20 = .ok (.aload_n 2, 1) := by decide +kernel
theorem dL_logs_21 : decode cL_logs 21 = .ok (.iload 6, 2) := by decide +kernel
theorem dL_logs_23 : decode cL_logs 23 = .ok (.aload_n 2, 1) := by decide +kernel
theorem dL_logs_24 : decode cL_logs 24 = .ok (.iload 6, 2) := by decide +kernel
theorem dL_logs_26 : decode cL_logs 26 = .ok (.iconst 4, 1) := by decide +kernel
theorem dL_logs_27 : decode cL_logs 27 = .ok (.isub, 1) := by decide +kernel
theorem dL_logs_28 : decode cL_logs 28 = .ok (.iaload, 1) := by decide +kernel
theorem dL_logs_29 : decode cL_logs 29 = .ok (.iastore, 1) := by decide +kernel
theorem dL_logs_30 : decode cL_logs 30 = .ok (.iinc 6 (-1), 3) := by decide +kernel
theorem dL_logs_33 : decode cL_logs 33 = .ok (.goto (-19), 3) := by decide +kernel
theorem dL_logs_36 : decode cL_logs 36 = .ok (.aload_n 2, 1) := by decide +kernel
theorem dL_logs_37 : decode cL_logs 37 = .ok (.iconst 0, 1) := by decide +kernel
theorem dL_logs_38 : decode cL_logs 38 = .ok (.aload 4, 2) := by decide +kernel
theorem dL_logs_40 : decode cL_logs 40 = .ok (.iconst 0, 1) := by decide +kernel
theorem dL_logs_41 : decode cL_logs 41 = .ok (.iaload, 1) := by decide +kernel
theorem dL_logs_42 : decode cL_logs 42 = .ok (.iastore, 1) := by decide +kernel
theorem dL_logs_43 : decode cL_logs 43 = .ok (.aload_n 2, 1) := by decide +kernel
theorem dL_logs_44 : decode cL_logs 44 = .ok (.iconst 1, 1) := by decide +kernel
theorem dL_logs_45 : decode cL_logs 45 = .ok (.iload 5, 2) := by decide +kernel
theorem dL_logs_47 : decode cL_logs 47 = .ok (.ifCond .eq 12, 3) := by decide +kernel
theorem dL_logs_50 : decode cL_logs 50 = .ok (.aload_n 1, 1) := by decide +kernel
theorem dL_logs_51 : decode cL_logs 51 = .ok (.aload 4, 2) := by decide +kernel
theorem dL_logs_53 : decode cL_logs 53 = .ok (.iconst 1, 1) := by decide +kernel
theorem dL_logs_54 : decode cL_logs 54 = .ok (.iaload, 1) := by decide +kernel
theorem dL_logs_55 : decode cL_logs 55 = .ok (.iaload, 1) := by decide +kernel
theorem dL_logs_56 : decode cL_logs 56 = .ok (.goto 5, 3) := by decide +kernel
theorem dL_logs_59 : decode cL_logs 59 = .ok (.ldc 93, 2) := by decide +kernel
theorem dL_logs_61 : decode cL_logs 61 = .ok (.iastore, 1) := by decide +kernel
theorem dL_logs_62 : decode cL_logs 62 = .ok (.aload_n 2, 1) := by decide +kernel
theorem dL_logs_63 : decode cL_logs 63 = .ok (.iconst 2, 1) := by decide +kernel
theorem dL_logs_64 : decode cL_logs 64 = .ok (.aload 4, 2) := by decide +kernel
theorem dL_logs_66 : decode cL_logs 66 = .ok (.iconst 2, 1) := by decide +kernel
theorem dL_logs_67 : decode cL_logs 67 = .ok (.iaload, 1) := by decide +kernel
theorem dL_logs_68 : decode cL_logs 68 = .ok (.iastore, 1) := by decide +kernel
theorem dL_logs_69 : decode cL_logs 69 = .ok (.aload_n 2, 1) := by decide +kernel
theorem dL_logs_70 : decode cL_logs 70 = .ok (.iconst 3, 1) := by decide +kernel
theorem dL_logs_71 : decode cL_logs 71 = .ok (.iload 5, 2) := by decide +kernel
theorem dL_logs_73 : decode cL_logs 73 = .ok (.ifCond .eq 10, 3) := by decide +kernel
theorem dL_logs_76 : decode cL_logs 76 = .ok (.aload 4, 2) := by decide +kernel
theorem dL_logs_78 : decode cL_logs 78 = .ok (.iconst 3, 1) := by decide +kernel
theorem dL_logs_79 : decode cL_logs 79 = .ok (.iaload, 1) := by decide +kernel
theorem dL_logs_80 : decode cL_logs 80 = .ok (.goto 4, 3) := by decide +kernel
theorem dL_logs_83 : decode cL_logs 83 = .ok (.iconst 0, 1) := by decide +kernel
theorem dL_logs_84 : decode cL_logs 84 = .ok (.iastore, 1) := by decide +kernel
theorem dL_logs_85 : decode cL_logs 85 = .ok (.aload_n 0, 1) := by decide +kernel
theorem dL_logs_86 : decode cL_logs 86 = .ok (.bipush 9, 2) := by decide +kernel
theorem dL_logs_88 : decode cL_logs 88 = .ok (.dup2, 1) := by decide +kernel
theorem dL_logs_89 : decode cL_logs 89 = .ok (.iaload, 1) := by decide +kernel
theorem dL_logs_90 : decode cL_logs 90 = .ok (.aload_n 0, 1) := by decide +kernel
theorem dL_logs_91 : decode cL_logs 91 = .ok (.bipush 9, 2) := by decide +kernel
theorem dL_logs_93 : decode cL_logs 93 = .ok (.iaload, 1) := by decide +kernel
theorem dL_logs_94 : decode cL_logs 94 = .ok (.bipush 8, 2) := by decide +kernel
theorem dL_logs_96 : decode cL_logs 96 = .ok (.if_icmp .ge 7, 3) := by decide +kernel
theorem dL_logs_99 : decode cL_logs 99 = .ok (.iconst 1, 1) := by decide +kernel
theorem dL_logs_100 : decode cL_logs 100 = .ok (.goto 4, 3) := by decide +kernel
theorem dL_logs_103 : decode cL_logs 103 = .ok (.iconst 0, 1) := by decide +kernel
theorem dL_logs_104 : decode cL_logs 104 = .ok (.iadd, 1) := by decide +kernel
theorem dL_logs_105 : decode cL_logs 105 = .ok (.iastore, 1) := by decide +kernel
theorem dL_logs_106 : decode cL_logs 106 = .ok (.aload_n 0, 1) := by decide +kernel
theorem dL_logs_107 : decode cL_logs 107 = .ok (.bipush 10, 2) := by decide +kernel
theorem dL_logs_109 : decode cL_logs 109 = .ok (.dup2, 1) := by decide +kernel
theorem dL_logs_110 : decode cL_logs 110 = .ok (.iaload, 1) := by decide +kernel
theorem dL_logs_111 : decode cL_logs 111 = .ok (.iconst 1, 1) := by decide +kernel
theorem dL_logs_112 : decode cL_logs 112 = .ok (.iadd, 1) := by decide +kernel
theorem dL_logs_113 : decode cL_logs 113 = .ok (.iastore, 1) := by decide +kernel
theorem dL_logs_114 : decode cL_logs 114 = .ok (.aload_n 0, 1) := by decide +kernel
theorem dL_logs_115 : decode cL_logs 115 = .ok (.bipush 11, 2) := by decide +kernel
theorem dL_logs_117 : decode cL_logs 117 = .ok (.dup2, 1) := by decide +kernel
theorem dL_logs_118 : decode cL_logs 118 = .ok (.iaload, 1) := by decide +kernel
theorem dL_logs_119 : decode cL_logs 119 = .ok (.aload_n 2, 1) := by decide +kernel
theorem dL_logs_120 : decode cL_logs 120 = .ok (.iconst 3, 1) := by decide +kernel
theorem dL_logs_121 : decode cL_logs 121 = .ok (.iaload, 1) := by decide +kernel
theorem dL_logs_122 : decode cL_logs 122 = .ok (.iadd, 1) := by decide +kernel
theorem dL_logs_123 : decode cL_logs 123 = .ok (.iastore, 1) := by decide +kernel
theorem dL_logs_124 : decode cL_logs 124 = .ok (.aload_n 0, 1) := by decide +kernel
theorem dL_logs_125 : decode cL_logs 125 = .ok (.bipush 9, 2) := by decide +kernel
theorem dL_logs_127 : decode cL_logs 127 = .ok (.iaload, 1) := by decide +kernel
theorem dL_logs_128 : decode cL_logs 128 = .ok (.ireturn, 1) := by decide +kernel
set_option maxRecDepth 20000 in
theorem ggL_call_L_layer : GoodIn wsL_call wsL_layer := goodIn_ca (goodIn_ca (goodIn_r _ [4, 5, 6, 7, 8, 9, 10, 11, 12, 13, 14, 15, 16, 17, 18, 19, 20, 21, 22, 23, 24, 25, 26, 27, 28, 29, 30, 31, 32, 33, 34, 35, 36, 37, 38, 39, 40, 41, 42, 43, 44, 45, 46, 47, 48, 49, 50, 51, 52, 53, 54, 55, 56, 57, 58, 59, 60, 61, 62, 63, 64, 65, 66, 67, 68, 69, 207, 208, 209, 210, 211, 212, 213, 214, 215, 216, 217, 218, 219, 220, 221, 222, 223, 224, 225, 226] (by decide +kernel) (by decide +kernel)) (goodIn_sub (fun _ h => List.mem_cons_of_mem _ (List.mem_append_left _ (List.mem_append_left _ (List.mem_append_right _ h)))) (by decide +kernel))) (goodIn_sub (fun _ h => List.mem_cons_of_mem _ (List.mem_append_left _ (List.mem_append_right _ h))) (by decide +kernel))
set_option maxRecDepth 20000 in
theorem gL_call_L_layer : GoodIn wsL_call (va_wsS RL 99 yL_layer wsL_layer) := goodIn_app (goodIn_of _ (by decide +kernel)) ggL_call_L_layer
set_option maxRecDepth 20000 in
theorem ggL_call_L_aim : GoodIn wsL_call wsL_aim := goodIn_ca (goodIn_ca (goodIn_r _ [72, 73, 5, 74, 7, 75, 76, 77, 12, 78, 79, 80, 14, 15, 18, 81, 82, 83, 29, 30, 31, 32, 33, 34, 35, 36, 37, 38, 39, 40, 41, 42, 43, 44, 45, 25, 46, 27, 28, 47, 48, 49, 50, 51, 52, 53, 54, 55, 56, 57, 58, 59, 60, 61, 62, 63, 64, 65, 84, 85, 86, 87, 207, 208, 209, 210, 211, 212, 213, 214, 215, 216, 217, 218, 219, 220, 221, 222, 223, 224, 225, 226] (by decide +kernel) (by decide +kernel)) (goodIn_sub (fun _ h => List.mem_cons_of_mem _ (List.mem_append_right _ h)) (by decide +kernel))) (goodIn_sub (fun _ h => List.mem_cons_of_mem _ (List.mem_append_left _ (List.mem_append_left _ (List.mem_append_right _ h)))) (by decide +kernel))
set_option maxRecDepth 20000 in
theorem gL_call_L_aim : GoodIn wsL_call (va_wsS RL 102 yL_aim wsL_aim) := goodIn_app (goodIn_of _ (by decide +kernel)) ggL_call_L_aim
set_option maxRecDepth 20000 in
theorem ggL_call_L_scan : GoodIn wsL_call wsL_scan := goodIn_ca (goodIn_r _ [90, 73, 74, 91, 92, 93, 12, 94, 79, 80, 18, 95, 96, 38, 97, 81, 82, 83, 98, 99, 100, 25, 101, 27, 29, 30, 31, 32, 33, 34, 35, 36, 37, 39, 40, 41, 42, 43, 44, 45, 46, 28, 47, 48, 49, 50, 51, 52, 53, 54, 55, 56, 57, 58, 59, 60, 61, 62, 63, 64, 65, 102, 103, 104, 105, 106, 107, 108, 109, 110, 111, 112, 113, 114, 84, 85, 86, 87, 115, 116, 117, 118, 119, 120, 121, 122, 207, 208, 209, 210, 211, 212, 213, 214, 215, 216, 217, 218, 219, 220, 221, 222, 223, 224, 225, 226] (by decide +kernel) (by decide +kernel)) (goodIn_sub (fun _ h => List.mem_cons_of_mem _ (List.mem_append_right _ h)) (by decide +kernel))
set_option maxRecDepth 20000 in
theorem gL_call_L_scan : GoodIn wsL_call (va_wsS RL 104 yL_scan wsL_scan) := goodIn_app (goodIn_of _ (by decide +kernel)) ggL_call_L_scan
set_option maxRecDepth 20000 in
theorem ggL_call_X3_log : GoodIn wsL_call wsX3_log := goodIn_r _ [126, 18, 29, 30, 31, 12, 32, 33, 34, 35, 36, 37, 38, 39, 40, 41, 42, 43, 44, 45, 25, 46, 27, 28, 47, 48, 49, 50, 51, 52, 53, 54, 55, 56, 57, 58, 59, 60, 61, 62, 63, 64, 65, 127, 128, 129, 130, 131, 132, 133, 134, 135, 110, 96, 97, 136, 137, 138, 139, 140, 141, 142, 143, 144, 145, 146, 119, 120, 121, 122, 111, 112, 113, 114, 147, 148, 149, 150, 151, 152, 153, 154, 155, 156, 157, 158, 159, 207, 208, 209, 210, 211, 212, 213, 214, 215, 216, 217, 218, 219, 220, 221, 222, 223, 224, 225, 226] (by decide +kernel) (by decide +kernel)
set_option maxRecDepth 20000 in
theorem gL_call_X3_log : GoodIn wsL_call (wsV RL 106 RX3 yX3_log wsX3_log) := goodIn_app (goodIn_of _ (by decide +kernel)) ggL_call_X3_log
set_option maxRecDepth 20000 in
theorem ggL_call_L_turn : GoodIn wsL_call wsL_turn := goodIn_ca (goodIn_r _ [162, 73, 74, 163, 164, 165, 12, 166, 79, 80, 18, 81, 82, 83, 29, 30, 31, 32, 33, 34, 35, 36, 37, 38, 39, 40, 41, 42, 43, 44, 45, 25, 46, 27, 28, 47, 48, 49, 50, 51, 52, 53, 54, 55, 56, 57, 58, 59, 60, 61, 62, 63, 64, 65, 167, 168, 169, 170, 171, 172, 173, 174, 207, 208, 209, 210, 211, 212, 213, 214, 215, 216, 217, 218, 219, 220, 221, 222, 223, 224, 225, 226] (by decide +kernel) (by decide +kernel)) (goodIn_sub (fun _ h => List.mem_cons_of_mem _ (List.mem_append_right _ h)) (by decide +kernel))
set_option maxRecDepth 20000 in
theorem gL_call_L_turn : GoodIn wsL_call (va_wsS RL 109 yL_turn wsL_turn) := goodIn_app (goodIn_of _ (by decide +kernel)) ggL_call_L_turn
set_option maxRecDepth 20000 in
theorem ggL_call_L_set : GoodIn wsL_call wsL_set := goodIn_ca (goodIn_ca (goodIn_r _ [177, 73, 5, 74, 7, 178, 179, 180, 12, 181, 79, 80, 14, 15, 182, 183, 18, 184, 29, 30, 31, 32, 33, 34, 35, 36, 37, 38, 39, 40, 41, 42, 43, 44, 45, 25, 46, 27, 28, 47, 48, 49, 50, 51, 52, 53, 54, 55, 56, 57, 58, 59, 60, 61, 62, 63, 64, 65, 207, 208, 209, 210, 211, 212, 213, 214, 215, 216, 217, 218, 219, 220, 221, 222, 223, 224, 225, 226] (by decide +kernel) (by decide +kernel)) (goodIn_sub (fun _ h => List.mem_cons_of_mem _ (List.mem_append_right _ h)) (by decide +kernel))) (goodIn_sub (fun _ h => List.mem_cons_of_mem _ (List.mem_append_left _ (List.mem_append_left _ (List.mem_append_right _ h)))) (by decide +kernel))
set_option maxRecDepth 20000 in
theorem gL_call_L_set : GoodIn wsL_call (va_wsS RL 112 yL_set wsL_set) := goodIn_app (goodIn_of _ (by decide +kernel)) ggL_call_L_set
set_option maxRecDepth 20000 in
theorem ggL_call_L_clear : GoodIn wsL_call wsL_clear := goodIn_ca (goodIn_r _ [187, 73, 74, 188, 189, 190, 12, 191, 79, 80, 18, 98, 99, 100, 25, 101, 27, 29, 30, 31, 32, 33, 34, 35, 36, 37, 38, 39, 40, 41, 42, 43, 44, 45, 46, 28, 47, 48, 49, 50, 51, 52, 53, 54, 55, 56, 57, 58, 59, 60, 61, 62, 63, 64, 65, 192, 193, 194, 195, 207, 208, 209, 210, 211, 212, 213, 214, 215, 216, 217, 218, 219, 220, 221, 222, 223, 224, 225, 226] (by decide +kernel) (by decide +kernel)) (goodIn_sub (fun _ h => List.mem_cons_of_mem _ (List.mem_append_right _ h)) (by decide +kernel))
set_option maxRecDepth 20000 in
theorem gL_call_L_clear : GoodIn wsL_call (va_wsS RL 114 yL_clear wsL_clear) := goodIn_app (goodIn_of _ (by decide +kernel)) ggL_call_L_clear
set_option maxRecDepth 20000 in
theorem ggL_call_L_clearThin : GoodIn wsL_call wsL_clearThin := goodIn_ca (goodIn_r _ [198, 5, 7, 199, 200, 201, 12, 202, 14, 15, 18, 19, 20, 21, 29, 30, 31, 32, 33, 34, 35, 36, 37, 38, 39, 40, 41, 42, 43, 44, 45, 25, 46, 27, 28, 47, 48, 49, 50, 51, 52, 53, 54, 55, 56, 57, 58, 59, 60, 61, 62, 63, 64, 65, 203, 204, 205, 206, 207, 208, 209, 210, 211, 212, 213, 214, 215, 216, 217, 218, 219, 220, 221, 222, 223, 224, 225, 226] (by decide +kernel) (by decide +kernel)) (goodIn_sub (fun _ h => List.mem_cons_of_mem _ (List.mem_append_left _ (List.mem_append_left _ (List.mem_append_right _ h)))) (by decide +kernel))
set_option maxRecDepth 20000 in
theorem gL_call_L_clearThin : GoodIn wsL_call (va_wsS RL 116 yL_clearThin wsL_clearThin) := goodIn_app (goodIn_of _ (by decide +kernel)) ggL_call_L_clearThin
theorem dL_call_0 : decode cL_call 0 = .ok (.iload_n 1, 1) := by decide +kernel
theorem dL_call_1 : decode cL_call 1 = .ok (.tableswitch 88 0 6 #[43, 50, 57, 64, 69, 75, 82], 43) := by decide +kernel
theorem dL_call_44 : decode cL_call 44 = .ok (.aload_n 0, 1) := by decide +kernel
theorem dL_call_45 : decode cL_call 45 = .ok (.iload_n 2, 1) := by decide +kernel
theorem dL_call_46 : decode cL_call 46 = .ok (.iload_n 3, 1) := by decide +kernel
theorem dL_call_47 : decode cL_call 47 = .ok (.invokestatic 99, 3) := by decide +kernel
theorem dL_call_50 : decode cL_call 50 = .ok (.ireturn, 1) := by decide +kernel
theorem dL_call_51 : decode cL_call 51 = .ok (.aload_n 0, 1) := by decide +kernel
theorem dL_call_52 : decode cL_call 52 = .ok (.iload_n 2, 1) := by decide +kernel
theorem dL_call_53 : decode cL_call 53 = .ok (.iload_n 3, 1) := by decide +kernel
theorem dL_call_54 : decode cL_call 54 = .ok (.invokestatic 102, 3) := by decide +kernel
theorem dL_call_57 : decode cL_call 57 = .ok (.ireturn, 1) := by decide +kernel
theorem dL_call_58 : decode cL_call 58 = .ok (.aload_n 0, 1) := by decide +kernel
theorem dL_call_59 : decode cL_call 59 = .ok (.iload_n 2, 1) := by decide +kernel
theorem dL_call_60 : decode cL_call 60 = .ok (.iload_n 3, 1) := by decide +kernel
theorem dL_call_61 : decode cL_call 61 = .ok (.invokestatic 104, 3) := by decide +kernel
theorem dL_call_64 : decode cL_call 64 = .ok (.ireturn, 1) := by decide +kernel
theorem dL_call_65 : decode cL_call 65 = .ok (.aload_n 0, 1) := by decide +kernel
theorem dL_call_66 : decode cL_call 66 = .ok (.invokevirtual 106, 3) := by decide +kernel
theorem dL_call_69 : decode cL_call 69 = .ok (.ireturn, 1) := by decide +kernel
theorem dL_call_70 : decode cL_call 70 = .ok (.aload_n 0, 1) := by decide +kernel
theorem dL_call_71 : decode cL_call 71 = .ok (.iload_n 2, 1) := by decide +kernel
theorem dL_call_72 : decode cL_call 72 = .ok (.invokestatic 109, 3) := by decide +kernel
theorem dL_call_75 : decode cL_call 75 = .ok (.ireturn, 1) := by decide +kernel
theorem dL_call_76 : decode cL_call 76 = .ok (.aload_n 0, 1) := by decide +kernel
theorem dL_call_77 : decode cL_call 77 = .ok (.iload_n 2, 1) := by decide +kernel
theorem dL_call_78 : decode cL_call 78 = .ok (.iload_n 3, 1) := by decide +kernel
theorem dL_call_79 : decode cL_call 79 = .ok (.invokestatic 112, 3) := by decide +kernel
theorem dL_call_82 : decode cL_call 82 = .ok (.ireturn, 1) := by decide +kernel
theorem dL_call_83 : decode cL_call 83 = .ok (.aload_n 0, 1) := by decide +kernel
theorem dL_call_84 : decode cL_call 84 = .ok (.iload_n 2, 1) := by decide +kernel
theorem dL_call_85 : decode cL_call 85 = .ok (.invokestatic 114, 3) := by decide +kernel
theorem dL_call_88 : decode cL_call 88 = .ok (.ireturn, 1) := by decide +kernel
theorem dL_call_89 : decode cL_call 89 = .ok (.aload_n 0, 1) := by decide +kernel
theorem dL_call_90 : decode cL_call 90 = .ok (.iload_n 2, 1) := by decide +kernel
theorem dL_call_91 : decode cL_call 91 = .ok (.invokestatic 116, 3) := by decide +kernel
theorem dL_call_94 : decode cL_call 94 = .ok (.ireturn, 1) := by decide +kernel
set_option maxRecDepth 20000 in
theorem ggL_due_L_drops : GoodIn wsL_due wsL_drops := goodIn_r _ [6] (by decide +kernel) (by decide +kernel)
set_option maxRecDepth 20000 in
theorem gL_due_L_drops : GoodIn wsL_due (va_wsS RL 118 yL_drops wsL_drops) := goodIn_app (goodIn_of _ (by decide +kernel)) ggL_due_L_drops
set_option maxRecDepth 20000 in
theorem ggL_due_L_best : GoodIn wsL_due wsL_best := goodIn_r _ [9, 10, 11, 12, 5, 13, 14, 15, 16, 17, 18, 19] (by decide +kernel) (by decide +kernel)
set_option maxRecDepth 20000 in
theorem gL_due_L_best : GoodIn wsL_due (va_wsS RL 122 yL_best wsL_best) := goodIn_app (goodIn_of _ (by decide +kernel)) ggL_due_L_best
set_option maxRecDepth 20000 in
theorem ggL_due_L_apart : GoodIn wsL_due wsL_apart := goodIn_r _ [13, 14, 15, 5, 16] (by decide +kernel) (by decide +kernel)
set_option maxRecDepth 20000 in
theorem gL_due_L_apart : GoodIn wsL_due (va_wsS RL 82 yL_apart wsL_apart) := goodIn_app (goodIn_of _ (by decide +kernel)) ggL_due_L_apart
set_option maxRecDepth 20000 in
theorem ggL_due_L_size : GoodIn wsL_due wsL_size := goodIn_r _ [19] (by decide +kernel) (by decide +kernel)
set_option maxRecDepth 20000 in
theorem gL_due_L_size : GoodIn wsL_due (va_wsS RL 86 yL_size wsL_size) := goodIn_app (goodIn_of _ (by decide +kernel)) ggL_due_L_size
set_option maxRecDepth 20000 in
theorem ggL_due_L_logs : GoodIn wsL_due wsL_logs := goodIn_r _ [22, 23, 24, 25, 5, 26, 27, 28, 29, 30, 31, 32, 11, 12, 13, 14, 15, 16, 17, 18, 19] (by decide +kernel) (by decide +kernel)
set_option maxRecDepth 20000 in
theorem gL_due_L_logs : GoodIn wsL_due (va_wsS RL 125 yL_logs wsL_logs) := goodIn_app (goodIn_of _ (by decide +kernel)) ggL_due_L_logs
theorem dL_due_0 : decode cL_due 0 = .ok (.iload_n 0, 1) := by decide +kernel
theorem dL_due_1 : decode cL_due 1 = .ok (.ifCond .ne 154, 3) := by decide +kernel
theorem dL_due_4 : decode cL_due 4 = .ok (.aload_n 3, 1) := by decide +kernel
theorem dL_due_5 : decode cL_due 5 = .ok (.bipush 8, 2) := by decide +kernel
theorem dL_due_7 : decode cL_due 7 = .ok (.iaload, 1) := by decide +kernel
theorem dL_due_8 : decode cL_due 8 = .ok (.bipush 6, 2) := by decide +kernel
theorem dL_due_10 : decode cL_due 10 = .ok (.if_icmp .ge 7, 3) := by decide +kernel
theorem dL_due_13 : decode cL_due 13 = .ok (.iconst 1, 1) := by decide +kernel
theorem dL_due_14 : decode cL_due 14 = .ok (.goto 4, 3) := by decide +kernel
theorem dL_due_17 : decode cL_due 17 = .ok (.iconst 0, 1) := by decide +kernel
theorem dL_due_18 : decode cL_due 18 = .ok (.istore 9, 2) := by decide +kernel
theorem dL_due_20 : decode cL_due 20 = .ok (.iconst 0, 1) := by decide +kernel
theorem dL_due_21 : decode cL_due 21 = .ok (.istore 10, 2) := by decide +kernel
theorem dL_due_23 : decode cL_due 23 = .ok (.iconst 0, 1) := by decide +kernel
theorem dL_due_24 : decode cL_due 24 = .ok (.istore 11, 2) := by decide +kernel
theorem dL_due_26 : decode cL_due 26 = .ok (.iload 11, 2) := by decide +kernel
theorem dL_due_28 : decode cL_due 28 = .ok (.aload_n 3, 1) := by decide +kernel
theorem dL_due_29 : decode cL_due 29 = .ok (.bipush 8, 2) := by decide +kernel
theorem dL_due_31 : decode cL_due 31 = .ok (.iaload, 1) := by decide +kernel
theorem dL_due_32 : decode cL_due 32 = .ok (.if_icmp .ge 49, 3) := by decide +kernel
theorem dL_due_35 : decode cL_due 35 = .ok (.iload 9, 2) := by decide +kernel
theorem dL_due_37 : decode cL_due 37 = .ok (.ifCond .eq 16, 3) := by decide +kernel
theorem dL_due_40 : decode cL_due 40 = .ok (.aload 4, 2) := by decide +kernel
theorem dL_due_42 : decode cL_due 42 = .ok (.iload 11, 2) := by decide +kernel
theorem dL_due_44 : decode cL_due 44 = .ok (.iaload, 1) := by decide +kernel
theorem dL_due_45 : decode cL_due 45 = .ok (.iload_n 1, 1) := by decide +kernel
theorem dL_due_46 : decode cL_due 46 = .ok (.if_icmp .eq 7, 3) := by decide +kernel
theorem dL_due_49 : decode cL_due 49 = .ok (.iconst 1, 1) := by decide +kernel
theorem dL_due_50 : decode cL_due 50 = .ok (.goto 4, 3) := by decide +kernel
theorem dL_due_53 : decode cL_due 53 = .ok (.iconst 0, 1) := by decide +kernel
theorem dL_due_54 : decode cL_due 54 = .ok (.istore 9, 2) := by decide +kernel
theorem dL_due_56 : decode cL_due 56 = .ok (.iload 10, 2) := by decide +kernel
theorem dL_due_58 : decode cL_due 58 = .ok (.aload 4, 2) := by decide +kernel
theorem dL_due_60 : decode cL_due 60 = .ok (.iload 11, 2) := by decide +kernel
theorem dL_due_62 : decode cL_due 62 = .ok (.iaload, 1) := by decide +kernel
theorem dL_due_63 : decode cL_due 63 = .ok (.iload_n 1, 1) := by decide +kernel
theorem dL_due_64 : decode cL_due 64 = .ok (.if_icmp .ge 7, 3) := by decide +kernel
theorem dL_due_67 : decode cL_due 67 = .ok (.iconst 1, 1) := by decide +kernel
theorem dL_due_68 : decode cL_due 68 = .ok (.goto 4, 3) := by decide +kernel
theorem dL_due_71 : decode cL_due 71 = .ok (.iconst 0, 1) := by decide +kernel
theorem dL_due_72 : decode cL_due 72 = .ok (.iadd, 1) := by decide +kernel
theorem dL_due_73 : decode cL_due 73 = .ok (.istore 10, 2) := by decide +kernel
theorem dL_due_75 : decode cL_due 75 = .ok (.iinc 11 1, 3) := by decide +kernel
theorem dL_due_78 : decode cL_due 78 = .ok (.goto (-52), 3) := by decide +kernel
theorem dL_due_81 : decode cL_due 81 = .ok (.iload 9, 2) := by decide +kernel
theorem dL_due_83 : decode cL_due 83 = .ok (.ifCond .ne 6, 3) := by decide +kernel
theorem dL_due_86 : decode cL_due 86 = .ok (.ldc 21, 2) := by decide +kernel
theorem dL_due_88 : decode cL_due 88 = .ok (.ireturn, 1) := by decide +kernel
theorem dL_due_89 : decode cL_due 89 = .ok (.aload_n 3, 1) := by decide +kernel
theorem dL_due_90 : decode cL_due 90 = .ok (.bipush 8, 2) := by decide +kernel
theorem dL_due_92 : decode cL_due 92 = .ok (.iaload, 1) := by decide +kernel
theorem dL_due_93 : decode cL_due 93 = .ok (.istore 11, 2) := by decide +kernel
theorem dL_due_95 : decode cL_due 95 = .ok (.iload 11, 2) := by decide +kernel
theorem dL_due_97 : decode cL_due 97 = .ok (.iload 10, 2) := by decide +kernel
theorem dL_due_99 : decode cL_due 99 = .ok (.if_icmp .le 33, 3) := by decide +kernel
theorem dL_due_102 : decode cL_due 102 = .ok (.aload 4, 2) := by decide +kernel
theorem dL_due_104 : decode cL_due 104 = .ok (.iload 11, 2) := by decide +kernel
theorem dL_due_106 : decode cL_due 106 = .ok (.aload 4, 2) := by decide +kernel
theorem dL_due_108 : decode cL_due 108 = .ok (.iload 11, 2) := by decide +kernel
theorem dL_due_110 : decode cL_due 110 = .ok (.iconst 1, 1) := by decide +kernel
theorem dL_due_111 : decode cL_due 111 = .ok (.isub, 1) := by decide +kernel
theorem dL_due_112 : decode cL_due 112 = .ok (.iaload, 1) := by decide +kernel
theorem dL_due_113 : decode cL_due 113 = .ok (.iastore, 1) := by decide +kernel
theorem dL_due_114 : decode cL_due 114 = .ok (.aload 5, 2) := by decide +kernel
theorem dL_due_116 : decode cL_due 116 = .ok (.iload 11, 2) := by decide +kernel
theorem dL_due_118 : decode cL_due 118 = .ok (.aload 5, 2) := by decide +kernel
theorem dL_due_120 : decode cL_due 120 = .ok (.iload 11, 2) := by decide +kernel
theorem dL_due_122 : decode cL_due 122 = .ok (.iconst 1, 1) := by decide +kernel
theorem dL_due_123 : decode cL_due 123 = .ok (.isub, 1) := by decide +kernel
theorem dL_due_124 : decode cL_due 124 = .ok (.iaload, 1) := by decide +kernel
theorem dL_due_125 : decode cL_due 125 = .ok (.iastore, 1) := by decide +kernel
theorem dL_due_126 : decode cL_due 126 = .ok (.iinc 11 (-1), 3) := by decide +kernel
theorem dL_due_129 : decode cL_due 129 = .ok (.goto (-34), 3) := by decide +kernel
theorem dL_due_132 : decode cL_due 132 = .ok (.aload 4, 2) := by decide +kernel
theorem dL_due_134 : decode cL_due 134 = .ok (.iload 10, 2) := by decide +kernel
theorem dL_due_136 : decode cL_due 136 = .ok (.iload_n 1, 1) := by decide +kernel
theorem dL_due_137 : decode cL_due 137 = .ok (.iastore, 1) := by decide +kernel
theorem dL_due_138 : decode cL_due 138 = .ok (.aload 5, 2) := by decide +kernel
theorem dL_due_140 : decode cL_due 140 = .ok (.iload 10, 2) := by decide +kernel
theorem dL_due_142 : decode cL_due 142 = .ok (.iload_n 2, 1) := by decide +kernel
theorem dL_due_143 : decode cL_due 143 = .ok (.iastore, 1) := by decide +kernel
theorem dL_due_144 : decode cL_due 144 = .ok (.aload_n 3, 1) := by decide +kernel
theorem dL_due_145 : decode cL_due 145 = .ok (.bipush 8, 2) := by decide +kernel
theorem dL_due_147 : decode cL_due 147 = .ok (.dup2, 1) := by decide +kernel
theorem dL_due_148 : decode cL_due 148 = .ok (.iaload, 1) := by decide +kernel
theorem dL_due_149 : decode cL_due 149 = .ok (.iconst 1, 1) := by decide +kernel
theorem dL_due_150 : decode cL_due 150 = .ok (.iadd, 1) := by decide +kernel
theorem dL_due_151 : decode cL_due 151 = .ok (.iastore, 1) := by decide +kernel
theorem dL_due_152 : decode cL_due 152 = .ok (.iload 10, 2) := by decide +kernel
theorem dL_due_154 : decode cL_due 154 = .ok (.ireturn, 1) := by decide +kernel
theorem dL_due_155 : decode cL_due 155 = .ok (.iload_n 0, 1) := by decide +kernel
theorem dL_due_156 : decode cL_due 156 = .ok (.iconst 1, 1) := by decide +kernel
theorem dL_due_157 : decode cL_due 157 = .ok (.if_icmp .eq 8, 3) := by decide +kernel
theorem dL_due_160 : decode cL_due 160 = .ok (.iload_n 0, 1) := by decide +kernel
theorem dL_due_161 : decode cL_due 161 = .ok (.iconst 5, 1) := by decide +kernel
theorem dL_due_162 : decode cL_due 162 = .ok (.if_icmp .ne 31, 3) := by decide +kernel
theorem dL_due_165 : decode cL_due 165 = .ok (.iload_n 0, 1) := by decide +kernel
theorem dL_due_166 : decode cL_due 166 = .ok (.iconst 1, 1) := by decide +kernel
theorem dL_due_167 : decode cL_due 167 = .ok (.if_icmp .ne 9, 3) := by decide +kernel
theorem dL_due_170 : decode cL_due 170 = .ok (.iconst 4, 1) := by decide +kernel
theorem dL_due_171 : decode cL_due 171 = .ok (.iload_n 1, 1) := by decide +kernel
theorem dL_due_172 : decode cL_due 172 = .ok (.iadd, 1) := by decide +kernel
theorem dL_due_173 : decode cL_due 173 = .ok (.goto 4, 3) := by decide +kernel
theorem dL_due_176 : decode cL_due 176 = .ok (.iload_n 1, 1) := by decide +kernel
theorem dL_due_177 : decode cL_due 177 = .ok (.istore 9, 2) := by decide +kernel
theorem dL_due_179 : decode cL_due 179 = .ok (.aload_n 3, 1) := by decide +kernel
theorem dL_due_180 : decode cL_due 180 = .ok (.iload 9, 2) := by decide +kernel
theorem dL_due_182 : decode cL_due 182 = .ok (.iaload, 1) := by decide +kernel
theorem dL_due_183 : decode cL_due 183 = .ok (.istore 10, 2) := by decide +kernel
theorem dL_due_185 : decode cL_due 185 = .ok (.aload_n 3, 1) := by decide +kernel
theorem dL_due_186 : decode cL_due 186 = .ok (.iload 9, 2) := by decide +kernel
theorem dL_due_188 : decode cL_due 188 = .ok (.iload_n 2, 1) := by decide +kernel
theorem dL_due_189 : decode cL_due 189 = .ok (.iastore, 1) := by decide +kernel
theorem dL_due_190 : decode cL_due 190 = .ok (.iload 10, 2) := by decide +kernel
theorem dL_due_192 : decode cL_due 192 = .ok (.ireturn, 1) := by decide +kernel
theorem dL_due_193 : decode cL_due 193 = .ok (.iload_n 0, 1) := by decide +kernel
theorem dL_due_194 : decode cL_due 194 = .ok (.iconst 2, 1) := by decide +kernel
theorem dL_due_195 : decode cL_due 195 = .ok (.if_icmp .eq 9, 3) := by decide +kernel
theorem dL_due_198 : decode cL_due 198 = .ok (.iload_n 0, 1) := by decide +kernel
theorem dL_due_199 : decode cL_due 199 = .ok (.bipush 6, 2) := by decide +kernel
theorem dL_due_201 : decode cL_due 201 = .ok (.if_icmp .ne 63, 3) := by decide +kernel
theorem dL_due_204 : decode cL_due 204 = .ok (.iload_n 0, 1) := by decide +kernel
theorem dL_due_205 : decode cL_due 205 = .ok (.iconst 2, 1) := by decide +kernel
theorem dL_due_206 : decode cL_due 206 = .ok (.if_icmp .ne 7, 3) := by decide +kernel
theorem dL_due_209 : decode cL_due 209 = .ok (.iload_n 2, 1) := by decide +kernel
theorem dL_due_210 : decode cL_due 210 = .ok (.goto 4, 3) := by decide +kernel
theorem dL_due_213 : decode cL_due 213 = .ok (.iload_n 1, 1) := by decide +kernel
theorem dL_due_214 : decode cL_due 214 = .ok (.aload_n 3, 1) := by decide +kernel
theorem dL_due_215 : decode cL_due 215 = .ok (.bipush 8, 2) := by decide +kernel
theorem dL_due_217 : decode cL_due 217 = .ok (.iaload, 1) := by decide +kernel
theorem dL_due_218 : decode cL_due 218 = .ok (.if_icmp .lt 6, 3) := by decide +kernel
theorem dL_due_221 : decode cL_due 221 = .ok (.ldc 28, 2) := by decide +kernel
theorem dL_due_223 : decode cL_due 223 = .ok (.ireturn, 1) := by decide +kernel
theorem dL_due_224 : decode cL_due 224 = .ok (.iload_n 0, 1) := by decide +kernel
theorem dL_due_225 : decode cL_due 225 = .ok (.bipush 6, 2) := by decide +kernel
theorem dL_due_227 : decode cL_due 227 = .ok (.if_icmp .ne 13, 3) := by decide +kernel
theorem dL_due_230 : decode cL_due 230 = .ok (.iload_n 1, 1) := by decide +kernel
theorem dL_due_231 : decode cL_due 231 = .ok (.aload_n 3, 1) := by decide +kernel
theorem dL_due_232 : decode cL_due 232 = .ok (.aload 4, 2) := by decide +kernel
theorem dL_due_234 : decode cL_due 234 = .ok (.aload 5, 2) := by decide +kernel
theorem dL_due_236 : decode cL_due 236 = .ok (.invokestatic 118, 3) := by decide +kernel
theorem dL_due_239 : decode cL_due 239 = .ok (.ireturn, 1) := by decide +kernel
theorem dL_due_240 : decode cL_due 240 = .ok (.aload_n 3, 1) := by decide +kernel
theorem dL_due_241 : decode cL_due 241 = .ok (.iconst 4, 1) := by decide +kernel
theorem dL_due_242 : decode cL_due 242 = .ok (.iload_n 1, 1) := by decide +kernel
theorem dL_due_243 : decode cL_due 243 = .ok (.iadd, 1) := by decide +kernel
theorem dL_due_244 : decode cL_due 244 = .ok (.iload_n 1, 1) := by decide +kernel
theorem dL_due_245 : decode cL_due 245 = .ok (.iload_n 2, 1) := by decide +kernel
theorem dL_due_246 : decode cL_due 246 = .ok (.aload_n 3, 1) := by decide +kernel
theorem dL_due_247 : decode cL_due 247 = .ok (.aload 4, 2) := by decide +kernel
theorem dL_due_249 : decode cL_due 249 = .ok (.invokestatic 122, 3) := by decide +kernel
theorem dL_due_252 : decode cL_due 252 = .ok (.iastore, 1) := by decide +kernel
theorem dL_due_253 : decode cL_due 253 = .ok (.iload_n 2, 1) := by decide +kernel
theorem dL_due_254 : decode cL_due 254 = .ok (.aload_n 3, 1) := by decide +kernel
theorem dL_due_255 : decode cL_due 255 = .ok (.aload 4, 2) := by decide +kernel
theorem dL_due_257 : decode cL_due 257 = .ok (.invokestatic 82, 3) := by decide +kernel
theorem dL_due_260 : decode cL_due 260 = .ok (.invokestatic 86, 3) := by decide +kernel
theorem dL_due_263 : decode cL_due 263 = .ok (.ireturn, 1) := by decide +kernel
theorem dL_due_264 : decode cL_due 264 = .ok (.iload_n 0, 1) := by decide +kernel
theorem dL_due_265 : decode cL_due 265 = .ok (.iconst 3, 1) := by decide +kernel
theorem dL_due_266 : decode cL_due 266 = .ok (.if_icmp .ne 16, 3) := by decide +kernel
theorem dL_due_269 : decode cL_due 269 = .ok (.aload_n 3, 1) := by decide +kernel
theorem dL_due_270 : decode cL_due 270 = .ok (.aload 4, 2) := by decide +kernel
theorem dL_due_272 : decode cL_due 272 = .ok (.aload 6, 2) := by decide +kernel
theorem dL_due_274 : decode cL_due 274 = .ok (.aload 7, 2) := by decide +kernel
theorem dL_due_276 : decode cL_due 276 = .ok (.aload 8, 2) := by decide +kernel
theorem dL_due_278 : decode cL_due 278 = .ok (.invokestatic 125, 3) := by decide +kernel
theorem dL_due_281 : decode cL_due 281 = .ok (.ireturn, 1) := by decide +kernel
theorem dL_due_282 : decode cL_due 282 = .ok (.iload_n 0, 1) := by decide +kernel
theorem dL_due_283 : decode cL_due 283 = .ok (.iconst 4, 1) := by decide +kernel
theorem dL_due_284 : decode cL_due 284 = .ok (.if_icmp .ne 24, 3) := by decide +kernel
theorem dL_due_287 : decode cL_due 287 = .ok (.aload_n 3, 1) := by decide +kernel
theorem dL_due_288 : decode cL_due 288 = .ok (.bipush 6, 2) := by decide +kernel
theorem dL_due_290 : decode cL_due 290 = .ok (.iload_n 1, 1) := by decide +kernel
theorem dL_due_291 : decode cL_due 291 = .ok (.iadd, 1) := by decide +kernel
theorem dL_due_292 : decode cL_due 292 = .ok (.iconst 1, 1) := by decide +kernel
theorem dL_due_293 : decode cL_due 293 = .ok (.aload_n 3, 1) := by decide +kernel
theorem dL_due_294 : decode cL_due 294 = .ok (.bipush 6, 2) := by decide +kernel
theorem dL_due_296 : decode cL_due 296 = .ok (.iload_n 1, 1) := by decide +kernel
theorem dL_due_297 : decode cL_due 297 = .ok (.iadd, 1) := by decide +kernel
theorem dL_due_298 : decode cL_due 298 = .ok (.iaload, 1) := by decide +kernel
theorem dL_due_299 : decode cL_due 299 = .ok (.isub, 1) := by decide +kernel
theorem dL_due_300 : decode cL_due 300 = .ok (.iastore, 1) := by decide +kernel
theorem dL_due_301 : decode cL_due 301 = .ok (.aload_n 3, 1) := by decide +kernel
theorem dL_due_302 : decode cL_due 302 = .ok (.bipush 6, 2) := by decide +kernel
theorem dL_due_304 : decode cL_due 304 = .ok (.iload_n 1, 1) := by decide +kernel
theorem dL_due_305 : decode cL_due 305 = .ok (.iadd, 1) := by decide +kernel
theorem dL_due_306 : decode cL_due 306 = .ok (.iaload, 1) := by decide +kernel
theorem dL_due_307 : decode cL_due 307 = .ok (.ireturn, 1) := by decide +kernel
theorem dL_due_308 : decode cL_due 308 = .ok (.iconst 0, 1) := by decide +kernel
theorem dL_due_309 : decode cL_due 309 = .ok (.istore 9, 2) := by decide +kernel
theorem dL_due_311 : decode cL_due 311 = .ok (.aload_n 3, 1) := by decide +kernel
theorem dL_due_312 : decode cL_due 312 = .ok (.bipush 8, 2) := by decide +kernel
theorem dL_due_314 : decode cL_due 314 = .ok (.iaload, 1) := by decide +kernel
theorem dL_due_315 : decode cL_due 315 = .ok (.iconst 1, 1) := by decide +kernel
theorem dL_due_316 : decode cL_due 316 = .ok (.isub, 1) := by decide +kernel
theorem dL_due_317 : decode cL_due 317 = .ok (.istore 10, 2) := by decide +kernel
theorem dL_due_319 : decode cL_due 319 = .ok (.iload 10, 2) := by decide +kernel
theorem dL_due_321 : decode cL_due 321 = .ok (.ifCond .lt 41, 3) := by decide +kernel
theorem dL_due_324 : decode cL_due 324 = .ok (.aload 5, 2) := by decide +kernel
theorem dL_due_326 : decode cL_due 326 = .ok (.iload 10, 2) := by decide +kernel
theorem dL_due_328 : decode cL_due 328 = .ok (.iaload, 1) := by decide +kernel
theorem dL_due_329 : decode cL_due 329 = .ok (.iload_n 1, 1) := by decide +kernel
theorem dL_due_330 : decode cL_due 330 = .ok (.if_icmp .gt 26, 3) := by decide +kernel
theorem dL_due_333 : decode cL_due 333 = .ok (.iload 9, 2) := by decide +kernel
theorem dL_due_335 : decode cL_due 335 = .ok (.iload 10, 2) := by decide +kernel
theorem dL_due_337 : decode cL_due 337 = .ok (.aload_n 3, 1) := by decide +kernel
theorem dL_due_338 : decode cL_due 338 = .ok (.aload 4, 2) := by decide +kernel
theorem dL_due_340 : decode cL_due 340 = .ok (.aload 5, 2) := by decide +kernel
theorem dL_due_342 : decode cL_due 342 = .ok (.invokestatic 118, 3) := by decide +kernel
theorem dL_due_345 : decode cL_due 345 = .ok (.ifCond .le 7, 3) := by decide +kernel
theorem dL_due_348 : decode cL_due 348 = .ok (.iconst 1, 1) := by decide +kernel
theorem dL_due_349 : decode cL_due 349 = .ok (.goto 4, 3) := by decide +kernel
theorem dL_due_352 : decode cL_due 352 = .ok (.iconst 0, 1) := by decide +kernel
theorem dL_due_353 : decode cL_due 353 = .ok (.iadd, 1) := by decide +kernel
theorem dL_due_354 : decode cL_due 354 = .ok (.istore 9, 2) := by decide +kernel
theorem dL_due_356 : decode cL_due 356 = .ok (.iinc 10 (-1), 3) := by decide +kernel
theorem dL_due_359 : decode cL_due 359 = .ok (.goto (-40), 3) := by decide +kernel
theorem dL_due_362 : decode cL_due 362 = .ok (.iload 9, 2) := by decide +kernel
theorem dL_due_364 : decode cL_due 364 = .ok (.ireturn, 1) := by decide +kernel
set_option maxRecDepth 20000 in
theorem ggL_isLayer_L_seen : GoodIn wsL_isLayer wsL_seen := goodIn_r _ [5] (by decide +kernel) (by decide +kernel)
set_option maxRecDepth 20000 in
theorem gL_isLayer_L_seen : GoodIn wsL_isLayer (va_wsS RL 78 yL_seen wsL_seen) := goodIn_app (goodIn_of _ (by decide +kernel)) ggL_isLayer_L_seen
set_option maxRecDepth 20000 in
theorem ggL_isLayer_L_layerOf : GoodIn wsL_isLayer wsL_layerOf := goodIn_ca (goodIn_ca (goodIn_r _ [8, 9, 10, 11, 12, 13, 14, 15, 16, 17, 18, 19, 20, 21, 22, 23, 24, 25, 26, 27, 28, 29, 30, 31, 32, 33, 34, 35, 36, 37, 38, 39, 40, 41, 42, 43, 44, 45, 46, 47, 48, 49, 50, 51, 52, 53, 54, 55, 56, 57, 58, 59, 60, 61, 62, 63, 64, 65, 66, 67, 68, 69, 70, 71, 72, 73, 74, 75, 76, 77, 141, 142, 143, 144, 145, 146, 147, 148, 149, 150, 151, 152, 153, 154, 155, 156] (by decide +kernel) (by decide +kernel)) (goodIn_sub (fun _ h => List.mem_cons_of_mem _ (List.mem_append_left _ (List.mem_append_right _ h))) (by decide +kernel))) (goodIn_sub (fun _ h => List.mem_cons_of_mem _ (List.mem_append_right _ h)) (by decide +kernel))
set_option maxRecDepth 20000 in
theorem gL_isLayer_L_layerOf : GoodIn wsL_isLayer (va_wsS RL 129 yL_layerOf wsL_layerOf) := goodIn_app (goodIn_of _ (by decide +kernel)) ggL_isLayer_L_layerOf
set_option maxRecDepth 20000 in
theorem ggL_isLayer_L_apart : GoodIn wsL_isLayer wsL_apart := goodIn_r _ [80, 81, 82, 4, 83] (by decide +kernel) (by decide +kernel)
set_option maxRecDepth 20000 in
theorem gL_isLayer_L_apart : GoodIn wsL_isLayer (va_wsS RL 82 yL_apart wsL_apart) := goodIn_app (goodIn_of _ (by decide +kernel)) ggL_isLayer_L_apart
set_option maxRecDepth 20000 in
theorem ggL_isLayer_L_close : GoodIn wsL_isLayer wsL_close := goodIn_r _ [86, 2, 3, 4, 5, 78, 79, 80, 81, 82, 83, 87, 88, 89] (by decide +kernel) (by decide +kernel)
set_option maxRecDepth 20000 in
theorem gL_isLayer_L_close : GoodIn wsL_isLayer (va_wsS RL 89 yL_close wsL_close) := goodIn_app (goodIn_of _ (by decide +kernel)) ggL_isLayer_L_close
set_option maxRecDepth 20000 in
theorem ggL_isLayer_L_spot : GoodIn wsL_isLayer wsL_spot := goodIn_ca (goodIn_ca (goodIn_r _ [92, 9, 10, 11, 12, 93, 94, 95, 16, 96, 18, 19, 20, 21, 22, 25, 97, 98, 99, 26, 27, 28, 29, 30, 31, 100, 101, 102, 103, 40, 104, 105, 106, 107, 47, 59, 46, 41, 108, 109, 110, 111, 48, 49, 50, 51, 52, 53, 54, 64, 65, 66, 67, 141, 142, 143, 144, 145, 146, 147, 148, 149, 150, 151, 152, 153, 154, 155, 156] (by decide +kernel) (by decide +kernel)) (goodIn_sub (fun _ h => List.mem_cons_of_mem _ (List.mem_append_left _ (List.mem_append_right _ h))) (by decide +kernel))) (goodIn_sub (fun _ h => List.mem_cons_of_mem _ (List.mem_append_right _ h)) (by decide +kernel))
set_option maxRecDepth 20000 in
theorem gL_isLayer_L_spot : GoodIn wsL_isLayer (va_wsS RL 131 yL_spot wsL_spot) := goodIn_app (goodIn_of _ (by decide +kernel)) ggL_isLayer_L_spot
set_option maxRecDepth 20000 in
theorem ggL_isLayer_L_place : GoodIn wsL_isLayer wsL_place := goodIn_r _ [83] (by decide +kernel) (by decide +kernel)
set_option maxRecDepth 20000 in
theorem gL_isLayer_L_place : GoodIn wsL_isLayer (va_wsS RL 72 yL_place wsL_place) := goodIn_app (goodIn_of _ (by decide +kernel)) ggL_isLayer_L_place
set_option maxRecDepth 20000 in
theorem ggL_isLayer_L_best : GoodIn wsL_isLayer wsL_best := goodIn_r _ [114, 115, 78, 79, 4, 80, 81, 82, 83, 87, 88, 89] (by decide +kernel) (by decide +kernel)
set_option maxRecDepth 20000 in
theorem gL_isLayer_L_best : GoodIn wsL_isLayer (va_wsS RL 122 yL_best wsL_best) := goodIn_app (goodIn_of _ (by decide +kernel)) ggL_isLayer_L_best
set_option maxRecDepth 20000 in
theorem ggL_isLayer_L_nearest : GoodIn wsL_isLayer wsL_nearest := goodIn_ca (goodIn_ca (goodIn_r _ [118, 9, 10, 11, 12, 119, 120, 121, 16, 122, 18, 19, 20, 21, 22, 97, 98, 99, 26, 27, 28, 29, 30, 31, 123, 124, 125, 126, 127, 128, 129, 130, 46, 59, 72, 73, 74, 75, 64, 65, 66, 67, 41, 131, 132, 133, 134, 135, 136, 137, 138, 139, 140, 141, 142, 143, 144, 145, 146, 147, 148, 149, 150, 151, 152, 153, 154, 155, 156] (by decide +kernel) (by decide +kernel)) (goodIn_sub (fun _ h => List.mem_cons_of_mem _ (List.mem_append_left _ (List.mem_append_right _ h))) (by decide +kernel))) (goodIn_sub (fun _ h => List.mem_cons_of_mem _ (List.mem_append_right _ h)) (by decide +kernel))
set_option maxRecDepth 20000 in
theorem gL_isLayer_L_nearest : GoodIn wsL_isLayer (va_wsS RL 134 yL_nearest wsL_nearest) := goodIn_app (goodIn_of _ (by decide +kernel)) ggL_isLayer_L_nearest
theorem dL_isLayer_0 : decode cL_isLayer 0 = .ok (.iconst 0, 1) := by decide +kernel
theorem dL_isLayer_1 : decode cL_isLayer 1 = .ok (.iload_n 1, 1) := by decide +kernel
theorem dL_isLayer_2 : decode cL_isLayer 2 = .ok (.aload_n 3, 1) := by decide +kernel
theorem dL_isLayer_3 : decode cL_isLayer 3 = .ok (.aload 6, 2) := by decide +kernel
theorem dL_isLayer_5 : decode cL_isLayer 5 = .ok (.invokestatic 78, 3) := by decide +kernel
theorem dL_isLayer_8 : decode cL_isLayer 8 = .ok (.ifCond .eq 18, 3) := by decide +kernel
theorem dL_isLayer_11 : decode cL_isLayer 11 = .ok (.iconst 1, 1) := by decide +kernel
theorem dL_isLayer_12 : decode cL_isLayer 12 = .ok (.iload_n 1, 1) := by decide +kernel
theorem dL_isLayer_13 : decode cL_isLayer 13 = .ok (.aload_n 3, 1) := by decide +kernel
theorem dL_isLayer_14 : decode cL_isLayer 14 = .ok (.aload 6, 2) := by decide +kernel
theorem dL_isLayer_16 : decode cL_isLayer 16 = .ok (.invokestatic 78, 3) := by decide +kernel
theorem dL_isLayer_19 : decode cL_isLayer 19 = .ok (.ifCond .eq 7, 3) := by decide +kernel
theorem dL_isLayer_22 : decode cL_isLayer 22 = .ok (.iconst 1, 1) := by decide +kernel
theorem dL_isLayer_23 : decode cL_isLayer 23 = .ok (.goto 4, 3) := by decide +kernel
theorem dL_isLayer_26 : decode cL_isLayer 26 = .ok (.iconst 0, 1) := by decide +kernel
theorem dL_isLayer_27 : decode cL_isLayer 27 = .ok (.istore 7, 2) := by decide +kernel
theorem dL_isLayer_29 : decode cL_isLayer 29 = .ok (.aload_n 0, 1) := by decide +kernel
theorem dL_isLayer_30 : decode cL_isLayer 30 = .ok (.iload_n 1, 1) := by decide +kernel
theorem dL_isLayer_31 : decode cL_isLayer 31 = .ok (.iconst 0, 1) := by decide +kernel
theorem dL_isLayer_32 : decode cL_isLayer 32 = .ok (.invokestatic 129, 3) := by decide +kernel
theorem dL_isLayer_35 : decode cL_isLayer 35 = .ok (.aload 4, 2) := by decide +kernel
theorem dL_isLayer_37 : decode cL_isLayer 37 = .ok (.iload_n 1, 1) := by decide +kernel
theorem dL_isLayer_38 : decode cL_isLayer 38 = .ok (.iaload, 1) := by decide +kernel
theorem dL_isLayer_39 : decode cL_isLayer 39 = .ok (.if_icmp .ne 72, 3) := by decide +kernel
theorem dL_isLayer_42 : decode cL_isLayer 42 = .ok (.aload_n 0, 1) := by decide +kernel
theorem dL_isLayer_43 : decode cL_isLayer 43 = .ok (.iload_n 1, 1) := by decide +kernel
theorem dL_isLayer_44 : decode cL_isLayer 44 = .ok (.iconst 1, 1) := by decide +kernel
theorem dL_isLayer_45 : decode cL_isLayer 45 = .ok (.invokestatic 129, 3) := by decide +kernel
theorem dL_isLayer_48 : decode cL_isLayer 48 = .ok (.aload 5, 2) := by decide +kernel
theorem dL_isLayer_50 : decode cL_isLayer 50 = .ok (.iload_n 1, 1) := by decide +kernel
theorem dL_isLayer_51 : decode cL_isLayer 51 = .ok (.iaload, 1) := by decide +kernel
theorem dL_isLayer_52 : decode cL_isLayer 52 = .ok (.if_icmp .ne 59, 3) := by decide +kernel
theorem dL_isLayer_55 : decode cL_isLayer 55 = .ok (.aload_n 0, 1) := by decide +kernel
theorem dL_isLayer_56 : decode cL_isLayer 56 = .ok (.iload_n 1, 1) := by decide +kernel
theorem dL_isLayer_57 : decode cL_isLayer 57 = .ok (.iconst 2, 1) := by decide +kernel
theorem dL_isLayer_58 : decode cL_isLayer 58 = .ok (.invokestatic 129, 3) := by decide +kernel
theorem dL_isLayer_61 : decode cL_isLayer 61 = .ok (.iload 7, 2) := by decide +kernel
theorem dL_isLayer_63 : decode cL_isLayer 63 = .ok (.ifCond .eq 13, 3) := by decide +kernel
theorem dL_isLayer_66 : decode cL_isLayer 66 = .ok (.iload_n 1, 1) := by decide +kernel
theorem dL_isLayer_67 : decode cL_isLayer 67 = .ok (.aload_n 3, 1) := by decide +kernel
theorem dL_isLayer_68 : decode cL_isLayer 68 = .ok (.aload 4, 2) := by decide +kernel
theorem dL_isLayer_70 : decode cL_isLayer 70 = .ok (.invokestatic 82, 3) := by decide +kernel
theorem dL_isLayer_73 : decode cL_isLayer 73 = .ok (.goto 5, 3) := by decide +kernel
theorem dL_isLayer_76 : decode cL_isLayer 76 = .ok (.ldc 93, 2) := by decide +kernel
theorem dL_isLayer_78 : decode cL_isLayer 78 = .ok (.if_icmp .ne 33, 3) := by decide +kernel
theorem dL_isLayer_81 : decode cL_isLayer 81 = .ok (.aload_n 0, 1) := by decide +kernel
theorem dL_isLayer_82 : decode cL_isLayer 82 = .ok (.iload_n 1, 1) := by decide +kernel
theorem dL_isLayer_83 : decode cL_isLayer 83 = .ok (.iconst 3, 1) := by decide +kernel
theorem dL_isLayer_84 : decode cL_isLayer 84 = .ok (.invokestatic 129, 3) := by decide +kernel
theorem dL_isLayer_87 : decode cL_isLayer 87 = .ok (.iload_n 1, 1) := by decide +kernel
theorem dL_isLayer_88 : decode cL_isLayer 88 = .ok (.aload_n 3, 1) := by decide +kernel
theorem dL_isLayer_89 : decode cL_isLayer 89 = .ok (.aload 4, 2) := by decide +kernel
theorem dL_isLayer_91 : decode cL_isLayer 91 = .ok (.aload 6, 2) := by decide +kernel
theorem dL_isLayer_93 : decode cL_isLayer 93 = .ok (.invokestatic 89, 3) := by decide +kernel
theorem dL_isLayer_96 : decode cL_isLayer 96 = .ok (.ifCond .eq 7, 3) := by decide +kernel
theorem dL_isLayer_99 : decode cL_isLayer 99 = .ok (.iconst 1, 1) := by decide +kernel
theorem dL_isLayer_100 : decode cL_isLayer 100 = .ok (.goto 4, 3) := by decide +kernel
theorem dL_isLayer_103 : decode cL_isLayer 103 = .ok (.iconst 0, 1) := by decide +kernel
theorem dL_isLayer_104 : decode cL_isLayer 104 = .ok (.if_icmp .ne 7, 3) := by decide +kernel
theorem dL_isLayer_107 : decode cL_isLayer 107 = .ok (.iconst 1, 1) := by decide +kernel
theorem dL_isLayer_108 : decode cL_isLayer 108 = .ok (.goto 4, 3) := by decide +kernel
theorem dL_isLayer_111 : decode cL_isLayer 111 = .ok (.iconst 0, 1) := by decide +kernel
theorem dL_isLayer_112 : decode cL_isLayer 112 = .ok (.istore 8, 2) := by decide +kernel
theorem dL_isLayer_114 : decode cL_isLayer 114 = .ok (.aload_n 3, 1) := by decide +kernel
theorem dL_isLayer_115 : decode cL_isLayer 115 = .ok (.bipush 6, 2) := by decide +kernel
theorem dL_isLayer_117 : decode cL_isLayer 117 = .ok (.iload_n 2, 1) := by decide +kernel
theorem dL_isLayer_118 : decode cL_isLayer 118 = .ok (.iadd, 1) := by decide +kernel
theorem dL_isLayer_119 : decode cL_isLayer 119 = .ok (.iaload, 1) := by decide +kernel
theorem dL_isLayer_120 : decode cL_isLayer 120 = .ok (.iconst 1, 1) := by decide +kernel
theorem dL_isLayer_121 : decode cL_isLayer 121 = .ok (.if_icmp .ne 7, 3) := by decide +kernel
theorem dL_isLayer_124 : decode cL_isLayer 124 = .ok (.iconst 1, 1) := by decide +kernel
theorem dL_isLayer_125 : decode cL_isLayer 125 = .ok (.goto 4, 3) := by decide +kernel
theorem dL_isLayer_128 : decode cL_isLayer 128 = .ok (.iconst 0, 1) := by decide +kernel
theorem dL_isLayer_129 : decode cL_isLayer 129 = .ok (.istore 9, 2) := by decide +kernel
theorem dL_isLayer_131 : decode cL_isLayer 131 = .ok (.iload 8, 2) := by decide +kernel
theorem dL_isLayer_133 : decode cL_isLayer 133 = .ok (.ifCond .eq 160, 3) := by decide +kernel
theorem dL_isLayer_136 : decode cL_isLayer 136 = .ok (.aload_n 0, 1) := by decide +kernel
theorem dL_isLayer_137 : decode cL_isLayer 137 = .ok (.iload_n 2, 1) := by decide +kernel
theorem dL_isLayer_138 : decode cL_isLayer 138 = .ok (.iload_n 1, 1) := by decide +kernel
theorem dL_isLayer_139 : decode cL_isLayer 139 = .ok (.iconst 0, 1) := by decide +kernel
theorem dL_isLayer_140 : decode cL_isLayer 140 = .ok (.invokestatic 131, 3) := by decide +kernel
theorem dL_isLayer_143 : decode cL_isLayer 143 = .ok (.iload 9, 2) := by decide +kernel
theorem dL_isLayer_145 : decode cL_isLayer 145 = .ok (.ifCond .eq 14, 3) := by decide +kernel
theorem dL_isLayer_148 : decode cL_isLayer 148 = .ok (.iload_n 2, 1) := by decide +kernel
theorem dL_isLayer_149 : decode cL_isLayer 149 = .ok (.iload_n 1, 1) := by decide +kernel
theorem dL_isLayer_150 : decode cL_isLayer 150 = .ok (.aload_n 3, 1) := by decide +kernel
theorem dL_isLayer_151 : decode cL_isLayer 151 = .ok (.aload 4, 2) := by decide +kernel
