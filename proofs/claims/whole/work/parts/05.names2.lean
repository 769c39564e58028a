theorem dX3_aim_11 : decode cX3_aim 11 = .ok (.ldc 84, 2) := by decide +kernel
theorem dX3_aim_13 : decode cX3_aim 13 = .ok (.invokespecial 71, 3) := by decide +kernel
theorem dX3_aim_16 : decode cX3_aim 16 = .ok (.athrow, 1) := by decide +kernel
theorem dX3_aim_17 : decode cX3_aim 17 = .ok (.iload_n 2, 1) := by decide +kernel
theorem dX3_aim_18 : decode cX3_aim 18 = .ok (.bipush (-30), 2) := by decide +kernel
theorem dX3_aim_20 : decode cX3_aim 20 = .ok (.if_icmp .lt 9, 3) := by decide +kernel
theorem dX3_aim_23 : decode cX3_aim 23 = .ok (.iload_n 2, 1) := by decide +kernel
theorem dX3_aim_24 : decode cX3_aim 24 = .ok (.bipush 30, 2) := by decide +kernel
theorem dX3_aim_26 : decode cX3_aim 26 = .ok (.if_icmp .le 13, 3) := by decide +kernel
theorem dX3_aim_29 : decode cX3_aim 29 = .ok (.new 42, 3) := by decide +kernel
theorem dX3_aim_32 : decode cX3_aim 32 = .ok (.dup, 1) := by decide +kernel
theorem dX3_aim_33 : decode cX3_aim 33 = .ok (.ldc 86, 2) := by decide +kernel
theorem dX3_aim_35 : decode cX3_aim 35 = .ok (.invokespecial 46, 3) := by decide +kernel
theorem dX3_aim_38 : decode cX3_aim 38 = .ok (.athrow, 1) := by decide +kernel
theorem dX3_aim_39 : decode cX3_aim 39 = .ok (.aload_n 0, 1) := by decide +kernel
theorem dX3_aim_40 : decode cX3_aim 40 = .ok (.invokevirtual 57, 3) := by decide +kernel
theorem dX3_aim_43 : decode cX3_aim 43 = .ok (.aload_n 0, 1) := by decide +kernel
theorem dX3_aim_44 : decode cX3_aim 44 = .ok (.getfield 10, 3) := by decide +kernel
theorem dX3_aim_47 : decode cX3_aim 47 = .ok (.iload_n 1, 1) := by decide +kernel
theorem dX3_aim_48 : decode cX3_aim 48 = .ok (.iload_n 2, 1) := by decide +kernel
theorem dX3_aim_49 : decode cX3_aim 49 = .ok (.invokevirtual 88, 3) := by decide +kernel
theorem dX3_aim_52 : decode cX3_aim 52 = .ok (.ireturn, 1) := by decide +kernel
set_option maxRecDepth 20000 in
theorem ggX3_turn_X3_isLight : GoodIn wsX3_turn wsX3_isLight := goodIn_r _ [7] (by decide +kernel) (by decide +kernel)
set_option maxRecDepth 20000 in
theorem gX3_turn_X3_isLight : GoodIn wsX3_turn (va_wsS RX3 81 yX3_isLight wsX3_isLight) := goodIn_app (goodIn_of _ (by decide +kernel)) ggX3_turn_X3_isLight
set_option maxRecDepth 20000 in
theorem ggX3_turn_X3_saveState : GoodIn wsX3_turn wsX3_saveState := goodIn_r _ [11, 3, 12, 13, 14, 15, 16, 17, 18, 19, 20, 6, 21, 22, 23, 24, 25, 26, 27, 28, 29, 30, 31, 32, 33, 34, 35, 36, 37, 38, 39, 40, 41, 42, 43, 44, 45, 46, 47, 56, 57, 58, 59, 60, 61, 62, 63, 64, 65, 66, 67, 68, 69, 70, 71, 72, 73, 74, 75] (by decide +kernel) (by decide +kernel)
set_option maxRecDepth 20000 in
theorem gX3_turn_X3_saveState : GoodIn wsX3_turn (wsV RX3 57 RX3 yX3_saveState wsX3_saveState) := goodIn_app (goodIn_of _ (by decide +kernel)) ggX3_turn_X3_saveState
set_option maxRecDepth 20000 in
theorem ggX3_turn_X2_switchLight : GoodIn wsX3_turn wsX2_switchLight := goodIn_r _ [51, 36, 52, 53, 54, 25, 55, 65, 66, 67, 68, 69, 70, 71] (by decide +kernel) (by decide +kernel)
set_option maxRecDepth 20000 in
theorem gX3_turn_X2_switchLight : GoodIn wsX3_turn (wsV RX3 91 RX2 yX2_switchLight wsX2_switchLight) := goodIn_app (goodIn_of _ (by decide +kernel)) ggX3_turn_X2_switchLight
theorem dX3_turn_0 : decode cX3_turn 0 = .ok (.iload_n 1, 1) := by decide +kernel
theorem dX3_turn_1 : decode cX3_turn 1 = .ok (.invokestatic 81, 3) := by decide +kernel
theorem dX3_turn_4 : decode cX3_turn 4 = .ok (.ifCond .ne 13, 3) := by decide +kernel
theorem dX3_turn_7 : decode cX3_turn 7 = .ok (.new 67, 3) := by decide +kernel
theorem dX3_turn_10 : decode cX3_turn 10 = .ok (.dup, 1) := by decide +kernel
theorem dX3_turn_11 : decode cX3_turn 11 = .ok (.ldc 84, 2) := by decide +kernel
theorem dX3_turn_13 : decode cX3_turn 13 = .ok (.invokespecial 71, 3) := by decide +kernel
theorem dX3_turn_16 : decode cX3_turn 16 = .ok (.athrow, 1) := by decide +kernel
theorem dX3_turn_17 : decode cX3_turn 17 = .ok (.aload_n 0, 1) := by decide +kernel
theorem dX3_turn_18 : decode cX3_turn 18 = .ok (.invokevirtual 57, 3) := by decide +kernel
theorem dX3_turn_21 : decode cX3_turn 21 = .ok (.aload_n 0, 1) := by decide +kernel
theorem dX3_turn_22 : decode cX3_turn 22 = .ok (.getfield 10, 3) := by decide +kernel
theorem dX3_turn_25 : decode cX3_turn 25 = .ok (.iload_n 1, 1) := by decide +kernel
theorem dX3_turn_26 : decode cX3_turn 26 = .ok (.invokevirtual 91, 3) := by decide +kernel
theorem dX3_turn_29 : decode cX3_turn 29 = .ok (.ireturn, 1) := by decide +kernel
set_option maxRecDepth 20000 in
theorem ggX3_set_X3_saveState : GoodIn wsX3_set wsX3_saveState := goodIn_r _ [13, 7, 14, 15, 16, 17, 18, 19, 20, 21, 22, 12, 23, 24, 25, 26, 27, 28, 29, 30, 31, 32, 33, 34, 35, 36, 37, 38, 39, 40, 41, 42, 43, 44, 45, 46, 47, 48, 49, 50, 51, 52, 53, 54, 55, 56, 57, 58, 59, 60, 61, 62, 63, 64, 65, 66, 67, 68, 69] (by decide +kernel) (by decide +kernel)
set_option maxRecDepth 20000 in
theorem gX3_set_X3_saveState : GoodIn wsX3_set (wsV RX3 57 RX3 yX3_saveState wsX3_saveState) := goodIn_app (goodIn_of _ (by decide +kernel)) ggX3_set_X3_saveState
theorem dX3_set_0 : decode cX3_set 0 = .ok (.iload_n 1, 1) := by decide +kernel
theorem dX3_set_1 : decode cX3_set 1 = .ok (.ifCond .lt 8, 3) := by decide +kernel
theorem dX3_set_4 : decode cX3_set 4 = .ok (.iload_n 1, 1) := by decide +kernel
theorem dX3_set_5 : decode cX3_set 5 = .ok (.iconst 4, 1) := by decide +kernel
theorem dX3_set_6 : decode cX3_set 6 = .ok (.if_icmp .lt 13, 3) := by decide +kernel
theorem dX3_set_9 : decode cX3_set 9 = .ok (.new 67, 3) := by decide +kernel
theorem dX3_set_12 : decode cX3_set 12 = .ok (.dup, 1) := by decide +kernel
theorem dX3_set_13 : decode cX3_set 13 = .ok (.ldc 94, 2) := by decide +kernel
theorem dX3_set_15 : decode cX3_set 15 = .ok (.invokespecial 71, 3) := by decide +kernel
theorem dX3_set_18 : decode cX3_set 18 = .ok (.athrow, 1) := by decide +kernel
theorem dX3_set_19 : decode cX3_set 19 = .ok (.iload_n 2, 1) := by decide +kernel
theorem dX3_set_20 : decode cX3_set 20 = .ok (.getstatic 96, 3) := by decide +kernel
theorem dX3_set_23 : decode cX3_set 23 = .ok (.iload_n 1, 1) := by decide +kernel
theorem dX3_set_24 : decode cX3_set 24 = .ok (.iaload, 1) := by decide +kernel
theorem dX3_set_25 : decode cX3_set 25 = .ok (.if_icmp .lt 12, 3) := by decide +kernel
theorem dX3_set_28 : decode cX3_set 28 = .ok (.iload_n 2, 1) := by decide +kernel
theorem dX3_set_29 : decode cX3_set 29 = .ok (.getstatic 100, 3) := by decide +kernel
theorem dX3_set_32 : decode cX3_set 32 = .ok (.iload_n 1, 1) := by decide +kernel
theorem dX3_set_33 : decode cX3_set 33 = .ok (.iaload, 1) := by decide +kernel
theorem dX3_set_34 : decode cX3_set 34 = .ok (.if_icmp .le 13, 3) := by decide +kernel
theorem dX3_set_37 : decode cX3_set 37 = .ok (.new 42, 3) := by decide +kernel
theorem dX3_set_40 : decode cX3_set 40 = .ok (.dup, 1) := by decide +kernel
theorem dX3_set_41 : decode cX3_set 41 = .ok (.ldc 103, 2) := by decide +kernel
theorem dX3_set_43 : decode cX3_set 43 = .ok (.invokespecial 46, 3) := by decide +kernel
theorem dX3_set_46 : decode cX3_set 46 = .ok (.athrow, 1) := by decide +kernel
theorem dX3_set_47 : decode cX3_set 47 = .ok (.aload_n 0, 1) := by decide +kernel
theorem dX3_set_48 : decode cX3_set 48 = .ok (.invokevirtual 57, 3) := by decide +kernel
theorem dX3_set_51 : decode cX3_set 51 = .ok (.aload_n 0, 1) := by decide +kernel
theorem dX3_set_52 : decode cX3_set 52 = .ok (.getfield 10, 3) := by decide +kernel
theorem dX3_set_55 : decode cX3_set 55 = .ok (.getfield 105, 3) := by decide +kernel
theorem dX3_set_58 : decode cX3_set 58 = .ok (.iload_n 1, 1) := by decide +kernel
theorem dX3_set_59 : decode cX3_set 59 = .ok (.iaload, 1) := by decide +kernel
theorem dX3_set_60 : decode cX3_set 60 = .ok (.istore_n 3, 1) := by decide +kernel
theorem dX3_set_61 : decode cX3_set 61 = .ok (.aload_n 0, 1) := by decide +kernel
theorem dX3_set_62 : decode cX3_set 62 = .ok (.getfield 10, 3) := by decide +kernel
theorem dX3_set_65 : decode cX3_set 65 = .ok (.getfield 105, 3) := by decide +kernel
theorem dX3_set_68 : decode cX3_set 68 = .ok (.iload_n 1, 1) := by decide +kernel
theorem dX3_set_69 : decode cX3_set 69 = .ok (.iload_n 2, 1) := by decide +kernel
theorem dX3_set_70 : decode cX3_set 70 = .ok (.iastore, 1) := by decide +kernel
theorem dX3_set_71 : decode cX3_set 71 = .ok (.iload_n 3, 1) := by decide +kernel
theorem dX3_set_72 : decode cX3_set 72 = .ok (.ireturn, 1) := by decide +kernel
set_option maxRecDepth 20000 in
theorem ggX3_scan_X3_isLight : GoodIn wsX3_scan wsX3_isLight := goodIn_r _ [11] (by decide +kernel) (by decide +kernel)
set_option maxRecDepth 20000 in
theorem gX3_scan_X3_isLight : GoodIn wsX3_scan (va_wsS RX3 81 yX3_isLight wsX3_isLight) := goodIn_app (goodIn_of _ (by decide +kernel)) ggX3_scan_X3_isLight
set_option maxRecDepth 20000 in
theorem ggX3_scan_X2_hasLayer : GoodIn wsX3_scan wsX2_hasLayer := goodIn_r _ [16, 17, 89, 90, 91, 92, 93, 94, 95] (by decide +kernel) (by decide +kernel)
set_option maxRecDepth 20000 in
theorem gX3_scan_X2_hasLayer : GoodIn wsX3_scan (wsV RX3 64 RX2 yX2_hasLayer wsX2_hasLayer) := goodIn_app (goodIn_of _ (by decide +kernel)) ggX3_scan_X2_hasLayer
set_option maxRecDepth 20000 in
theorem ggX3_scan_X3_saveState : GoodIn wsX3_scan wsX3_saveState := goodIn_r _ [21, 3, 22, 23, 24, 25, 26, 6, 27, 28, 29, 10, 30, 31, 32, 33, 15, 34, 17, 35, 36, 37, 38, 39, 40, 41, 42, 43, 44, 45, 46, 47, 48, 49, 50, 51, 52, 53, 54, 80, 81, 82, 83, 84, 85, 86, 87, 88, 89, 90, 91, 92, 93, 94, 95, 96, 97, 98, 99] (by decide +kernel) (by decide +kernel)
set_option maxRecDepth 20000 in
theorem gX3_scan_X3_saveState : GoodIn wsX3_scan (wsV RX3 57 RX3 yX3_saveState wsX3_saveState) := goodIn_app (goodIn_of _ (by decide +kernel)) ggX3_scan_X3_saveState
set_option maxRecDepth 20000 in
theorem ggX3_scan_X2_slopeFoundByTrying : GoodIn wsX3_scan wsX2_slopeFoundByTrying := goodIn_r _ [58, 59, 60, 61, 15, 62, 35, 41, 63, 5, 6, 7, 64, 65, 66, 67, 42, 89, 90, 91, 92, 93, 94, 95] (by decide +kernel) (by decide +kernel)
set_option maxRecDepth 20000 in
theorem gX3_scan_X2_slopeFoundByTrying : GoodIn wsX3_scan (wsV RX3 110 RX2 yX2_slopeFoundByTrying wsX2_slopeFoundByTrying) := goodIn_app (goodIn_of _ (by decide +kernel)) ggX3_scan_X2_slopeFoundByTrying
set_option maxRecDepth 20000 in
theorem ggX3_scan_X2_giveSlope : GoodIn wsX3_scan wsX2_giveSlope := goodIn_r _ [71, 41, 89, 90, 91, 92, 93, 94, 95] (by decide +kernel) (by decide +kernel)
set_option maxRecDepth 20000 in
theorem gX3_scan_X2_giveSlope : GoodIn wsX3_scan (wsV RX3 88 RX2 yX2_giveSlope wsX2_giveSlope) := goodIn_app (goodIn_of _ (by decide +kernel)) ggX3_scan_X2_giveSlope
set_option maxRecDepth 20000 in
theorem ggX3_scan_X2_distance : GoodIn wsX3_scan wsX2_distance := goodIn_r _ [75, 41, 76, 77, 78, 15, 79, 35, 64, 65, 66, 67, 42, 89, 90, 91, 92, 93, 94, 95] (by decide +kernel) (by decide +kernel)
set_option maxRecDepth 20000 in
theorem gX3_scan_X2_distance : GoodIn wsX3_scan (wsV RX3 113 RX2 yX2_distance wsX2_distance) := goodIn_app (goodIn_of _ (by decide +kernel)) ggX3_scan_X2_distance
theorem dX3_scan_0 : decode cX3_scan 0 = .ok (.iload_n 1, 1) := by decide +kernel
theorem dX3_scan_1 : decode cX3_scan 1 = .ok (.invokestatic 81, 3) := by decide +kernel
theorem dX3_scan_4 : decode cX3_scan 4 = .ok (.ifCond .eq 14, 3) := by decide +kernel
theorem dX3_scan_7 : decode cX3_scan 7 = .ok (.aload_n 0, 1) := by decide +kernel
theorem dX3_scan_8 : decode cX3_scan 8 = .ok (.getfield 10, 3) := by decide +kernel
theorem dX3_scan_11 : decode cX3_scan 11 = .ok (.iload_n 2, 1) := by decide +kernel
theorem dX3_scan_12 : decode cX3_scan 12 = .ok (.invokevirtual 64, 3) := by decide +kernel
theorem dX3_scan_15 : decode cX3_scan 15 = .ok (.ifCond .ne 13, 3) := by decide +kernel
theorem dX3_scan_18 : decode cX3_scan 18 = .ok (.new 67, 3) := by decide +kernel
theorem dX3_scan_21 : decode cX3_scan 21 = .ok (.dup, 1) := by decide +kernel
theorem dX3_scan_22 : decode cX3_scan 22 = .ok (.ldc 108, 2) := by decide +kernel
theorem dX3_scan_24 : decode cX3_scan 24 = .ok (.invokespecial 71, 3) := by decide +kernel
theorem dX3_scan_27 : decode cX3_scan 27 = .ok (.athrow, 1) := by decide +kernel
theorem dX3_scan_28 : decode cX3_scan 28 = .ok (.aload_n 0, 1) := by decide +kernel
theorem dX3_scan_29 : decode cX3_scan 29 = .ok (.invokevirtual 57, 3) := by decide +kernel
theorem dX3_scan_32 : decode cX3_scan 32 = .ok (.aload_n 0, 1) := by decide +kernel
theorem dX3_scan_33 : decode cX3_scan 33 = .ok (.getfield 10, 3) := by decide +kernel
theorem dX3_scan_36 : decode cX3_scan 36 = .ok (.iload_n 1, 1) := by decide +kernel
theorem dX3_scan_37 : decode cX3_scan 37 = .ok (.aload_n 0, 1) := by decide +kernel
theorem dX3_scan_38 : decode cX3_scan 38 = .ok (.getfield 10, 3) := by decide +kernel
theorem dX3_scan_41 : decode cX3_scan 41 = .ok (.iload_n 1, 1) := by decide +kernel
theorem dX3_scan_42 : decode cX3_scan 42 = .ok (.iload_n 2, 1) := by decide +kernel
theorem dX3_scan_43 : decode cX3_scan 43 = .ok (.invokevirtual 110, 3) := by decide +kernel
theorem dX3_scan_46 : decode cX3_scan 46 = .ok (.invokevirtual 88, 3) := by decide +kernel
theorem dX3_scan_49 : decode cX3_scan 49 = .ok (.pop, 1) := by decide +kernel
theorem dX3_scan_50 : decode cX3_scan 50 = .ok (.aload_n 0, 1) := by decide +kernel
theorem dX3_scan_51 : decode cX3_scan 51 = .ok (.getfield 10, 3) := by decide +kernel
theorem dX3_scan_54 : decode cX3_scan 54 = .ok (.iload_n 2, 1) := by decide +kernel
theorem dX3_scan_55 : decode cX3_scan 55 = .ok (.invokevirtual 113, 3) := by decide +kernel
theorem dX3_scan_58 : decode cX3_scan 58 = .ok (.invokestatic 116, 3) := by decide +kernel
theorem dX3_scan_61 : decode cX3_scan 61 = .ok (.ireturn, 1) := by decide +kernel
set_option maxRecDepth 20000 in
theorem ggX3_log_X3_saveState : GoodIn wsX3_log wsX3_saveState := goodIn_r _ [6, 1, 7, 8, 9, 10, 11, 12, 13, 14, 15, 5, 16, 17, 18, 19, 20, 21, 22, 23, 24, 25, 26, 27, 28, 29, 30, 31, 32, 33, 34, 35, 36, 37, 38, 39, 40, 41, 42, 87, 88, 89, 90, 91, 92, 93, 94, 95, 96, 97, 98, 99, 100, 101, 102, 103, 104, 105, 106] (by decide +kernel) (by decide +kernel)
set_option maxRecDepth 20000 in
theorem gX3_log_X3_saveState : GoodIn wsX3_log (wsV RX3 57 RX3 yX3_saveState wsX3_saveState) := goodIn_app (goodIn_of _ (by decide +kernel)) ggX3_log_X3_saveState
set_option maxRecDepth 20000 in
theorem ggX3_log_X2_logNight : GoodIn wsX3_log wsX2_logNight := goodIn_r _ [46, 29, 32, 47, 23, 48, 49, 50, 20, 51, 31, 30, 22, 52, 53, 12, 54, 55, 56, 57, 58, 28, 59, 60, 61, 62, 63, 64, 65, 66, 67, 68, 69, 70, 71, 72, 73, 74, 75, 76, 36, 77, 38, 39, 25, 26, 27, 40, 78, 11, 13, 41, 42, 79, 80, 81, 82, 83, 84, 85, 86, 96, 97, 98, 99, 100, 101, 102, 103, 104, 105, 106] (by decide +kernel) (by decide +kernel)
set_option maxRecDepth 20000 in
theorem gX3_log_X2_logNight : GoodIn wsX3_log (wsV RX3 121 RX2 yX2_logNight wsX2_logNight) := goodIn_app (goodIn_of _ (by decide +kernel)) ggX3_log_X2_logNight
theorem dX3_log_0 : decode cX3_log 0 = .ok (.aload_n 0, 1) := by decide +kernel
theorem dX3_log_1 : decode cX3_log 1 = .ok (.invokevirtual 57, 3) := by decide +kernel
theorem dX3_log_4 : decode cX3_log 4 = .ok (.aload_n 0, 1) := by decide +kernel
theorem dX3_log_5 : decode cX3_log 5 = .ok (.getfield 10, 3) := by decide +kernel
theorem dX3_log_8 : decode cX3_log 8 = .ok (.invokevirtual 121, 3) := by decide +kernel
theorem dX3_log_11 : decode cX3_log 11 = .ok (.ireturn, 1) := by decide +kernel
theorem dX3_append_0 : decode cX3_append 0 = .ok (.iload_n 1, 1) := by decide +kernel
theorem dX3_append_1 : decode cX3_append 1 = .ok (.bipush 33, 2) := by decide +kernel
theorem dX3_append_3 : decode cX3_append 3 = .ok (.if_icmp .lt 9, 3) := by decide +kernel
theorem dX3_append_6 : decode cX3_append 6 = .ok (.iload_n 1, 1) := by decide +kernel
theorem dX3_append_7 : decode cX3_append 7 = .ok (.bipush 126, 2) := by decide +kernel
theorem dX3_append_9 : decode cX3_append 9 = .ok (.if_icmp .le 13, 3) := by decide +kernel
theorem dX3_append_12 : decode cX3_append 12 = .ok (.new 42, 3) := by decide +kernel
theorem dX3_append_15 : decode cX3_append 15 = .ok (.dup, 1) := by decide +kernel
theorem dX3_append_16 : decode cX3_append 16 = .ok (.ldc 125, 2) := by decide +kernel
theorem dX3_append_18 : decode cX3_append 18 = .ok (.invokespecial 46, 3) := by decide +kernel
theorem dX3_append_21 : decode cX3_append 21 = .ok (.athrow, 1) := by decide +kernel
theorem dX3_append_22 : decode cX3_append 22 = .ok (.aload_n 0, 1) := by decide +kernel
theorem dX3_append_23 : decode cX3_append 23 = .ok (.getfield 127, 3) := by decide +kernel
theorem dX3_append_26 : decode cX3_append 26 = .ok (.bipush 60, 2) := by decide +kernel
theorem dX3_append_28 : decode cX3_append 28 = .ok (.if_icmp .lt 13, 3) := by decide +kernel
theorem dX3_append_31 : decode cX3_append 31 = .ok (.new 52, 3) := by decide +kernel
theorem dX3_append_34 : decode cX3_append 34 = .ok (.dup, 1) := by decide +kernel
theorem dX3_append_35 : decode cX3_append 35 = .ok (.ldc 131, 2) := by decide +kernel
theorem dX3_append_37 : decode cX3_append 37 = .ok (.invokespecial 56, 3) := by decide +kernel
theorem dX3_append_40 : decode cX3_append 40 = .ok (.athrow, 1) := by decide +kernel
theorem dX3_append_41 : decode cX3_append 41 = .ok (.aload_n 0, 1) := by decide +kernel
theorem dX3_append_42 : decode cX3_append 42 = .ok (.getfield 27, 3) := by decide +kernel
theorem dX3_append_45 : decode cX3_append 45 = .ok (.aload_n 0, 1) := by decide +kernel
theorem dX3_append_46 : decode cX3_append 46 = .ok (.getfield 127, 3) := by decide +kernel
theorem dX3_append_49 : decode cX3_append 49 = .ok (.iload_n 1, 1) := by decide +kernel
theorem dX3_append_50 : decode cX3_append 50 = .ok (.i2c, 1) := by decide +kernel
theorem dX3_append_51 : decode cX3_append 51 = .ok (.castore, 1) := by decide +kernel
theorem dX3_append_52 : decode cX3_append 52 = .ok (.aload_n 0, 1) := by decide +kernel
theorem dX3_append_53 : decode cX3_append 53 = .ok (.dup, 1) := by decide +kernel
theorem dX3_append_54 : decode cX3_append 54 = .ok (.getfield 127, 3) := by decide +kernel
theorem dX3_append_57 : decode cX3_append 57 = .ok (.iconst 1, 1) := by decide +kernel
theorem dX3_append_58 : decode cX3_append 58 = .ok (.iadd, 1) := by decide +kernel
theorem dX3_append_59 : decode cX3_append 59 = .ok (.putfield 127, 3) := by decide +kernel
theorem dX3_append_62 : decode cX3_append 62 = .ok (.aload_n 0, 1) := by decide +kernel
theorem dX3_append_63 : decode cX3_append 63 = .ok (.getfield 127, 3) := by decide +kernel
theorem dX3_append_66 : decode cX3_append 66 = .ok (.ireturn, 1) := by decide +kernel
theorem dX3_clearBuffer_0 : decode cX3_clearBuffer 0 = .ok (.aload_n 0, 1) := by decide +kernel
theorem dX3_clearBuffer_1 : decode cX3_clearBuffer 1 = .ok (.getfield 127, 3) := by decide +kernel
theorem dX3_clearBuffer_4 : decode cX3_clearBuffer 4 = .ok (.istore_n 1, 1) := by decide +kernel
theorem dX3_clearBuffer_5 : decode cX3_clearBuffer 5 = .ok (.aload_n 0, 1) := by decide +kernel
theorem dX3_clearBuffer_6 : decode cX3_clearBuffer 6 = .ok (.iconst 0, 1) := by decide +kernel
theorem dX3_clearBuffer_7 : decode cX3_clearBuffer 7 = .ok (.putfield 127, 3) := by decide +kernel
theorem dX3_clearBuffer_10 : decode cX3_clearBuffer 10 = .ok (.iload_n 1, 1) := by decide +kernel
theorem dX3_clearBuffer_11 : decode cX3_clearBuffer 11 = .ok (.ireturn, 1) := by decide +kernel
set_option maxRecDepth 20000 in
theorem ggX3_firstError_X3_readBuffer : GoodIn wsX3_firstError wsX3_readBuffer := goodIn_r _ [5, 6, 7, 8, 9, 10, 11, 12, 13, 14, 15, 16, 17, 18, 19, 20, 21, 22, 23, 24, 25, 26, 27, 28, 29, 30, 31, 32, 33, 34, 35, 36, 37, 38, 39, 40, 41, 42, 43, 44, 45, 46, 47, 48, 49, 50, 51, 52, 53, 54, 55, 56, 57, 58, 59, 60, 61, 62, 63, 64, 65, 66, 67, 68, 69, 70, 71] (by decide +kernel) (by decide +kernel)
set_option maxRecDepth 20000 in
theorem gX3_firstError_X3_readBuffer : GoodIn wsX3_firstError (wsV RX3 133 RX3 yX3_readBuffer wsX3_readBuffer) := goodIn_app (goodIn_of _ (by decide +kernel)) ggX3_firstError_X3_readBuffer
theorem dX3_firstError_0 : decode cX3_firstError 0 = .ok (.aload_n 0, 1) := by decide +kernel
theorem dX3_firstError_1 : decode cX3_firstError 1 = .ok (.invokevirtual 133, 3) := by decide +kernel
theorem dX3_firstError_4 : decode cX3_firstError 4 = .ok (.ireturn, 1) := by decide +kernel
set_option maxRecDepth 20000 in
theorem ggX3_execute_X3_readBuffer : GoodIn wsX3_execute wsX3_readBuffer := goodIn_r _ [9, 4, 3, 10, 11, 12, 13, 14, 15, 16, 17, 18, 19, 20, 21, 22, 23, 24, 25, 26, 27, 28, 29, 30, 31, 32, 33, 34, 35, 36, 37, 38, 39, 40, 41, 42, 43, 44, 45, 46, 47, 48, 49, 50, 51, 52, 53, 54, 55, 56, 57, 58, 177, 178, 179, 180, 181, 182, 183, 184, 185, 186, 187, 188, 189, 190, 191] (by decide +kernel) (by decide +kernel)
set_option maxRecDepth 20000 in
theorem gX3_execute_X3_readBuffer : GoodIn wsX3_execute (wsV RX3 133 RX3 yX3_readBuffer wsX3_readBuffer) := goodIn_app (goodIn_of _ (by decide +kernel)) ggX3_execute_X3_readBuffer
set_option maxRecDepth 20000 in
theorem ggX3_execute_X1_isWholeOrder : GoodIn wsX3_execute wsX1_isWholeOrder := goodIn_r _ [41, 16, 19, 25, 186, 187, 188, 189, 190, 191] (by decide +kernel) (by decide +kernel)
set_option maxRecDepth 20000 in
theorem gX3_execute_X1_isWholeOrder : GoodIn wsX3_execute (wsV RX3 136 RX1 yX1_isWholeOrder wsX1_isWholeOrder) := goodIn_app (goodIn_of _ (by decide +kernel)) ggX3_execute_X1_isWholeOrder
set_option maxRecDepth 20000 in
theorem ggX3_execute_X3_saveState : GoodIn wsX3_execute wsX3_saveState := goodIn_r _ [63, 64, 65, 66, 67, 68, 69, 70, 71, 72, 73, 8, 74, 75, 76, 77, 78, 79, 80, 81, 82, 83, 84, 85, 86, 87, 88, 89, 90, 91, 92, 93, 94, 95, 96, 97, 98, 99, 100, 177, 178, 179, 180, 181, 182, 183, 184, 185, 192, 193, 194, 195, 196, 197, 198, 199, 200, 201, 202] (by decide +kernel) (by decide +kernel)
set_option maxRecDepth 20000 in
theorem gX3_execute_X3_saveState : GoodIn wsX3_execute (wsV RX3 57 RX3 yX3_saveState wsX3_saveState) := goodIn_app (goodIn_of _ (by decide +kernel)) ggX3_execute_X3_saveState
set_option maxRecDepth 20000 in
theorem ggX3_execute_X3_executeOrders : GoodIn wsX3_execute wsX3_executeOrders := goodIn_r _ [104, 4, 3, 10, 11, 12, 13, 14, 15, 16, 17, 18, 19, 20, 21, 22, 23, 24, 25, 105, 106, 107, 8, 108, 109, 64, 110, 111, 112, 113, 114, 115, 78, 116, 80, 81, 117, 118, 119, 120, 86, 121, 122, 123, 124, 125, 126, 127, 128, 129, 130, 131, 132, 87, 90, 133, 134, 135, 136, 137, 89, 88, 138, 139, 70, 140, 141, 142, 143, 144, 145, 146, 147, 148, 149, 150, 151, 152, 153, 154, 155, 156, 157, 158, 159, 160, 161, 162, 94, 163, 96, 97, 83, 84, 85, 98, 164, 69, 71, 99, 100, 165, 166, 167, 168, 169, 170, 171, 172, 173, 174, 175, 176, 26, 27, 28, 29, 30, 31, 32, 33, 34, 35, 36, 37, 38, 39, 40, 41, 42, 43, 44, 45, 46, 47, 48, 49, 50, 51, 52, 53, 54, 55, 56, 57, 58, 177, 178, 179, 180, 181, 182, 183, 184, 185, 186, 187, 188, 189, 190, 191, 192, 193, 194, 195, 196, 197, 198, 199, 200, 201, 202] (by decide +kernel) (by decide +kernel)
set_option maxRecDepth 20000 in
theorem gX3_execute_X3_executeOrders : GoodIn wsX3_execute (wsV RX3 142 RX3 yX3_executeOrders wsX3_executeOrders) := goodIn_app (goodIn_of _ (by decide +kernel)) ggX3_execute_X3_executeOrders
theorem dX3_execute_0 : decode cX3_execute 0 = .ok (.aload_n 0, 1) := by decide +kernel
theorem dX3_execute_1 : decode cX3_execute 1 = .ok (.invokevirtual 133, 3) := by decide +kernel
theorem dX3_execute_4 : decode cX3_execute 4 = .ok (.aload_n 0, 1) := by decide +kernel
theorem dX3_execute_5 : decode cX3_execute 5 = .ok (.getfield 127, 3) := by decide +kernel
theorem dX3_execute_8 : decode cX3_execute 8 = .ok (.if_icmp .lt 13, 3) := by decide +kernel
theorem dX3_execute_11 : decode cX3_execute 11 = .ok (.aload_n 0, 1) := by decide +kernel
theorem dX3_execute_12 : decode cX3_execute 12 = .ok (.getfield 34, 3) := by decide +kernel
theorem dX3_execute_15 : decode cX3_execute 15 = .ok (.invokevirtual 136, 3) := by decide +kernel
theorem dX3_execute_18 : decode cX3_execute 18 = .ok (.ifCond .ne 13, 3) := by decide +kernel
theorem dX3_execute_21 : decode cX3_execute 21 = .ok (.new 42, 3) := by decide +kernel
theorem dX3_execute_24 : decode cX3_execute 24 = .ok (.dup, 1) := by decide +kernel
theorem dX3_execute_25 : decode cX3_execute 25 = .ok (.ldc 140, 2) := by decide +kernel
theorem dX3_execute_27 : decode cX3_execute 27 = .ok (.invokespecial 46, 3) := by decide +kernel
theorem dX3_execute_30 : decode cX3_execute 30 = .ok (.athrow, 1) := by decide +kernel
theorem dX3_execute_31 : decode cX3_execute 31 = .ok (.aload_n 0, 1) := by decide +kernel
theorem dX3_execute_32 : decode cX3_execute 32 = .ok (.invokevirtual 57, 3) := by decide +kernel
theorem dX3_execute_35 : decode cX3_execute 35 = .ok (.aload_n 0, 1) := by decide +kernel
theorem dX3_execute_36 : decode cX3_execute 36 = .ok (.invokevirtual 142, 3) := by decide +kernel
theorem dX3_execute_39 : decode cX3_execute 39 = .ok (.istore_n 1, 1) := by decide +kernel
theorem dX3_execute_40 : decode cX3_execute 40 = .ok (.aload_n 0, 1) := by decide +kernel
theorem dX3_execute_41 : decode cX3_execute 41 = .ok (.iconst 0, 1) := by decide +kernel
theorem dX3_execute_42 : decode cX3_execute 42 = .ok (.putfield 127, 3) := by decide +kernel
theorem dX3_execute_45 : decode cX3_execute 45 = .ok (.iload_n 1, 1) := by decide +kernel
theorem dX3_execute_46 : decode cX3_execute 46 = .ok (.ireturn, 1) := by decide +kernel
set_option maxRecDepth 20000 in
theorem ggX3_undo_X3_copySky : GoodIn wsX3_undo wsX3_copySky := goodIn_r _ [10, 11, 12, 13, 14, 15, 16, 17, 18, 19, 20, 21, 22, 23, 24, 25, 26, 27, 28, 29, 30, 31, 32, 33, 34, 35, 36, 46, 47, 48, 49, 50, 51, 52, 53, 54, 55, 56] (by decide +kernel) (by decide +kernel)
set_option maxRecDepth 20000 in
theorem gX3_undo_X3_copySky : GoodIn wsX3_undo (va_wsS RX3 153 yX3_copySky wsX3_copySky) := goodIn_app (goodIn_of _ (by decide +kernel)) ggX3_undo_X3_copySky
theorem dX3_undo_0 : decode cX3_undo 0 = .ok (.aload_n 0, 1) := by decide +kernel
theorem dX3_undo_1 : decode cX3_undo 1 = .ok (.getfield 145, 3) := by decide +kernel
theorem dX3_undo_4 : decode cX3_undo 4 = .ok (.ifCond .gt 13, 3) := by decide +kernel
theorem dX3_undo_7 : decode cX3_undo 7 = .ok (.new 52, 3) := by decide +kernel
theorem dX3_undo_10 : decode cX3_undo 10 = .ok (.dup, 1) := by decide +kernel
theorem dX3_undo_11 : decode cX3_undo 11 = .ok (.ldc 148, 2) := by decide +kernel
theorem dX3_undo_13 : decode cX3_undo 13 = .ok (.invokespecial 56, 3) := by decide +kernel
theorem dX3_undo_16 : decode cX3_undo 16 = .ok (.athrow, 1) := by decide +kernel
theorem dX3_undo_17 : decode cX3_undo 17 = .ok (.aload_n 0, 1) := by decide +kernel
theorem dX3_undo_18 : decode cX3_undo 18 = .ok (.aload_n 0, 1) := by decide +kernel
theorem dX3_undo_19 : decode cX3_undo 19 = .ok (.getfield 150, 3) := by decide +kernel
theorem dX3_undo_22 : decode cX3_undo 22 = .ok (.bipush 6, 2) := by decide +kernel
theorem dX3_undo_24 : decode cX3_undo 24 = .ok (.iadd, 1) := by decide +kernel
theorem dX3_undo_25 : decode cX3_undo 25 = .ok (.iconst 1, 1) := by decide +kernel
theorem dX3_undo_26 : decode cX3_undo 26 = .ok (.isub, 1) := by decide +kernel
theorem dX3_undo_27 : decode cX3_undo 27 = .ok (.bipush 6, 2) := by decide +kernel
theorem dX3_undo_29 : decode cX3_undo 29 = .ok (.irem, 1) := by decide +kernel
theorem dX3_undo_30 : decode cX3_undo 30 = .ok (.putfield 150, 3) := by decide +kernel
theorem dX3_undo_33 : decode cX3_undo 33 = .ok (.aload_n 0, 1) := by decide +kernel
theorem dX3_undo_34 : decode cX3_undo 34 = .ok (.dup, 1) := by decide +kernel
theorem dX3_undo_35 : decode cX3_undo 35 = .ok (.getfield 145, 3) := by decide +kernel
theorem dX3_undo_38 : decode cX3_undo 38 = .ok (.iconst 1, 1) := by decide +kernel
theorem dX3_undo_39 : decode cX3_undo 39 = .ok (.isub, 1) := by decide +kernel
theorem dX3_undo_40 : decode cX3_undo 40 = .ok (.putfield 145, 3) := by decide +kernel
theorem dX3_undo_43 : decode cX3_undo 43 = .ok (.aload_n 0, 1) := by decide +kernel
theorem dX3_undo_44 : decode cX3_undo 44 = .ok (.getfield 16, 3) := by decide +kernel
theorem dX3_undo_47 : decode cX3_undo 47 = .ok (.aload_n 0, 1) := by decide +kernel
theorem dX3_undo_48 : decode cX3_undo 48 = .ok (.getfield 150, 3) := by decide +kernel
theorem dX3_undo_51 : decode cX3_undo 51 = .ok (.aaload, 1) := by decide +kernel
theorem dX3_undo_52 : decode cX3_undo 52 = .ok (.aload_n 0, 1) := by decide +kernel
theorem dX3_undo_53 : decode cX3_undo 53 = .ok (.getfield 10, 3) := by decide +kernel
theorem dX3_undo_56 : decode cX3_undo 56 = .ok (.invokestatic 153, 3) := by decide +kernel
theorem dX3_undo_59 : decode cX3_undo 59 = .ok (.aload_n 0, 1) := by decide +kernel
theorem dX3_undo_60 : decode cX3_undo 60 = .ok (.getfield 145, 3) := by decide +kernel
theorem dX3_undo_63 : decode cX3_undo 63 = .ok (.ireturn, 1) := by decide +kernel
set_option maxRecDepth 20000 in
theorem ggX3_keep_X3_isSlot : GoodIn wsX3_keep wsX3_isSlot := goodIn_r _ [10] (by decide +kernel) (by decide +kernel)
set_option maxRecDepth 20000 in
theorem gX3_keep_X3_isSlot : GoodIn wsX3_keep (va_wsS RX3 157 yX3_isSlot wsX3_isSlot) := goodIn_app (goodIn_of _ (by decide +kernel)) ggX3_keep_X3_isSlot
set_option maxRecDepth 20000 in
theorem ggX3_keep_X3_copySky : GoodIn wsX3_keep wsX3_copySky := goodIn_r _ [13, 14, 15, 16, 17, 18, 19, 20, 21, 22, 23, 24, 25, 26, 27, 28, 29, 30, 31, 32, 33, 34, 35, 36, 37, 38, 39, 49, 50, 51, 52, 53, 54, 55, 56, 57, 58, 59] (by decide +kernel) (by decide +kernel)
set_option maxRecDepth 20000 in
theorem gX3_keep_X3_copySky : GoodIn wsX3_keep (va_wsS RX3 153 yX3_copySky wsX3_copySky) := goodIn_app (goodIn_of _ (by decide +kernel)) ggX3_keep_X3_copySky
theorem dX3_keep_0 : decode cX3_keep 0 = .ok (.iload_n 1, 1) := by decide +kernel
theorem dX3_keep_1 : decode cX3_keep 1 = .ok (.invokestatic 157, 3) := by decide +kernel
theorem dX3_keep_4 : decode cX3_keep 4 = .ok (.ifCond .ne 13, 3) := by decide +kernel
theorem dX3_keep_7 : decode cX3_keep 7 = .ok (.new 42, 3) := by decide +kernel
theorem dX3_keep_10 : decode cX3_keep 10 = .ok (.dup, 1) := by decide +kernel
theorem dX3_keep_11 : decode cX3_keep 11 = .ok (.ldc 160, 2) := by decide +kernel
theorem dX3_keep_13 : decode cX3_keep 13 = .ok (.invokespecial 46, 3) := by decide +kernel
theorem dX3_keep_16 : decode cX3_keep 16 = .ok (.athrow, 1) := by decide +kernel
theorem dX3_keep_17 : decode cX3_keep 17 = .ok (.aload_n 0, 1) := by decide +kernel
theorem dX3_keep_18 : decode cX3_keep 18 = .ok (.getfield 10, 3) := by decide +kernel
theorem dX3_keep_21 : decode cX3_keep 21 = .ok (.aload_n 0, 1) := by decide +kernel
theorem dX3_keep_22 : decode cX3_keep 22 = .ok (.getfield 20, 3) := by decide +kernel
theorem dX3_keep_25 : decode cX3_keep 25 = .ok (.iload_n 1, 1) := by decide +kernel
theorem dX3_keep_26 : decode cX3_keep 26 = .ok (.aaload, 1) := by decide +kernel
theorem dX3_keep_27 : decode cX3_keep 27 = .ok (.invokestatic 153, 3) := by decide +kernel
theorem dX3_keep_30 : decode cX3_keep 30 = .ok (.aload_n 0, 1) := by decide +kernel
theorem dX3_keep_31 : decode cX3_keep 31 = .ok (.getfield 23, 3) := by decide +kernel
theorem dX3_keep_34 : decode cX3_keep 34 = .ok (.iload_n 1, 1) := by decide +kernel
theorem dX3_keep_35 : decode cX3_keep 35 = .ok (.iconst 1, 1) := by decide +kernel
theorem dX3_keep_36 : decode cX3_keep 36 = .ok (.bastore, 1) := by decide +kernel
theorem dX3_keep_37 : decode cX3_keep 37 = .ok (.aload_n 0, 1) := by decide +kernel
theorem dX3_keep_38 : decode cX3_keep 38 = .ok (.getfield 10, 3) := by decide +kernel
theorem dX3_keep_41 : decode cX3_keep 41 = .ok (.getfield 162, 3) := by decide +kernel
theorem dX3_keep_44 : decode cX3_keep 44 = .ok (.ireturn, 1) := by decide +kernel
set_option maxRecDepth 20000 in
theorem ggX3_goBack_X3_isSlot : GoodIn wsX3_goBack wsX3_isSlot := goodIn_r _ [12] (by decide +kernel) (by decide +kernel)
set_option maxRecDepth 20000 in
theorem gX3_goBack_X3_isSlot : GoodIn wsX3_goBack (va_wsS RX3 157 yX3_isSlot wsX3_isSlot) := goodIn_app (goodIn_of _ (by decide +kernel)) ggX3_goBack_X3_isSlot
set_option maxRecDepth 20000 in
theorem ggX3_goBack_X3_saveState : GoodIn wsX3_goBack wsX3_saveState := goodIn_r _ [16, 7, 17, 18, 19, 20, 21, 22, 23, 24, 25, 11, 26, 27, 28, 29, 30, 31, 32, 33, 34, 35, 36, 37, 38, 39, 40, 41, 42, 43, 44, 45, 46, 47, 48, 49, 50, 51, 52, 53, 54, 55, 56, 57, 58, 59, 60, 61, 62, 63, 64, 65, 66, 67, 68, 69, 70, 71, 72] (by decide +kernel) (by decide +kernel)
set_option maxRecDepth 20000 in
theorem gX3_goBack_X3_saveState : GoodIn wsX3_goBack (wsV RX3 57 RX3 yX3_saveState wsX3_saveState) := goodIn_app (goodIn_of _ (by decide +kernel)) ggX3_goBack_X3_saveState
set_option maxRecDepth 20000 in
theorem ggX3_goBack_X3_copySky : GoodIn wsX3_goBack wsX3_copySky := goodIn_r _ [26, 27, 28, 29, 30, 31, 32, 33, 34, 35, 36, 37, 38, 39, 40, 41, 42, 43, 44, 45, 46, 47, 48, 49, 50, 51, 52, 62, 63, 64, 65, 66, 67, 68, 69, 70, 71, 72] (by decide +kernel) (by decide +kernel)
set_option maxRecDepth 20000 in
theorem gX3_goBack_X3_copySky : GoodIn wsX3_goBack (va_wsS RX3 153 yX3_copySky wsX3_copySky) := goodIn_app (goodIn_of _ (by decide +kernel)) ggX3_goBack_X3_copySky
theorem dX3_goBack_0 : decode cX3_goBack 0 = .ok (.iload_n 1, 1) := by decide +kernel
theorem dX3_goBack_1 : decode cX3_goBack 1 = .ok (.invokestatic 157, 3) := by decide +kernel
theorem dX3_goBack_4 : decode cX3_goBack 4 = .ok (.ifCond .ne 13, 3) := by decide +kernel
theorem dX3_goBack_7 : decode cX3_goBack 7 = .ok (.new 42, 3) := by decide +kernel
theorem dX3_goBack_10 : decode cX3_goBack 10 = .ok (.dup, 1) := by decide +kernel
theorem dX3_goBack_11 : decode cX3_goBack 11 = .ok (.ldc 160, 2) := by decide +kernel
theorem dX3_goBack_13 : decode cX3_goBack 13 = .ok (.invokespecial 46, 3) := by decide +kernel
theorem dX3_goBack_16 : decode cX3_goBack 16 = .ok (.athrow, 1) := by decide +kernel
theorem dX3_goBack_17 : decode cX3_goBack 17 = .ok (.aload_n 0, 1) := by decide +kernel
theorem dX3_goBack_18 : decode cX3_goBack 18 = .ok (.getfield 23, 3) := by decide +kernel
theorem dX3_goBack_21 : decode cX3_goBack 21 = .ok (.iload_n 1, 1) := by decide +kernel
theorem dX3_goBack_22 : decode cX3_goBack 22 = .ok (.baload, 1) := by decide +kernel
theorem dX3_goBack_23 : decode cX3_goBack 23 = .ok (.ifCond .ne 13, 3) := by decide +kernel
theorem dX3_goBack_26 : decode cX3_goBack 26 = .ok (.new 52, 3) := by decide +kernel
theorem dX3_goBack_29 : decode cX3_goBack 29 = .ok (.dup, 1) := by decide +kernel
theorem dX3_goBack_30 : decode cX3_goBack 30 = .ok (.ldc 165, 2) := by decide +kernel
theorem dX3_goBack_32 : decode cX3_goBack 32 = .ok (.invokespecial 56, 3) := by decide +kernel
theorem dX3_goBack_35 : decode cX3_goBack 35 = .ok (.athrow, 1) := by decide +kernel
theorem dX3_goBack_36 : decode cX3_goBack 36 = .ok (.aload_n 0, 1) := by decide +kernel
theorem dX3_goBack_37 : decode cX3_goBack 37 = .ok (.invokevirtual 57, 3) := by decide +kernel
theorem dX3_goBack_40 : decode cX3_goBack 40 = .ok (.aload_n 0, 1) := by decide +kernel
theorem dX3_goBack_41 : decode cX3_goBack 41 = .ok (.getfield 20, 3) := by decide +kernel
theorem dX3_goBack_44 : decode cX3_goBack 44 = .ok (.iload_n 1, 1) := by decide +kernel
theorem dX3_goBack_45 : decode cX3_goBack 45 = .ok (.aaload, 1) := by decide +kernel
theorem dX3_goBack_46 : decode cX3_goBack 46 = .ok (.aload_n 0, 1) := by decide +kernel
theorem dX3_goBack_47 : decode cX3_goBack 47 = .ok (.getfield 10, 3) := by decide +kernel
theorem dX3_goBack_50 : decode cX3_goBack 50 = .ok (.invokestatic 153, 3) := by decide +kernel
theorem dX3_goBack_53 : decode cX3_goBack 53 = .ok (.aload_n 0, 1) := by decide +kernel
theorem dX3_goBack_54 : decode cX3_goBack 54 = .ok (.getfield 10, 3) := by decide +kernel
theorem dX3_goBack_57 : decode cX3_goBack 57 = .ok (.getfield 162, 3) := by decide +kernel
theorem dX3_goBack_60 : decode cX3_goBack 60 = .ok (.ireturn, 1) := by decide +kernel
set_option maxRecDepth 20000 in
theorem ggX3_layerOf_X2_hasLayer : GoodIn wsX3_layerOf wsX2_hasLayer := goodIn_r _ [13, 14, 70, 71, 72, 73, 74, 75, 76] (by decide +kernel) (by decide +kernel)
set_option maxRecDepth 20000 in
theorem gX3_layerOf_X2_hasLayer : GoodIn wsX3_layerOf (wsV RX3 64 RX2 yX2_hasLayer wsX2_hasLayer) := goodIn_app (goodIn_of _ (by decide +kernel)) ggX3_layerOf_X2_hasLayer
set_option maxRecDepth 20000 in
theorem ggX3_layerOf_X2_hasPair : GoodIn wsX3_layerOf wsX2_hasPair := goodIn_r _ [18, 19, 20, 21, 12, 22, 23, 24, 25, 26, 27, 28, 14, 29, 30, 31, 32, 33, 34, 35, 36, 37, 70, 71, 72, 73, 74, 75, 76] (by decide +kernel) (by decide +kernel)
set_option maxRecDepth 20000 in
theorem gX3_layerOf_X2_hasPair : GoodIn wsX3_layerOf (wsV RX3 173 RX2 yX2_hasPair wsX2_hasPair) := goodIn_app (goodIn_of _ (by decide +kernel)) ggX3_layerOf_X2_hasPair
set_option maxRecDepth 20000 in
theorem ggX3_layerOf_X2_distance : GoodIn wsX3_layerOf wsX2_distance := goodIn_r _ [41, 42, 43, 44, 45, 12, 46, 29, 47, 48, 49, 50, 24, 70, 71, 72, 73, 74, 75, 76] (by decide +kernel) (by decide +kernel)
set_option maxRecDepth 20000 in
theorem gX3_layerOf_X2_distance : GoodIn wsX3_layerOf (wsV RX3 113 RX2 yX2_distance wsX2_distance) := goodIn_app (goodIn_of _ (by decide +kernel)) ggX3_layerOf_X2_distance
set_option maxRecDepth 20000 in
theorem ggX3_layerOf_X2_hasClosePair : GoodIn wsX3_layerOf wsX2_hasClosePair := goodIn_r _ [54, 55, 56, 57, 58, 24, 59, 16, 17, 12, 18, 19, 20, 21, 22, 23, 25, 26, 27, 28, 14, 29, 30, 31, 32, 33, 34, 35, 36, 37, 60, 39, 40, 41, 42, 43, 44, 45, 46, 47, 48, 49, 50, 70, 71, 72, 73, 74, 75, 76] (by decide +kernel) (by decide +kernel)
set_option maxRecDepth 20000 in
theorem gX3_layerOf_X2_hasClosePair : GoodIn wsX3_layerOf (wsV RX3 177 RX2 yX2_hasClosePair wsX2_hasClosePair) := goodIn_app (goodIn_of _ (by decide +kernel)) ggX3_layerOf_X2_hasClosePair
theorem dX3_layerOf_0 : decode cX3_layerOf 0 = .ok (.aload_n 0, 1) := by decide +kernel
theorem dX3_layerOf_1 : decode cX3_layerOf 1 = .ok (.getfield 10, 3) := by decide +kernel
theorem dX3_layerOf_4 : decode cX3_layerOf 4 = .ok (.iload_n 1, 1) := by decide +kernel
theorem dX3_layerOf_5 : decode cX3_layerOf 5 = .ok (.invokevirtual 64, 3) := by decide +kernel
theorem dX3_layerOf_8 : decode cX3_layerOf 8 = .ok (.ifCond .ne 13, 3) := by decide +kernel
theorem dX3_layerOf_11 : decode cX3_layerOf 11 = .ok (.new 67, 3) := by decide +kernel
theorem dX3_layerOf_14 : decode cX3_layerOf 14 = .ok (.dup, 1) := by decide +kernel
theorem dX3_layerOf_15 : decode cX3_layerOf 15 = .ok (.ldc 69, 2) := by decide +kernel
theorem dX3_layerOf_17 : decode cX3_layerOf 17 = .ok (.invokespecial 71, 3) := by decide +kernel
theorem dX3_layerOf_20 : decode cX3_layerOf 20 = .ok (.athrow, 1) := by decide +kernel
theorem dX3_layerOf_21 : decode cX3_layerOf 21 = .ok (.iload_n 2, 1) := by decide +kernel
theorem dX3_layerOf_22 : decode cX3_layerOf 22 = .ok (.tableswitch 92 0 3 #[30, 40, 50, 75], 30) := by decide +kernel
theorem dX3_layerOf_52 : decode cX3_layerOf 52 = .ok (.aload_n 0, 1) := by decide +kernel
theorem dX3_layerOf_53 : decode cX3_layerOf 53 = .ok (.getfield 10, 3) := by decide +kernel
theorem dX3_layerOf_56 : decode cX3_layerOf 56 = .ok (.getfield 167, 3) := by decide +kernel
theorem dX3_layerOf_59 : decode cX3_layerOf 59 = .ok (.iload_n 1, 1) := by decide +kernel
theorem dX3_layerOf_60 : decode cX3_layerOf 60 = .ok (.iaload, 1) := by decide +kernel
theorem dX3_layerOf_61 : decode cX3_layerOf 61 = .ok (.ireturn, 1) := by decide +kernel
theorem dX3_layerOf_62 : decode cX3_layerOf 62 = .ok (.aload_n 0, 1) := by decide +kernel
theorem dX3_layerOf_63 : decode cX3_layerOf 63 = .ok (.getfield 10, 3) := by decide +kernel
theorem dX3_layerOf_66 : decode cX3_layerOf 66 = .ok (.getfield 170, 3) := by decide +kernel
theorem dX3_layerOf_69 : decode cX3_layerOf 69 = .ok (.iload_n 1, 1) := by decide +kernel
theorem dX3_layerOf_70 : decode cX3_layerOf 70 = .ok (.iaload, 1) := by decide +kernel
theorem dX3_layerOf_71 : decode cX3_layerOf 71 = .ok (.ireturn, 1) := by decide +kernel
theorem dX3_layerOf_72 : decode cX3_layerOf 72 = .ok (.aload_n 0, 1) := by decide +kernel
theorem dX3_layerOf_73 : decode cX3_layerOf 73 = .ok (.getfield 10, 3) := by decide +kernel
theorem dX3_layerOf_76 : decode cX3_layerOf 76 = .ok (.iload_n 1, 1) := by decide +kernel
theorem dX3_layerOf_77 : decode cX3_layerOf 77 = .ok (.invokevirtual 173, 3) := by decide +kernel
theorem dX3_layerOf_80 : decode cX3_layerOf 80 = .ok (.ifCond .eq 14, 3) := by decide +kernel
theorem dX3_layerOf_83 : decode cX3_layerOf 83 = .ok (.aload_n 0, 1) := by decide +kernel
theorem dX3_layerOf_84 : decode cX3_layerOf 84 = .ok (.getfield 10, 3) := by decide +kernel
theorem dX3_layerOf_87 : decode cX3_layerOf 87 = .ok (.iload_n 1, 1) := by decide +kernel
theorem dX3_layerOf_88 : decode cX3_layerOf 88 = .ok (.invokevirtual 113, 3) := by decide +kernel
theorem dX3_layerOf_91 : decode cX3_layerOf 91 = .ok (.goto 5, 3) := by decide +kernel
theorem dX3_layerOf_94 : decode cX3_layerOf 94 = .ok (.ldc 176, 2) := by decide +kernel
theorem dX3_layerOf_96 : decode cX3_layerOf 96 = .ok (.ireturn, 1) := by decide +kernel
theorem dX3_layerOf_97 : decode cX3_layerOf 97 = .ok (.aload_n 0, 1) := by decide +kernel
theorem dX3_layerOf_98 : decode cX3_layerOf 98 = .ok (.getfield 10, 3) := by decide +kernel
theorem dX3_layerOf_101 : decode cX3_layerOf 101 = .ok (.iload_n 1, 1) := by decide +kernel
theorem dX3_layerOf_102 : decode cX3_layerOf 102 = .ok (.invokevirtual 177, 3) := by decide +kernel
theorem dX3_layerOf_105 : decode cX3_layerOf 105 = .ok (.ifCond .eq 7, 3) := by decide +kernel
theorem dX3_layerOf_108 : decode cX3_layerOf 108 = .ok (.iconst 1, 1) := by decide +kernel
theorem dX3_layerOf_109 : decode cX3_layerOf 109 = .ok (.goto 4, 3) := by decide +kernel
theorem dX3_layerOf_112 : decode cX3_layerOf 112 = .ok (.iconst 0, 1) := by decide +kernel
theorem dX3_layerOf_113 : decode cX3_layerOf 113 = .ok (.ireturn, 1) := by decide +kernel
theorem dX3_layerOf_114 : decode cX3_layerOf 114 = .ok (.new 42, 3) := by decide +kernel
theorem dX3_layerOf_117 : decode cX3_layerOf 117 = .ok (.dup, 1) := by decide +kernel
theorem dX3_layerOf_118 : decode cX3_layerOf 118 = .ok (.ldc 180, 2) := by decide +kernel
theorem dX3_layerOf_120 : decode cX3_layerOf 120 = .ok (.invokespecial 46, 3) := by decide +kernel
theorem dX3_layerOf_123 : decode cX3_layerOf 123 = .ok (.athrow, 1) := by decide +kernel
set_option maxRecDepth 20000 in
theorem ggX3_spot_X3_isLight : GoodIn wsX3_spot wsX3_isLight := goodIn_r _ [10] (by decide +kernel) (by decide +kernel)
set_option maxRecDepth 20000 in
theorem gX3_spot_X3_isLight : GoodIn wsX3_spot (va_wsS RX3 81 yX3_isLight wsX3_isLight) := goodIn_app (goodIn_of _ (by decide +kernel)) ggX3_spot_X3_isLight
set_option maxRecDepth 20000 in
theorem ggX3_spot_X2_hasLayer : GoodIn wsX3_spot wsX2_hasLayer := goodIn_r _ [15, 16, 54, 55, 56, 57, 58, 59, 60] (by decide +kernel) (by decide +kernel)
set_option maxRecDepth 20000 in
theorem gX3_spot_X2_hasLayer : GoodIn wsX3_spot (wsV RX3 64 RX2 yX2_hasLayer wsX2_hasLayer) := goodIn_app (goodIn_of _ (by decide +kernel)) ggX3_spot_X2_hasLayer
set_option maxRecDepth 20000 in
theorem ggX3_spot_X2_isLit : GoodIn wsX3_spot wsX2_isLit := goodIn_r _ [20, 21, 54, 55, 56, 57, 58, 59, 60] (by decide +kernel) (by decide +kernel)
set_option maxRecDepth 20000 in
theorem gX3_spot_X2_isLit : GoodIn wsX3_spot (wsV RX3 184 RX2 yX2_isLit wsX2_isLit) := goodIn_app (goodIn_of _ (by decide +kernel)) ggX3_spot_X2_isLit
set_option maxRecDepth 20000 in
theorem ggX3_spot_X2_spotNumber : GoodIn wsX3_spot wsX2_spotNumber := goodIn_r _ [25, 26, 27, 28, 29, 30, 31, 32, 14, 33, 34, 35, 36, 37, 38, 39, 40, 41, 42, 43, 44, 54, 55, 56, 57, 58, 59, 60] (by decide +kernel) (by decide +kernel)
set_option maxRecDepth 20000 in
theorem gX3_spot_X2_spotNumber : GoodIn wsX3_spot (wsV RX3 187 RX2 yX2_spotNumber wsX2_spotNumber) := goodIn_app (goodIn_of _ (by decide +kernel)) ggX3_spot_X2_spotNumber
theorem dX3_spot_0 : decode cX3_spot 0 = .ok (.iload_n 1, 1) := by decide +kernel
theorem dX3_spot_1 : decode cX3_spot 1 = .ok (.invokestatic 81, 3) := by decide +kernel
theorem dX3_spot_4 : decode cX3_spot 4 = .ok (.ifCond .eq 14, 3) := by decide +kernel
theorem dX3_spot_7 : decode cX3_spot 7 = .ok (.aload_n 0, 1) := by decide +kernel
theorem dX3_spot_8 : decode cX3_spot 8 = .ok (.getfield 10, 3) := by decide +kernel
theorem dX3_spot_11 : decode cX3_spot 11 = .ok (.iload_n 2, 1) := by decide +kernel
theorem dX3_spot_12 : decode cX3_spot 12 = .ok (.invokevirtual 64, 3) := by decide +kernel
theorem dX3_spot_15 : decode cX3_spot 15 = .ok (.ifCond .ne 13, 3) := by decide +kernel
theorem dX3_spot_18 : decode cX3_spot 18 = .ok (.new 67, 3) := by decide +kernel
theorem dX3_spot_21 : decode cX3_spot 21 = .ok (.dup, 1) := by decide +kernel
theorem dX3_spot_22 : decode cX3_spot 22 = .ok (.ldc 108, 2) := by decide +kernel
theorem dX3_spot_24 : decode cX3_spot 24 = .ok (.invokespecial 71, 3) := by decide +kernel
theorem dX3_spot_27 : decode cX3_spot 27 = .ok (.athrow, 1) := by decide +kernel
theorem dX3_spot_28 : decode cX3_spot 28 = .ok (.iload_n 3, 1) := by decide +kernel
theorem dX3_spot_29 : decode cX3_spot 29 = .ok (.ifCond .lt 8, 3) := by decide +kernel
theorem dX3_spot_32 : decode cX3_spot 32 = .ok (.iload_n 3, 1) := by decide +kernel
theorem dX3_spot_33 : decode cX3_spot 33 = .ok (.iconst 4, 1) := by decide +kernel
theorem dX3_spot_34 : decode cX3_spot 34 = .ok (.if_icmp .le 13, 3) := by decide +kernel
theorem dX3_spot_37 : decode cX3_spot 37 = .ok (.new 42, 3) := by decide +kernel
theorem dX3_spot_40 : decode cX3_spot 40 = .ok (.dup, 1) := by decide +kernel
theorem dX3_spot_41 : decode cX3_spot 41 = .ok (.ldc 182, 2) := by decide +kernel
theorem dX3_spot_43 : decode cX3_spot 43 = .ok (.invokespecial 46, 3) := by decide +kernel
theorem dX3_spot_46 : decode cX3_spot 46 = .ok (.athrow, 1) := by decide +kernel
theorem dX3_spot_47 : decode cX3_spot 47 = .ok (.aload_n 0, 1) := by decide +kernel
theorem dX3_spot_48 : decode cX3_spot 48 = .ok (.getfield 10, 3) := by decide +kernel
theorem dX3_spot_51 : decode cX3_spot 51 = .ok (.iload_n 1, 1) := by decide +kernel
theorem dX3_spot_52 : decode cX3_spot 52 = .ok (.invokevirtual 184, 3) := by decide +kernel
theorem dX3_spot_55 : decode cX3_spot 55 = .ok (.ifCond .eq 16, 3) := by decide +kernel
theorem dX3_spot_58 : decode cX3_spot 58 = .ok (.aload_n 0, 1) := by decide +kernel
theorem dX3_spot_59 : decode cX3_spot 59 = .ok (.getfield 10, 3) := by decide +kernel
theorem dX3_spot_62 : decode cX3_spot 62 = .ok (.iload_n 1, 1) := by decide +kernel
theorem dX3_spot_63 : decode cX3_spot 63 = .ok (.iload_n 2, 1) := by decide +kernel
theorem dX3_spot_64 : decode cX3_spot 64 = .ok (.iload_n 3, 1) := by decide +kernel
theorem dX3_spot_65 : decode cX3_spot 65 = .ok (.invokevirtual 187, 3) := by decide +kernel
theorem dX3_spot_68 : decode cX3_spot 68 = .ok (.goto 5, 3) := by decide +kernel
theorem dX3_spot_71 : decode cX3_spot 71 = .ok (.ldc 176, 2) := by decide +kernel
theorem dX3_spot_73 : decode cX3_spot 73 = .ok (.ireturn, 1) := by decide +kernel
set_option maxRecDepth 20000 in
theorem ggX3_reading_X2_readingNumber : GoodIn wsX3_reading wsX2_readingNumber := goodIn_r _ [8, 9, 10, 11, 12, 13, 14, 7, 15, 16, 17, 18, 19, 20, 21, 22, 23, 24, 25, 26, 27, 28, 29, 30, 31, 32, 33, 34, 35, 36, 37, 38, 39, 40, 41, 42, 43, 44, 45, 46, 47, 48, 49, 50, 60, 61, 62, 63, 64, 65, 66] (by decide +kernel) (by decide +kernel)
set_option maxRecDepth 20000 in
theorem gX3_reading_X2_readingNumber : GoodIn wsX3_reading (wsV RX3 191 RX2 yX2_readingNumber wsX2_readingNumber) := goodIn_app (goodIn_of _ (by decide +kernel)) ggX3_reading_X2_readingNumber
theorem dX3_reading_0 : decode cX3_reading 0 = .ok (.iload_n 1, 1) := by decide +kernel
theorem dX3_reading_1 : decode cX3_reading 1 = .ok (.ifCond .lt 8, 3) := by decide +kernel
theorem dX3_reading_4 : decode cX3_reading 4 = .ok (.iload_n 1, 1) := by decide +kernel
theorem dX3_reading_5 : decode cX3_reading 5 = .ok (.iconst 3, 1) := by decide +kernel
theorem dX3_reading_6 : decode cX3_reading 6 = .ok (.if_icmp .le 13, 3) := by decide +kernel
theorem dX3_reading_9 : decode cX3_reading 9 = .ok (.new 42, 3) := by decide +kernel
theorem dX3_reading_12 : decode cX3_reading 12 = .ok (.dup, 1) := by decide +kernel
theorem dX3_reading_13 : decode cX3_reading 13 = .ok (.ldc 180, 2) := by decide +kernel
theorem dX3_reading_15 : decode cX3_reading 15 = .ok (.invokespecial 46, 3) := by decide +kernel
theorem dX3_reading_18 : decode cX3_reading 18 = .ok (.athrow, 1) := by decide +kernel
theorem dX3_reading_19 : decode cX3_reading 19 = .ok (.aload_n 0, 1) := by decide +kernel
theorem dX3_reading_20 : decode cX3_reading 20 = .ok (.getfield 10, 3) := by decide +kernel
theorem dX3_reading_23 : decode cX3_reading 23 = .ok (.iload_n 1, 1) := by decide +kernel
theorem dX3_reading_24 : decode cX3_reading 24 = .ok (.invokevirtual 191, 3) := by decide +kernel
theorem dX3_reading_27 : decode cX3_reading 27 = .ok (.ireturn, 1) := by decide +kernel
set_option maxRecDepth 20000 in
theorem ggX3_night_X0_nightNumber : GoodIn wsX3_night wsX0_nightNumber := goodIn_r _ [9, 10, 11, 12, 29, 30, 31, 32] (by decide +kernel) (by decide +kernel)
set_option maxRecDepth 20000 in
theorem gX3_night_X0_nightNumber : GoodIn wsX3_night (wsV RX3 200 RX0 yX0_nightNumber wsX0_nightNumber) := goodIn_app (goodIn_of _ (by decide +kernel)) ggX3_night_X0_nightNumber
theorem dX3_night_0 : decode cX3_night 0 = .ok (.iload_n 1, 1) := by decide +kernel
theorem dX3_night_1 : decode cX3_night 1 = .ok (.ifCond .lt 12, 3) := by decide +kernel
theorem dX3_night_4 : decode cX3_night 4 = .ok (.iload_n 2, 1) := by decide +kernel
theorem dX3_night_5 : decode cX3_night 5 = .ok (.ifCond .lt 8, 3) := by decide +kernel
theorem dX3_night_8 : decode cX3_night 8 = .ok (.iload_n 2, 1) := by decide +kernel
theorem dX3_night_9 : decode cX3_night 9 = .ok (.iconst 4, 1) := by decide +kernel
theorem dX3_night_10 : decode cX3_night 10 = .ok (.if_icmp .lt 13, 3) := by decide +kernel
theorem dX3_night_13 : decode cX3_night 13 = .ok (.new 42, 3) := by decide +kernel
theorem dX3_night_16 : decode cX3_night 16 = .ok (.dup, 1) := by decide +kernel
theorem dX3_night_17 : decode cX3_night 17 = .ok (.ldc 194, 2) := by decide +kernel
theorem dX3_night_19 : decode cX3_night 19 = .ok (.invokespecial 46, 3) := by decide +kernel
theorem dX3_night_22 : decode cX3_night 22 = .ok (.athrow, 1) := by decide +kernel
theorem dX3_night_23 : decode cX3_night 23 = .ok (.aload_n 0, 1) := by decide +kernel
theorem dX3_night_24 : decode cX3_night 24 = .ok (.getfield 10, 3) := by decide +kernel
theorem dX3_night_27 : decode cX3_night 27 = .ok (.getfield 196, 3) := by decide +kernel
theorem dX3_night_30 : decode cX3_night 30 = .ok (.iload_n 1, 1) := by decide +kernel
theorem dX3_night_31 : decode cX3_night 31 = .ok (.iload_n 2, 1) := by decide +kernel
theorem dX3_night_32 : decode cX3_night 32 = .ok (.invokevirtual 200, 3) := by decide +kernel
theorem dX3_night_35 : decode cX3_night 35 = .ok (.ireturn, 1) := by decide +kernel
set_option maxRecDepth 20000 in
theorem ggX3_count_X2_meetingHeight : GoodIn wsX3_count wsX2_meetingHeight := goodIn_r _ [18, 19, 20, 91, 92, 93, 94, 95, 96, 97] (by decide +kernel) (by decide +kernel)
set_option maxRecDepth 20000 in
theorem gX3_count_X2_meetingHeight : GoodIn wsX3_count (wsV RX3 211 RX2 yX2_meetingHeight wsX2_meetingHeight) := goodIn_app (goodIn_of _ (by decide +kernel)) ggX3_count_X2_meetingHeight
set_option maxRecDepth 20000 in
theorem ggX3_count_X2_seenSpots : GoodIn wsX3_count wsX2_seenSpots := goodIn_r _ [24, 25, 26, 27, 28, 17, 29, 30, 31, 32, 19, 33, 34, 35, 36, 37, 38, 39, 40, 41, 42, 43, 44, 45, 46, 91, 92, 93, 94, 95, 96, 97] (by decide +kernel) (by decide +kernel)
set_option maxRecDepth 20000 in
theorem gX3_count_X2_seenSpots : GoodIn wsX3_count (wsV RX3 214 RX2 yX2_seenSpots wsX2_seenSpots) := goodIn_app (goodIn_of _ (by decide +kernel)) ggX3_count_X2_seenSpots
set_option maxRecDepth 20000 in
theorem ggX3_count_X2_pairLayers : GoodIn wsX3_count wsX2_pairLayers := goodIn_r _ [50, 25, 19, 26, 27, 28, 17, 29, 30, 31, 32, 33, 34, 35, 36, 37, 38, 39, 91, 92, 93, 94, 95, 96, 97] (by decide +kernel) (by decide +kernel)
set_option maxRecDepth 20000 in
theorem gX3_count_X2_pairLayers : GoodIn wsX3_count (wsV RX3 217 RX2 yX2_pairLayers wsX2_pairLayers) := goodIn_app (goodIn_of _ (by decide +kernel)) ggX3_count_X2_pairLayers
set_option maxRecDepth 20000 in
theorem ggX3_count_J6_bitCount_0f7a4 : GoodIn wsX3_count wsJ6_bitCount_0f7a4 := goodIn_r _ [43, 44, 45, 46] (by decide +kernel) (by decide +kernel)
set_option maxRecDepth 20000 in
theorem gX3_count_J6_bitCount_0f7a4 : GoodIn wsX3_count (va_wsS RX3 220 yJ6_bitCount_0f7a4 wsJ6_bitCount_0f7a4) := goodIn_app (goodIn_of _ (by decide +kernel)) ggX3_count_J6_bitCount_0f7a4
set_option maxRecDepth 20000 in
theorem ggX3_count_X2_closePairs : GoodIn wsX3_count wsX2_closePairs := goodIn_r _ [55, 30, 56, 57, 58, 17, 59, 60, 61, 62, 63, 19, 64, 65, 66, 67, 68, 48, 49, 50, 25, 26, 27, 28, 29, 31, 32, 33, 34, 35, 36, 37, 38, 39, 69, 70, 71, 72, 73, 74, 75, 76, 77, 78, 79, 80, 81, 91, 92, 93, 94, 95, 96, 97] (by decide +kernel) (by decide +kernel)
set_option maxRecDepth 20000 in
theorem gX3_count_X2_closePairs : GoodIn wsX3_count (wsV RX3 225 RX2 yX2_closePairs wsX2_closePairs) := goodIn_app (goodIn_of _ (by decide +kernel)) ggX3_count_X2_closePairs
theorem dX3_count_0 : decode cX3_count 0 = .ok (.iload_n 1, 1) := by decide +kernel
theorem dX3_count_1 : decode cX3_count 1 = .ok (.tableswitch 264 0 16 #[83, 91, 101, 111, 119, 145, 162, 173, 181, 192, 203, 214, 219, 224, 234, 244, 254], 83) := by decide +kernel
theorem dX3_count_84 : decode cX3_count 84 = .ok (.aload_n 0, 1) := by decide +kernel
theorem dX3_count_85 : decode cX3_count 85 = .ok (.getfield 10, 3) := by decide +kernel
theorem dX3_count_88 : decode cX3_count 88 = .ok (.getfield 162, 3) := by decide +kernel
theorem dX3_count_91 : decode cX3_count 91 = .ok (.ireturn, 1) := by decide +kernel
theorem dX3_count_92 : decode cX3_count 92 = .ok (.aload_n 0, 1) := by decide +kernel
theorem dX3_count_93 : decode cX3_count 93 = .ok (.getfield 10, 3) := by decide +kernel
theorem dX3_count_96 : decode cX3_count 96 = .ok (.getfield 205, 3) := by decide +kernel
theorem dX3_count_99 : decode cX3_count 99 = .ok (.iconst 0, 1) := by decide +kernel
theorem dX3_count_100 : decode cX3_count 100 = .ok (.iaload, 1) := by decide +kernel
theorem dX3_count_101 : decode cX3_count 101 = .ok (.ireturn, 1) := by decide +kernel
theorem dX3_count_102 : decode cX3_count 102 = .ok (.aload_n 0, 1) := by decide +kernel
theorem dX3_count_103 : decode cX3_count 103 = .ok (.getfield 10, 3) := by decide +kernel
theorem dX3_count_106 : decode cX3_count 106 = .ok (.getfield 205, 3) := by decide +kernel
theorem dX3_count_109 : decode cX3_count 109 = .ok (.iconst 1, 1) := by decide +kernel
theorem dX3_count_110 : decode cX3_count 110 = .ok (.iaload, 1) := by decide +kernel
theorem dX3_count_111 : decode cX3_count 111 = .ok (.ireturn, 1) := by decide +kernel
theorem dX3_count_112 : decode cX3_count 112 = .ok (.aload_n 0, 1) := by decide +kernel
theorem dX3_count_113 : decode cX3_count 113 = .ok (.getfield 10, 3) := by decide +kernel
theorem dX3_count_116 : decode cX3_count 116 = .ok (.getfield 208, 3) := by decide +kernel
theorem dX3_count_119 : decode cX3_count 119 = .ok (.ireturn, 1) := by decide +kernel
theorem dX3_count_120 : decode cX3_count 120 = .ok (.aload_n 0, 1) := by decide +kernel
theorem dX3_count_121 : decode cX3_count 121 = .ok (.getfield 10, 3) := by decide +kernel
theorem dX3_count_124 : decode cX3_count 124 = .ok (.aload_n 0, 1) := by decide +kernel
theorem dX3_count_125 : decode cX3_count 125 = .ok (.getfield 10, 3) := by decide +kernel
theorem dX3_count_128 : decode cX3_count 128 = .ok (.getfield 205, 3) := by decide +kernel
theorem dX3_count_131 : decode cX3_count 131 = .ok (.iconst 0, 1) := by decide +kernel
theorem dX3_count_132 : decode cX3_count 132 = .ok (.iaload, 1) := by decide +kernel
theorem dX3_count_133 : decode cX3_count 133 = .ok (.aload_n 0, 1) := by decide +kernel
theorem dX3_count_134 : decode cX3_count 134 = .ok (.getfield 10, 3) := by decide +kernel
theorem dX3_count_137 : decode cX3_count 137 = .ok (.getfield 205, 3) := by decide +kernel
theorem dX3_count_140 : decode cX3_count 140 = .ok (.iconst 1, 1) := by decide +kernel
theorem dX3_count_141 : decode cX3_count 141 = .ok (.iaload, 1) := by decide +kernel
theorem dX3_count_142 : decode cX3_count 142 = .ok (.invokevirtual 211, 3) := by decide +kernel
theorem dX3_count_145 : decode cX3_count 145 = .ok (.ireturn, 1) := by decide +kernel
theorem dX3_count_146 : decode cX3_count 146 = .ok (.aload_n 0, 1) := by decide +kernel
theorem dX3_count_147 : decode cX3_count 147 = .ok (.getfield 10, 3) := by decide +kernel
theorem dX3_count_150 : decode cX3_count 150 = .ok (.aload_n 0, 1) := by decide +kernel
theorem dX3_count_151 : decode cX3_count 151 = .ok (.getfield 10, 3) := by decide +kernel
theorem dX3_count_154 : decode cX3_count 154 = .ok (.getfield 105, 3) := by decide +kernel
theorem dX3_count_157 : decode cX3_count 157 = .ok (.iconst 1, 1) := by decide +kernel
theorem dX3_count_158 : decode cX3_count 158 = .ok (.iaload, 1) := by decide +kernel
theorem dX3_count_159 : decode cX3_count 159 = .ok (.invokevirtual 214, 3) := by decide +kernel
theorem dX3_count_162 : decode cX3_count 162 = .ok (.ireturn, 1) := by decide +kernel
theorem dX3_count_163 : decode cX3_count 163 = .ok (.aload_n 0, 1) := by decide +kernel
theorem dX3_count_164 : decode cX3_count 164 = .ok (.getfield 10, 3) := by decide +kernel
theorem dX3_count_167 : decode cX3_count 167 = .ok (.invokevirtual 217, 3) := by decide +kernel
theorem dX3_count_170 : decode cX3_count 170 = .ok (.invokestatic 220, 3) := by decide +kernel
theorem dX3_count_173 : decode cX3_count 173 = .ok (.ireturn, 1) := by decide +kernel
theorem dX3_count_174 : decode cX3_count 174 = .ok (.aload_n 0, 1) := by decide +kernel
theorem dX3_count_175 : decode cX3_count 175 = .ok (.getfield 10, 3) := by decide +kernel
theorem dX3_count_178 : decode cX3_count 178 = .ok (.invokevirtual 225, 3) := by decide +kernel
theorem dX3_count_181 : decode cX3_count 181 = .ok (.ireturn, 1) := by decide +kernel
theorem dX3_count_182 : decode cX3_count 182 = .ok (.aload_n 0, 1) := by decide +kernel
theorem dX3_count_183 : decode cX3_count 183 = .ok (.getfield 10, 3) := by decide +kernel
theorem dX3_count_186 : decode cX3_count 186 = .ok (.getfield 196, 3) := by decide +kernel
theorem dX3_count_189 : decode cX3_count 189 = .ok (.getfield 228, 3) := by decide +kernel
theorem dX3_count_192 : decode cX3_count 192 = .ok (.ireturn, 1) := by decide +kernel
theorem dX3_count_193 : decode cX3_count 193 = .ok (.aload_n 0, 1) := by decide +kernel
theorem dX3_count_194 : decode cX3_count 194 = .ok (.getfield 10, 3) := by decide +kernel
theorem dX3_count_197 : decode cX3_count 197 = .ok (.getfield 196, 3) := by decide +kernel
theorem dX3_count_200 : decode cX3_count 200 = .ok (.getfield 231, 3) := by decide +kernel
theorem dX3_count_203 : decode cX3_count 203 = .ok (.ireturn, 1) := by decide +kernel
theorem dX3_count_204 : decode cX3_count 204 = .ok (.aload_n 0, 1) := by decide +kernel
theorem dX3_count_205 : decode cX3_count 205 = .ok (.getfield 10, 3) := by decide +kernel
theorem dX3_count_208 : decode cX3_count 208 = .ok (.getfield 196, 3) := by decide +kernel
theorem dX3_count_211 : decode cX3_count 211 = .ok (.getfield 234, 3) := by decide +kernel
theorem dX3_count_214 : decode cX3_count 214 = .ok (.ireturn, 1) := by decide +kernel
theorem dX3_count_215 : decode cX3_count 215 = .ok (.aload_n 0, 1) := by decide +kernel
theorem dX3_count_216 : decode cX3_count 216 = .ok (.getfield 145, 3) := by decide +kernel
theorem dX3_count_219 : decode cX3_count 219 = .ok (.ireturn, 1) := by decide +kernel
theorem dX3_count_220 : decode cX3_count 220 = .ok (.aload_n 0, 1) := by decide +kernel
theorem dX3_count_221 : decode cX3_count 221 = .ok (.getfield 127, 3) := by decide +kernel
theorem dX3_count_224 : decode cX3_count 224 = .ok (.ireturn, 1) := by decide +kernel
theorem dX3_count_225 : decode cX3_count 225 = .ok (.aload_n 0, 1) := by decide +kernel
theorem dX3_count_226 : decode cX3_count 226 = .ok (.getfield 10, 3) := by decide +kernel
theorem dX3_count_229 : decode cX3_count 229 = .ok (.getfield 105, 3) := by decide +kernel
theorem dX3_count_232 : decode cX3_count 232 = .ok (.iconst 0, 1) := by decide +kernel
theorem dX3_count_233 : decode cX3_count 233 = .ok (.iaload, 1) := by decide +kernel
theorem dX3_count_234 : decode cX3_count 234 = .ok (.ireturn, 1) := by decide +kernel
theorem dX3_count_235 : decode cX3_count 235 = .ok (.aload_n 0, 1) := by decide +kernel
theorem dX3_count_236 : decode cX3_count 236 = .ok (.getfield 10, 3) := by decide +kernel
theorem dX3_count_239 : decode cX3_count 239 = .ok (.getfield 105, 3) := by decide +kernel
theorem dX3_count_242 : decode cX3_count 242 = .ok (.iconst 1, 1) := by decide +kernel
theorem dX3_count_243 : decode cX3_count 243 = .ok (.iaload, 1) := by decide +kernel
theorem dX3_count_244 : decode cX3_count 244 = .ok (.ireturn, 1) := by decide +kernel
theorem dX3_count_245 : decode cX3_count 245 = .ok (.aload_n 0, 1) := by decide +kernel
theorem dX3_count_246 : decode cX3_count 246 = .ok (.getfield 10, 3) := by decide +kernel
theorem dX3_count_249 : decode cX3_count 249 = .ok (.getfield 105, 3) := by decide +kernel
theorem dX3_count_252 : decode cX3_count 252 = .ok (.iconst 2, 1) := by decide +kernel
theorem dX3_count_253 : decode cX3_count 253 = .ok (.iaload, 1) := by decide +kernel
theorem dX3_count_254 : decode cX3_count 254 = .ok (.ireturn, 1) := by decide +kernel
theorem dX3_count_255 : decode cX3_count 255 = .ok (.aload_n 0, 1) := by decide +kernel
theorem dX3_count_256 : decode cX3_count 256 = .ok (.getfield 10, 3) := by decide +kernel
theorem dX3_count_259 : decode cX3_count 259 = .ok (.getfield 105, 3) := by decide +kernel
theorem dX3_count_262 : decode cX3_count 262 = .ok (.iconst 3, 1) := by decide +kernel
theorem dX3_count_263 : decode cX3_count 263 = .ok (.iaload, 1) := by decide +kernel
theorem dX3_count_264 : decode cX3_count 264 = .ok (.ireturn, 1) := by decide +kernel
theorem dX3_count_265 : decode cX3_count 265 = .ok (.new 42, 3) := by decide +kernel
theorem dX3_count_268 : decode cX3_count 268 = .ok (.dup, 1) := by decide +kernel
theorem dX3_count_269 : decode cX3_count 269 = .ok (.ldc 237, 2) := by decide +kernel
theorem dX3_count_271 : decode cX3_count 271 = .ok (.invokespecial 46, 3) := by decide +kernel
theorem dX3_count_274 : decode cX3_count 274 = .ok (.athrow, 1) := by decide +kernel
set_option maxRecDepth 20000 in
theorem ggX3_nearest_X3_isLight : GoodIn wsX3_nearest wsX3_isLight := goodIn_r _ [9] (by decide +kernel) (by decide +kernel)
set_option maxRecDepth 20000 in
theorem gX3_nearest_X3_isLight : GoodIn wsX3_nearest (va_wsS RX3 81 yX3_isLight wsX3_isLight) := goodIn_app (goodIn_of _ (by decide +kernel)) ggX3_nearest_X3_isLight
set_option maxRecDepth 20000 in
theorem ggX3_nearest_X2_hasLayer : GoodIn wsX3_nearest wsX2_hasLayer := goodIn_r _ [14, 15, 54, 55, 56, 57, 58, 59, 60] (by decide +kernel) (by decide +kernel)
set_option maxRecDepth 20000 in
theorem gX3_nearest_X2_hasLayer : GoodIn wsX3_nearest (wsV RX3 64 RX2 yX2_hasLayer wsX2_hasLayer) := goodIn_app (goodIn_of _ (by decide +kernel)) ggX3_nearest_X2_hasLayer
set_option maxRecDepth 20000 in
theorem ggX3_nearest_X2_slopeFoundByTrying : GoodIn wsX3_nearest wsX2_slopeFoundByTrying := goodIn_r _ [19, 20, 21, 22, 13, 23, 24, 25, 26, 27, 28, 29, 30, 31, 32, 33, 34, 54, 55, 56, 57, 58, 59, 60] (by decide +kernel) (by decide +kernel)
set_option maxRecDepth 20000 in
theorem gX3_nearest_X2_slopeFoundByTrying : GoodIn wsX3_nearest (wsV RX3 110 RX2 yX2_slopeFoundByTrying wsX2_slopeFoundByTrying) := goodIn_app (goodIn_of _ (by decide +kernel)) ggX3_nearest_X2_slopeFoundByTrying
set_option maxRecDepth 20000 in
theorem ggX3_nearest_X2_slopeFoundByComputing : GoodIn wsX3_nearest wsX2_slopeFoundByComputing := goodIn_r _ [38, 24, 25, 39, 40, 28, 41, 42, 43, 44, 30, 31, 32, 13, 33, 34, 20, 21, 22, 23, 26, 27, 29, 54, 55, 56, 57, 58, 59, 60] (by decide +kernel) (by decide +kernel)
set_option maxRecDepth 20000 in
theorem gX3_nearest_X2_slopeFoundByComputing : GoodIn wsX3_nearest (wsV RX3 241 RX2 yX2_slopeFoundByComputing wsX2_slopeFoundByComputing) := goodIn_app (goodIn_of _ (by decide +kernel)) ggX3_nearest_X2_slopeFoundByComputing
theorem dX3_nearest_0 : decode cX3_nearest 0 = .ok (.iload_n 1, 1) := by decide +kernel
theorem dX3_nearest_1 : decode cX3_nearest 1 = .ok (.invokestatic 81, 3) := by decide +kernel
theorem dX3_nearest_4 : decode cX3_nearest 4 = .ok (.ifCond .eq 14, 3) := by decide +kernel
theorem dX3_nearest_7 : decode cX3_nearest 7 = .ok (.aload_n 0, 1) := by decide +kernel
theorem dX3_nearest_8 : decode cX3_nearest 8 = .ok (.getfield 10, 3) := by decide +kernel
theorem dX3_nearest_11 : decode cX3_nearest 11 = .ok (.iload_n 2, 1) := by decide +kernel
theorem dX3_nearest_12 : decode cX3_nearest 12 = .ok (.invokevirtual 64, 3) := by decide +kernel
theorem dX3_nearest_15 : decode cX3_nearest 15 = .ok (.ifCond .ne 13, 3) := by decide +kernel
theorem dX3_nearest_18 : decode cX3_nearest 18 = .ok (.new 67, 3) := by decide +kernel
theorem dX3_nearest_21 : decode cX3_nearest 21 = .ok (.dup, 1) := by decide +kernel
theorem dX3_nearest_22 : decode cX3_nearest 22 = .ok (.ldc 108, 2) := by decide +kernel
theorem dX3_nearest_24 : decode cX3_nearest 24 = .ok (.invokespecial 71, 3) := by decide +kernel
theorem dX3_nearest_27 : decode cX3_nearest 27 = .ok (.athrow, 1) := by decide +kernel
theorem dX3_nearest_28 : decode cX3_nearest 28 = .ok (.iload_n 3, 1) := by decide +kernel
theorem dX3_nearest_29 : decode cX3_nearest 29 = .ok (.ifCond .eq 18, 3) := by decide +kernel
theorem dX3_nearest_32 : decode cX3_nearest 32 = .ok (.iload_n 3, 1) := by decide +kernel
theorem dX3_nearest_33 : decode cX3_nearest 33 = .ok (.iconst 1, 1) := by decide +kernel
theorem dX3_nearest_34 : decode cX3_nearest 34 = .ok (.if_icmp .eq 13, 3) := by decide +kernel
theorem dX3_nearest_37 : decode cX3_nearest 37 = .ok (.new 42, 3) := by decide +kernel
theorem dX3_nearest_40 : decode cX3_nearest 40 = .ok (.dup, 1) := by decide +kernel
theorem dX3_nearest_41 : decode cX3_nearest 41 = .ok (.ldc 239, 2) := by decide +kernel
theorem dX3_nearest_43 : decode cX3_nearest 43 = .ok (.invokespecial 46, 3) := by decide +kernel
theorem dX3_nearest_46 : decode cX3_nearest 46 = .ok (.athrow, 1) := by decide +kernel
theorem dX3_nearest_47 : decode cX3_nearest 47 = .ok (.iload_n 3, 1) := by decide +kernel
theorem dX3_nearest_48 : decode cX3_nearest 48 = .ok (.ifCond .ne 15, 3) := by decide +kernel
theorem dX3_nearest_51 : decode cX3_nearest 51 = .ok (.aload_n 0, 1) := by decide +kernel
theorem dX3_nearest_52 : decode cX3_nearest 52 = .ok (.getfield 10, 3) := by decide +kernel
theorem dX3_nearest_55 : decode cX3_nearest 55 = .ok (.iload_n 1, 1) := by decide +kernel
theorem dX3_nearest_56 : decode cX3_nearest 56 = .ok (.iload_n 2, 1) := by decide +kernel
theorem dX3_nearest_57 : decode cX3_nearest 57 = .ok (.invokevirtual 110, 3) := by decide +kernel
theorem dX3_nearest_60 : decode cX3_nearest 60 = .ok (.goto 12, 3) := by decide +kernel
theorem dX3_nearest_63 : decode cX3_nearest 63 = .ok (.aload_n 0, 1) := by decide +kernel
theorem dX3_nearest_64 : decode cX3_nearest 64 = .ok (.getfield 10, 3) := by decide +kernel
theorem dX3_nearest_67 : decode cX3_nearest 67 = .ok (.iload_n 1, 1) := by decide +kernel
theorem dX3_nearest_68 : decode cX3_nearest 68 = .ok (.iload_n 2, 1) := by decide +kernel
theorem dX3_nearest_69 : decode cX3_nearest 69 = .ok (.invokevirtual 241, 3) := by decide +kernel
theorem dX3_nearest_72 : decode cX3_nearest 72 = .ok (.istore 4, 2) := by decide +kernel
theorem dX3_nearest_74 : decode cX3_nearest 74 = .ok (.iload 4, 2) := by decide +kernel
theorem dX3_nearest_76 : decode cX3_nearest 76 = .ok (.bipush 100, 2) := by decide +kernel
theorem dX3_nearest_78 : decode cX3_nearest 78 = .ok (.iadd, 1) := by decide +kernel
theorem dX3_nearest_79 : decode cX3_nearest 79 = .ok (.ireturn, 1) := by decide +kernel
set_option maxRecDepth 20000 in
theorem ggX3_ifScanned_X3_isLight : GoodIn wsX3_ifScanned wsX3_isLight := goodIn_r _ [9] (by decide +kernel) (by decide +kernel)
set_option maxRecDepth 20000 in
theorem gX3_ifScanned_X3_isLight : GoodIn wsX3_ifScanned (va_wsS RX3 81 yX3_isLight wsX3_isLight) := goodIn_app (goodIn_of _ (by decide +kernel)) ggX3_ifScanned_X3_isLight
set_option maxRecDepth 20000 in
theorem ggX3_ifScanned_X2_slopesWithReading : GoodIn wsX3_ifScanned wsX2_slopesWithReading := goodIn_r _ [14, 15, 16, 17, 13, 18, 19, 20, 21, 22, 23, 24, 25, 26, 27, 28, 29, 30, 31, 32, 33, 34, 35, 36, 37, 38, 39, 40, 41, 42, 43, 44, 45, 46, 47, 48, 49, 50, 51, 52, 53, 54, 55, 56, 57, 58, 59, 60, 61, 62, 63, 64, 78, 79, 80, 81, 82, 83, 84] (by decide +kernel) (by decide +kernel)
set_option maxRecDepth 20000 in
theorem gX3_ifScanned_X2_slopesWithReading : GoodIn wsX3_ifScanned (wsV RX3 244 RX2 yX2_slopesWithReading wsX2_slopesWithReading) := goodIn_app (goodIn_of _ (by decide +kernel)) ggX3_ifScanned_X2_slopesWithReading
set_option maxRecDepth 20000 in
theorem ggX3_ifScanned_X2_outermostSlopeWithReading : GoodIn wsX3_ifScanned wsX2_outermostSlopeWithReading := goodIn_r _ [68, 60, 15, 16, 17, 13, 18, 19, 20, 21, 22, 23, 24, 25, 26, 27, 28, 29, 30, 31, 32, 33, 34, 35, 36, 37, 38, 39, 40, 41, 42, 43, 44, 45, 46, 47, 48, 49, 50, 51, 78, 79, 80, 81, 82, 83, 84] (by decide +kernel) (by decide +kernel)
set_option maxRecDepth 20000 in
theorem gX3_ifScanned_X2_outermostSlopeWithReading : GoodIn wsX3_ifScanned (wsV RX3 248 RX2 yX2_outermostSlopeWithReading wsX2_outermostSlopeWithReading) := goodIn_app (goodIn_of _ (by decide +kernel)) ggX3_ifScanned_X2_outermostSlopeWithReading
theorem dX3_ifScanned_0 : decode cX3_ifScanned 0 = .ok (.iload_n 1, 1) := by decide +kernel
theorem dX3_ifScanned_1 : decode cX3_ifScanned 1 = .ok (.invokestatic 81, 3) := by decide +kernel
theorem dX3_ifScanned_4 : decode cX3_ifScanned 4 = .ok (.ifCond .ne 13, 3) := by decide +kernel
theorem dX3_ifScanned_7 : decode cX3_ifScanned 7 = .ok (.new 67, 3) := by decide +kernel
theorem dX3_ifScanned_10 : decode cX3_ifScanned 10 = .ok (.dup, 1) := by decide +kernel
theorem dX3_ifScanned_11 : decode cX3_ifScanned 11 = .ok (.ldc 84, 2) := by decide +kernel
theorem dX3_ifScanned_13 : decode cX3_ifScanned 13 = .ok (.invokespecial 71, 3) := by decide +kernel
theorem dX3_ifScanned_16 : decode cX3_ifScanned 16 = .ok (.athrow, 1) := by decide +kernel
theorem dX3_ifScanned_17 : decode cX3_ifScanned 17 = .ok (.iload_n 2, 1) := by decide +kernel
theorem dX3_ifScanned_18 : decode cX3_ifScanned 18 = .ok (.ifCond .lt 8, 3) := by decide +kernel
theorem dX3_ifScanned_21 : decode cX3_ifScanned 21 = .ok (.iload_n 2, 1) := by decide +kernel
theorem dX3_ifScanned_22 : decode cX3_ifScanned 22 = .ok (.iconst 3, 1) := by decide +kernel
theorem dX3_ifScanned_23 : decode cX3_ifScanned 23 = .ok (.if_icmp .le 13, 3) := by decide +kernel
theorem dX3_ifScanned_26 : decode cX3_ifScanned 26 = .ok (.new 42, 3) := by decide +kernel
theorem dX3_ifScanned_29 : decode cX3_ifScanned 29 = .ok (.dup, 1) := by decide +kernel
theorem dX3_ifScanned_30 : decode cX3_ifScanned 30 = .ok (.ldc 180, 2) := by decide +kernel
theorem dX3_ifScanned_32 : decode cX3_ifScanned 32 = .ok (.invokespecial 46, 3) := by decide +kernel
theorem dX3_ifScanned_35 : decode cX3_ifScanned 35 = .ok (.athrow, 1) := by decide +kernel
theorem dX3_ifScanned_36 : decode cX3_ifScanned 36 = .ok (.iload_n 2, 1) := by decide +kernel
theorem dX3_ifScanned_37 : decode cX3_ifScanned 37 = .ok (.iconst 2, 1) := by decide +kernel
theorem dX3_ifScanned_38 : decode cX3_ifScanned 38 = .ok (.if_icmp .ge 24, 3) := by decide +kernel
theorem dX3_ifScanned_41 : decode cX3_ifScanned 41 = .ok (.aload_n 0, 1) := by decide +kernel
theorem dX3_ifScanned_42 : decode cX3_ifScanned 42 = .ok (.getfield 10, 3) := by decide +kernel
theorem dX3_ifScanned_45 : decode cX3_ifScanned 45 = .ok (.iload_n 1, 1) := by decide +kernel
theorem dX3_ifScanned_46 : decode cX3_ifScanned 46 = .ok (.iload_n 2, 1) := by decide +kernel
theorem dX3_ifScanned_47 : decode cX3_ifScanned 47 = .ok (.iconst 1, 1) := by decide +kernel
theorem dX3_ifScanned_48 : decode cX3_ifScanned 48 = .ok (.if_icmp .ne 7, 3) := by decide +kernel
theorem dX3_ifScanned_51 : decode cX3_ifScanned 51 = .ok (.iconst 1, 1) := by decide +kernel
theorem dX3_ifScanned_52 : decode cX3_ifScanned 52 = .ok (.goto 4, 3) := by decide +kernel
theorem dX3_ifScanned_55 : decode cX3_ifScanned 55 = .ok (.iconst 0, 1) := by decide +kernel
theorem dX3_ifScanned_56 : decode cX3_ifScanned 56 = .ok (.invokevirtual 244, 3) := by decide +kernel
theorem dX3_ifScanned_59 : decode cX3_ifScanned 59 = .ok (.goto 21, 3) := by decide +kernel
theorem dX3_ifScanned_62 : decode cX3_ifScanned 62 = .ok (.aload_n 0, 1) := by decide +kernel
theorem dX3_ifScanned_63 : decode cX3_ifScanned 63 = .ok (.getfield 10, 3) := by decide +kernel
theorem dX3_ifScanned_66 : decode cX3_ifScanned 66 = .ok (.iload_n 1, 1) := by decide +kernel
theorem dX3_ifScanned_67 : decode cX3_ifScanned 67 = .ok (.iload_n 2, 1) := by decide +kernel
theorem dX3_ifScanned_68 : decode cX3_ifScanned 68 = .ok (.iconst 3, 1) := by decide +kernel
theorem dX3_ifScanned_69 : decode cX3_ifScanned 69 = .ok (.if_icmp .ne 7, 3) := by decide +kernel
theorem dX3_ifScanned_72 : decode cX3_ifScanned 72 = .ok (.iconst 1, 1) := by decide +kernel
theorem dX3_ifScanned_73 : decode cX3_ifScanned 73 = .ok (.goto 4, 3) := by decide +kernel
theorem dX3_ifScanned_76 : decode cX3_ifScanned 76 = .ok (.iconst 0, 1) := by decide +kernel
theorem dX3_ifScanned_77 : decode cX3_ifScanned 77 = .ok (.invokevirtual 248, 3) := by decide +kernel
theorem dX3_ifScanned_80 : decode cX3_ifScanned 80 = .ok (.ireturn, 1) := by decide +kernel
set_option maxRecDepth 20000 in
theorem ggX3_clearEnough_X2_seenSpots : GoodIn wsX3_clearEnough wsX2_seenSpots := goodIn_r _ [6, 7, 8, 9, 10, 5, 11, 12, 13, 14, 15, 16, 17, 18, 19, 20, 21, 22, 23, 24, 25, 26, 27, 28, 29, 39, 40, 41, 42, 43, 44, 45] (by decide +kernel) (by decide +kernel)
set_option maxRecDepth 20000 in
theorem gX3_clearEnough_X2_seenSpots : GoodIn wsX3_clearEnough (wsV RX3 214 RX2 yX2_seenSpots wsX2_seenSpots) := goodIn_app (goodIn_of _ (by decide +kernel)) ggX3_clearEnough_X2_seenSpots
theorem dX3_clearEnough_0 : decode cX3_clearEnough 0 = .ok (.aload_n 0, 1) := by decide +kernel
theorem dX3_clearEnough_1 : decode cX3_clearEnough 1 = .ok (.getfield 10, 3) := by decide +kernel
theorem dX3_clearEnough_4 : decode cX3_clearEnough 4 = .ok (.iconst 0, 1) := by decide +kernel
theorem dX3_clearEnough_5 : decode cX3_clearEnough 5 = .ok (.invokevirtual 214, 3) := by decide +kernel
theorem dX3_clearEnough_8 : decode cX3_clearEnough 8 = .ok (.istore_n 1, 1) := by decide +kernel
theorem dX3_clearEnough_9 : decode cX3_clearEnough 9 = .ok (.sipush 1000, 3) := by decide +kernel
theorem dX3_clearEnough_12 : decode cX3_clearEnough 12 = .ok (.istore_n 2, 1) := by decide +kernel
theorem dX3_clearEnough_13 : decode cX3_clearEnough 13 = .ok (.iload_n 2, 1) := by decide +kernel
theorem dX3_clearEnough_14 : decode cX3_clearEnough 14 = .ok (.ifCond .le 23, 3) := by decide +kernel
theorem dX3_clearEnough_17 : decode cX3_clearEnough 17 = .ok (.aload_n 0, 1) := by decide +kernel
theorem dX3_clearEnough_18 : decode cX3_clearEnough 18 = .ok (.getfield 10, 3) := by decide +kernel
theorem dX3_clearEnough_21 : decode cX3_clearEnough 21 = .ok (.iload_n 2, 1) := by decide +kernel
theorem dX3_clearEnough_22 : decode cX3_clearEnough 22 = .ok (.invokevirtual 214, 3) := by decide +kernel
theorem dX3_clearEnough_25 : decode cX3_clearEnough 25 = .ok (.iload_n 1, 1) := by decide +kernel
theorem dX3_clearEnough_26 : decode cX3_clearEnough 26 = .ok (.if_icmp .ne 5, 3) := by decide +kernel
theorem dX3_clearEnough_29 : decode cX3_clearEnough 29 = .ok (.iload_n 2, 1) := by decide +kernel
theorem dX3_clearEnough_30 : decode cX3_clearEnough 30 = .ok (.ireturn, 1) := by decide +kernel
theorem dX3_clearEnough_31 : decode cX3_clearEnough 31 = .ok (.iinc 2 (-1), 3) := by decide +kernel
theorem dX3_clearEnough_34 : decode cX3_clearEnough 34 = .ok (.goto (-21), 3) := by decide +kernel
theorem dX3_clearEnough_37 : decode cX3_clearEnough 37 = .ok (.iconst 0, 1) := by decide +kernel
theorem dX3_clearEnough_38 : decode cX3_clearEnough 38 = .ok (.ireturn, 1) := by decide +kernel
set_option maxRecDepth 20000 in
theorem ggX3_meanError_X0_meanSizeOfErrors : GoodIn wsX3_meanError wsX0_meanSizeOfErrors := goodIn_r _ [7, 8, 9, 10, 11, 12, 13, 14, 15, 16, 6, 17, 18, 35, 36, 37, 38] (by decide +kernel) (by decide +kernel)
set_option maxRecDepth 20000 in
theorem gX3_meanError_X0_meanSizeOfErrors : GoodIn wsX3_meanError (wsV RX3 251 RX0 yX0_meanSizeOfErrors wsX0_meanSizeOfErrors) := goodIn_app (goodIn_of _ (by decide +kernel)) ggX3_meanError_X0_meanSizeOfErrors
theorem dX3_meanError_0 : decode cX3_meanError 0 = .ok (.aload_n 0, 1) := by decide +kernel
theorem dX3_meanError_1 : decode cX3_meanError 1 = .ok (.getfield 10, 3) := by decide +kernel
theorem dX3_meanError_4 : decode cX3_meanError 4 = .ok (.getfield 196, 3) := by decide +kernel
theorem dX3_meanError_7 : decode cX3_meanError 7 = .ok (.invokevirtual 251, 3) := by decide +kernel
theorem dX3_meanError_10 : decode cX3_meanError 10 = .ok (.freturn, 1) := by decide +kernel
theorem dX3_isLight_0 : decode cX3_isLight 0 = .ok (.iload_n 0, 1) := by decide +kernel
theorem dX3_isLight_1 : decode cX3_isLight 1 = .ok (.ifCond .lt 12, 3) := by decide +kernel
theorem dX3_isLight_4 : decode cX3_isLight 4 = .ok (.iload_n 0, 1) := by decide +kernel
theorem dX3_isLight_5 : decode cX3_isLight 5 = .ok (.iconst 2, 1) := by decide +kernel
theorem dX3_isLight_6 : decode cX3_isLight 6 = .ok (.if_icmp .ge 7, 3) := by decide +kernel
theorem dX3_isLight_9 : decode cX3_isLight 9 = .ok (.iconst 1, 1) := by decide +kernel
theorem dX3_isLight_10 : decode cX3_isLight 10 = .ok (.goto 4, 3) := by decide +kernel
theorem dX3_isLight_13 : decode cX3_isLight 13 = .ok (.iconst 0, 1) := by decide +kernel
theorem dX3_isLight_14 : decode cX3_isLight 14 = .ok (.ireturn, 1) := by decide +kernel
theorem dX3_isSlot_0 : decode cX3_isSlot 0 = .ok (.iload_n 0, 1) := by decide +kernel
theorem dX3_isSlot_1 : decode cX3_isSlot 1 = .ok (.ifCond .lt 12, 3) := by decide +kernel
theorem dX3_isSlot_4 : decode cX3_isSlot 4 = .ok (.iload_n 0, 1) := by decide +kernel
theorem dX3_isSlot_5 : decode cX3_isSlot 5 = .ok (.iconst 2, 1) := by decide +kernel
theorem dX3_isSlot_6 : decode cX3_isSlot 6 = .ok (.if_icmp .ge 7, 3) := by decide +kernel
theorem dX3_isSlot_9 : decode cX3_isSlot 9 = .ok (.iconst 1, 1) := by decide +kernel
theorem dX3_isSlot_10 : decode cX3_isSlot 10 = .ok (.goto 4, 3) := by decide +kernel
theorem dX3_isSlot_13 : decode cX3_isSlot 13 = .ok (.iconst 0, 1) := by decide +kernel
theorem dX3_isSlot_14 : decode cX3_isSlot 14 = .ok (.ireturn, 1) := by decide +kernel
theorem dX3_isThickness_0 : decode cX3_isThickness 0 = .ok (.iload_n 0, 1) := by decide +kernel
theorem dX3_isThickness_1 : decode cX3_isThickness 1 = .ok (.iconst 1, 1) := by decide +kernel
theorem dX3_isThickness_2 : decode cX3_isThickness 2 = .ok (.if_icmp .lt 13, 3) := by decide +kernel
theorem dX3_isThickness_5 : decode cX3_isThickness 5 = .ok (.iload_n 0, 1) := by decide +kernel
theorem dX3_isThickness_6 : decode cX3_isThickness 6 = .ok (.bipush 100, 2) := by decide +kernel
theorem dX3_isThickness_8 : decode cX3_isThickness 8 = .ok (.if_icmp .gt 7, 3) := by decide +kernel
theorem dX3_isThickness_11 : decode cX3_isThickness 11 = .ok (.iconst 1, 1) := by decide +kernel
theorem dX3_isThickness_12 : decode cX3_isThickness 12 = .ok (.goto 4, 3) := by decide +kernel
theorem dX3_isThickness_15 : decode cX3_isThickness 15 = .ok (.iconst 0, 1) := by decide +kernel
theorem dX3_isThickness_16 : decode cX3_isThickness 16 = .ok (.ireturn, 1) := by decide +kernel
set_option maxRecDepth 20000 in
theorem ggX3_copySky_X2_becomeLike : GoodIn wsX3_copySky wsX2_becomeLike := goodIn_r _ [5, 6, 7, 8, 9, 10, 11, 12, 13, 14, 15, 16, 17, 18, 19, 20, 21, 22, 23, 24, 25, 26, 27, 28, 29, 30, 31, 32, 33, 34, 35, 36, 37] (by decide +kernel) (by decide +kernel)
set_option maxRecDepth 20000 in
theorem gX3_copySky_X2_becomeLike : GoodIn wsX3_copySky (wsV RX3 255 RX2 yX2_becomeLike wsX2_becomeLike) := goodIn_app (goodIn_of _ (by decide +kernel)) ggX3_copySky_X2_becomeLike
theorem dX3_copySky_0 : decode cX3_copySky 0 = .ok (.aload_n 0, 1) := by decide +kernel
theorem dX3_copySky_1 : decode cX3_copySky 1 = .ok (.ifnull 12, 3) := by decide +kernel
theorem dX3_copySky_4 : decode cX3_copySky 4 = .ok (.aload_n 1, 1) := by decide +kernel
theorem dX3_copySky_5 : decode cX3_copySky 5 = .ok (.ifnull 8, 3) := by decide +kernel
theorem dX3_copySky_8 : decode cX3_copySky 8 = .ok (.aload_n 1, 1) := by decide +kernel
theorem dX3_copySky_9 : decode cX3_copySky 9 = .ok (.aload_n 0, 1) := by decide +kernel
theorem dX3_copySky_10 : decode cX3_copySky 10 = .ok (.invokevirtual 255, 3) := by decide +kernel
theorem dX3_copySky_13 : decode cX3_copySky 13 = .ok (.return_, 1) := by decide +kernel
set_option maxRecDepth 20000 in
theorem ggX3_saveState_X3_copySky : GoodIn wsX3_saveState wsX3_copySky := goodIn_r _ [12, 13, 14, 15, 16, 17, 18, 19, 20, 21, 22, 23, 24, 25, 26, 27, 28, 29, 30, 31, 32, 33, 34, 35, 36, 37, 38, 48, 49, 50, 51, 52, 53, 54, 55, 56, 57, 58] (by decide +kernel) (by decide +kernel)
set_option maxRecDepth 20000 in
theorem gX3_saveState_X3_copySky : GoodIn wsX3_saveState (va_wsS RX3 153 yX3_copySky wsX3_copySky) := goodIn_app (goodIn_of _ (by decide +kernel)) ggX3_saveState_X3_copySky
theorem dX3_saveState_0 : decode cX3_saveState 0 = .ok (.aload_n 0, 1) := by decide +kernel
theorem dX3_saveState_1 : decode cX3_saveState 1 = .ok (.getfield 10, 3) := by decide +kernel
theorem dX3_saveState_4 : decode cX3_saveState 4 = .ok (.aload_n 0, 1) := by decide +kernel
theorem dX3_saveState_5 : decode cX3_saveState 5 = .ok (.getfield 16, 3) := by decide +kernel
theorem dX3_saveState_8 : decode cX3_saveState 8 = .ok (.aload_n 0, 1) := by decide +kernel
theorem dX3_saveState_9 : decode cX3_saveState 9 = .ok (.getfield 150, 3) := by decide +kernel
theorem dX3_saveState_12 : decode cX3_saveState 12 = .ok (.aaload, 1) := by decide +kernel
theorem dX3_saveState_13 : decode cX3_saveState 13 = .ok (.invokestatic 153, 3) := by decide +kernel
theorem dX3_saveState_16 : decode cX3_saveState 16 = .ok (.aload_n 0, 1) := by decide +kernel
theorem dX3_saveState_17 : decode cX3_saveState 17 = .ok (.aload_n 0, 1) := by decide +kernel
theorem dX3_saveState_18 : decode cX3_saveState 18 = .ok (.getfield 150, 3) := by decide +kernel
theorem dX3_saveState_21 : decode cX3_saveState 21 = .ok (.iconst 1, 1) := by decide +kernel
theorem dX3_saveState_22 : decode cX3_saveState 22 = .ok (.iadd, 1) := by decide +kernel
theorem dX3_saveState_23 : decode cX3_saveState 23 = .ok (.bipush 6, 2) := by decide +kernel
theorem dX3_saveState_25 : decode cX3_saveState 25 = .ok (.irem, 1) := by decide +kernel
theorem dX3_saveState_26 : decode cX3_saveState 26 = .ok (.putfield 150, 3) := by decide +kernel
theorem dX3_saveState_29 : decode cX3_saveState 29 = .ok (.aload_n 0, 1) := by decide +kernel
theorem dX3_saveState_30 : decode cX3_saveState 30 = .ok (.aload_n 0, 1) := by decide +kernel
theorem dX3_saveState_31 : decode cX3_saveState 31 = .ok (.getfield 145, 3) := by decide +kernel
theorem dX3_saveState_34 : decode cX3_saveState 34 = .ok (.iconst 1, 1) := by decide +kernel
theorem dX3_saveState_35 : decode cX3_saveState 35 = .ok (.iadd, 1) := by decide +kernel
theorem dX3_saveState_36 : decode cX3_saveState 36 = .ok (.bipush 6, 2) := by decide +kernel
theorem dX3_saveState_38 : decode cX3_saveState 38 = .ok (.invokestatic 259, 3) := by decide +kernel
theorem dX3_saveState_41 : decode cX3_saveState 41 = .ok (.putfield 145, 3) := by decide +kernel
theorem dX3_saveState_44 : decode cX3_saveState 44 = .ok (.return_, 1) := by decide +kernel
set_option maxRecDepth 20000 in
theorem ggX3_readBuffer_X1_startOrder : GoodIn wsX3_readBuffer wsX1_startOrder := goodIn_r _ [8, 9, 10, 11, 12, 13, 14, 15, 7, 16, 17, 18, 61, 62, 63, 64, 65, 66] (by decide +kernel) (by decide +kernel)
set_option maxRecDepth 20000 in
theorem gX3_readBuffer_X1_startOrder : GoodIn wsX3_readBuffer (wsV RX3 262 RX1 yX1_startOrder wsX1_startOrder) := goodIn_app (goodIn_of _ (by decide +kernel)) ggX3_readBuffer_X1_startOrder
set_option maxRecDepth 20000 in
theorem ggX3_readBuffer_X1_takes : GoodIn wsX3_readBuffer wsX1_takes := goodIn_r _ [22, 9, 23, 24, 25, 7, 26, 27, 28, 29, 30, 31, 32, 33, 34, 12, 18, 35, 5, 6, 8, 10, 11, 13, 14, 15, 16, 17, 36, 37, 38, 39, 40, 41, 42, 43, 44, 45, 46, 47, 48, 49, 50, 51, 61, 62, 63, 64, 65, 66] (by decide +kernel) (by decide +kernel)
set_option maxRecDepth 20000 in
theorem gX3_readBuffer_X1_takes : GoodIn wsX3_readBuffer (wsV RX3 265 RX1 yX1_takes wsX1_takes) := goodIn_app (goodIn_of _ (by decide +kernel)) ggX3_readBuffer_X1_takes
theorem dX3_readBuffer_0 : decode cX3_readBuffer 0 = .ok (.aload_n 0, 1) := by decide +kernel
theorem dX3_readBuffer_1 : decode cX3_readBuffer 1 = .ok (.getfield 34, 3) := by decide +kernel
theorem dX3_readBuffer_4 : decode cX3_readBuffer 4 = .ok (.invokevirtual 262, 3) := by decide +kernel
theorem dX3_readBuffer_7 : decode cX3_readBuffer 7 = .ok (.iconst 0, 1) := by decide +kernel
theorem dX3_readBuffer_8 : decode cX3_readBuffer 8 = .ok (.istore_n 1, 1) := by decide +kernel
theorem dX3_readBuffer_9 : decode cX3_readBuffer 9 = .ok (.iload_n 1, 1) := by decide +kernel
theorem dX3_readBuffer_10 : decode cX3_readBuffer 10 = .ok (.aload_n 0, 1) := by decide +kernel
theorem dX3_readBuffer_11 : decode cX3_readBuffer 11 = .ok (.getfield 127, 3) := by decide +kernel
theorem dX3_readBuffer_14 : decode cX3_readBuffer 14 = .ok (.if_icmp .ge 27, 3) := by decide +kernel
theorem dX3_readBuffer_17 : decode cX3_readBuffer 17 = .ok (.aload_n 0, 1) := by decide +kernel
theorem dX3_readBuffer_18 : decode cX3_readBuffer 18 = .ok (.getfield 34, 3) := by decide +kernel
theorem dX3_readBuffer_21 : decode cX3_readBuffer 21 = .ok (.aload_n 0, 1) := by decide +kernel
theorem dX3_readBuffer_22 : decode cX3_readBuffer 22 = .ok (.getfield 27, 3) := by decide +kernel
theorem dX3_readBuffer_25 : decode cX3_readBuffer 25 = .ok (.iload_n 1, 1) := by decide +kernel
theorem dX3_readBuffer_26 : decode cX3_readBuffer 26 = .ok (.caload, 1) := by decide +kernel
theorem dX3_readBuffer_27 : decode cX3_readBuffer 27 = .ok (.invokevirtual 265, 3) := by decide +kernel
theorem dX3_readBuffer_30 : decode cX3_readBuffer 30 = .ok (.ifCond .ne 5, 3) := by decide +kernel
theorem dX3_readBuffer_33 : decode cX3_readBuffer 33 = .ok (.iload_n 1, 1) := by decide +kernel
theorem dX3_readBuffer_34 : decode cX3_readBuffer 34 = .ok (.ireturn, 1) := by decide +kernel
theorem dX3_readBuffer_35 : decode cX3_readBuffer 35 = .ok (.iinc 1 1, 3) := by decide +kernel
theorem dX3_readBuffer_38 : decode cX3_readBuffer 38 = .ok (.goto (-29), 3) := by decide +kernel
theorem dX3_readBuffer_41 : decode cX3_readBuffer 41 = .ok (.aload_n 0, 1) := by decide +kernel
theorem dX3_readBuffer_42 : decode cX3_readBuffer 42 = .ok (.getfield 127, 3) := by decide +kernel
theorem dX3_readBuffer_45 : decode cX3_readBuffer 45 = .ok (.ireturn, 1) := by decide +kernel
set_option maxRecDepth 20000 in
theorem ggX3_executeOrders_X1_startOrder : GoodIn wsX3_executeOrders wsX1_startOrder := goodIn_r _ [8, 9, 10, 11, 12, 13, 14, 15, 7, 16, 17, 18, 155, 156, 157, 158, 159, 160] (by decide +kernel) (by decide +kernel)
set_option maxRecDepth 20000 in
theorem gX3_executeOrders_X1_startOrder : GoodIn wsX3_executeOrders (wsV RX3 262 RX1 yX1_startOrder wsX1_startOrder) := goodIn_app (goodIn_of _ (by decide +kernel)) ggX3_executeOrders_X1_startOrder
set_option maxRecDepth 20000 in
theorem ggX3_executeOrders_X3_executeOrder : GoodIn wsX3_executeOrders wsX3_executeOrder := goodIn_r _ [23, 1, 24, 25, 26, 27, 28, 29, 30, 31, 32, 33, 34, 35, 36, 37, 38, 39, 40, 41, 42, 43, 44, 45, 46, 47, 48, 49, 50, 51, 52, 53, 54, 55, 56, 57, 58, 59, 60, 61, 62, 63, 64, 65, 66, 67, 68, 69, 70, 71, 72, 73, 74, 75, 76, 77, 78, 79, 80, 81, 82, 83, 84, 85, 86, 87, 88, 89, 90, 91, 92, 93, 94, 95, 96, 97, 98, 99, 100, 101, 102, 103, 104, 105, 106, 107, 108, 109, 110, 111, 112, 146, 147, 148, 149, 150, 151, 152, 153, 154, 155, 156, 157, 158, 159, 160, 161, 162, 163, 164, 165, 166, 167, 168, 169, 170, 171] (by decide +kernel) (by decide +kernel)
set_option maxRecDepth 20000 in
theorem gX3_executeOrders_X3_executeOrder : GoodIn wsX3_executeOrders (wsV RX3 269 RX3 yX3_executeOrder wsX3_executeOrder) := goodIn_app (goodIn_of _ (by decide +kernel)) ggX3_executeOrders_X3_executeOrder
set_option maxRecDepth 20000 in
theorem ggX3_executeOrders_X1_takes : GoodIn wsX3_executeOrders wsX1_takes := goodIn_r _ [116, 9, 117, 118, 119, 7, 120, 121, 122, 123, 124, 125, 126, 127, 128, 12, 18, 129, 5, 6, 8, 10, 11, 13, 14, 15, 16, 17, 130, 131, 132, 133, 134, 135, 136, 137, 138, 139, 140, 141, 142, 143, 144, 145, 155, 156, 157, 158, 159, 160] (by decide +kernel) (by decide +kernel)
set_option maxRecDepth 20000 in
theorem gX3_executeOrders_X1_takes : GoodIn wsX3_executeOrders (wsV RX3 265 RX1 yX1_takes wsX1_takes) := goodIn_app (goodIn_of _ (by decide +kernel)) ggX3_executeOrders_X1_takes
theorem dX3_executeOrders_0 : decode cX3_executeOrders 0 = .ok (.iconst 0, 1) := by decide +kernel
theorem dX3_executeOrders_1 : decode cX3_executeOrders 1 = .ok (.istore_n 1, 1) := by decide +kernel
theorem dX3_executeOrders_2 : decode cX3_executeOrders 2 = .ok (.aload_n 0, 1) := by decide +kernel
theorem dX3_executeOrders_3 : decode cX3_executeOrders 3 = .ok (.getfield 34, 3) := by decide +kernel
theorem dX3_executeOrders_6 : decode cX3_executeOrders 6 = .ok (.invokevirtual 262, 3) := by decide +kernel
theorem dX3_executeOrders_9 : decode cX3_executeOrders 9 = .ok (.iconst 0, 1) := by decide +kernel
theorem dX3_executeOrders_10 : decode cX3_executeOrders 10 = .ok (.istore_n 2, 1) := by decide +kernel
theorem dX3_executeOrders_11 : decode cX3_executeOrders 11 = .ok (.iload_n 2, 1) := by decide +kernel
theorem dX3_executeOrders_12 : decode cX3_executeOrders 12 = .ok (.aload_n 0, 1) := by decide +kernel
theorem dX3_executeOrders_13 : decode cX3_executeOrders 13 = .ok (.getfield 127, 3) := by decide +kernel
theorem dX3_executeOrders_16 : decode cX3_executeOrders 16 = .ok (.if_icmp .ge 46, 3) := by decide +kernel
theorem dX3_executeOrders_19 : decode cX3_executeOrders 19 = .ok (.aload_n 0, 1) := by decide +kernel
theorem dX3_executeOrders_20 : decode cX3_executeOrders 20 = .ok (.getfield 27, 3) := by decide +kernel
theorem dX3_executeOrders_23 : decode cX3_executeOrders 23 = .ok (.iload_n 2, 1) := by decide +kernel
theorem dX3_executeOrders_24 : decode cX3_executeOrders 24 = .ok (.caload, 1) := by decide +kernel
theorem dX3_executeOrders_25 : decode cX3_executeOrders 25 = .ok (.bipush 59, 2) := by decide +kernel
theorem dX3_executeOrders_27 : decode cX3_executeOrders 27 = .ok (.if_icmp .ne 15, 3) := by decide +kernel
theorem dX3_executeOrders_30 : decode cX3_executeOrders 30 = .ok (.aload_n 0, 1) := by decide +kernel
theorem dX3_executeOrders_31 : decode cX3_executeOrders 31 = .ok (.invokevirtual 269, 3) := by decide +kernel
theorem dX3_executeOrders_34 : decode cX3_executeOrders 34 = .ok (.ifCond .ne 5, 3) := by decide +kernel
theorem dX3_executeOrders_37 : decode cX3_executeOrders 37 = .ok (.iload_n 1, 1) := by decide +kernel
theorem dX3_executeOrders_38 : decode cX3_executeOrders 38 = .ok (.ireturn, 1) := by decide +kernel
theorem dX3_executeOrders_39 : decode cX3_executeOrders 39 = .ok (.iinc 1 1, 3) := by decide +kernel
theorem dX3_executeOrders_42 : decode cX3_executeOrders 42 = .ok (.aload_n 0, 1) := by decide +kernel
theorem dX3_executeOrders_43 : decode cX3_executeOrders 43 = .ok (.getfield 34, 3) := by decide +kernel
theorem dX3_executeOrders_46 : decode cX3_executeOrders 46 = .ok (.aload_n 0, 1) := by decide +kernel
theorem dX3_executeOrders_47 : decode cX3_executeOrders 47 = .ok (.getfield 27, 3) := by decide +kernel
theorem dX3_executeOrders_50 : decode cX3_executeOrders 50 = .ok (.iload_n 2, 1) := by decide +kernel
theorem dX3_executeOrders_51 : decode cX3_executeOrders 51 = .ok (.caload, 1) := by decide +kernel
theorem dX3_executeOrders_52 : decode cX3_executeOrders 52 = .ok (.invokevirtual 265, 3) := by decide +kernel
theorem dX3_executeOrders_55 : decode cX3_executeOrders 55 = .ok (.pop, 1) := by decide +kernel
theorem dX3_executeOrders_56 : decode cX3_executeOrders 56 = .ok (.iinc 2 1, 3) := by decide +kernel
theorem dX3_executeOrders_59 : decode cX3_executeOrders 59 = .ok (.goto (-48), 3) := by decide +kernel
theorem dX3_executeOrders_62 : decode cX3_executeOrders 62 = .ok (.aload_n 0, 1) := by decide +kernel
theorem dX3_executeOrders_63 : decode cX3_executeOrders 63 = .ok (.invokevirtual 269, 3) := by decide +kernel
theorem dX3_executeOrders_66 : decode cX3_executeOrders 66 = .ok (.ifCond .eq 9, 3) := by decide +kernel
theorem dX3_executeOrders_69 : decode cX3_executeOrders 69 = .ok (.iload_n 1, 1) := by decide +kernel
theorem dX3_executeOrders_70 : decode cX3_executeOrders 70 = .ok (.iconst 1, 1) := by decide +kernel
theorem dX3_executeOrders_71 : decode cX3_executeOrders 71 = .ok (.iadd, 1) := by decide +kernel
theorem dX3_executeOrders_72 : decode cX3_executeOrders 72 = .ok (.goto 4, 3) := by decide +kernel
theorem dX3_executeOrders_75 : decode cX3_executeOrders 75 = .ok (.iload_n 1, 1) := by decide +kernel
theorem dX3_executeOrders_76 : decode cX3_executeOrders 76 = .ok (.ireturn, 1) := by decide +kernel
set_option maxRecDepth 20000 in
theorem ggX3_executeOrder_X2_takesLayer : GoodIn wsX3_executeOrder wsX2_takesLayer := goodIn_r _ [11, 12, 13, 106, 107, 108, 109, 110, 111, 112] (by decide +kernel) (by decide +kernel)
set_option maxRecDepth 20000 in
theorem gX3_executeOrder_X2_takesLayer : GoodIn wsX3_executeOrder (wsV RX3 49 RX2 yX2_takesLayer wsX2_takesLayer) := goodIn_app (goodIn_of _ (by decide +kernel)) ggX3_executeOrder_X2_takesLayer
set_option maxRecDepth 20000 in
theorem ggX3_executeOrder_X2_addLayer : GoodIn wsX3_executeOrder wsX2_addLayer := goodIn_r _ [17, 12, 13, 18, 106, 107, 108, 109, 110, 111, 112] (by decide +kernel) (by decide +kernel)
set_option maxRecDepth 20000 in
theorem gX3_executeOrder_X2_addLayer : GoodIn wsX3_executeOrder (wsV RX3 60 RX2 yX2_addLayer wsX2_addLayer) := goodIn_app (goodIn_of _ (by decide +kernel)) ggX3_executeOrder_X2_addLayer
set_option maxRecDepth 20000 in
theorem ggX3_executeOrder_X2_hasLayer : GoodIn wsX3_executeOrder wsX2_hasLayer := goodIn_r _ [22, 12, 106, 107, 108, 109, 110, 111, 112] (by decide +kernel) (by decide +kernel)
set_option maxRecDepth 20000 in
theorem gX3_executeOrder_X2_hasLayer : GoodIn wsX3_executeOrder (wsV RX3 64 RX2 yX2_hasLayer wsX2_hasLayer) := goodIn_app (goodIn_of _ (by decide +kernel)) ggX3_executeOrder_X2_hasLayer
set_option maxRecDepth 20000 in
theorem ggX3_executeOrder_X2_removeLayer : GoodIn wsX3_executeOrder wsX2_removeLayer := goodIn_r _ [26, 13, 12, 18, 106, 107, 108, 109, 110, 111, 112] (by decide +kernel) (by decide +kernel)
set_option maxRecDepth 20000 in
theorem gX3_executeOrder_X2_removeLayer : GoodIn wsX3_executeOrder (wsV RX3 72 RX2 yX2_removeLayer wsX2_removeLayer) := goodIn_app (goodIn_of _ (by decide +kernel)) ggX3_executeOrder_X2_removeLayer
set_option maxRecDepth 20000 in
theorem ggX3_executeOrder_X2_logNight : GoodIn wsX3_executeOrder wsX2_logNight := goodIn_r _ [30, 31, 32, 33, 13, 34, 35, 36, 10, 37, 38, 39, 12, 40, 41, 42, 43, 44, 45, 46, 47, 18, 48, 49, 50, 51, 52, 53, 54, 55, 56, 57, 58, 59, 60, 61, 62, 63, 64, 65, 66, 67, 68, 69, 70, 71, 72, 73, 74, 75, 76, 77, 78, 79, 80, 81, 82, 83, 84, 85, 86, 106, 107, 108, 109, 110, 111, 112, 113, 114, 115, 116] (by decide +kernel) (by decide +kernel)
set_option maxRecDepth 20000 in
theorem gX3_executeOrder_X2_logNight : GoodIn wsX3_executeOrder (wsV RX3 121 RX2 yX2_logNight wsX2_logNight) := goodIn_app (goodIn_of _ (by decide +kernel)) ggX3_executeOrder_X2_logNight
set_option maxRecDepth 20000 in
theorem ggX3_executeOrder_X2_giveSlope : GoodIn wsX3_executeOrder wsX2_giveSlope := goodIn_r _ [90, 31, 106, 107, 108, 109, 110, 111, 112] (by decide +kernel) (by decide +kernel)
set_option maxRecDepth 20000 in
theorem gX3_executeOrder_X2_giveSlope : GoodIn wsX3_executeOrder (wsV RX3 88 RX2 yX2_giveSlope wsX2_giveSlope) := goodIn_app (goodIn_of _ (by decide +kernel)) ggX3_executeOrder_X2_giveSlope
theorem dX3_executeOrder_0 : decode cX3_executeOrder 0 = .ok (.aload_n 0, 1) := by decide +kernel
theorem dX3_executeOrder_1 : decode cX3_executeOrder 1 = .ok (.getfield 34, 3) := by decide +kernel
theorem dX3_executeOrder_4 : decode cX3_executeOrder 4 = .ok (.getfield 272, 3) := by decide +kernel
theorem dX3_executeOrder_7 : decode cX3_executeOrder 7 = .ok (.lookupswitch 122 #[(99, 33), (110, 112), (120, 76)], 33) := by decide +kernel
theorem dX3_executeOrder_40 : decode cX3_executeOrder 40 = .ok (.aload_n 0, 1) := by decide +kernel
theorem dX3_executeOrder_41 : decode cX3_executeOrder 41 = .ok (.getfield 10, 3) := by decide +kernel
theorem dX3_executeOrder_44 : decode cX3_executeOrder 44 = .ok (.aload_n 0, 1) := by decide +kernel
theorem dX3_executeOrder_45 : decode cX3_executeOrder 45 = .ok (.getfield 34, 3) := by decide +kernel
theorem dX3_executeOrder_48 : decode cX3_executeOrder 48 = .ok (.getfield 276, 3) := by decide +kernel
theorem dX3_executeOrder_51 : decode cX3_executeOrder 51 = .ok (.invokevirtual 49, 3) := by decide +kernel
theorem dX3_executeOrder_54 : decode cX3_executeOrder 54 = .ok (.ifCond .ne 5, 3) := by decide +kernel
theorem dX3_executeOrder_57 : decode cX3_executeOrder 57 = .ok (.iconst 0, 1) := by decide +kernel
theorem dX3_executeOrder_58 : decode cX3_executeOrder 58 = .ok (.ireturn, 1) := by decide +kernel
theorem dX3_executeOrder_59 : decode cX3_executeOrder 59 = .ok (.aload_n 0, 1) := by decide +kernel
theorem dX3_executeOrder_60 : decode cX3_executeOrder 60 = .ok (.getfield 10, 3) := by decide +kernel
theorem dX3_executeOrder_63 : decode cX3_executeOrder 63 = .ok (.aload_n 0, 1) := by decide +kernel
theorem dX3_executeOrder_64 : decode cX3_executeOrder 64 = .ok (.getfield 34, 3) := by decide +kernel
theorem dX3_executeOrder_67 : decode cX3_executeOrder 67 = .ok (.getfield 276, 3) := by decide +kernel
theorem dX3_executeOrder_70 : decode cX3_executeOrder 70 = .ok (.aload_n 0, 1) := by decide +kernel
theorem dX3_executeOrder_71 : decode cX3_executeOrder 71 = .ok (.getfield 34, 3) := by decide +kernel
theorem dX3_executeOrder_74 : decode cX3_executeOrder 74 = .ok (.getfield 279, 3) := by decide +kernel
theorem dX3_executeOrder_77 : decode cX3_executeOrder 77 = .ok (.invokevirtual 60, 3) := by decide +kernel
theorem dX3_executeOrder_80 : decode cX3_executeOrder 80 = .ok (.pop, 1) := by decide +kernel
theorem dX3_executeOrder_81 : decode cX3_executeOrder 81 = .ok (.iconst 1, 1) := by decide +kernel
theorem dX3_executeOrder_82 : decode cX3_executeOrder 82 = .ok (.ireturn, 1) := by decide +kernel
theorem dX3_executeOrder_83 : decode cX3_executeOrder 83 = .ok (.aload_n 0, 1) := by decide +kernel
theorem dX3_executeOrder_84 : decode cX3_executeOrder 84 = .ok (.getfield 10, 3) := by decide +kernel
theorem dX3_executeOrder_87 : decode cX3_executeOrder 87 = .ok (.aload_n 0, 1) := by decide +kernel
theorem dX3_executeOrder_88 : decode cX3_executeOrder 88 = .ok (.getfield 34, 3) := by decide +kernel
theorem dX3_executeOrder_91 : decode cX3_executeOrder 91 = .ok (.getfield 279, 3) := by decide +kernel
theorem dX3_executeOrder_94 : decode cX3_executeOrder 94 = .ok (.invokevirtual 64, 3) := by decide +kernel
theorem dX3_executeOrder_97 : decode cX3_executeOrder 97 = .ok (.ifCond .ne 5, 3) := by decide +kernel
theorem dX3_executeOrder_100 : decode cX3_executeOrder 100 = .ok (.iconst 0, 1) := by decide +kernel
theorem dX3_executeOrder_101 : decode cX3_executeOrder 101 = .ok (.ireturn, 1) := by decide +kernel
theorem dX3_executeOrder_102 : decode cX3_executeOrder 102 = .ok (.aload_n 0, 1) := by decide +kernel
theorem dX3_executeOrder_103 : decode cX3_executeOrder 103 = .ok (.getfield 10, 3) := by decide +kernel
theorem dX3_executeOrder_106 : decode cX3_executeOrder 106 = .ok (.aload_n 0, 1) := by decide +kernel
theorem dX3_executeOrder_107 : decode cX3_executeOrder 107 = .ok (.getfield 34, 3) := by decide +kernel
theorem dX3_executeOrder_110 : decode cX3_executeOrder 110 = .ok (.getfield 279, 3) := by decide +kernel
theorem dX3_executeOrder_113 : decode cX3_executeOrder 113 = .ok (.invokevirtual 72, 3) := by decide +kernel
theorem dX3_executeOrder_116 : decode cX3_executeOrder 116 = .ok (.pop, 1) := by decide +kernel
theorem dX3_executeOrder_117 : decode cX3_executeOrder 117 = .ok (.iconst 1, 1) := by decide +kernel
theorem dX3_executeOrder_118 : decode cX3_executeOrder 118 = .ok (.ireturn, 1) := by decide +kernel
theorem dX3_executeOrder_119 : decode cX3_executeOrder 119 = .ok (.aload_n 0, 1) := by decide +kernel
theorem dX3_executeOrder_120 : decode cX3_executeOrder 120 = .ok (.getfield 10, 3) := by decide +kernel
theorem dX3_executeOrder_123 : decode cX3_executeOrder 123 = .ok (.invokevirtual 121, 3) := by decide +kernel
theorem dX3_executeOrder_126 : decode cX3_executeOrder 126 = .ok (.pop, 1) := by decide +kernel
theorem dX3_executeOrder_127 : decode cX3_executeOrder 127 = .ok (.iconst 1, 1) := by decide +kernel
theorem dX3_executeOrder_128 : decode cX3_executeOrder 128 = .ok (.ireturn, 1) := by decide +kernel
theorem dX3_executeOrder_129 : decode cX3_executeOrder 129 = .ok (.aload_n 0, 1) := by decide +kernel
theorem dX3_executeOrder_130 : decode cX3_executeOrder 130 = .ok (.getfield 10, 3) := by decide +kernel
theorem dX3_executeOrder_133 : decode cX3_executeOrder 133 = .ok (.aload_n 0, 1) := by decide +kernel
theorem dX3_executeOrder_134 : decode cX3_executeOrder 134 = .ok (.getfield 34, 3) := by decide +kernel
theorem dX3_executeOrder_137 : decode cX3_executeOrder 137 = .ok (.getfield 272, 3) := by decide +kernel
theorem dX3_executeOrder_140 : decode cX3_executeOrder 140 = .ok (.bipush 97, 2) := by decide +kernel
theorem dX3_executeOrder_142 : decode cX3_executeOrder 142 = .ok (.if_icmp .ne 7, 3) := by decide +kernel
theorem dX3_executeOrder_145 : decode cX3_executeOrder 145 = .ok (.iconst 0, 1) := by decide +kernel
theorem dX3_executeOrder_146 : decode cX3_executeOrder 146 = .ok (.goto 4, 3) := by decide +kernel
theorem dX3_executeOrder_149 : decode cX3_executeOrder 149 = .ok (.iconst 1, 1) := by decide +kernel
theorem dX3_executeOrder_150 : decode cX3_executeOrder 150 = .ok (.aload_n 0, 1) := by decide +kernel
theorem dX3_executeOrder_151 : decode cX3_executeOrder 151 = .ok (.getfield 34, 3) := by decide +kernel
theorem dX3_executeOrder_154 : decode cX3_executeOrder 154 = .ok (.getfield 282, 3) := by decide +kernel
theorem dX3_executeOrder_157 : decode cX3_executeOrder 157 = .ok (.ifCond .eq 14, 3) := by decide +kernel
theorem dX3_executeOrder_160 : decode cX3_executeOrder 160 = .ok (.aload_n 0, 1) := by decide +kernel
theorem dX3_executeOrder_161 : decode cX3_executeOrder 161 = .ok (.getfield 34, 3) := by decide +kernel
theorem dX3_executeOrder_164 : decode cX3_executeOrder 164 = .ok (.getfield 279, 3) := by decide +kernel
theorem dX3_executeOrder_167 : decode cX3_executeOrder 167 = .ok (.ineg, 1) := by decide +kernel
theorem dX3_executeOrder_168 : decode cX3_executeOrder 168 = .ok (.goto 10, 3) := by decide +kernel
theorem dX3_executeOrder_171 : decode cX3_executeOrder 171 = .ok (.aload_n 0, 1) := by decide +kernel
theorem dX3_executeOrder_172 : decode cX3_executeOrder 172 = .ok (.getfield 34, 3) := by decide +kernel
theorem dX3_executeOrder_175 : decode cX3_executeOrder 175 = .ok (.getfield 279, 3) := by decide +kernel
theorem dX3_executeOrder_178 : decode cX3_executeOrder 178 = .ok (.invokevirtual 88, 3) := by decide +kernel
theorem dX3_executeOrder_181 : decode cX3_executeOrder 181 = .ok (.pop, 1) := by decide +kernel
theorem dX3_executeOrder_182 : decode cX3_executeOrder 182 = .ok (.iconst 1, 1) := by decide +kernel
theorem dX3_executeOrder_183 : decode cX3_executeOrder 183 = .ok (.ireturn, 1) := by decide +kernel
theorem dX4_init_0 : decode cX4_init 0 = .ok (.aload_n 0, 1) := by decide +kernel
theorem dX4_init_1 : decode cX4_init 1 = .ok (.invokespecial 1, 3) := by decide +kernel
theorem dX4_init_4 : decode cX4_init 4 = .ok (.aload_n 0, 1) := by decide +kernel
theorem dX4_init_5 : decode cX4_init 5 = .ok (.bipush 56, 2) := by decide +kernel
theorem dX4_init_7 : decode cX4_init 7 = .ok (.newarray .int, 2) := by decide +kernel
theorem dX4_init_9 : decode cX4_init 9 = .ok (.putfield 7, 3) := by decide +kernel
theorem dX4_init_12 : decode cX4_init 12 = .ok (.aload_n 0, 1) := by decide +kernel
theorem dX4_init_13 : decode cX4_init 13 = .ok (.sipush 336, 3) := by decide +kernel
theorem dX4_init_16 : decode cX4_init 16 = .ok (.newarray .int, 2) := by decide +kernel
theorem dX4_init_18 : decode cX4_init 18 = .ok (.putfield 13, 3) := by decide +kernel
theorem dX4_init_21 : decode cX4_init 21 = .ok (.aload_n 0, 1) := by decide +kernel
theorem dX4_init_22 : decode cX4_init 22 = .ok (.bipush 112, 2) := by decide +kernel
theorem dX4_init_24 : decode cX4_init 24 = .ok (.newarray .int, 2) := by decide +kernel
theorem dX4_init_26 : decode cX4_init 26 = .ok (.putfield 16, 3) := by decide +kernel
theorem dX4_init_29 : decode cX4_init 29 = .ok (.aload_n 0, 1) := by decide +kernel
theorem dX4_init_30 : decode cX4_init 30 = .ok (.iconst 2, 1) := by decide +kernel
theorem dX4_init_31 : decode cX4_init 31 = .ok (.newarray .int, 2) := by decide +kernel
theorem dX4_init_33 : decode cX4_init 33 = .ok (.putfield 19, 3) := by decide +kernel
theorem dX4_init_36 : decode cX4_init 36 = .ok (.aload_n 0, 1) := by decide +kernel
theorem dX4_init_37 : decode cX4_init 37 = .ok (.bipush 60, 2) := by decide +kernel
theorem dX4_init_39 : decode cX4_init 39 = .ok (.newarray .int, 2) := by decide +kernel
theorem dX4_init_41 : decode cX4_init 41 = .ok (.putfield 22, 3) := by decide +kernel
theorem dX4_init_44 : decode cX4_init 44 = .ok (.aload_n 0, 1) := by decide +kernel
theorem dX4_init_45 : decode cX4_init 45 = .ok (.bipush 12, 2) := by decide +kernel
theorem dX4_init_47 : decode cX4_init 47 = .ok (.newarray .int, 2) := by decide +kernel
theorem dX4_init_49 : decode cX4_init 49 = .ok (.putfield 25, 3) := by decide +kernel
theorem dX4_init_52 : decode cX4_init 52 = .ok (.aload_n 0, 1) := by decide +kernel
theorem dX4_init_53 : decode cX4_init 53 = .ok (.bipush 12, 2) := by decide +kernel
theorem dX4_init_55 : decode cX4_init 55 = .ok (.newarray .int, 2) := by decide +kernel
theorem dX4_init_57 : decode cX4_init 57 = .ok (.putfield 28, 3) := by decide +kernel
theorem dX4_init_60 : decode cX4_init 60 = .ok (.aload_n 0, 1) := by decide +kernel
theorem dX4_init_61 : decode cX4_init 61 = .ok (.iconst 4, 1) := by decide +kernel
theorem dX4_init_62 : decode cX4_init 62 = .ok (.newarray .int, 2) := by decide +kernel
theorem dX4_init_64 : decode cX4_init 64 = .ok (.putfield 31, 3) := by decide +kernel
theorem dX4_init_67 : decode cX4_init 67 = .ok (.aload_n 0, 1) := by decide +kernel
theorem dX4_init_68 : decode cX4_init 68 = .ok (.getfield 7, 3) := by decide +kernel
theorem dX4_init_71 : decode cX4_init 71 = .ok (.iconst 0, 1) := by decide +kernel
theorem dX4_init_72 : decode cX4_init 72 = .ok (.sipush 300, 3) := by decide +kernel
theorem dX4_init_75 : decode cX4_init 75 = .ok (.iastore, 1) := by decide +kernel
theorem dX4_init_76 : decode cX4_init 76 = .ok (.aload_n 0, 1) := by decide +kernel
theorem dX4_init_77 : decode cX4_init 77 = .ok (.getfield 7, 3) := by decide +kernel
theorem dX4_init_80 : decode cX4_init 80 = .ok (.iconst 1, 1) := by decide +kernel
theorem dX4_init_81 : decode cX4_init 81 = .ok (.bipush 100, 2) := by decide +kernel
theorem dX4_init_83 : decode cX4_init 83 = .ok (.iastore, 1) := by decide +kernel
theorem dX4_init_84 : decode cX4_init 84 = .ok (.aload_n 0, 1) := by decide +kernel
theorem dX4_init_85 : decode cX4_init 85 = .ok (.getfield 7, 3) := by decide +kernel
theorem dX4_init_88 : decode cX4_init 88 = .ok (.iconst 2, 1) := by decide +kernel
theorem dX4_init_89 : decode cX4_init 89 = .ok (.bipush 20, 2) := by decide +kernel
theorem dX4_init_91 : decode cX4_init 91 = .ok (.iastore, 1) := by decide +kernel
theorem dX4_init_92 : decode cX4_init 92 = .ok (.aload_n 0, 1) := by decide +kernel
theorem dX4_init_93 : decode cX4_init 93 = .ok (.getfield 7, 3) := by decide +kernel
theorem dX4_init_96 : decode cX4_init 96 = .ok (.iconst 3, 1) := by decide +kernel
theorem dX4_init_97 : decode cX4_init 97 = .ok (.bipush 10, 2) := by decide +kernel
theorem dX4_init_99 : decode cX4_init 99 = .ok (.iastore, 1) := by decide +kernel
theorem dX4_init_100 : decode cX4_init 100 = .ok (.aload_n 0, 1) := by decide +kernel
theorem dX4_init_101 : decode cX4_init 101 = .ok (.getfield 7, 3) := by decide +kernel
theorem dX4_init_104 : decode cX4_init 104 = .ok (.iconst 4, 1) := by decide +kernel
theorem dX4_init_105 : decode cX4_init 105 = .ok (.iconst 5, 1) := by decide +kernel
theorem dX4_init_106 : decode cX4_init 106 = .ok (.iastore, 1) := by decide +kernel
theorem dX4_init_107 : decode cX4_init 107 = .ok (.aload_n 0, 1) := by decide +kernel
theorem dX4_init_108 : decode cX4_init 108 = .ok (.getfield 7, 3) := by decide +kernel
theorem dX4_init_111 : decode cX4_init 111 = .ok (.iconst 5, 1) := by decide +kernel
theorem dX4_init_112 : decode cX4_init 112 = .ok (.bipush (-5), 2) := by decide +kernel
theorem dX4_init_114 : decode cX4_init 114 = .ok (.iastore, 1) := by decide +kernel
theorem dX4_init_115 : decode cX4_init 115 = .ok (.aload_n 0, 1) := by decide +kernel
theorem dX4_init_116 : decode cX4_init 116 = .ok (.getfield 7, 3) := by decide +kernel
theorem dX4_init_119 : decode cX4_init 119 = .ok (.bipush 6, 2) := by decide +kernel
theorem dX4_init_121 : decode cX4_init 121 = .ok (.iconst 1, 1) := by decide +kernel
theorem dX4_init_122 : decode cX4_init 122 = .ok (.iastore, 1) := by decide +kernel
theorem dX4_init_123 : decode cX4_init 123 = .ok (.aload_n 0, 1) := by decide +kernel
theorem dX4_init_124 : decode cX4_init 124 = .ok (.getfield 7, 3) := by decide +kernel
theorem dX4_init_127 : decode cX4_init 127 = .ok (.bipush 7, 2) := by decide +kernel
theorem dX4_init_129 : decode cX4_init 129 = .ok (.iconst 1, 1) := by decide +kernel
theorem dX4_init_130 : decode cX4_init 130 = .ok (.iastore, 1) := by decide +kernel
theorem dX4_init_131 : decode cX4_init 131 = .ok (.return_, 1) := by decide +kernel
theorem dX4_thrown_0 : decode cX4_thrown 0 = .ok (.aload_n 0, 1) := by decide +kernel
theorem dX4_thrown_1 : decode cX4_thrown 1 = .ok (.getfield 34, 3) := by decide +kernel
theorem dX4_thrown_4 : decode cX4_thrown 4 = .ok (.ireturn, 1) := by decide +kernel
theorem dX4_fails_0 : decode cX4_fails 0 = .ok (.aload_n 0, 1) := by decide +kernel
theorem dX4_fails_1 : decode cX4_fails 1 = .ok (.iload_n 1, 1) := by decide +kernel
theorem dX4_fails_2 : decode cX4_fails 2 = .ok (.putfield 34, 3) := by decide +kernel
theorem dX4_fails_5 : decode cX4_fails 5 = .ok (.iconst 0, 1) := by decide +kernel
theorem dX4_fails_6 : decode cX4_fails 6 = .ok (.ireturn, 1) := by decide +kernel
theorem dX4_within_0 : decode cX4_within 0 = .ok (.iload_n 0, 1) := by decide +kernel
theorem dX4_within_1 : decode cX4_within 1 = .ok (.iload_n 1, 1) := by decide +kernel
theorem dX4_within_2 : decode cX4_within 2 = .ok (.if_icmp .lt 12, 3) := by decide +kernel
theorem dX4_within_5 : decode cX4_within 5 = .ok (.iload_n 0, 1) := by decide +kernel
theorem dX4_within_6 : decode cX4_within 6 = .ok (.iload_n 2, 1) := by decide +kernel
theorem dX4_within_7 : decode cX4_within 7 = .ok (.if_icmp .gt 7, 3) := by decide +kernel
theorem dX4_within_10 : decode cX4_within 10 = .ok (.iconst 1, 1) := by decide +kernel
theorem dX4_within_11 : decode cX4_within 11 = .ok (.goto 4, 3) := by decide +kernel
theorem dX4_within_14 : decode cX4_within 14 = .ok (.iconst 0, 1) := by decide +kernel
theorem dX4_within_15 : decode cX4_within 15 = .ok (.ireturn, 1) := by decide +kernel
theorem dX4_sizeOf_0 : decode cX4_sizeOf 0 = .ok (.iload_n 0, 1) := by decide +kernel
theorem dX4_sizeOf_1 : decode cX4_sizeOf 1 = .ok (.ifCond .ge 8, 3) := by decide +kernel
theorem dX4_sizeOf_4 : decode cX4_sizeOf 4 = .ok (.iload_n 0, 1) := by decide +kernel
theorem dX4_sizeOf_5 : decode cX4_sizeOf 5 = .ok (.ineg, 1) := by decide +kernel
theorem dX4_sizeOf_6 : decode cX4_sizeOf 6 = .ok (.goto 4, 3) := by decide +kernel
theorem dX4_sizeOf_9 : decode cX4_sizeOf 9 = .ok (.iload_n 0, 1) := by decide +kernel
theorem dX4_sizeOf_10 : decode cX4_sizeOf 10 = .ok (.ireturn, 1) := by decide +kernel
set_option maxRecDepth 20000 in
theorem ggX4_isLight_X4_within : GoodIn wsX4_isLight wsX4_within := goodIn_r _ [4] (by decide +kernel) (by decide +kernel)
set_option maxRecDepth 20000 in
theorem gX4_isLight_X4_within : GoodIn wsX4_isLight (va_wsS RX4 38 yX4_within wsX4_within) := goodIn_app (goodIn_of _ (by decide +kernel)) ggX4_isLight_X4_within
theorem dX4_isLight_0 : decode cX4_isLight 0 = .ok (.iload_n 0, 1) := by decide +kernel
theorem dX4_isLight_1 : decode cX4_isLight 1 = .ok (.iconst 0, 1) := by decide +kernel
theorem dX4_isLight_2 : decode cX4_isLight 2 = .ok (.iconst 1, 1) := by decide +kernel
theorem dX4_isLight_3 : decode cX4_isLight 3 = .ok (.invokestatic 38, 3) := by decide +kernel
theorem dX4_isLight_6 : decode cX4_isLight 6 = .ok (.ireturn, 1) := by decide +kernel
set_option maxRecDepth 20000 in
theorem ggX4_isLayer_X4_within : GoodIn wsX4_isLayer wsX4_within := goodIn_r _ [5] (by decide +kernel) (by decide +kernel)
set_option maxRecDepth 20000 in
theorem gX4_isLayer_X4_within : GoodIn wsX4_isLayer (va_wsS RX4 38 yX4_within wsX4_within) := goodIn_app (goodIn_of _ (by decide +kernel)) ggX4_isLayer_X4_within
theorem dX4_isLayer_0 : decode cX4_isLayer 0 = .ok (.iload_n 1, 1) := by decide +kernel
theorem dX4_isLayer_1 : decode cX4_isLayer 1 = .ok (.iconst 0, 1) := by decide +kernel
theorem dX4_isLayer_2 : decode cX4_isLayer 2 = .ok (.aload_n 0, 1) := by decide +kernel
theorem dX4_isLayer_3 : decode cX4_isLayer 3 = .ok (.getfield 7, 3) := by decide +kernel
theorem dX4_isLayer_6 : decode cX4_isLayer 6 = .ok (.bipush 8, 2) := by decide +kernel
theorem dX4_isLayer_8 : decode cX4_isLayer 8 = .ok (.iaload, 1) := by decide +kernel
theorem dX4_isLayer_9 : decode cX4_isLayer 9 = .ok (.iconst 1, 1) := by decide +kernel
theorem dX4_isLayer_10 : decode cX4_isLayer 10 = .ok (.isub, 1) := by decide +kernel
theorem dX4_isLayer_11 : decode cX4_isLayer 11 = .ok (.invokestatic 38, 3) := by decide +kernel
theorem dX4_isLayer_14 : decode cX4_isLayer 14 = .ok (.ireturn, 1) := by decide +kernel
theorem dX4_save_0 : decode cX4_save 0 = .ok (.aload_n 0, 1) := by decide +kernel
theorem dX4_save_1 : decode cX4_save 1 = .ok (.getfield 42, 3) := by decide +kernel
theorem dX4_save_4 : decode cX4_save 4 = .ok (.bipush 6, 2) := by decide +kernel
theorem dX4_save_6 : decode cX4_save 6 = .ok (.if_icmp .ne 43, 3) := by decide +kernel
theorem dX4_save_9 : decode cX4_save 9 = .ok (.iconst 0, 1) := by decide +kernel
theorem dX4_save_10 : decode cX4_save 10 = .ok (.istore_n 1, 1) := by decide +kernel
theorem dX4_save_11 : decode cX4_save 11 = .ok (.iload_n 1, 1) := by decide +kernel
theorem dX4_save_12 : decode cX4_save 12 = .ok (.sipush 280, 3) := by decide +kernel
theorem dX4_save_15 : decode cX4_save 15 = .ok (.if_icmp .ge 24, 3) := by decide +kernel
theorem dX4_save_18 : decode cX4_save 18 = .ok (.aload_n 0, 1) := by decide +kernel
theorem dX4_save_19 : decode cX4_save 19 = .ok (.getfield 13, 3) := by decide +kernel
theorem dX4_save_22 : decode cX4_save 22 = .ok (.iload_n 1, 1) := by decide +kernel
theorem dX4_save_23 : decode cX4_save 23 = .ok (.aload_n 0, 1) := by decide +kernel
theorem dX4_save_24 : decode cX4_save 24 = .ok (.getfield 13, 3) := by decide +kernel
theorem dX4_save_27 : decode cX4_save 27 = .ok (.iload_n 1, 1) := by decide +kernel
theorem dX4_save_28 : decode cX4_save 28 = .ok (.bipush 56, 2) := by decide +kernel
theorem dX4_save_30 : decode cX4_save 30 = .ok (.iadd, 1) := by decide +kernel
theorem dX4_save_31 : decode cX4_save 31 = .ok (.iaload, 1) := by decide +kernel
theorem dX4_save_32 : decode cX4_save 32 = .ok (.iastore, 1) := by decide +kernel
theorem dX4_save_33 : decode cX4_save 33 = .ok (.iinc 1 1, 3) := by decide +kernel
theorem dX4_save_36 : decode cX4_save 36 = .ok (.goto (-25), 3) := by decide +kernel
theorem dX4_save_39 : decode cX4_save 39 = .ok (.aload_n 0, 1) := by decide +kernel
theorem dX4_save_40 : decode cX4_save 40 = .ok (.dup, 1) := by decide +kernel
theorem dX4_save_41 : decode cX4_save 41 = .ok (.getfield 42, 3) := by decide +kernel
theorem dX4_save_44 : decode cX4_save 44 = .ok (.iconst 1, 1) := by decide +kernel
theorem dX4_save_45 : decode cX4_save 45 = .ok (.isub, 1) := by decide +kernel
theorem dX4_save_46 : decode cX4_save 46 = .ok (.putfield 42, 3) := by decide +kernel
theorem dX4_save_49 : decode cX4_save 49 = .ok (.iconst 0, 1) := by decide +kernel
theorem dX4_save_50 : decode cX4_save 50 = .ok (.istore_n 1, 1) := by decide +kernel
theorem dX4_save_51 : decode cX4_save 51 = .ok (.iload_n 1, 1) := by decide +kernel
theorem dX4_save_52 : decode cX4_save 52 = .ok (.bipush 56, 2) := by decide +kernel
theorem dX4_save_54 : decode cX4_save 54 = .ok (.if_icmp .ge 29, 3) := by decide +kernel
theorem dX4_save_57 : decode cX4_save 57 = .ok (.aload_n 0, 1) := by decide +kernel
theorem dX4_save_58 : decode cX4_save 58 = .ok (.getfield 13, 3) := by decide +kernel
theorem dX4_save_61 : decode cX4_save 61 = .ok (.aload_n 0, 1) := by decide +kernel
theorem dX4_save_62 : decode cX4_save 62 = .ok (.getfield 42, 3) := by decide +kernel
theorem dX4_save_65 : decode cX4_save 65 = .ok (.bipush 56, 2) := by decide +kernel
theorem dX4_save_67 : decode cX4_save 67 = .ok (.imul, 1) := by decide +kernel
theorem dX4_save_68 : decode cX4_save 68 = .ok (.iload_n 1, 1) := by decide +kernel
theorem dX4_save_69 : decode cX4_save 69 = .ok (.iadd, 1) := by decide +kernel
theorem dX4_save_70 : decode cX4_save 70 = .ok (.aload_n 0, 1) := by decide +kernel
theorem dX4_save_71 : decode cX4_save 71 = .ok (.getfield 7, 3) := by decide +kernel
theorem dX4_save_74 : decode cX4_save 74 = .ok (.iload_n 1, 1) := by decide +kernel
theorem dX4_save_75 : decode cX4_save 75 = .ok (.iaload, 1) := by decide +kernel
theorem dX4_save_76 : decode cX4_save 76 = .ok (.iastore, 1) := by decide +kernel
theorem dX4_save_77 : decode cX4_save 77 = .ok (.iinc 1 1, 3) := by decide +kernel
theorem dX4_save_80 : decode cX4_save 80 = .ok (.goto (-29), 3) := by decide +kernel
theorem dX4_save_83 : decode cX4_save 83 = .ok (.aload_n 0, 1) := by decide +kernel
theorem dX4_save_84 : decode cX4_save 84 = .ok (.dup, 1) := by decide +kernel
theorem dX4_save_85 : decode cX4_save 85 = .ok (.getfield 42, 3) := by decide +kernel
theorem dX4_save_88 : decode cX4_save 88 = .ok (.iconst 1, 1) := by decide +kernel
theorem dX4_save_89 : decode cX4_save 89 = .ok (.iadd, 1) := by decide +kernel
theorem dX4_save_90 : decode cX4_save 90 = .ok (.putfield 42, 3) := by decide +kernel
theorem dX4_save_93 : decode cX4_save 93 = .ok (.return_, 1) := by decide +kernel
set_option maxRecDepth 20000 in
theorem ggX4_undo_X4_fails : GoodIn wsX4_undo wsX4_fails := goodIn_r _ [9, 1, 10, 11, 12, 13, 14, 15, 16, 17, 18, 19, 20, 21, 22, 23, 24] (by decide +kernel) (by decide +kernel)
set_option maxRecDepth 20000 in
theorem gX4_undo_X4_fails : GoodIn wsX4_undo (wsV RX4 45 RX4 yX4_fails wsX4_fails) := goodIn_app (goodIn_of _ (by decide +kernel)) ggX4_undo_X4_fails
theorem dX4_undo_0 : decode cX4_undo 0 = .ok (.aload_n 0, 1) := by decide +kernel
theorem dX4_undo_1 : decode cX4_undo 1 = .ok (.iconst 0, 1) := by decide +kernel
theorem dX4_undo_2 : decode cX4_undo 2 = .ok (.putfield 34, 3) := by decide +kernel
theorem dX4_undo_5 : decode cX4_undo 5 = .ok (.aload_n 0, 1) := by decide +kernel
theorem dX4_undo_6 : decode cX4_undo 6 = .ok (.getfield 42, 3) := by decide +kernel
theorem dX4_undo_9 : decode cX4_undo 9 = .ok (.ifCond .ne 9, 3) := by decide +kernel
theorem dX4_undo_12 : decode cX4_undo 12 = .ok (.aload_n 0, 1) := by decide +kernel
theorem dX4_undo_13 : decode cX4_undo 13 = .ok (.iconst 1, 1) := by decide +kernel
theorem dX4_undo_14 : decode cX4_undo 14 = .ok (.invokevirtual 45, 3) := by decide +kernel
theorem dX4_undo_17 : decode cX4_undo 17 = .ok (.ireturn, 1) := by decide +kernel
theorem dX4_undo_18 : decode cX4_undo 18 = .ok (.aload_n 0, 1) := by decide +kernel
theorem dX4_undo_19 : decode cX4_undo 19 = .ok (.dup, 1) := by decide +kernel
theorem dX4_undo_20 : decode cX4_undo 20 = .ok (.getfield 42, 3) := by decide +kernel
theorem dX4_undo_23 : decode cX4_undo 23 = .ok (.iconst 1, 1) := by decide +kernel
theorem dX4_undo_24 : decode cX4_undo 24 = .ok (.isub, 1) := by decide +kernel
theorem dX4_undo_25 : decode cX4_undo 25 = .ok (.putfield 42, 3) := by decide +kernel
theorem dX4_undo_28 : decode cX4_undo 28 = .ok (.iconst 0, 1) := by decide +kernel
theorem dX4_undo_29 : decode cX4_undo 29 = .ok (.istore_n 1, 1) := by decide +kernel
theorem dX4_undo_30 : decode cX4_undo 30 = .ok (.iload_n 1, 1) := by decide +kernel
theorem dX4_undo_31 : decode cX4_undo 31 = .ok (.bipush 56, 2) := by decide +kernel
theorem dX4_undo_33 : decode cX4_undo 33 = .ok (.if_icmp .ge 29, 3) := by decide +kernel
theorem dX4_undo_36 : decode cX4_undo 36 = .ok (.aload_n 0, 1) := by decide +kernel
theorem dX4_undo_37 : decode cX4_undo 37 = .ok (.getfield 7, 3) := by decide +kernel
theorem dX4_undo_40 : decode cX4_undo 40 = .ok (.iload_n 1, 1) := by decide +kernel
theorem dX4_undo_41 : decode cX4_undo 41 = .ok (.aload_n 0, 1) := by decide +kernel
theorem dX4_undo_42 : decode cX4_undo 42 = .ok (.getfield 13, 3) := by decide +kernel
theorem dX4_undo_45 : decode cX4_undo 45 = .ok (.aload_n 0, 1) := by decide +kernel
theorem dX4_undo_46 : decode cX4_undo 46 = .ok (.getfield 42, 3) := by decide +kernel
theorem dX4_undo_49 : decode cX4_undo 49 = .ok (.bipush 56, 2) := by decide +kernel
theorem dX4_undo_51 : decode cX4_undo 51 = .ok (.imul, 1) := by decide +kernel
theorem dX4_undo_52 : decode cX4_undo 52 = .ok (.iload_n 1, 1) := by decide +kernel
theorem dX4_undo_53 : decode cX4_undo 53 = .ok (.iadd, 1) := by decide +kernel
theorem dX4_undo_54 : decode cX4_undo 54 = .ok (.iaload, 1) := by decide +kernel
theorem dX4_undo_55 : decode cX4_undo 55 = .ok (.iastore, 1) := by decide +kernel
theorem dX4_undo_56 : decode cX4_undo 56 = .ok (.iinc 1 1, 3) := by decide +kernel
theorem dX4_undo_59 : decode cX4_undo 59 = .ok (.goto (-29), 3) := by decide +kernel
theorem dX4_undo_62 : decode cX4_undo 62 = .ok (.aload_n 0, 1) := by decide +kernel
theorem dX4_undo_63 : decode cX4_undo 63 = .ok (.getfield 42, 3) := by decide +kernel
theorem dX4_undo_66 : decode cX4_undo 66 = .ok (.ireturn, 1) := by decide +kernel
set_option maxRecDepth 20000 in
theorem ggX4_keep_X4_within : GoodIn wsX4_keep wsX4_within := goodIn_r _ [8] (by decide +kernel) (by decide +kernel)
set_option maxRecDepth 20000 in
theorem gX4_keep_X4_within : GoodIn wsX4_keep (va_wsS RX4 38 yX4_within wsX4_within) := goodIn_app (goodIn_of _ (by decide +kernel)) ggX4_keep_X4_within
set_option maxRecDepth 20000 in
theorem ggX4_keep_X4_fails : GoodIn wsX4_keep wsX4_fails := goodIn_r _ [12, 1, 13, 14, 15, 16, 17, 18, 19, 20, 21, 22, 23, 24, 25, 26, 27] (by decide +kernel) (by decide +kernel)
set_option maxRecDepth 20000 in
theorem gX4_keep_X4_fails : GoodIn wsX4_keep (wsV RX4 45 RX4 yX4_fails wsX4_fails) := goodIn_app (goodIn_of _ (by decide +kernel)) ggX4_keep_X4_fails
theorem dX4_keep_0 : decode cX4_keep 0 = .ok (.aload_n 0, 1) := by decide +kernel
theorem dX4_keep_1 : decode cX4_keep 1 = .ok (.iconst 0, 1) := by decide +kernel
theorem dX4_keep_2 : decode cX4_keep 2 = .ok (.putfield 34, 3) := by decide +kernel
theorem dX4_keep_5 : decode cX4_keep 5 = .ok (.iload_n 1, 1) := by decide +kernel
theorem dX4_keep_6 : decode cX4_keep 6 = .ok (.iconst 0, 1) := by decide +kernel
theorem dX4_keep_7 : decode cX4_keep 7 = .ok (.iconst 1, 1) := by decide +kernel
theorem dX4_keep_8 : decode cX4_keep 8 = .ok (.invokestatic 38, 3) := by decide +kernel
theorem dX4_keep_11 : decode cX4_keep 11 = .ok (.ifCond .ne 9, 3) := by decide +kernel
theorem dX4_keep_14 : decode cX4_keep 14 = .ok (.aload_n 0, 1) := by decide +kernel
theorem dX4_keep_15 : decode cX4_keep 15 = .ok (.iconst 1, 1) := by decide +kernel
theorem dX4_keep_16 : decode cX4_keep 16 = .ok (.invokevirtual 45, 3) := by decide +kernel
theorem dX4_keep_19 : decode cX4_keep 19 = .ok (.ireturn, 1) := by decide +kernel
theorem dX4_keep_20 : decode cX4_keep 20 = .ok (.iconst 0, 1) := by decide +kernel
theorem dX4_keep_21 : decode cX4_keep 21 = .ok (.istore_n 2, 1) := by decide +kernel
theorem dX4_keep_22 : decode cX4_keep 22 = .ok (.iload_n 2, 1) := by decide +kernel
theorem dX4_keep_23 : decode cX4_keep 23 = .ok (.bipush 56, 2) := by decide +kernel
theorem dX4_keep_25 : decode cX4_keep 25 = .ok (.if_icmp .ge 26, 3) := by decide +kernel
theorem dX4_keep_28 : decode cX4_keep 28 = .ok (.aload_n 0, 1) := by decide +kernel
theorem dX4_keep_29 : decode cX4_keep 29 = .ok (.getfield 16, 3) := by decide +kernel
theorem dX4_keep_32 : decode cX4_keep 32 = .ok (.iload_n 1, 1) := by decide +kernel
theorem dX4_keep_33 : decode cX4_keep 33 = .ok (.bipush 56, 2) := by decide +kernel
theorem dX4_keep_35 : decode cX4_keep 35 = .ok (.imul, 1) := by decide +kernel
theorem dX4_keep_36 : decode cX4_keep 36 = .ok (.iload_n 2, 1) := by decide +kernel
theorem dX4_keep_37 : decode cX4_keep 37 = .ok (.iadd, 1) := by decide +kernel
theorem dX4_keep_38 : decode cX4_keep 38 = .ok (.aload_n 0, 1) := by decide +kernel
theorem dX4_keep_39 : decode cX4_keep 39 = .ok (.getfield 7, 3) := by decide +kernel
theorem dX4_keep_42 : decode cX4_keep 42 = .ok (.iload_n 2, 1) := by decide +kernel
theorem dX4_keep_43 : decode cX4_keep 43 = .ok (.iaload, 1) := by decide +kernel
theorem dX4_keep_44 : decode cX4_keep 44 = .ok (.iastore, 1) := by decide +kernel
theorem dX4_keep_45 : decode cX4_keep 45 = .ok (.iinc 2 1, 3) := by decide +kernel
theorem dX4_keep_48 : decode cX4_keep 48 = .ok (.goto (-26), 3) := by decide +kernel
theorem dX4_keep_51 : decode cX4_keep 51 = .ok (.aload_n 0, 1) := by decide +kernel
theorem dX4_keep_52 : decode cX4_keep 52 = .ok (.getfield 19, 3) := by decide +kernel
theorem dX4_keep_55 : decode cX4_keep 55 = .ok (.iload_n 1, 1) := by decide +kernel
theorem dX4_keep_56 : decode cX4_keep 56 = .ok (.iconst 1, 1) := by decide +kernel
theorem dX4_keep_57 : decode cX4_keep 57 = .ok (.iastore, 1) := by decide +kernel
theorem dX4_keep_58 : decode cX4_keep 58 = .ok (.aload_n 0, 1) := by decide +kernel
theorem dX4_keep_59 : decode cX4_keep 59 = .ok (.getfield 7, 3) := by decide +kernel
theorem dX4_keep_62 : decode cX4_keep 62 = .ok (.bipush 8, 2) := by decide +kernel
theorem dX4_keep_64 : decode cX4_keep 64 = .ok (.iaload, 1) := by decide +kernel
theorem dX4_keep_65 : decode cX4_keep 65 = .ok (.ireturn, 1) := by decide +kernel
set_option maxRecDepth 20000 in
theorem ggX4_goBack_X4_within : GoodIn wsX4_goBack wsX4_within := goodIn_r _ [8] (by decide +kernel) (by decide +kernel)
set_option maxRecDepth 20000 in
theorem gX4_goBack_X4_within : GoodIn wsX4_goBack (va_wsS RX4 38 yX4_within wsX4_within) := goodIn_app (goodIn_of _ (by decide +kernel)) ggX4_goBack_X4_within
set_option maxRecDepth 20000 in
theorem ggX4_goBack_X4_fails : GoodIn wsX4_goBack wsX4_fails := goodIn_r _ [12, 1, 19, 20, 21, 22, 23, 24, 25, 26, 27, 28, 29, 30, 31, 32, 33] (by decide +kernel) (by decide +kernel)
set_option maxRecDepth 20000 in
theorem gX4_goBack_X4_fails : GoodIn wsX4_goBack (wsV RX4 45 RX4 yX4_fails wsX4_fails) := goodIn_app (goodIn_of _ (by decide +kernel)) ggX4_goBack_X4_fails
set_option maxRecDepth 20000 in
theorem ggX4_goBack_X4_save : GoodIn wsX4_goBack wsX4_save := goodIn_r _ [16, 17, 18, 3, 19, 20, 21, 22, 23, 24, 25, 26, 27, 28, 29, 30, 31, 32, 33] (by decide +kernel) (by decide +kernel)
set_option maxRecDepth 20000 in
theorem gX4_goBack_X4_save : GoodIn wsX4_goBack (wsV RX4 49 RX4 yX4_save wsX4_save) := goodIn_app (goodIn_of _ (by decide +kernel)) ggX4_goBack_X4_save
theorem dX4_goBack_0 : decode cX4_goBack 0 = .ok (.aload_n 0, 1) := by decide +kernel
theorem dX4_goBack_1 : decode cX4_goBack 1 = .ok (.iconst 0, 1) := by decide +kernel
theorem dX4_goBack_2 : decode cX4_goBack 2 = .ok (.putfield 34, 3) := by decide +kernel
theorem dX4_goBack_5 : decode cX4_goBack 5 = .ok (.iload_n 1, 1) := by decide +kernel
theorem dX4_goBack_6 : decode cX4_goBack 6 = .ok (.iconst 0, 1) := by decide +kernel
theorem dX4_goBack_7 : decode cX4_goBack 7 = .ok (.iconst 1, 1) := by decide +kernel
theorem dX4_goBack_8 : decode cX4_goBack 8 = .ok (.invokestatic 38, 3) := by decide +kernel
theorem dX4_goBack_11 : decode cX4_goBack 11 = .ok (.ifCond .ne 9, 3) := by decide +kernel
theorem dX4_goBack_14 : decode cX4_goBack 14 = .ok (.aload_n 0, 1) := by decide +kernel
theorem dX4_goBack_15 : decode cX4_goBack 15 = .ok (.iconst 1, 1) := by decide +kernel
theorem dX4_goBack_16 : decode cX4_goBack 16 = .ok (.invokevirtual 45, 3) := by decide +kernel
theorem dX4_goBack_19 : decode cX4_goBack 19 = .ok (.ireturn, 1) := by decide +kernel
theorem dX4_goBack_20 : decode cX4_goBack 20 = .ok (.aload_n 0, 1) := by decide +kernel
theorem dX4_goBack_21 : decode cX4_goBack 21 = .ok (.getfield 19, 3) := by decide +kernel
theorem dX4_goBack_24 : decode cX4_goBack 24 = .ok (.iload_n 1, 1) := by decide +kernel
theorem dX4_goBack_25 : decode cX4_goBack 25 = .ok (.iaload, 1) := by decide +kernel
theorem dX4_goBack_26 : decode cX4_goBack 26 = .ok (.ifCond .ne 9, 3) := by decide +kernel
theorem dX4_goBack_29 : decode cX4_goBack 29 = .ok (.aload_n 0, 1) := by decide +kernel
theorem dX4_goBack_30 : decode cX4_goBack 30 = .ok (.iconst 2, 1) := by decide +kernel
theorem dX4_goBack_31 : decode cX4_goBack 31 = .ok (.invokevirtual 45, 3) := by decide +kernel
theorem dX4_goBack_34 : decode cX4_goBack 34 = .ok (.ireturn, 1) := by decide +kernel
theorem dX4_goBack_35 : decode cX4_goBack 35 = .ok (.aload_n 0, 1) := by decide +kernel
theorem dX4_goBack_36 : decode cX4_goBack 36 = .ok (.invokevirtual 49, 3) := by decide +kernel
theorem dX4_goBack_39 : decode cX4_goBack 39 = .ok (.iconst 0, 1) := by decide +kernel
theorem dX4_goBack_40 : decode cX4_goBack 40 = .ok (.istore_n 2, 1) := by decide +kernel
theorem dX4_goBack_41 : decode cX4_goBack 41 = .ok (.iload_n 2, 1) := by decide +kernel
theorem dX4_goBack_42 : decode cX4_goBack 42 = .ok (.bipush 56, 2) := by decide +kernel
theorem dX4_goBack_44 : decode cX4_goBack 44 = .ok (.if_icmp .ge 26, 3) := by decide +kernel
theorem dX4_goBack_47 : decode cX4_goBack 47 = .ok (.aload_n 0, 1) := by decide +kernel
theorem dX4_goBack_48 : decode cX4_goBack 48 = .ok (.getfield 7, 3) := by decide +kernel
theorem dX4_goBack_51 : decode cX4_goBack 51 = .ok (.iload_n 2, 1) := by decide +kernel
theorem dX4_goBack_52 : decode cX4_goBack 52 = .ok (.aload_n 0, 1) := by decide +kernel
theorem dX4_goBack_53 : decode cX4_goBack 53 = .ok (.getfield 16, 3) := by decide +kernel
theorem dX4_goBack_56 : decode cX4_goBack 56 = .ok (.iload_n 1, 1) := by decide +kernel
theorem dX4_goBack_57 : decode cX4_goBack 57 = .ok (.bipush 56, 2) := by decide +kernel
theorem dX4_goBack_59 : decode cX4_goBack 59 = .ok (.imul, 1) := by decide +kernel
theorem dX4_goBack_60 : decode cX4_goBack 60 = .ok (.iload_n 2, 1) := by decide +kernel
theorem dX4_goBack_61 : decode cX4_goBack 61 = .ok (.iadd, 1) := by decide +kernel
theorem dX4_goBack_62 : decode cX4_goBack 62 = .ok (.iaload, 1) := by decide +kernel
theorem dX4_goBack_63 : decode cX4_goBack 63 = .ok (.iastore, 1) := by decide +kernel
theorem dX4_goBack_64 : decode cX4_goBack 64 = .ok (.iinc 2 1, 3) := by decide +kernel
theorem dX4_goBack_67 : decode cX4_goBack 67 = .ok (.goto (-26), 3) := by decide +kernel
theorem dX4_goBack_70 : decode cX4_goBack 70 = .ok (.aload_n 0, 1) := by decide +kernel
theorem dX4_goBack_71 : decode cX4_goBack 71 = .ok (.getfield 7, 3) := by decide +kernel
theorem dX4_goBack_74 : decode cX4_goBack 74 = .ok (.bipush 8, 2) := by decide +kernel
theorem dX4_goBack_76 : decode cX4_goBack 76 = .ok (.iaload, 1) := by decide +kernel
theorem dX4_goBack_77 : decode cX4_goBack 77 = .ok (.ireturn, 1) := by decide +kernel
theorem dX4_placeAt_0 : decode cX4_placeAt 0 = .ok (.iload_n 1, 1) := by decide +kernel
theorem dX4_placeAt_1 : decode cX4_placeAt 1 = .ok (.ifCond .ne 7, 3) := by decide +kernel
theorem dX4_placeAt_4 : decode cX4_placeAt 4 = .ok (.iconst 0, 1) := by decide +kernel
theorem dX4_placeAt_5 : decode cX4_placeAt 5 = .ok (.goto 9, 3) := by decide +kernel
theorem dX4_placeAt_8 : decode cX4_placeAt 8 = .ok (.aload_n 0, 1) := by decide +kernel
theorem dX4_placeAt_9 : decode cX4_placeAt 9 = .ok (.getfield 7, 3) := by decide +kernel
theorem dX4_placeAt_12 : decode cX4_placeAt 12 = .ok (.iconst 0, 1) := by decide +kernel
theorem dX4_placeAt_13 : decode cX4_placeAt 13 = .ok (.iaload, 1) := by decide +kernel
theorem dX4_placeAt_14 : decode cX4_placeAt 14 = .ok (.aload_n 0, 1) := by decide +kernel
theorem dX4_placeAt_15 : decode cX4_placeAt 15 = .ok (.getfield 7, 3) := by decide +kernel
theorem dX4_placeAt_18 : decode cX4_placeAt 18 = .ok (.iconst 4, 1) := by decide +kernel
theorem dX4_placeAt_19 : decode cX4_placeAt 19 = .ok (.iload_n 1, 1) := by decide +kernel
theorem dX4_placeAt_20 : decode cX4_placeAt 20 = .ok (.iadd, 1) := by decide +kernel
theorem dX4_placeAt_21 : decode cX4_placeAt 21 = .ok (.iaload, 1) := by decide +kernel
theorem dX4_placeAt_22 : decode cX4_placeAt 22 = .ok (.iload_n 2, 1) := by decide +kernel
theorem dX4_placeAt_23 : decode cX4_placeAt 23 = .ok (.imul, 1) := by decide +kernel
theorem dX4_placeAt_24 : decode cX4_placeAt 24 = .ok (.bipush 10, 2) := by decide +kernel
theorem dX4_placeAt_26 : decode cX4_placeAt 26 = .ok (.idiv, 1) := by decide +kernel
theorem dX4_placeAt_27 : decode cX4_placeAt 27 = .ok (.iadd, 1) := by decide +kernel
theorem dX4_placeAt_28 : decode cX4_placeAt 28 = .ok (.ireturn, 1) := by decide +kernel
set_option maxRecDepth 20000 in
theorem ggX4_place_X4_placeAt : GoodIn wsX4_place wsX4_placeAt := goodIn_r _ [6, 1, 7, 8, 9, 10, 11, 12, 13, 14, 15, 16, 17, 18, 19, 20, 21] (by decide +kernel) (by decide +kernel)
set_option maxRecDepth 20000 in
theorem gX4_place_X4_placeAt : GoodIn wsX4_place (wsV RX4 52 RX4 yX4_placeAt wsX4_placeAt) := goodIn_app (goodIn_of _ (by decide +kernel)) ggX4_place_X4_placeAt
theorem dX4_place_0 : decode cX4_place 0 = .ok (.aload_n 0, 1) := by decide +kernel
theorem dX4_place_1 : decode cX4_place 1 = .ok (.iload_n 1, 1) := by decide +kernel
theorem dX4_place_2 : decode cX4_place 2 = .ok (.aload_n 0, 1) := by decide +kernel
theorem dX4_place_3 : decode cX4_place 3 = .ok (.getfield 7, 3) := by decide +kernel
theorem dX4_place_6 : decode cX4_place 6 = .ok (.bipush 12, 2) := by decide +kernel
theorem dX4_place_8 : decode cX4_place 8 = .ok (.iload_n 2, 1) := by decide +kernel
theorem dX4_place_9 : decode cX4_place 9 = .ok (.iadd, 1) := by decide +kernel
theorem dX4_place_10 : decode cX4_place 10 = .ok (.iaload, 1) := by decide +kernel
theorem dX4_place_11 : decode cX4_place 11 = .ok (.invokevirtual 52, 3) := by decide +kernel
theorem dX4_place_14 : decode cX4_place 14 = .ok (.ireturn, 1) := by decide +kernel
theorem dX4_lay_0 : decode cX4_lay 0 = .ok (.iconst 0, 1) := by decide +kernel
theorem dX4_lay_1 : decode cX4_lay 1 = .ok (.istore_n 2, 1) := by decide +kernel
theorem dX4_lay_2 : decode cX4_lay 2 = .ok (.iload_n 2, 1) := by decide +kernel
theorem dX4_lay_3 : decode cX4_lay 3 = .ok (.iconst 2, 1) := by decide +kernel
theorem dX4_lay_4 : decode cX4_lay 4 = .ok (.if_icmp .ge 137, 3) := by decide +kernel
theorem dX4_lay_7 : decode cX4_lay 7 = .ok (.sipush 1000, 3) := by decide +kernel
theorem dX4_lay_10 : decode cX4_lay 10 = .ok (.istore_n 3, 1) := by decide +kernel
theorem dX4_lay_11 : decode cX4_lay 11 = .ok (.iconst 0, 1) := by decide +kernel
theorem dX4_lay_12 : decode cX4_lay 12 = .ok (.istore 4, 2) := by decide +kernel
theorem dX4_lay_14 : decode cX4_lay 14 = .ok (.iconst 0, 1) := by decide +kernel
theorem dX4_lay_15 : decode cX4_lay 15 = .ok (.istore 5, 2) := by decide +kernel
theorem dX4_lay_17 : decode cX4_lay 17 = .ok (.iload 5, 2) := by decide +kernel
theorem dX4_lay_19 : decode cX4_lay 19 = .ok (.aload_n 0, 1) := by decide +kernel
theorem dX4_lay_20 : decode cX4_lay 20 = .ok (.getfield 7, 3) := by decide +kernel
theorem dX4_lay_23 : decode cX4_lay 23 = .ok (.bipush 8, 2) := by decide +kernel
theorem dX4_lay_25 : decode cX4_lay 25 = .ok (.iaload, 1) := by decide +kernel
theorem dX4_lay_26 : decode cX4_lay 26 = .ok (.if_icmp .ge 109, 3) := by decide +kernel
theorem dX4_lay_29 : decode cX4_lay 29 = .ok (.iload_n 3, 1) := by decide +kernel
theorem dX4_lay_30 : decode cX4_lay 30 = .ok (.i2l, 1) := by decide +kernel
theorem dX4_lay_31 : decode cX4_lay 31 = .ok (.iload_n 1, 1) := by decide +kernel
theorem dX4_lay_32 : decode cX4_lay 32 = .ok (.i2l, 1) := by decide +kernel
theorem dX4_lay_33 : decode cX4_lay 33 = .ok (.lmul, 1) := by decide +kernel
theorem dX4_lay_34 : decode cX4_lay 34 = .ok (.aload_n 0, 1) := by decide +kernel
theorem dX4_lay_35 : decode cX4_lay 35 = .ok (.getfield 7, 3) := by decide +kernel
theorem dX4_lay_38 : decode cX4_lay 38 = .ok (.bipush 12, 2) := by decide +kernel
theorem dX4_lay_40 : decode cX4_lay 40 = .ok (.iload 5, 2) := by decide +kernel
theorem dX4_lay_42 : decode cX4_lay 42 = .ok (.iadd, 1) := by decide +kernel
theorem dX4_lay_43 : decode cX4_lay 43 = .ok (.iaload, 1) := by decide +kernel
theorem dX4_lay_44 : decode cX4_lay 44 = .ok (.iload 4, 2) := by decide +kernel
theorem dX4_lay_46 : decode cX4_lay 46 = .ok (.isub, 1) := by decide +kernel
theorem dX4_lay_47 : decode cX4_lay 47 = .ok (.i2l, 1) := by decide +kernel
theorem dX4_lay_48 : decode cX4_lay 48 = .ok (.lmul, 1) := by decide +kernel
theorem dX4_lay_49 : decode cX4_lay 49 = .ok (.ldc2_w 56, 3) := by decide +kernel
theorem dX4_lay_52 : decode cX4_lay 52 = .ok (.ldiv, 1) := by decide +kernel
theorem dX4_lay_53 : decode cX4_lay 53 = .ok (.lstore 6, 2) := by decide +kernel
theorem dX4_lay_55 : decode cX4_lay 55 = .ok (.iload_n 3, 1) := by decide +kernel
theorem dX4_lay_56 : decode cX4_lay 56 = .ok (.lload 6, 2) := by decide +kernel
theorem dX4_lay_58 : decode cX4_lay 58 = .ok (.iload_n 3, 1) := by decide +kernel
theorem dX4_lay_59 : decode cX4_lay 59 = .ok (.i2l, 1) := by decide +kernel
theorem dX4_lay_60 : decode cX4_lay 60 = .ok (.lcmp, 1) := by decide +kernel
theorem dX4_lay_61 : decode cX4_lay 61 = .ok (.ifCond .ge 9, 3) := by decide +kernel
theorem dX4_lay_64 : decode cX4_lay 64 = .ok (.lload 6, 2) := by decide +kernel
theorem dX4_lay_66 : decode cX4_lay 66 = .ok (.l2i, 1) := by decide +kernel
theorem dX4_lay_67 : decode cX4_lay 67 = .ok (.goto 4, 3) := by decide +kernel
theorem dX4_lay_70 : decode cX4_lay 70 = .ok (.iload_n 3, 1) := by decide +kernel
theorem dX4_lay_71 : decode cX4_lay 71 = .ok (.isub, 1) := by decide +kernel
theorem dX4_lay_72 : decode cX4_lay 72 = .ok (.istore_n 3, 1) := by decide +kernel
theorem dX4_lay_73 : decode cX4_lay 73 = .ok (.aload_n 0, 1) := by decide +kernel
theorem dX4_lay_74 : decode cX4_lay 74 = .ok (.getfield 25, 3) := by decide +kernel
theorem dX4_lay_77 : decode cX4_lay 77 = .ok (.bipush 6, 2) := by decide +kernel
theorem dX4_lay_79 : decode cX4_lay 79 = .ok (.iload_n 2, 1) := by decide +kernel
theorem dX4_lay_80 : decode cX4_lay 80 = .ok (.imul, 1) := by decide +kernel
theorem dX4_lay_81 : decode cX4_lay 81 = .ok (.iload 5, 2) := by decide +kernel
theorem dX4_lay_83 : decode cX4_lay 83 = .ok (.iadd, 1) := by decide +kernel
theorem dX4_lay_84 : decode cX4_lay 84 = .ok (.iload_n 3, 1) := by decide +kernel
theorem dX4_lay_85 : decode cX4_lay 85 = .ok (.iastore, 1) := by decide +kernel
theorem dX4_lay_86 : decode cX4_lay 86 = .ok (.iload_n 3, 1) := by decide +kernel
theorem dX4_lay_87 : decode cX4_lay 87 = .ok (.iload_n 3, 1) := by decide +kernel
theorem dX4_lay_88 : decode cX4_lay 88 = .ok (.aload_n 0, 1) := by decide +kernel
theorem dX4_lay_89 : decode cX4_lay 89 = .ok (.getfield 7, 3) := by decide +kernel
theorem dX4_lay_92 : decode cX4_lay 92 = .ok (.bipush 18, 2) := by decide +kernel
theorem dX4_lay_94 : decode cX4_lay 94 = .ok (.iload 5, 2) := by decide +kernel
theorem dX4_lay_96 : decode cX4_lay 96 = .ok (.iadd, 1) := by decide +kernel
theorem dX4_lay_97 : decode cX4_lay 97 = .ok (.iaload, 1) := by decide +kernel
theorem dX4_lay_98 : decode cX4_lay 98 = .ok (.imul, 1) := by decide +kernel
theorem dX4_lay_99 : decode cX4_lay 99 = .ok (.bipush 100, 2) := by decide +kernel
theorem dX4_lay_101 : decode cX4_lay 101 = .ok (.idiv, 1) := by decide +kernel
theorem dX4_lay_102 : decode cX4_lay 102 = .ok (.isub, 1) := by decide +kernel
theorem dX4_lay_103 : decode cX4_lay 103 = .ok (.istore_n 3, 1) := by decide +kernel
theorem dX4_lay_104 : decode cX4_lay 104 = .ok (.aload_n 0, 1) := by decide +kernel
theorem dX4_lay_105 : decode cX4_lay 105 = .ok (.getfield 28, 3) := by decide +kernel
theorem dX4_lay_108 : decode cX4_lay 108 = .ok (.bipush 6, 2) := by decide +kernel
theorem dX4_lay_110 : decode cX4_lay 110 = .ok (.iload_n 2, 1) := by decide +kernel
theorem dX4_lay_111 : decode cX4_lay 111 = .ok (.imul, 1) := by decide +kernel
theorem dX4_lay_112 : decode cX4_lay 112 = .ok (.iload 5, 2) := by decide +kernel
theorem dX4_lay_114 : decode cX4_lay 114 = .ok (.iadd, 1) := by decide +kernel
theorem dX4_lay_115 : decode cX4_lay 115 = .ok (.iload_n 3, 1) := by decide +kernel
theorem dX4_lay_116 : decode cX4_lay 116 = .ok (.iastore, 1) := by decide +kernel
theorem dX4_lay_117 : decode cX4_lay 117 = .ok (.aload_n 0, 1) := by decide +kernel
theorem dX4_lay_118 : decode cX4_lay 118 = .ok (.getfield 7, 3) := by decide +kernel
theorem dX4_lay_121 : decode cX4_lay 121 = .ok (.bipush 12, 2) := by decide +kernel
theorem dX4_lay_123 : decode cX4_lay 123 = .ok (.iload 5, 2) := by decide +kernel
theorem dX4_lay_125 : decode cX4_lay 125 = .ok (.iadd, 1) := by decide +kernel
theorem dX4_lay_126 : decode cX4_lay 126 = .ok (.iaload, 1) := by decide +kernel
theorem dX4_lay_127 : decode cX4_lay 127 = .ok (.istore 4, 2) := by decide +kernel
theorem dX4_lay_129 : decode cX4_lay 129 = .ok (.iinc 5 1, 3) := by decide +kernel
theorem dX4_lay_132 : decode cX4_lay 132 = .ok (.goto (-115), 3) := by decide +kernel
theorem dX4_lay_135 : decode cX4_lay 135 = .ok (.iinc 2 1, 3) := by decide +kernel
theorem dX4_lay_138 : decode cX4_lay 138 = .ok (.goto (-136), 3) := by decide +kernel
theorem dX4_lay_141 : decode cX4_lay 141 = .ok (.return_, 1) := by decide +kernel
theorem dX4_brightness_0 : decode cX4_brightness 0 = .ok (.aload_n 0, 1) := by decide +kernel
theorem dX4_brightness_1 : decode cX4_brightness 1 = .ok (.getfield 25, 3) := by decide +kernel
theorem dX4_brightness_4 : decode cX4_brightness 4 = .ok (.bipush 6, 2) := by decide +kernel
theorem dX4_brightness_6 : decode cX4_brightness 6 = .ok (.iload_n 1, 1) := by decide +kernel
theorem dX4_brightness_7 : decode cX4_brightness 7 = .ok (.imul, 1) := by decide +kernel
theorem dX4_brightness_8 : decode cX4_brightness 8 = .ok (.iload_n 2, 1) := by decide +kernel
theorem dX4_brightness_9 : decode cX4_brightness 9 = .ok (.iadd, 1) := by decide +kernel
theorem dX4_brightness_10 : decode cX4_brightness 10 = .ok (.iaload, 1) := by decide +kernel
theorem dX4_brightness_11 : decode cX4_brightness 11 = .ok (.aload_n 0, 1) := by decide +kernel
theorem dX4_brightness_12 : decode cX4_brightness 12 = .ok (.getfield 28, 3) := by decide +kernel
theorem dX4_brightness_15 : decode cX4_brightness 15 = .ok (.bipush 6, 2) := by decide +kernel
theorem dX4_brightness_17 : decode cX4_brightness 17 = .ok (.iload_n 1, 1) := by decide +kernel
theorem dX4_brightness_18 : decode cX4_brightness 18 = .ok (.imul, 1) := by decide +kernel
theorem dX4_brightness_19 : decode cX4_brightness 19 = .ok (.iload_n 2, 1) := by decide +kernel
theorem dX4_brightness_20 : decode cX4_brightness 20 = .ok (.iadd, 1) := by decide +kernel
theorem dX4_brightness_21 : decode cX4_brightness 21 = .ok (.iaload, 1) := by decide +kernel
theorem dX4_brightness_22 : decode cX4_brightness 22 = .ok (.isub, 1) := by decide +kernel
theorem dX4_brightness_23 : decode cX4_brightness 23 = .ok (.ireturn, 1) := by decide +kernel
set_option maxRecDepth 20000 in
theorem ggX4_isSeen_X4_brightness : GoodIn wsX4_isSeen wsX4_brightness := goodIn_r _ [6, 7, 8, 9, 10, 11, 12, 13, 14, 15, 16, 17, 18, 19, 20, 21, 22, 23] (by decide +kernel) (by decide +kernel)
set_option maxRecDepth 20000 in
theorem gX4_isSeen_X4_brightness : GoodIn wsX4_isSeen (wsV RX4 58 RX4 yX4_brightness wsX4_brightness) := goodIn_app (goodIn_of _ (by decide +kernel)) ggX4_isSeen_X4_brightness
theorem dX4_isSeen_0 : decode cX4_isSeen 0 = .ok (.aload_n 0, 1) := by decide +kernel
theorem dX4_isSeen_1 : decode cX4_isSeen 1 = .ok (.getfield 7, 3) := by decide +kernel
theorem dX4_isSeen_4 : decode cX4_isSeen 4 = .ok (.bipush 6, 2) := by decide +kernel
theorem dX4_isSeen_6 : decode cX4_isSeen 6 = .ok (.iload_n 1, 1) := by decide +kernel
theorem dX4_isSeen_7 : decode cX4_isSeen 7 = .ok (.iadd, 1) := by decide +kernel
theorem dX4_isSeen_8 : decode cX4_isSeen 8 = .ok (.iaload, 1) := by decide +kernel
theorem dX4_isSeen_9 : decode cX4_isSeen 9 = .ok (.iconst 1, 1) := by decide +kernel
theorem dX4_isSeen_10 : decode cX4_isSeen 10 = .ok (.if_icmp .ne 22, 3) := by decide +kernel
theorem dX4_isSeen_13 : decode cX4_isSeen 13 = .ok (.aload_n 0, 1) := by decide +kernel
theorem dX4_isSeen_14 : decode cX4_isSeen 14 = .ok (.iload_n 1, 1) := by decide +kernel
theorem dX4_isSeen_15 : decode cX4_isSeen 15 = .ok (.iload_n 2, 1) := by decide +kernel
theorem dX4_isSeen_16 : decode cX4_isSeen 16 = .ok (.invokevirtual 58, 3) := by decide +kernel
theorem dX4_isSeen_19 : decode cX4_isSeen 19 = .ok (.aload_n 0, 1) := by decide +kernel
theorem dX4_isSeen_20 : decode cX4_isSeen 20 = .ok (.getfield 7, 3) := by decide +kernel
theorem dX4_isSeen_23 : decode cX4_isSeen 23 = .ok (.iconst 2, 1) := by decide +kernel
theorem dX4_isSeen_24 : decode cX4_isSeen 24 = .ok (.iaload, 1) := by decide +kernel
theorem dX4_isSeen_25 : decode cX4_isSeen 25 = .ok (.if_icmp .lt 7, 3) := by decide +kernel
theorem dX4_isSeen_28 : decode cX4_isSeen 28 = .ok (.iconst 1, 1) := by decide +kernel
theorem dX4_isSeen_29 : decode cX4_isSeen 29 = .ok (.goto 4, 3) := by decide +kernel
theorem dX4_isSeen_32 : decode cX4_isSeen 32 = .ok (.iconst 0, 1) := by decide +kernel
theorem dX4_isSeen_33 : decode cX4_isSeen 33 = .ok (.ireturn, 1) := by decide +kernel
set_option maxRecDepth 20000 in
theorem ggX4_isPair_X4_isSeen : GoodIn wsX4_isPair wsX4_isSeen := goodIn_r _ [5, 6, 7, 8, 9, 4, 10, 11, 12, 13, 14, 15, 16, 17, 18, 19, 20, 21, 22, 23, 24, 25, 26, 27] (by decide +kernel) (by decide +kernel)
set_option maxRecDepth 20000 in
theorem gX4_isPair_X4_isSeen : GoodIn wsX4_isPair (wsV RX4 61 RX4 yX4_isSeen wsX4_isSeen) := goodIn_app (goodIn_of _ (by decide +kernel)) ggX4_isPair_X4_isSeen
theorem dX4_isPair_0 : decode cX4_isPair 0 = .ok (.aload_n 0, 1) := by decide +kernel
theorem dX4_isPair_1 : decode cX4_isPair 1 = .ok (.iconst 0, 1) := by decide +kernel
theorem dX4_isPair_2 : decode cX4_isPair 2 = .ok (.iload_n 1, 1) := by decide +kernel
theorem dX4_isPair_3 : decode cX4_isPair 3 = .ok (.invokevirtual 61, 3) := by decide +kernel
theorem dX4_isPair_6 : decode cX4_isPair 6 = .ok (.ifCond .eq 16, 3) := by decide +kernel
theorem dX4_isPair_9 : decode cX4_isPair 9 = .ok (.aload_n 0, 1) := by decide +kernel
theorem dX4_isPair_10 : decode cX4_isPair 10 = .ok (.iconst 1, 1) := by decide +kernel
theorem dX4_isPair_11 : decode cX4_isPair 11 = .ok (.iload_n 1, 1) := by decide +kernel
theorem dX4_isPair_12 : decode cX4_isPair 12 = .ok (.invokevirtual 61, 3) := by decide +kernel
theorem dX4_isPair_15 : decode cX4_isPair 15 = .ok (.ifCond .eq 7, 3) := by decide +kernel
theorem dX4_isPair_18 : decode cX4_isPair 18 = .ok (.iconst 1, 1) := by decide +kernel
theorem dX4_isPair_19 : decode cX4_isPair 19 = .ok (.goto 4, 3) := by decide +kernel
theorem dX4_isPair_22 : decode cX4_isPair 22 = .ok (.iconst 0, 1) := by decide +kernel
theorem dX4_isPair_23 : decode cX4_isPair 23 = .ok (.ireturn, 1) := by decide +kernel
set_option maxRecDepth 20000 in
theorem ggX4_distance_X4_place : GoodIn wsX4_distance wsX4_place := goodIn_r _ [5, 6, 7, 8, 9, 4, 10, 11, 12, 13, 14, 15, 16, 17, 18, 19, 20, 21, 22, 23, 24, 25] (by decide +kernel) (by decide +kernel)
set_option maxRecDepth 20000 in
theorem gX4_distance_X4_place : GoodIn wsX4_distance (wsV RX4 65 RX4 yX4_place wsX4_place) := goodIn_app (goodIn_of _ (by decide +kernel)) ggX4_distance_X4_place
theorem dX4_distance_0 : decode cX4_distance 0 = .ok (.aload_n 0, 1) := by decide +kernel
theorem dX4_distance_1 : decode cX4_distance 1 = .ok (.iconst 1, 1) := by decide +kernel
theorem dX4_distance_2 : decode cX4_distance 2 = .ok (.iload_n 1, 1) := by decide +kernel
theorem dX4_distance_3 : decode cX4_distance 3 = .ok (.invokevirtual 65, 3) := by decide +kernel
theorem dX4_distance_6 : decode cX4_distance 6 = .ok (.aload_n 0, 1) := by decide +kernel
theorem dX4_distance_7 : decode cX4_distance 7 = .ok (.iconst 0, 1) := by decide +kernel
theorem dX4_distance_8 : decode cX4_distance 8 = .ok (.iload_n 1, 1) := by decide +kernel
theorem dX4_distance_9 : decode cX4_distance 9 = .ok (.invokevirtual 65, 3) := by decide +kernel
theorem dX4_distance_12 : decode cX4_distance 12 = .ok (.isub, 1) := by decide +kernel
theorem dX4_distance_13 : decode cX4_distance 13 = .ok (.ireturn, 1) := by decide +kernel
set_option maxRecDepth 20000 in
theorem ggX4_isClose_X4_isPair : GoodIn wsX4_isClose wsX4_isPair := goodIn_r _ [6, 7, 8, 9, 5, 10, 1, 11, 12, 13, 14, 15, 16, 32, 33, 34, 35, 36, 37, 38, 39, 40, 41, 42, 43, 44, 45, 46] (by decide +kernel) (by decide +kernel)
set_option maxRecDepth 20000 in
theorem gX4_isClose_X4_isPair : GoodIn wsX4_isClose (wsV RX4 68 RX4 yX4_isPair wsX4_isPair) := goodIn_app (goodIn_of _ (by decide +kernel)) ggX4_isClose_X4_isPair
set_option maxRecDepth 20000 in
theorem ggX4_isClose_X4_distance : GoodIn wsX4_isClose wsX4_distance := goodIn_r _ [20, 21, 22, 23, 5, 24, 1, 25, 26, 27, 28, 32, 33, 34, 35, 36, 37, 38, 39, 40, 41, 42, 43, 44, 45, 46] (by decide +kernel) (by decide +kernel)
set_option maxRecDepth 20000 in
theorem gX4_isClose_X4_distance : GoodIn wsX4_isClose (wsV RX4 72 RX4 yX4_distance wsX4_distance) := goodIn_app (goodIn_of _ (by decide +kernel)) ggX4_isClose_X4_distance
set_option maxRecDepth 20000 in
theorem ggX4_isClose_X4_sizeOf : GoodIn wsX4_isClose wsX4_sizeOf := goodIn_r _ [31] (by decide +kernel) (by decide +kernel)
set_option maxRecDepth 20000 in
theorem gX4_isClose_X4_sizeOf : GoodIn wsX4_isClose (va_wsS RX4 75 yX4_sizeOf wsX4_sizeOf) := goodIn_app (goodIn_of _ (by decide +kernel)) ggX4_isClose_X4_sizeOf
theorem dX4_isClose_0 : decode cX4_isClose 0 = .ok (.aload_n 0, 1) := by decide +kernel
theorem dX4_isClose_1 : decode cX4_isClose 1 = .ok (.iload_n 1, 1) := by decide +kernel
theorem dX4_isClose_2 : decode cX4_isClose 2 = .ok (.invokevirtual 68, 3) := by decide +kernel
theorem dX4_isClose_5 : decode cX4_isClose 5 = .ok (.ifCond .eq 24, 3) := by decide +kernel
theorem dX4_isClose_8 : decode cX4_isClose 8 = .ok (.aload_n 0, 1) := by decide +kernel
theorem dX4_isClose_9 : decode cX4_isClose 9 = .ok (.iload_n 1, 1) := by decide +kernel
theorem dX4_isClose_10 : decode cX4_isClose 10 = .ok (.invokevirtual 72, 3) := by decide +kernel
theorem dX4_isClose_13 : decode cX4_isClose 13 = .ok (.invokestatic 75, 3) := by decide +kernel
theorem dX4_isClose_16 : decode cX4_isClose 16 = .ok (.aload_n 0, 1) := by decide +kernel
theorem dX4_isClose_17 : decode cX4_isClose 17 = .ok (.getfield 7, 3) := by decide +kernel
theorem dX4_isClose_20 : decode cX4_isClose 20 = .ok (.iconst 3, 1) := by decide +kernel
theorem dX4_isClose_21 : decode cX4_isClose 21 = .ok (.iaload, 1) := by decide +kernel
theorem dX4_isClose_22 : decode cX4_isClose 22 = .ok (.if_icmp .gt 7, 3) := by decide +kernel
theorem dX4_isClose_25 : decode cX4_isClose 25 = .ok (.iconst 1, 1) := by decide +kernel
theorem dX4_isClose_26 : decode cX4_isClose 26 = .ok (.goto 4, 3) := by decide +kernel
theorem dX4_isClose_29 : decode cX4_isClose 29 = .ok (.iconst 0, 1) := by decide +kernel
theorem dX4_isClose_30 : decode cX4_isClose 30 = .ok (.ireturn, 1) := by decide +kernel
set_option maxRecDepth 20000 in
theorem ggX4_seenSpots_X4_isSeen : GoodIn wsX4_seenSpots wsX4_isSeen := goodIn_r _ [6, 1, 7, 8, 9, 5, 10, 11, 12, 13, 14, 15, 16, 17, 18, 19, 20, 21, 22, 23, 24, 25, 26, 27] (by decide +kernel) (by decide +kernel)
set_option maxRecDepth 20000 in
theorem gX4_seenSpots_X4_isSeen : GoodIn wsX4_seenSpots (wsV RX4 61 RX4 yX4_isSeen wsX4_isSeen) := goodIn_app (goodIn_of _ (by decide +kernel)) ggX4_seenSpots_X4_isSeen
theorem dX4_seenSpots_0 : decode cX4_seenSpots 0 = .ok (.iconst 0, 1) := by decide +kernel
theorem dX4_seenSpots_1 : decode cX4_seenSpots 1 = .ok (.istore_n 1, 1) := by decide +kernel
theorem dX4_seenSpots_2 : decode cX4_seenSpots 2 = .ok (.iconst 0, 1) := by decide +kernel
theorem dX4_seenSpots_3 : decode cX4_seenSpots 3 = .ok (.istore_n 2, 1) := by decide +kernel
theorem dX4_seenSpots_4 : decode cX4_seenSpots 4 = .ok (.iload_n 2, 1) := by decide +kernel
theorem dX4_seenSpots_5 : decode cX4_seenSpots 5 = .ok (.aload_n 0, 1) := by decide +kernel
theorem dX4_seenSpots_6 : decode cX4_seenSpots 6 = .ok (.getfield 7, 3) := by decide +kernel
theorem dX4_seenSpots_9 : decode cX4_seenSpots 9 = .ok (.bipush 8, 2) := by decide +kernel
theorem dX4_seenSpots_11 : decode cX4_seenSpots 11 = .ok (.iaload, 1) := by decide +kernel
theorem dX4_seenSpots_12 : decode cX4_seenSpots 12 = .ok (.if_icmp .ge 41, 3) := by decide +kernel
theorem dX4_seenSpots_15 : decode cX4_seenSpots 15 = .ok (.iload_n 1, 1) := by decide +kernel
theorem dX4_seenSpots_16 : decode cX4_seenSpots 16 = .ok (.aload_n 0, 1) := by decide +kernel
theorem dX4_seenSpots_17 : decode cX4_seenSpots 17 = .ok (.iconst 0, 1) := by decide +kernel
theorem dX4_seenSpots_18 : decode cX4_seenSpots 18 = .ok (.iload_n 2, 1) := by decide +kernel
theorem dX4_seenSpots_19 : decode cX4_seenSpots 19 = .ok (.invokevirtual 61, 3) := by decide +kernel
theorem dX4_seenSpots_22 : decode cX4_seenSpots 22 = .ok (.ifCond .eq 7, 3) := by decide +kernel
theorem dX4_seenSpots_25 : decode cX4_seenSpots 25 = .ok (.iconst 1, 1) := by decide +kernel
theorem dX4_seenSpots_26 : decode cX4_seenSpots 26 = .ok (.goto 4, 3) := by decide +kernel
theorem dX4_seenSpots_29 : decode cX4_seenSpots 29 = .ok (.iconst 0, 1) := by decide +kernel
theorem dX4_seenSpots_30 : decode cX4_seenSpots 30 = .ok (.aload_n 0, 1) := by decide +kernel
theorem dX4_seenSpots_31 : decode cX4_seenSpots 31 = .ok (.iconst 1, 1) := by decide +kernel
theorem dX4_seenSpots_32 : decode cX4_seenSpots 32 = .ok (.iload_n 2, 1) := by decide +kernel
theorem dX4_seenSpots_33 : decode cX4_seenSpots 33 = .ok (.invokevirtual 61, 3) := by decide +kernel
theorem dX4_seenSpots_36 : decode cX4_seenSpots 36 = .ok (.ifCond .eq 7, 3) := by decide +kernel
theorem dX4_seenSpots_39 : decode cX4_seenSpots 39 = .ok (.iconst 1, 1) := by decide +kernel
theorem dX4_seenSpots_40 : decode cX4_seenSpots 40 = .ok (.goto 4, 3) := by decide +kernel
theorem dX4_seenSpots_43 : decode cX4_seenSpots 43 = .ok (.iconst 0, 1) := by decide +kernel
theorem dX4_seenSpots_44 : decode cX4_seenSpots 44 = .ok (.iadd, 1) := by decide +kernel
theorem dX4_seenSpots_45 : decode cX4_seenSpots 45 = .ok (.iadd, 1) := by decide +kernel
theorem dX4_seenSpots_46 : decode cX4_seenSpots 46 = .ok (.istore_n 1, 1) := by decide +kernel
theorem dX4_seenSpots_47 : decode cX4_seenSpots 47 = .ok (.iinc 2 1, 3) := by decide +kernel
theorem dX4_seenSpots_50 : decode cX4_seenSpots 50 = .ok (.goto (-46), 3) := by decide +kernel
theorem dX4_seenSpots_53 : decode cX4_seenSpots 53 = .ok (.iload_n 1, 1) := by decide +kernel
theorem dX4_seenSpots_54 : decode cX4_seenSpots 54 = .ok (.ireturn, 1) := by decide +kernel
theorem dX4_meeting_0 : decode cX4_meeting 0 = .ok (.aload_n 0, 1) := by decide +kernel
theorem dX4_meeting_1 : decode cX4_meeting 1 = .ok (.getfield 7, 3) := by decide +kernel
theorem dX4_meeting_4 : decode cX4_meeting 4 = .ok (.iconst 4, 1) := by decide +kernel
theorem dX4_meeting_5 : decode cX4_meeting 5 = .ok (.iaload, 1) := by decide +kernel
theorem dX4_meeting_6 : decode cX4_meeting 6 = .ok (.aload_n 0, 1) := by decide +kernel
theorem dX4_meeting_7 : decode cX4_meeting 7 = .ok (.getfield 7, 3) := by decide +kernel
theorem dX4_meeting_10 : decode cX4_meeting 10 = .ok (.iconst 5, 1) := by decide +kernel
theorem dX4_meeting_11 : decode cX4_meeting 11 = .ok (.iaload, 1) := by decide +kernel
theorem dX4_meeting_12 : decode cX4_meeting 12 = .ok (.isub, 1) := by decide +kernel
theorem dX4_meeting_13 : decode cX4_meeting 13 = .ok (.istore_n 1, 1) := by decide +kernel
theorem dX4_meeting_14 : decode cX4_meeting 14 = .ok (.iload_n 1, 1) := by decide +kernel
theorem dX4_meeting_15 : decode cX4_meeting 15 = .ok (.ifCond .le 17, 3) := by decide +kernel
theorem dX4_meeting_18 : decode cX4_meeting 18 = .ok (.bipush 10, 2) := by decide +kernel
theorem dX4_meeting_20 : decode cX4_meeting 20 = .ok (.aload_n 0, 1) := by decide +kernel
theorem dX4_meeting_21 : decode cX4_meeting 21 = .ok (.getfield 7, 3) := by decide +kernel
theorem dX4_meeting_24 : decode cX4_meeting 24 = .ok (.iconst 0, 1) := by decide +kernel
theorem dX4_meeting_25 : decode cX4_meeting 25 = .ok (.iaload, 1) := by decide +kernel
theorem dX4_meeting_26 : decode cX4_meeting 26 = .ok (.imul, 1) := by decide +kernel
theorem dX4_meeting_27 : decode cX4_meeting 27 = .ok (.iload_n 1, 1) := by decide +kernel
theorem dX4_meeting_28 : decode cX4_meeting 28 = .ok (.idiv, 1) := by decide +kernel
theorem dX4_meeting_29 : decode cX4_meeting 29 = .ok (.goto 5, 3) := by decide +kernel
theorem dX4_meeting_32 : decode cX4_meeting 32 = .ok (.ldc 78, 2) := by decide +kernel
theorem dX4_meeting_34 : decode cX4_meeting 34 = .ok (.ireturn, 1) := by decide +kernel
set_option maxRecDepth 20000 in
theorem ggX4_closest_X4_isClose : GoodIn wsX4_closest wsX4_isClose := goodIn_r _ [7, 2, 8, 9, 10, 6, 11, 12, 13, 14, 15, 16, 17, 18, 19, 20, 21, 22, 23, 24, 25, 26, 27, 28, 29, 30, 31, 32, 33, 34, 35, 36, 37, 38, 39, 40, 41, 42, 43, 44, 45, 46, 47, 48, 49, 50, 51] (by decide +kernel) (by decide +kernel)
set_option maxRecDepth 20000 in
theorem gX4_closest_X4_isClose : GoodIn wsX4_closest (wsV RX4 79 RX4 yX4_isClose wsX4_isClose) := goodIn_app (goodIn_of _ (by decide +kernel)) ggX4_closest_X4_isClose
set_option maxRecDepth 20000 in
theorem ggX4_closest_X4_distance : GoodIn wsX4_closest wsX4_distance := goodIn_r _ [25, 26, 27, 28, 6, 29, 2, 30, 31, 32, 33, 37, 38, 39, 40, 41, 42, 43, 44, 45, 46, 47, 48, 49, 50, 51] (by decide +kernel) (by decide +kernel)
set_option maxRecDepth 20000 in
theorem gX4_closest_X4_distance : GoodIn wsX4_closest (wsV RX4 72 RX4 yX4_distance wsX4_distance) := goodIn_app (goodIn_of _ (by decide +kernel)) ggX4_closest_X4_distance
set_option maxRecDepth 20000 in
theorem ggX4_closest_X4_sizeOf : GoodIn wsX4_closest wsX4_sizeOf := goodIn_r _ [36] (by decide +kernel) (by decide +kernel)
set_option maxRecDepth 20000 in
theorem gX4_closest_X4_sizeOf : GoodIn wsX4_closest (va_wsS RX4 75 yX4_sizeOf wsX4_sizeOf) := goodIn_app (goodIn_of _ (by decide +kernel)) ggX4_closest_X4_sizeOf
theorem dX4_closest_0 : decode cX4_closest 0 = .ok (.ldc 78, 2) := by decide +kernel
theorem dX4_closest_2 : decode cX4_closest 2 = .ok (.istore_n 1, 1) := by decide +kernel
theorem dX4_closest_3 : decode cX4_closest 3 = .ok (.iconst 0, 1) := by decide +kernel
theorem dX4_closest_4 : decode cX4_closest 4 = .ok (.istore_n 2, 1) := by decide +kernel
theorem dX4_closest_5 : decode cX4_closest 5 = .ok (.iload_n 2, 1) := by decide +kernel
theorem dX4_closest_6 : decode cX4_closest 6 = .ok (.aload_n 0, 1) := by decide +kernel
theorem dX4_closest_7 : decode cX4_closest 7 = .ok (.getfield 7, 3) := by decide +kernel
theorem dX4_closest_10 : decode cX4_closest 10 = .ok (.bipush 8, 2) := by decide +kernel
theorem dX4_closest_12 : decode cX4_closest 12 = .ok (.iaload, 1) := by decide +kernel
theorem dX4_closest_13 : decode cX4_closest 13 = .ok (.if_icmp .ge 58, 3) := by decide +kernel
theorem dX4_closest_16 : decode cX4_closest 16 = .ok (.aload_n 0, 1) := by decide +kernel
theorem dX4_closest_17 : decode cX4_closest 17 = .ok (.iload_n 2, 1) := by decide +kernel
theorem dX4_closest_18 : decode cX4_closest 18 = .ok (.invokevirtual 79, 3) := by decide +kernel
theorem dX4_closest_21 : decode cX4_closest 21 = .ok (.ifCond .eq 32, 3) := by decide +kernel
theorem dX4_closest_24 : decode cX4_closest 24 = .ok (.iload_n 1, 1) := by decide +kernel
theorem dX4_closest_25 : decode cX4_closest 25 = .ok (.ldc 78, 2) := by decide +kernel
theorem dX4_closest_27 : decode cX4_closest 27 = .ok (.if_icmp .eq 22, 3) := by decide +kernel
theorem dX4_closest_30 : decode cX4_closest 30 = .ok (.aload_n 0, 1) := by decide +kernel
theorem dX4_closest_31 : decode cX4_closest 31 = .ok (.iload_n 2, 1) := by decide +kernel
theorem dX4_closest_32 : decode cX4_closest 32 = .ok (.invokevirtual 72, 3) := by decide +kernel
theorem dX4_closest_35 : decode cX4_closest 35 = .ok (.invokestatic 75, 3) := by decide +kernel
theorem dX4_closest_38 : decode cX4_closest 38 = .ok (.aload_n 0, 1) := by decide +kernel
theorem dX4_closest_39 : decode cX4_closest 39 = .ok (.iload_n 1, 1) := by decide +kernel
theorem dX4_closest_40 : decode cX4_closest 40 = .ok (.invokevirtual 72, 3) := by decide +kernel
theorem dX4_closest_43 : decode cX4_closest 43 = .ok (.invokestatic 75, 3) := by decide +kernel
theorem dX4_closest_46 : decode cX4_closest 46 = .ok (.if_icmp .ge 7, 3) := by decide +kernel
theorem dX4_closest_49 : decode cX4_closest 49 = .ok (.iconst 1, 1) := by decide +kernel
theorem dX4_closest_50 : decode cX4_closest 50 = .ok (.goto 4, 3) := by decide +kernel
theorem dX4_closest_53 : decode cX4_closest 53 = .ok (.iconst 0, 1) := by decide +kernel
theorem dX4_closest_54 : decode cX4_closest 54 = .ok (.istore_n 3, 1) := by decide +kernel
theorem dX4_closest_55 : decode cX4_closest 55 = .ok (.iload_n 3, 1) := by decide +kernel
theorem dX4_closest_56 : decode cX4_closest 56 = .ok (.ifCond .eq 7, 3) := by decide +kernel
theorem dX4_closest_59 : decode cX4_closest 59 = .ok (.iload_n 2, 1) := by decide +kernel
theorem dX4_closest_60 : decode cX4_closest 60 = .ok (.goto 4, 3) := by decide +kernel
theorem dX4_closest_63 : decode cX4_closest 63 = .ok (.iload_n 1, 1) := by decide +kernel
theorem dX4_closest_64 : decode cX4_closest 64 = .ok (.istore_n 1, 1) := by decide +kernel
theorem dX4_closest_65 : decode cX4_closest 65 = .ok (.iinc 2 1, 3) := by decide +kernel
theorem dX4_closest_68 : decode cX4_closest 68 = .ok (.goto (-63), 3) := by decide +kernel
theorem dX4_closest_71 : decode cX4_closest 71 = .ok (.iload_n 1, 1) := by decide +kernel
theorem dX4_closest_72 : decode cX4_closest 72 = .ok (.ireturn, 1) := by decide +kernel
set_option maxRecDepth 20000 in
theorem ggX4_isNearerElsewhere_X4_sizeOf : GoodIn wsX4_isNearerElsewhere wsX4_sizeOf := goodIn_r _ [5] (by decide +kernel) (by decide +kernel)
set_option maxRecDepth 20000 in
theorem gX4_isNearerElsewhere_X4_sizeOf : GoodIn wsX4_isNearerElsewhere (va_wsS RX4 75 yX4_sizeOf wsX4_sizeOf) := goodIn_app (goodIn_of _ (by decide +kernel)) ggX4_isNearerElsewhere_X4_sizeOf
theorem dX4_isNearerElsewhere_0 : decode cX4_isNearerElsewhere 0 = .ok (.iconst 0, 1) := by decide +kernel
theorem dX4_isNearerElsewhere_1 : decode cX4_isNearerElsewhere 1 = .ok (.istore_n 3, 1) := by decide +kernel
theorem dX4_isNearerElsewhere_2 : decode cX4_isNearerElsewhere 2 = .ok (.iconst 0, 1) := by decide +kernel
theorem dX4_isNearerElsewhere_3 : decode cX4_isNearerElsewhere 3 = .ok (.istore 4, 2) := by decide +kernel
theorem dX4_isNearerElsewhere_5 : decode cX4_isNearerElsewhere 5 = .ok (.iload 4, 2) := by decide +kernel
theorem dX4_isNearerElsewhere_7 : decode cX4_isNearerElsewhere 7 = .ok (.aload_n 0, 1) := by decide +kernel
theorem dX4_isNearerElsewhere_8 : decode cX4_isNearerElsewhere 8 = .ok (.getfield 7, 3) := by decide +kernel
theorem dX4_isNearerElsewhere_11 : decode cX4_isNearerElsewhere 11 = .ok (.bipush 8, 2) := by decide +kernel
theorem dX4_isNearerElsewhere_13 : decode cX4_isNearerElsewhere 13 = .ok (.iaload, 1) := by decide +kernel
theorem dX4_isNearerElsewhere_14 : decode cX4_isNearerElsewhere 14 = .ok (.if_icmp .ge 51, 3) := by decide +kernel
theorem dX4_isNearerElsewhere_17 : decode cX4_isNearerElsewhere 17 = .ok (.iload_n 3, 1) := by decide +kernel
theorem dX4_isNearerElsewhere_18 : decode cX4_isNearerElsewhere 18 = .ok (.ifCond .ne 35, 3) := by decide +kernel
theorem dX4_isNearerElsewhere_21 : decode cX4_isNearerElsewhere 21 = .ok (.aload_n 0, 1) := by decide +kernel
theorem dX4_isNearerElsewhere_22 : decode cX4_isNearerElsewhere 22 = .ok (.getfield 7, 3) := by decide +kernel
theorem dX4_isNearerElsewhere_25 : decode cX4_isNearerElsewhere 25 = .ok (.bipush 12, 2) := by decide +kernel
theorem dX4_isNearerElsewhere_27 : decode cX4_isNearerElsewhere 27 = .ok (.iload 4, 2) := by decide +kernel
theorem dX4_isNearerElsewhere_29 : decode cX4_isNearerElsewhere 29 = .ok (.iadd, 1) := by decide +kernel
theorem dX4_isNearerElsewhere_30 : decode cX4_isNearerElsewhere 30 = .ok (.iaload, 1) := by decide +kernel
theorem dX4_isNearerElsewhere_31 : decode cX4_isNearerElsewhere 31 = .ok (.iload_n 1, 1) := by decide +kernel
theorem dX4_isNearerElsewhere_32 : decode cX4_isNearerElsewhere 32 = .ok (.isub, 1) := by decide +kernel
theorem dX4_isNearerElsewhere_33 : decode cX4_isNearerElsewhere 33 = .ok (.invokestatic 75, 3) := by decide +kernel
theorem dX4_isNearerElsewhere_36 : decode cX4_isNearerElsewhere 36 = .ok (.aload_n 0, 1) := by decide +kernel
theorem dX4_isNearerElsewhere_37 : decode cX4_isNearerElsewhere 37 = .ok (.getfield 7, 3) := by decide +kernel
theorem dX4_isNearerElsewhere_40 : decode cX4_isNearerElsewhere 40 = .ok (.bipush 12, 2) := by decide +kernel
theorem dX4_isNearerElsewhere_42 : decode cX4_isNearerElsewhere 42 = .ok (.iload_n 2, 1) := by decide +kernel
theorem dX4_isNearerElsewhere_43 : decode cX4_isNearerElsewhere 43 = .ok (.iadd, 1) := by decide +kernel
theorem dX4_isNearerElsewhere_44 : decode cX4_isNearerElsewhere 44 = .ok (.iaload, 1) := by decide +kernel
theorem dX4_isNearerElsewhere_45 : decode cX4_isNearerElsewhere 45 = .ok (.iload_n 1, 1) := by decide +kernel
theorem dX4_isNearerElsewhere_46 : decode cX4_isNearerElsewhere 46 = .ok (.isub, 1) := by decide +kernel
theorem dX4_isNearerElsewhere_47 : decode cX4_isNearerElsewhere 47 = .ok (.invokestatic 75, 3) := by decide +kernel
theorem dX4_isNearerElsewhere_50 : decode cX4_isNearerElsewhere 50 = .ok (.if_icmp .ge 7, 3) := by decide +kernel
theorem dX4_isNearerElsewhere_53 : decode cX4_isNearerElsewhere 53 = .ok (.iconst 1, 1) := by decide +kernel
theorem dX4_isNearerElsewhere_54 : decode cX4_isNearerElsewhere 54 = .ok (.goto 4, 3) := by decide +kernel
theorem dX4_isNearerElsewhere_57 : decode cX4_isNearerElsewhere 57 = .ok (.iconst 0, 1) := by decide +kernel
theorem dX4_isNearerElsewhere_58 : decode cX4_isNearerElsewhere 58 = .ok (.istore_n 3, 1) := by decide +kernel
theorem dX4_isNearerElsewhere_59 : decode cX4_isNearerElsewhere 59 = .ok (.iinc 4 1, 3) := by decide +kernel
theorem dX4_isNearerElsewhere_62 : decode cX4_isNearerElsewhere 62 = .ok (.goto (-57), 3) := by decide +kernel
theorem dX4_isNearerElsewhere_65 : decode cX4_isNearerElsewhere 65 = .ok (.iload_n 3, 1) := by decide +kernel
theorem dX4_isNearerElsewhere_66 : decode cX4_isNearerElsewhere 66 = .ok (.ireturn, 1) := by decide +kernel
set_option maxRecDepth 20000 in
theorem ggX4_read_X4_lay : GoodIn wsX4_read wsX4_lay := goodIn_r _ [8, 1, 9, 10, 11, 55, 56, 57, 58, 59, 60, 61, 62, 63, 64, 65, 66, 67, 68, 69] (by decide +kernel) (by decide +kernel)
set_option maxRecDepth 20000 in
theorem gX4_read_X4_lay : GoodIn wsX4_read (wsV RX4 82 RX4 yX4_lay wsX4_lay) := goodIn_app (goodIn_of _ (by decide +kernel)) ggX4_read_X4_lay
set_option maxRecDepth 20000 in
theorem ggX4_read_X4_meeting : GoodIn wsX4_read wsX4_meeting := goodIn_r _ [15, 1, 2, 55, 56, 57, 58, 59, 60, 61, 62, 63, 64, 65, 66, 67, 68, 69] (by decide +kernel) (by decide +kernel)
set_option maxRecDepth 20000 in
theorem gX4_read_X4_meeting : GoodIn wsX4_read (wsV RX4 86 RX4 yX4_meeting wsX4_meeting) := goodIn_app (goodIn_of _ (by decide +kernel)) ggX4_read_X4_meeting
set_option maxRecDepth 20000 in
theorem ggX4_read_X4_closest : GoodIn wsX4_read wsX4_closest := goodIn_r _ [19, 2, 1, 20, 21, 22, 7, 23, 24, 25, 26, 27, 28, 29, 30, 31, 32, 33, 34, 35, 10, 11, 36, 37, 38, 39, 40, 41, 42, 43, 44, 45, 46, 47, 48, 49, 50, 55, 56, 57, 58, 59, 60, 61, 62, 63, 64, 65, 66, 67, 68, 69] (by decide +kernel) (by decide +kernel)
set_option maxRecDepth 20000 in
theorem gX4_read_X4_closest : GoodIn wsX4_read (wsV RX4 90 RX4 yX4_closest wsX4_closest) := goodIn_app (goodIn_of _ (by decide +kernel)) ggX4_read_X4_closest
set_option maxRecDepth 20000 in
theorem ggX4_read_X4_isNearerElsewhere : GoodIn wsX4_read wsX4_isNearerElsewhere := goodIn_r _ [54, 1, 48, 49, 7, 50, 55, 56, 57, 58, 59, 60, 61, 62, 63, 64, 65, 66, 67, 68, 69] (by decide +kernel) (by decide +kernel)
set_option maxRecDepth 20000 in
theorem gX4_read_X4_isNearerElsewhere : GoodIn wsX4_read (wsV RX4 93 RX4 yX4_isNearerElsewhere wsX4_isNearerElsewhere) := goodIn_app (goodIn_of _ (by decide +kernel)) ggX4_read_X4_isNearerElsewhere
