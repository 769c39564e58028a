theorem dX2_bestSlope_0 : decode cX2_bestSlope 0 = .ok (.aload_n 0, 1) := by decide +kernel
theorem dX2_bestSlope_1 : decode cX2_bestSlope 1 = .ok (.getfield 9, 3) := by decide +kernel
theorem dX2_bestSlope_4 : decode cX2_bestSlope 4 = .ok (.iload_n 2, 1) := by decide +kernel
theorem dX2_bestSlope_5 : decode cX2_bestSlope 5 = .ok (.iaload, 1) := by decide +kernel
theorem dX2_bestSlope_6 : decode cX2_bestSlope 6 = .ok (.istore 5, 2) := by decide +kernel
theorem dX2_bestSlope_8 : decode cX2_bestSlope 8 = .ok (.aload_n 0, 1) := by decide +kernel
theorem dX2_bestSlope_9 : decode cX2_bestSlope 9 = .ok (.iconst 1, 1) := by decide +kernel
theorem dX2_bestSlope_10 : decode cX2_bestSlope 10 = .ok (.iload_n 1, 1) := by decide +kernel
theorem dX2_bestSlope_11 : decode cX2_bestSlope 11 = .ok (.isub, 1) := by decide +kernel
theorem dX2_bestSlope_12 : decode cX2_bestSlope 12 = .ok (.aload_n 0, 1) := by decide +kernel
theorem dX2_bestSlope_13 : decode cX2_bestSlope 13 = .ok (.getfield 18, 3) := by decide +kernel
theorem dX2_bestSlope_16 : decode cX2_bestSlope 16 = .ok (.iconst 1, 1) := by decide +kernel
theorem dX2_bestSlope_17 : decode cX2_bestSlope 17 = .ok (.iload_n 1, 1) := by decide +kernel
theorem dX2_bestSlope_18 : decode cX2_bestSlope 18 = .ok (.isub, 1) := by decide +kernel
theorem dX2_bestSlope_19 : decode cX2_bestSlope 19 = .ok (.iaload, 1) := by decide +kernel
theorem dX2_bestSlope_20 : decode cX2_bestSlope 20 = .ok (.iload 5, 2) := by decide +kernel
theorem dX2_bestSlope_22 : decode cX2_bestSlope 22 = .ok (.invokevirtual 56, 3) := by decide +kernel
theorem dX2_bestSlope_25 : decode cX2_bestSlope 25 = .ok (.istore 6, 2) := by decide +kernel
theorem dX2_bestSlope_27 : decode cX2_bestSlope 27 = .ok (.iload_n 3, 1) := by decide +kernel
theorem dX2_bestSlope_28 : decode cX2_bestSlope 28 = .ok (.istore 7, 2) := by decide +kernel
theorem dX2_bestSlope_30 : decode cX2_bestSlope 30 = .ok (.aload_n 0, 1) := by decide +kernel
theorem dX2_bestSlope_31 : decode cX2_bestSlope 31 = .ok (.iload_n 1, 1) := by decide +kernel
theorem dX2_bestSlope_32 : decode cX2_bestSlope 32 = .ok (.iload_n 3, 1) := by decide +kernel
theorem dX2_bestSlope_33 : decode cX2_bestSlope 33 = .ok (.iload 5, 2) := by decide +kernel
theorem dX2_bestSlope_35 : decode cX2_bestSlope 35 = .ok (.invokevirtual 56, 3) := by decide +kernel
theorem dX2_bestSlope_38 : decode cX2_bestSlope 38 = .ok (.iload 6, 2) := by decide +kernel
theorem dX2_bestSlope_40 : decode cX2_bestSlope 40 = .ok (.isub, 1) := by decide +kernel
theorem dX2_bestSlope_41 : decode cX2_bestSlope 41 = .ok (.invokestatic 91, 3) := by decide +kernel
theorem dX2_bestSlope_44 : decode cX2_bestSlope 44 = .ok (.istore 8, 2) := by decide +kernel
theorem dX2_bestSlope_46 : decode cX2_bestSlope 46 = .ok (.iload_n 3, 1) := by decide +kernel
theorem dX2_bestSlope_47 : decode cX2_bestSlope 47 = .ok (.iconst 1, 1) := by decide +kernel
theorem dX2_bestSlope_48 : decode cX2_bestSlope 48 = .ok (.iadd, 1) := by decide +kernel
theorem dX2_bestSlope_49 : decode cX2_bestSlope 49 = .ok (.istore 9, 2) := by decide +kernel
theorem dX2_bestSlope_51 : decode cX2_bestSlope 51 = .ok (.iload 9, 2) := by decide +kernel
theorem dX2_bestSlope_53 : decode cX2_bestSlope 53 = .ok (.iload 4, 2) := by decide +kernel
theorem dX2_bestSlope_55 : decode cX2_bestSlope 55 = .ok (.if_icmp .gt 41, 3) := by decide +kernel
theorem dX2_bestSlope_58 : decode cX2_bestSlope 58 = .ok (.aload_n 0, 1) := by decide +kernel
theorem dX2_bestSlope_59 : decode cX2_bestSlope 59 = .ok (.iload_n 1, 1) := by decide +kernel
theorem dX2_bestSlope_60 : decode cX2_bestSlope 60 = .ok (.iload 9, 2) := by decide +kernel
theorem dX2_bestSlope_62 : decode cX2_bestSlope 62 = .ok (.iload 5, 2) := by decide +kernel
theorem dX2_bestSlope_64 : decode cX2_bestSlope 64 = .ok (.invokevirtual 56, 3) := by decide +kernel
theorem dX2_bestSlope_67 : decode cX2_bestSlope 67 = .ok (.iload 6, 2) := by decide +kernel
theorem dX2_bestSlope_69 : decode cX2_bestSlope 69 = .ok (.isub, 1) := by decide +kernel
theorem dX2_bestSlope_70 : decode cX2_bestSlope 70 = .ok (.invokestatic 91, 3) := by decide +kernel
theorem dX2_bestSlope_73 : decode cX2_bestSlope 73 = .ok (.istore 10, 2) := by decide +kernel
theorem dX2_bestSlope_75 : decode cX2_bestSlope 75 = .ok (.iload 10, 2) := by decide +kernel
theorem dX2_bestSlope_77 : decode cX2_bestSlope 77 = .ok (.iload 8, 2) := by decide +kernel
theorem dX2_bestSlope_79 : decode cX2_bestSlope 79 = .ok (.if_icmp .ge 11, 3) := by decide +kernel
theorem dX2_bestSlope_82 : decode cX2_bestSlope 82 = .ok (.iload 9, 2) := by decide +kernel
theorem dX2_bestSlope_84 : decode cX2_bestSlope 84 = .ok (.istore 7, 2) := by decide +kernel
theorem dX2_bestSlope_86 : decode cX2_bestSlope 86 = .ok (.iload 10, 2) := by decide +kernel
theorem dX2_bestSlope_88 : decode cX2_bestSlope 88 = .ok (.istore 8, 2) := by decide +kernel
theorem dX2_bestSlope_90 : decode cX2_bestSlope 90 = .ok (.iinc 9 1, 3) := by decide +kernel
theorem dX2_bestSlope_93 : decode cX2_bestSlope 93 = .ok (.goto (-42), 3) := by decide +kernel
theorem dX2_bestSlope_96 : decode cX2_bestSlope 96 = .ok (.iload 7, 2) := by decide +kernel
theorem dX2_bestSlope_98 : decode cX2_bestSlope 98 = .ok (.ireturn, 1) := by decide +kernel
set_option maxRecDepth 20000 in
theorem ggX2_layerOfReadingWith_X2_layerOfReading : GoodIn wsX2_layerOfReadingWith wsX2_layerOfReading := goodIn_r _ [6, 7, 8, 9, 10, 11, 12, 13, 14, 15, 16, 5, 17, 18, 19, 20, 21, 22, 23, 24, 25, 26, 27, 28, 29, 30, 31, 32, 33, 34, 35, 36, 37, 38, 39, 40, 41] (by decide +kernel) (by decide +kernel)
set_option maxRecDepth 20000 in
theorem gX2_layerOfReadingWith_X2_layerOfReading : GoodIn wsX2_layerOfReadingWith (wsV RX2 99 RX2 yX2_layerOfReading wsX2_layerOfReading) := goodIn_app (goodIn_of _ (by decide +kernel)) ggX2_layerOfReadingWith_X2_layerOfReading
theorem dX2_layerOfReadingWith_0 : decode cX2_layerOfReadingWith 0 = .ok (.iload_n 1, 1) := by decide +kernel
theorem dX2_layerOfReadingWith_1 : decode cX2_layerOfReadingWith 1 = .ok (.ifCond .ne 17, 3) := by decide +kernel
theorem dX2_layerOfReadingWith_4 : decode cX2_layerOfReadingWith 4 = .ok (.aload_n 0, 1) := by decide +kernel
theorem dX2_layerOfReadingWith_5 : decode cX2_layerOfReadingWith 5 = .ok (.iload_n 2, 1) := by decide +kernel
theorem dX2_layerOfReadingWith_6 : decode cX2_layerOfReadingWith 6 = .ok (.aload_n 0, 1) := by decide +kernel
theorem dX2_layerOfReadingWith_7 : decode cX2_layerOfReadingWith 7 = .ok (.getfield 18, 3) := by decide +kernel
theorem dX2_layerOfReadingWith_10 : decode cX2_layerOfReadingWith 10 = .ok (.iconst 1, 1) := by decide +kernel
theorem dX2_layerOfReadingWith_11 : decode cX2_layerOfReadingWith 11 = .ok (.iaload, 1) := by decide +kernel
theorem dX2_layerOfReadingWith_12 : decode cX2_layerOfReadingWith 12 = .ok (.invokevirtual 99, 3) := by decide +kernel
theorem dX2_layerOfReadingWith_15 : decode cX2_layerOfReadingWith 15 = .ok (.goto 14, 3) := by decide +kernel
theorem dX2_layerOfReadingWith_18 : decode cX2_layerOfReadingWith 18 = .ok (.aload_n 0, 1) := by decide +kernel
theorem dX2_layerOfReadingWith_19 : decode cX2_layerOfReadingWith 19 = .ok (.aload_n 0, 1) := by decide +kernel
theorem dX2_layerOfReadingWith_20 : decode cX2_layerOfReadingWith 20 = .ok (.getfield 18, 3) := by decide +kernel
theorem dX2_layerOfReadingWith_23 : decode cX2_layerOfReadingWith 23 = .ok (.iconst 0, 1) := by decide +kernel
theorem dX2_layerOfReadingWith_24 : decode cX2_layerOfReadingWith 24 = .ok (.iaload, 1) := by decide +kernel
theorem dX2_layerOfReadingWith_25 : decode cX2_layerOfReadingWith 25 = .ok (.iload_n 2, 1) := by decide +kernel
theorem dX2_layerOfReadingWith_26 : decode cX2_layerOfReadingWith 26 = .ok (.invokevirtual 99, 3) := by decide +kernel
theorem dX2_layerOfReadingWith_29 : decode cX2_layerOfReadingWith 29 = .ok (.ireturn, 1) := by decide +kernel
set_option maxRecDepth 20000 in
theorem ggX2_isFalseWith_X2_meetingHeight : GoodIn wsX2_isFalseWith wsX2_meetingHeight := goodIn_r _ [6, 7, 8, 19, 20, 21, 22, 23, 24, 25] (by decide +kernel) (by decide +kernel)
set_option maxRecDepth 20000 in
theorem gX2_isFalseWith_X2_meetingHeight : GoodIn wsX2_isFalseWith (wsV RX2 102 RX2 yX2_meetingHeight wsX2_meetingHeight) := goodIn_app (goodIn_of _ (by decide +kernel)) ggX2_isFalseWith_X2_meetingHeight
set_option maxRecDepth 20000 in
theorem ggX2_isFalseWith_X2_isFalse : GoodIn wsX2_isFalseWith wsX2_isFalse := goodIn_r _ [12, 13, 14, 15, 16, 17, 18, 19, 20, 21, 22, 23, 24, 25] (by decide +kernel) (by decide +kernel)
set_option maxRecDepth 20000 in
theorem gX2_isFalseWith_X2_isFalse : GoodIn wsX2_isFalseWith (wsV RX2 105 RX2 yX2_isFalse wsX2_isFalse) := goodIn_app (goodIn_of _ (by decide +kernel)) ggX2_isFalseWith_X2_isFalse
theorem dX2_isFalseWith_0 : decode cX2_isFalseWith 0 = .ok (.iload_n 1, 1) := by decide +kernel
theorem dX2_isFalseWith_1 : decode cX2_isFalseWith 1 = .ok (.ifCond .ne 17, 3) := by decide +kernel
theorem dX2_isFalseWith_4 : decode cX2_isFalseWith 4 = .ok (.aload_n 0, 1) := by decide +kernel
theorem dX2_isFalseWith_5 : decode cX2_isFalseWith 5 = .ok (.iload_n 2, 1) := by decide +kernel
theorem dX2_isFalseWith_6 : decode cX2_isFalseWith 6 = .ok (.aload_n 0, 1) := by decide +kernel
theorem dX2_isFalseWith_7 : decode cX2_isFalseWith 7 = .ok (.getfield 18, 3) := by decide +kernel
theorem dX2_isFalseWith_10 : decode cX2_isFalseWith 10 = .ok (.iconst 1, 1) := by decide +kernel
theorem dX2_isFalseWith_11 : decode cX2_isFalseWith 11 = .ok (.iaload, 1) := by decide +kernel
theorem dX2_isFalseWith_12 : decode cX2_isFalseWith 12 = .ok (.invokevirtual 102, 3) := by decide +kernel
theorem dX2_isFalseWith_15 : decode cX2_isFalseWith 15 = .ok (.goto 14, 3) := by decide +kernel
theorem dX2_isFalseWith_18 : decode cX2_isFalseWith 18 = .ok (.aload_n 0, 1) := by decide +kernel
theorem dX2_isFalseWith_19 : decode cX2_isFalseWith 19 = .ok (.aload_n 0, 1) := by decide +kernel
theorem dX2_isFalseWith_20 : decode cX2_isFalseWith 20 = .ok (.getfield 18, 3) := by decide +kernel
theorem dX2_isFalseWith_23 : decode cX2_isFalseWith 23 = .ok (.iconst 0, 1) := by decide +kernel
theorem dX2_isFalseWith_24 : decode cX2_isFalseWith 24 = .ok (.iaload, 1) := by decide +kernel
theorem dX2_isFalseWith_25 : decode cX2_isFalseWith 25 = .ok (.iload_n 2, 1) := by decide +kernel
theorem dX2_isFalseWith_26 : decode cX2_isFalseWith 26 = .ok (.invokevirtual 102, 3) := by decide +kernel
theorem dX2_isFalseWith_29 : decode cX2_isFalseWith 29 = .ok (.istore 4, 2) := by decide +kernel
theorem dX2_isFalseWith_31 : decode cX2_isFalseWith 31 = .ok (.aload_n 0, 1) := by decide +kernel
theorem dX2_isFalseWith_32 : decode cX2_isFalseWith 32 = .ok (.iload 4, 2) := by decide +kernel
theorem dX2_isFalseWith_34 : decode cX2_isFalseWith 34 = .ok (.iload_n 3, 1) := by decide +kernel
theorem dX2_isFalseWith_35 : decode cX2_isFalseWith 35 = .ok (.invokevirtual 105, 3) := by decide +kernel
theorem dX2_isFalseWith_38 : decode cX2_isFalseWith 38 = .ok (.ireturn, 1) := by decide +kernel
set_option maxRecDepth 20000 in
theorem ggX2_slopesWithReading_X2_layerOfReadingWith : GoodIn wsX2_slopesWithReading wsX2_layerOfReadingWith := goodIn_r _ [5, 6, 7, 8, 9, 4, 10, 11, 12, 13, 14, 15, 16, 17, 18, 19, 20, 21, 22, 23, 24, 25, 26, 27, 28, 29, 30, 31, 32, 33, 34, 35, 36, 37, 38, 52, 53, 54, 55, 56, 57, 58] (by decide +kernel) (by decide +kernel)
set_option maxRecDepth 20000 in
theorem gX2_slopesWithReading_X2_layerOfReadingWith : GoodIn wsX2_slopesWithReading (wsV RX2 123 RX2 yX2_layerOfReadingWith wsX2_layerOfReadingWith) := goodIn_app (goodIn_of _ (by decide +kernel)) ggX2_slopesWithReading_X2_layerOfReadingWith
set_option maxRecDepth 20000 in
theorem ggX2_slopesWithReading_X2_isFalseWith : GoodIn wsX2_slopesWithReading wsX2_isFalseWith := goodIn_r _ [42, 6, 43, 44, 45, 4, 46, 12, 47, 48, 49, 50, 51, 22, 14, 15, 16, 17, 13, 52, 53, 54, 55, 56, 57, 58] (by decide +kernel) (by decide +kernel)
set_option maxRecDepth 20000 in
theorem gX2_slopesWithReading_X2_isFalseWith : GoodIn wsX2_slopesWithReading (wsV RX2 126 RX2 yX2_isFalseWith wsX2_isFalseWith) := goodIn_app (goodIn_of _ (by decide +kernel)) ggX2_slopesWithReading_X2_isFalseWith
theorem dX2_slopesWithReading_0 : decode cX2_slopesWithReading 0 = .ok (.iconst 0, 1) := by decide +kernel
theorem dX2_slopesWithReading_1 : decode cX2_slopesWithReading 1 = .ok (.istore_n 3, 1) := by decide +kernel
theorem dX2_slopesWithReading_2 : decode cX2_slopesWithReading 2 = .ok (.bipush (-30), 2) := by decide +kernel
theorem dX2_slopesWithReading_4 : decode cX2_slopesWithReading 4 = .ok (.istore 4, 2) := by decide +kernel
theorem dX2_slopesWithReading_6 : decode cX2_slopesWithReading 6 = .ok (.iload 4, 2) := by decide +kernel
theorem dX2_slopesWithReading_8 : decode cX2_slopesWithReading 8 = .ok (.bipush 30, 2) := by decide +kernel
theorem dX2_slopesWithReading_10 : decode cX2_slopesWithReading 10 = .ok (.if_icmp .gt 43, 3) := by decide +kernel
theorem dX2_slopesWithReading_13 : decode cX2_slopesWithReading 13 = .ok (.aload_n 0, 1) := by decide +kernel
theorem dX2_slopesWithReading_14 : decode cX2_slopesWithReading 14 = .ok (.iload_n 1, 1) := by decide +kernel
theorem dX2_slopesWithReading_15 : decode cX2_slopesWithReading 15 = .ok (.iload 4, 2) := by decide +kernel
theorem dX2_slopesWithReading_17 : decode cX2_slopesWithReading 17 = .ok (.invokevirtual 123, 3) := by decide +kernel
theorem dX2_slopesWithReading_20 : decode cX2_slopesWithReading 20 = .ok (.istore 5, 2) := by decide +kernel
theorem dX2_slopesWithReading_22 : decode cX2_slopesWithReading 22 = .ok (.iload 5, 2) := by decide +kernel
theorem dX2_slopesWithReading_24 : decode cX2_slopesWithReading 24 = .ok (.iconst (-1), 1) := by decide +kernel
theorem dX2_slopesWithReading_25 : decode cX2_slopesWithReading 25 = .ok (.if_icmp .eq 22, 3) := by decide +kernel
theorem dX2_slopesWithReading_28 : decode cX2_slopesWithReading 28 = .ok (.iload_n 2, 1) := by decide +kernel
theorem dX2_slopesWithReading_29 : decode cX2_slopesWithReading 29 = .ok (.ifCond .eq 15, 3) := by decide +kernel
theorem dX2_slopesWithReading_32 : decode cX2_slopesWithReading 32 = .ok (.aload_n 0, 1) := by decide +kernel
theorem dX2_slopesWithReading_33 : decode cX2_slopesWithReading 33 = .ok (.iload_n 1, 1) := by decide +kernel
theorem dX2_slopesWithReading_34 : decode cX2_slopesWithReading 34 = .ok (.iload 4, 2) := by decide +kernel
theorem dX2_slopesWithReading_36 : decode cX2_slopesWithReading 36 = .ok (.iload 5, 2) := by decide +kernel
theorem dX2_slopesWithReading_38 : decode cX2_slopesWithReading 38 = .ok (.invokevirtual 126, 3) := by decide +kernel
theorem dX2_slopesWithReading_41 : decode cX2_slopesWithReading 41 = .ok (.ifCond .eq 6, 3) := by decide +kernel
theorem dX2_slopesWithReading_44 : decode cX2_slopesWithReading 44 = .ok (.iinc 3 1, 3) := by decide +kernel
theorem dX2_slopesWithReading_47 : decode cX2_slopesWithReading 47 = .ok (.iinc 4 1, 3) := by decide +kernel
theorem dX2_slopesWithReading_50 : decode cX2_slopesWithReading 50 = .ok (.goto (-44), 3) := by decide +kernel
theorem dX2_slopesWithReading_53 : decode cX2_slopesWithReading 53 = .ok (.iload_n 3, 1) := by decide +kernel
theorem dX2_slopesWithReading_54 : decode cX2_slopesWithReading 54 = .ok (.ireturn, 1) := by decide +kernel
set_option maxRecDepth 20000 in
theorem ggX2_outermostSlopeWithReading_X2_layerOfReadingWith : GoodIn wsX2_outermostSlopeWithReading wsX2_layerOfReadingWith := goodIn_r _ [6, 7, 8, 9, 10, 5, 11, 12, 13, 14, 15, 16, 17, 18, 19, 20, 21, 22, 23, 24, 25, 26, 27, 28, 29, 30, 31, 32, 33, 34, 35, 36, 37, 38, 39, 40, 41, 42, 43, 44, 45, 46] (by decide +kernel) (by decide +kernel)
set_option maxRecDepth 20000 in
theorem gX2_outermostSlopeWithReading_X2_layerOfReadingWith : GoodIn wsX2_outermostSlopeWithReading (wsV RX2 123 RX2 yX2_layerOfReadingWith wsX2_layerOfReadingWith) := goodIn_app (goodIn_of _ (by decide +kernel)) ggX2_outermostSlopeWithReading_X2_layerOfReadingWith
theorem dX2_outermostSlopeWithReading_0 : decode cX2_outermostSlopeWithReading 0 = .ok (.bipush (-30), 2) := by decide +kernel
theorem dX2_outermostSlopeWithReading_2 : decode cX2_outermostSlopeWithReading 2 = .ok (.istore_n 3, 1) := by decide +kernel
theorem dX2_outermostSlopeWithReading_3 : decode cX2_outermostSlopeWithReading 3 = .ok (.iload_n 3, 1) := by decide +kernel
theorem dX2_outermostSlopeWithReading_4 : decode cX2_outermostSlopeWithReading 4 = .ok (.bipush 30, 2) := by decide +kernel
theorem dX2_outermostSlopeWithReading_6 : decode cX2_outermostSlopeWithReading 6 = .ok (.if_icmp .gt 38, 3) := by decide +kernel
theorem dX2_outermostSlopeWithReading_9 : decode cX2_outermostSlopeWithReading 9 = .ok (.iload_n 2, 1) := by decide +kernel
theorem dX2_outermostSlopeWithReading_10 : decode cX2_outermostSlopeWithReading 10 = .ok (.ifCond .eq 8, 3) := by decide +kernel
theorem dX2_outermostSlopeWithReading_13 : decode cX2_outermostSlopeWithReading 13 = .ok (.iload_n 3, 1) := by decide +kernel
theorem dX2_outermostSlopeWithReading_14 : decode cX2_outermostSlopeWithReading 14 = .ok (.ineg, 1) := by decide +kernel
theorem dX2_outermostSlopeWithReading_15 : decode cX2_outermostSlopeWithReading 15 = .ok (.goto 4, 3) := by decide +kernel
theorem dX2_outermostSlopeWithReading_18 : decode cX2_outermostSlopeWithReading 18 = .ok (.iload_n 3, 1) := by decide +kernel
theorem dX2_outermostSlopeWithReading_19 : decode cX2_outermostSlopeWithReading 19 = .ok (.istore 4, 2) := by decide +kernel
theorem dX2_outermostSlopeWithReading_21 : decode cX2_outermostSlopeWithReading 21 = .ok (.aload_n 0, 1) := by decide +kernel
theorem dX2_outermostSlopeWithReading_22 : decode cX2_outermostSlopeWithReading 22 = .ok (.iload_n 1, 1) := by decide +kernel
theorem dX2_outermostSlopeWithReading_23 : decode cX2_outermostSlopeWithReading 23 = .ok (.iload 4, 2) := by decide +kernel
theorem dX2_outermostSlopeWithReading_25 : decode cX2_outermostSlopeWithReading 25 = .ok (.invokevirtual 123, 3) := by decide +kernel
theorem dX2_outermostSlopeWithReading_28 : decode cX2_outermostSlopeWithReading 28 = .ok (.iconst (-1), 1) := by decide +kernel
theorem dX2_outermostSlopeWithReading_29 : decode cX2_outermostSlopeWithReading 29 = .ok (.if_icmp .eq 9, 3) := by decide +kernel
theorem dX2_outermostSlopeWithReading_32 : decode cX2_outermostSlopeWithReading 32 = .ok (.iload 4, 2) := by decide +kernel
theorem dX2_outermostSlopeWithReading_34 : decode cX2_outermostSlopeWithReading 34 = .ok (.bipush 100, 2) := by decide +kernel
theorem dX2_outermostSlopeWithReading_36 : decode cX2_outermostSlopeWithReading 36 = .ok (.iadd, 1) := by decide +kernel
theorem dX2_outermostSlopeWithReading_37 : decode cX2_outermostSlopeWithReading 37 = .ok (.ireturn, 1) := by decide +kernel
theorem dX2_outermostSlopeWithReading_38 : decode cX2_outermostSlopeWithReading 38 = .ok (.iinc 3 1, 3) := by decide +kernel
theorem dX2_outermostSlopeWithReading_41 : decode cX2_outermostSlopeWithReading 41 = .ok (.goto (-38), 3) := by decide +kernel
theorem dX2_outermostSlopeWithReading_44 : decode cX2_outermostSlopeWithReading 44 = .ok (.ldc 59, 2) := by decide +kernel
theorem dX2_outermostSlopeWithReading_46 : decode cX2_outermostSlopeWithReading 46 = .ok (.ireturn, 1) := by decide +kernel
set_option maxRecDepth 20000 in
theorem ggX3_init_X2_init : GoodIn wsX3_init wsX2_init := goodIn_r _ [20, 21, 2, 3, 22, 23, 24, 25, 26, 27, 28, 29, 30, 31, 32, 33, 34, 35, 36, 42, 43, 44, 45, 46, 47, 48, 64, 65, 66, 67] (by decide +kernel) (by decide +kernel)
set_option maxRecDepth 20000 in
theorem gX3_init_X2_init : GoodIn wsX3_init (wsX2_init) := ggX3_init_X2_init
set_option maxRecDepth 20000 in
theorem ggX3_init_X1_init : GoodIn wsX3_init wsX1_init := goodIn_r _ [39, 40, 2, 3, 41, 58, 59, 60, 61, 62, 63] (by decide +kernel) (by decide +kernel)
set_option maxRecDepth 20000 in
theorem gX3_init_X1_init : GoodIn wsX3_init (wsX1_init) := ggX3_init_X1_init
theorem dX3_init_0 : decode cX3_init 0 = .ok (.aload_n 0, 1) := by decide +kernel
theorem dX3_init_1 : decode cX3_init 1 = .ok (.invokespecial 1, 3) := by decide +kernel
theorem dX3_init_4 : decode cX3_init 4 = .ok (.aload_n 0, 1) := by decide +kernel
theorem dX3_init_5 : decode cX3_init 5 = .ok (.new 7, 3) := by decide +kernel
theorem dX3_init_8 : decode cX3_init 8 = .ok (.dup, 1) := by decide +kernel
theorem dX3_init_9 : decode cX3_init 9 = .ok (.invokespecial 9, 3) := by decide +kernel
theorem dX3_init_12 : decode cX3_init 12 = .ok (.putfield 10, 3) := by decide +kernel
theorem dX3_init_15 : decode cX3_init 15 = .ok (.aload_n 0, 1) := by decide +kernel
theorem dX3_init_16 : decode cX3_init 16 = .ok (.bipush 6, 2) := by decide +kernel
theorem dX3_init_18 : decode cX3_init 18 = .ok (.anewarray 7, 3) := by decide +kernel
theorem dX3_init_21 : decode cX3_init 21 = .ok (.putfield 16, 3) := by decide +kernel
theorem dX3_init_24 : decode cX3_init 24 = .ok (.iconst 0, 1) := by decide +kernel
theorem dX3_init_25 : decode cX3_init 25 = .ok (.istore_n 1, 1) := by decide +kernel
theorem dX3_init_26 : decode cX3_init 26 = .ok (.iload_n 1, 1) := by decide +kernel
theorem dX3_init_27 : decode cX3_init 27 = .ok (.bipush 6, 2) := by decide +kernel
theorem dX3_init_29 : decode cX3_init 29 = .ok (.if_icmp .ge 22, 3) := by decide +kernel
theorem dX3_init_32 : decode cX3_init 32 = .ok (.aload_n 0, 1) := by decide +kernel
theorem dX3_init_33 : decode cX3_init 33 = .ok (.getfield 16, 3) := by decide +kernel
theorem dX3_init_36 : decode cX3_init 36 = .ok (.iload_n 1, 1) := by decide +kernel
theorem dX3_init_37 : decode cX3_init 37 = .ok (.new 7, 3) := by decide +kernel
theorem dX3_init_40 : decode cX3_init 40 = .ok (.dup, 1) := by decide +kernel
theorem dX3_init_41 : decode cX3_init 41 = .ok (.invokespecial 9, 3) := by decide +kernel
theorem dX3_init_44 : decode cX3_init 44 = .ok (.aastore, 1) := by decide +kernel
theorem dX3_init_45 : decode cX3_init 45 = .ok (.iinc 1 1, 3) := by decide +kernel
theorem dX3_init_48 : decode cX3_init 48 = .ok (.goto (-22), 3) := by decide +kernel
theorem dX3_init_51 : decode cX3_init 51 = .ok (.aload_n 0, 1) := by decide +kernel
theorem dX3_init_52 : decode cX3_init 52 = .ok (.iconst 2, 1) := by decide +kernel
theorem dX3_init_53 : decode cX3_init 53 = .ok (.anewarray 7, 3) := by decide +kernel
theorem dX3_init_56 : decode cX3_init 56 = .ok (.putfield 20, 3) := by decide +kernel
theorem dX3_init_59 : decode cX3_init 59 = .ok (.iconst 0, 1) := by decide +kernel
theorem dX3_init_60 : decode cX3_init 60 = .ok (.istore_n 1, 1) := by decide +kernel
theorem dX3_init_61 : decode cX3_init 61 = .ok (.iload_n 1, 1) := by decide +kernel
theorem dX3_init_62 : decode cX3_init 62 = .ok (.iconst 2, 1) := by decide +kernel
theorem dX3_init_63 : decode cX3_init 63 = .ok (.if_icmp .ge 22, 3) := by decide +kernel
theorem dX3_init_66 : decode cX3_init 66 = .ok (.aload_n 0, 1) := by decide +kernel
theorem dX3_init_67 : decode cX3_init 67 = .ok (.getfield 20, 3) := by decide +kernel
theorem dX3_init_70 : decode cX3_init 70 = .ok (.iload_n 1, 1) := by decide +kernel
theorem dX3_init_71 : decode cX3_init 71 = .ok (.new 7, 3) := by decide +kernel
theorem dX3_init_74 : decode cX3_init 74 = .ok (.dup, 1) := by decide +kernel
theorem dX3_init_75 : decode cX3_init 75 = .ok (.invokespecial 9, 3) := by decide +kernel
theorem dX3_init_78 : decode cX3_init 78 = .ok (.aastore, 1) := by decide +kernel
theorem dX3_init_79 : decode cX3_init 79 = .ok (.iinc 1 1, 3) := by decide +kernel
theorem dX3_init_82 : decode cX3_init 82 = .ok (.goto (-21), 3) := by decide +kernel
theorem dX3_init_85 : decode cX3_init 85 = .ok (.aload_n 0, 1) := by decide +kernel
theorem dX3_init_86 : decode cX3_init 86 = .ok (.iconst 2, 1) := by decide +kernel
theorem dX3_init_87 : decode cX3_init 87 = .ok (.newarray .boolean, 2) := by decide +kernel
theorem dX3_init_89 : decode cX3_init 89 = .ok (.putfield 23, 3) := by decide +kernel
theorem dX3_init_92 : decode cX3_init 92 = .ok (.aload_n 0, 1) := by decide +kernel
theorem dX3_init_93 : decode cX3_init 93 = .ok (.bipush 60, 2) := by decide +kernel
theorem dX3_init_95 : decode cX3_init 95 = .ok (.newarray .char, 2) := by decide +kernel
theorem dX3_init_97 : decode cX3_init 97 = .ok (.putfield 27, 3) := by decide +kernel
theorem dX3_init_100 : decode cX3_init 100 = .ok (.aload_n 0, 1) := by decide +kernel
theorem dX3_init_101 : decode cX3_init 101 = .ok (.new 31, 3) := by decide +kernel
theorem dX3_init_104 : decode cX3_init 104 = .ok (.dup, 1) := by decide +kernel
theorem dX3_init_105 : decode cX3_init 105 = .ok (.invokespecial 33, 3) := by decide +kernel
theorem dX3_init_108 : decode cX3_init 108 = .ok (.putfield 34, 3) := by decide +kernel
theorem dX3_init_111 : decode cX3_init 111 = .ok (.return_, 1) := by decide +kernel
set_option maxRecDepth 20000 in
theorem ggX3_layer_X3_isThickness : GoodIn wsX3_layer wsX3_isThickness := goodIn_r _ [9] (by decide +kernel) (by decide +kernel)
set_option maxRecDepth 20000 in
theorem gX3_layer_X3_isThickness : GoodIn wsX3_layer (va_wsS RX3 38 yX3_isThickness wsX3_isThickness) := goodIn_app (goodIn_of _ (by decide +kernel)) ggX3_layer_X3_isThickness
set_option maxRecDepth 20000 in
theorem ggX3_layer_X2_takesLayer : GoodIn wsX3_layer wsX2_takesLayer := goodIn_r _ [14, 15, 16, 67, 68, 69, 70, 71, 72, 73] (by decide +kernel) (by decide +kernel)
set_option maxRecDepth 20000 in
theorem gX3_layer_X2_takesLayer : GoodIn wsX3_layer (wsV RX3 49 RX2 yX2_takesLayer wsX2_takesLayer) := goodIn_app (goodIn_of _ (by decide +kernel)) ggX3_layer_X2_takesLayer
set_option maxRecDepth 20000 in
theorem ggX3_layer_X3_saveState : GoodIn wsX3_layer wsX3_saveState := goodIn_r _ [20, 5, 21, 22, 23, 24, 25, 26, 27, 28, 29, 8, 30, 31, 32, 33, 13, 34, 15, 16, 35, 36, 37, 38, 39, 40, 41, 42, 43, 44, 45, 46, 47, 48, 49, 50, 51, 52, 53, 58, 59, 60, 61, 62, 63, 64, 65, 66, 67, 68, 69, 70, 71, 72, 73, 74, 75, 76, 77] (by decide +kernel) (by decide +kernel)
set_option maxRecDepth 20000 in
theorem gX3_layer_X3_saveState : GoodIn wsX3_layer (wsV RX3 57 RX3 yX3_saveState wsX3_saveState) := goodIn_app (goodIn_of _ (by decide +kernel)) ggX3_layer_X3_saveState
set_option maxRecDepth 20000 in
theorem ggX3_layer_X2_addLayer : GoodIn wsX3_layer wsX2_addLayer := goodIn_r _ [57, 15, 16, 39, 67, 68, 69, 70, 71, 72, 73] (by decide +kernel) (by decide +kernel)
set_option maxRecDepth 20000 in
theorem gX3_layer_X2_addLayer : GoodIn wsX3_layer (wsV RX3 60 RX2 yX2_addLayer wsX2_addLayer) := goodIn_app (goodIn_of _ (by decide +kernel)) ggX3_layer_X2_addLayer
theorem dX3_layer_0 : decode cX3_layer 0 = .ok (.iload_n 1, 1) := by decide +kernel
theorem dX3_layer_1 : decode cX3_layer 1 = .ok (.bipush 50, 2) := by decide +kernel
theorem dX3_layer_3 : decode cX3_layer 3 = .ok (.if_icmp .lt 17, 3) := by decide +kernel
theorem dX3_layer_6 : decode cX3_layer 6 = .ok (.iload_n 1, 1) := by decide +kernel
theorem dX3_layer_7 : decode cX3_layer 7 = .ok (.sipush 3000, 3) := by decide +kernel
theorem dX3_layer_10 : decode cX3_layer 10 = .ok (.if_icmp .gt 10, 3) := by decide +kernel
theorem dX3_layer_13 : decode cX3_layer 13 = .ok (.iload_n 2, 1) := by decide +kernel
theorem dX3_layer_14 : decode cX3_layer 14 = .ok (.invokestatic 38, 3) := by decide +kernel
theorem dX3_layer_17 : decode cX3_layer 17 = .ok (.ifCond .ne 13, 3) := by decide +kernel
theorem dX3_layer_20 : decode cX3_layer 20 = .ok (.new 42, 3) := by decide +kernel
theorem dX3_layer_23 : decode cX3_layer 23 = .ok (.dup, 1) := by decide +kernel
theorem dX3_layer_24 : decode cX3_layer 24 = .ok (.ldc 44, 2) := by decide +kernel
theorem dX3_layer_26 : decode cX3_layer 26 = .ok (.invokespecial 46, 3) := by decide +kernel
theorem dX3_layer_29 : decode cX3_layer 29 = .ok (.athrow, 1) := by decide +kernel
theorem dX3_layer_30 : decode cX3_layer 30 = .ok (.aload_n 0, 1) := by decide +kernel
theorem dX3_layer_31 : decode cX3_layer 31 = .ok (.getfield 10, 3) := by decide +kernel
theorem dX3_layer_34 : decode cX3_layer 34 = .ok (.iload_n 1, 1) := by decide +kernel
theorem dX3_layer_35 : decode cX3_layer 35 = .ok (.invokevirtual 49, 3) := by decide +kernel
theorem dX3_layer_38 : decode cX3_layer 38 = .ok (.ifCond .ne 13, 3) := by decide +kernel
theorem dX3_layer_41 : decode cX3_layer 41 = .ok (.new 52, 3) := by decide +kernel
theorem dX3_layer_44 : decode cX3_layer 44 = .ok (.dup, 1) := by decide +kernel
theorem dX3_layer_45 : decode cX3_layer 45 = .ok (.ldc 54, 2) := by decide +kernel
theorem dX3_layer_47 : decode cX3_layer 47 = .ok (.invokespecial 56, 3) := by decide +kernel
theorem dX3_layer_50 : decode cX3_layer 50 = .ok (.athrow, 1) := by decide +kernel
theorem dX3_layer_51 : decode cX3_layer 51 = .ok (.aload_n 0, 1) := by decide +kernel
theorem dX3_layer_52 : decode cX3_layer 52 = .ok (.invokevirtual 57, 3) := by decide +kernel
theorem dX3_layer_55 : decode cX3_layer 55 = .ok (.aload_n 0, 1) := by decide +kernel
theorem dX3_layer_56 : decode cX3_layer 56 = .ok (.getfield 10, 3) := by decide +kernel
theorem dX3_layer_59 : decode cX3_layer 59 = .ok (.iload_n 1, 1) := by decide +kernel
theorem dX3_layer_60 : decode cX3_layer 60 = .ok (.iload_n 2, 1) := by decide +kernel
theorem dX3_layer_61 : decode cX3_layer 61 = .ok (.invokevirtual 60, 3) := by decide +kernel
theorem dX3_layer_64 : decode cX3_layer 64 = .ok (.ireturn, 1) := by decide +kernel
set_option maxRecDepth 20000 in
theorem ggX3_clear_X2_hasLayer : GoodIn wsX3_clear wsX2_hasLayer := goodIn_r _ [8, 9, 62, 63, 64, 65, 66, 67, 68] (by decide +kernel) (by decide +kernel)
set_option maxRecDepth 20000 in
theorem gX3_clear_X2_hasLayer : GoodIn wsX3_clear (wsV RX3 64 RX2 yX2_hasLayer wsX2_hasLayer) := goodIn_app (goodIn_of _ (by decide +kernel)) ggX3_clear_X2_hasLayer
set_option maxRecDepth 20000 in
theorem ggX3_clear_X3_saveState : GoodIn wsX3_clear wsX3_saveState := goodIn_r _ [14, 3, 15, 16, 17, 18, 19, 20, 21, 22, 23, 13, 24, 25, 26, 27, 7, 28, 9, 29, 30, 31, 32, 33, 34, 35, 36, 37, 38, 39, 40, 41, 42, 43, 44, 45, 46, 47, 48, 53, 54, 55, 56, 57, 58, 59, 60, 61, 62, 63, 64, 65, 66, 67, 68, 69, 70, 71, 72] (by decide +kernel) (by decide +kernel)
set_option maxRecDepth 20000 in
theorem gX3_clear_X3_saveState : GoodIn wsX3_clear (wsV RX3 57 RX3 yX3_saveState wsX3_saveState) := goodIn_app (goodIn_of _ (by decide +kernel)) ggX3_clear_X3_saveState
set_option maxRecDepth 20000 in
theorem ggX3_clear_X2_removeLayer : GoodIn wsX3_clear wsX2_removeLayer := goodIn_r _ [52, 29, 9, 34, 62, 63, 64, 65, 66, 67, 68] (by decide +kernel) (by decide +kernel)
set_option maxRecDepth 20000 in
theorem gX3_clear_X2_removeLayer : GoodIn wsX3_clear (wsV RX3 72 RX2 yX2_removeLayer wsX2_removeLayer) := goodIn_app (goodIn_of _ (by decide +kernel)) ggX3_clear_X2_removeLayer
theorem dX3_clear_0 : decode cX3_clear 0 = .ok (.aload_n 0, 1) := by decide +kernel
theorem dX3_clear_1 : decode cX3_clear 1 = .ok (.getfield 10, 3) := by decide +kernel
theorem dX3_clear_4 : decode cX3_clear 4 = .ok (.iload_n 1, 1) := by decide +kernel
theorem dX3_clear_5 : decode cX3_clear 5 = .ok (.invokevirtual 64, 3) := by decide +kernel
theorem dX3_clear_8 : decode cX3_clear 8 = .ok (.ifCond .ne 13, 3) := by decide +kernel
theorem dX3_clear_11 : decode cX3_clear 11 = .ok (.new 67, 3) := by decide +kernel
theorem dX3_clear_14 : decode cX3_clear 14 = .ok (.dup, 1) := by decide +kernel
theorem dX3_clear_15 : decode cX3_clear 15 = .ok (.ldc 69, 2) := by decide +kernel
theorem dX3_clear_17 : decode cX3_clear 17 = .ok (.invokespecial 71, 3) := by decide +kernel
theorem dX3_clear_20 : decode cX3_clear 20 = .ok (.athrow, 1) := by decide +kernel
theorem dX3_clear_21 : decode cX3_clear 21 = .ok (.aload_n 0, 1) := by decide +kernel
theorem dX3_clear_22 : decode cX3_clear 22 = .ok (.invokevirtual 57, 3) := by decide +kernel
theorem dX3_clear_25 : decode cX3_clear 25 = .ok (.aload_n 0, 1) := by decide +kernel
theorem dX3_clear_26 : decode cX3_clear 26 = .ok (.getfield 10, 3) := by decide +kernel
theorem dX3_clear_29 : decode cX3_clear 29 = .ok (.iload_n 1, 1) := by decide +kernel
theorem dX3_clear_30 : decode cX3_clear 30 = .ok (.invokevirtual 72, 3) := by decide +kernel
theorem dX3_clear_33 : decode cX3_clear 33 = .ok (.ireturn, 1) := by decide +kernel
set_option maxRecDepth 20000 in
theorem ggX3_clearThin_X3_isThickness : GoodIn wsX3_clearThin wsX3_isThickness := goodIn_r _ [7] (by decide +kernel) (by decide +kernel)
set_option maxRecDepth 20000 in
theorem gX3_clearThin_X3_isThickness : GoodIn wsX3_clearThin (va_wsS RX3 38 yX3_isThickness wsX3_isThickness) := goodIn_app (goodIn_of _ (by decide +kernel)) ggX3_clearThin_X3_isThickness
set_option maxRecDepth 20000 in
theorem ggX3_clearThin_X3_saveState : GoodIn wsX3_clearThin wsX3_saveState := goodIn_r _ [11, 3, 12, 13, 14, 15, 16, 17, 18, 19, 20, 6, 21, 22, 23, 24, 25, 26, 27, 28, 29, 30, 31, 32, 33, 34, 35, 36, 37, 38, 39, 40, 41, 42, 43, 44, 45, 46, 47, 52, 53, 54, 55, 56, 57, 58, 59, 60, 61, 62, 63, 64, 65, 66, 67, 68, 69, 70, 71] (by decide +kernel) (by decide +kernel)
set_option maxRecDepth 20000 in
theorem gX3_clearThin_X3_saveState : GoodIn wsX3_clearThin (wsV RX3 57 RX3 yX3_saveState wsX3_saveState) := goodIn_app (goodIn_of _ (by decide +kernel)) ggX3_clearThin_X3_saveState
set_option maxRecDepth 20000 in
theorem ggX3_clearThin_X2_removeThinLayers : GoodIn wsX3_clearThin wsX2_removeThinLayers := goodIn_r _ [51, 27, 33, 28, 61, 62, 63, 64, 65, 66, 67] (by decide +kernel) (by decide +kernel)
set_option maxRecDepth 20000 in
theorem gX3_clearThin_X2_removeThinLayers : GoodIn wsX3_clearThin (wsV RX3 78 RX2 yX2_removeThinLayers wsX2_removeThinLayers) := goodIn_app (goodIn_of _ (by decide +kernel)) ggX3_clearThin_X2_removeThinLayers
theorem dX3_clearThin_0 : decode cX3_clearThin 0 = .ok (.iload_n 1, 1) := by decide +kernel
theorem dX3_clearThin_1 : decode cX3_clearThin 1 = .ok (.invokestatic 38, 3) := by decide +kernel
theorem dX3_clearThin_4 : decode cX3_clearThin 4 = .ok (.ifCond .ne 13, 3) := by decide +kernel
theorem dX3_clearThin_7 : decode cX3_clearThin 7 = .ok (.new 42, 3) := by decide +kernel
theorem dX3_clearThin_10 : decode cX3_clearThin 10 = .ok (.dup, 1) := by decide +kernel
theorem dX3_clearThin_11 : decode cX3_clearThin 11 = .ok (.ldc 76, 2) := by decide +kernel
theorem dX3_clearThin_13 : decode cX3_clearThin 13 = .ok (.invokespecial 46, 3) := by decide +kernel
theorem dX3_clearThin_16 : decode cX3_clearThin 16 = .ok (.athrow, 1) := by decide +kernel
theorem dX3_clearThin_17 : decode cX3_clearThin 17 = .ok (.aload_n 0, 1) := by decide +kernel
theorem dX3_clearThin_18 : decode cX3_clearThin 18 = .ok (.invokevirtual 57, 3) := by decide +kernel
theorem dX3_clearThin_21 : decode cX3_clearThin 21 = .ok (.aload_n 0, 1) := by decide +kernel
theorem dX3_clearThin_22 : decode cX3_clearThin 22 = .ok (.getfield 10, 3) := by decide +kernel
theorem dX3_clearThin_25 : decode cX3_clearThin 25 = .ok (.iload_n 1, 1) := by decide +kernel
theorem dX3_clearThin_26 : decode cX3_clearThin 26 = .ok (.invokevirtual 78, 3) := by decide +kernel
theorem dX3_clearThin_29 : decode cX3_clearThin 29 = .ok (.ireturn, 1) := by decide +kernel
set_option maxRecDepth 20000 in
theorem ggX3_aim_X3_isLight : GoodIn wsX3_aim wsX3_isLight := goodIn_r _ [9] (by decide +kernel) (by decide +kernel)
set_option maxRecDepth 20000 in
theorem gX3_aim_X3_isLight : GoodIn wsX3_aim (va_wsS RX3 81 yX3_isLight wsX3_isLight) := goodIn_app (goodIn_of _ (by decide +kernel)) ggX3_aim_X3_isLight
set_option maxRecDepth 20000 in
theorem ggX3_aim_X3_saveState : GoodIn wsX3_aim wsX3_saveState := goodIn_r _ [13, 5, 14, 15, 16, 17, 18, 19, 20, 21, 22, 8, 23, 24, 25, 26, 27, 28, 29, 30, 31, 32, 33, 34, 35, 36, 37, 38, 39, 40, 41, 42, 43, 44, 45, 46, 47, 48, 49, 54, 55, 56, 57, 58, 59, 60, 61, 62, 63, 64, 65, 66, 67, 68, 69, 70, 71, 72, 73] (by decide +kernel) (by decide +kernel)
set_option maxRecDepth 20000 in
theorem gX3_aim_X3_saveState : GoodIn wsX3_aim (wsV RX3 57 RX3 yX3_saveState wsX3_saveState) := goodIn_app (goodIn_of _ (by decide +kernel)) ggX3_aim_X3_saveState
set_option maxRecDepth 20000 in
theorem ggX3_aim_X2_giveSlope : GoodIn wsX3_aim wsX2_giveSlope := goodIn_r _ [53, 36, 63, 64, 65, 66, 67, 68, 69] (by decide +kernel) (by decide +kernel)
set_option maxRecDepth 20000 in
theorem gX3_aim_X2_giveSlope : GoodIn wsX3_aim (wsV RX3 88 RX2 yX2_giveSlope wsX2_giveSlope) := goodIn_app (goodIn_of _ (by decide +kernel)) ggX3_aim_X2_giveSlope
theorem dX3_aim_0 : decode cX3_aim 0 = .ok (.iload_n 1, 1) := by decide +kernel
theorem dX3_aim_1 : decode cX3_aim 1 = .ok (.invokestatic 81, 3) := by decide +kernel
theorem dX3_aim_4 : decode cX3_aim 4 = .ok (.ifCond .ne 13, 3) := by decide +kernel
theorem dX3_aim_7 : decode cX3_aim 7 = .ok (.new 67, 3) := by decide +kernel
theorem dX3_aim_10 : decode cX3_aim 10 = .ok (.dup, 1) := by decide +kernel
theorem dX3_aim_11 : decode cX3_aim 11 = .ok (.ldc 84, 2) := by decide +kernel
theorem dX3_aim_13 : decode cX3_aim 13 = .ok (.invokespecial 71, 3) := by decide +kernel
theorem dX3_aim_16 : decode cX3_aim 16 = .ok (.athrow, 1) := by decide +kernel
theorem dX3_aim_17 : decode cX3_aim 17 = .ok (.iload_n 2, 1) := by decide +kernel
theorem dX3_aim_18 : decode cX3_aim 18 = .ok (.bipush (-30), 2) := by decide +kernel
theorem dX3_aim_20 : decode cX3_aim 20 = .ok (.if_icmp .lt 9, 3) := by decide +kernel
theorem dX3_aim_23 : decode cX3_aim 23 = .ok (.iload_n 2, 1) := by decide +kernel
theorem dX3_aim_24 : decode cX3_aim 24 = .ok (.bipush 30, 2) := by decide +kernel
theorem dX3_aim_26 : decode cX3_aim 26 = .ok (.if_icmp .le 13, 3) := by decide +kernel
theorem dX3_aim_29 : decode cX3_aim 29 = .ok (.new 42, 3) := by decide +kernel
theorem dX3_aim_32 : decode cX3_aim 32 = .ok (.dup, 1) := by decide +kernel
theorem dX3_aim_33 : decode cX3_aim 33 = .ok (.ldc 86, 2) := by decide +kernel
theorem dX3_aim_35 : decode cX3_aim 35 = .ok (.invokespecial 46, 3) := by decide +kernel
theorem dX3_aim_38 : decode cX3_aim 38 = .ok (.athrow, 1) := by decide +kernel
theorem dX3_aim_39 : decode cX3_aim 39 = .ok (.aload_n 0, 1) := by decide +kernel
theorem dX3_aim_40 : decode cX3_aim 40 = .ok (.invokevirtual 57, 3) := by decide +kernel
theorem dX3_aim_43 : decode cX3_aim 43 = .ok (.aload_n 0, 1) := by decide +kernel
theorem dX3_aim_44 : decode cX3_aim 44 = .ok (.getfield 10, 3) := by decide +kernel
theorem dX3_aim_47 : decode cX3_aim 47 = .ok (.iload_n 1, 1) := by decide +kernel
theorem dX3_aim_48 : decode cX3_aim 48 = .ok (.iload_n 2, 1) := by decide +kernel
theorem dX3_aim_49 : decode cX3_aim 49 = .ok (.invokevirtual 88, 3) := by decide +kernel
theorem dX3_aim_52 : decode cX3_aim 52 = .ok (.ireturn, 1) := by decide +kernel
set_option maxRecDepth 20000 in
theorem ggX3_turn_X3_isLight : GoodIn wsX3_turn wsX3_isLight := goodIn_r _ [7] (by decide +kernel) (by decide +kernel)
set_option maxRecDepth 20000 in
theorem gX3_turn_X3_isLight : GoodIn wsX3_turn (va_wsS RX3 81 yX3_isLight wsX3_isLight) := goodIn_app (goodIn_of _ (by decide +kernel)) ggX3_turn_X3_isLight
set_option maxRecDepth 20000 in
theorem ggX3_turn_X3_saveState : GoodIn wsX3_turn wsX3_saveState := goodIn_r _ [11, 3, 12, 13, 14, 15, 16, 17, 18, 19, 20, 6, 21, 22, 23, 24, 25, 26, 27, 28, 29, 30, 31, 32, 33, 34, 35, 36, 37, 38, 39, 40, 41, 42, 43, 44, 45, 46, 47, 56, 57, 58, 59, 60, 61, 62, 63, 64, 65, 66, 67, 68, 69, 70, 71, 72, 73, 74, 75] (by decide +kernel) (by decide +kernel)
set_option maxRecDepth 20000 in
theorem gX3_turn_X3_saveState : GoodIn wsX3_turn (wsV RX3 57 RX3 yX3_saveState wsX3_saveState) := goodIn_app (goodIn_of _ (by decide +kernel)) ggX3_turn_X3_saveState
set_option maxRecDepth 20000 in
theorem ggX3_turn_X2_switchLight : GoodIn wsX3_turn wsX2_switchLight := goodIn_r _ [51, 36, 52, 53, 54, 25, 55, 65, 66, 67, 68, 69, 70, 71] (by decide +kernel) (by decide +kernel)
set_option maxRecDepth 20000 in
theorem gX3_turn_X2_switchLight : GoodIn wsX3_turn (wsV RX3 91 RX2 yX2_switchLight wsX2_switchLight) := goodIn_app (goodIn_of _ (by decide +kernel)) ggX3_turn_X2_switchLight
theorem dX3_turn_0 : decode cX3_turn 0 = .ok (.iload_n 1, 1) := by decide +kernel
theorem dX3_turn_1 : decode cX3_turn 1 = .ok (.invokestatic 81, 3) := by decide +kernel
theorem dX3_turn_4 : decode cX3_turn 4 = .ok (.ifCond .ne 13, 3) := by decide +kernel
theorem dX3_turn_7 : decode cX3_turn 7 = .ok (.new 67, 3) := by decide +kernel
theorem dX3_turn_10 : decode cX3_turn 10 = .ok (.dup, 1) := by decide +kernel
theorem dX3_turn_11 : decode cX3_turn 11 = .ok (.ldc 84, 2) := by decide +kernel
theorem dX3_turn_13 : decode cX3_turn 13 = .ok (.invokespecial 71, 3) := by decide +kernel
theorem dX3_turn_16 : decode cX3_turn 16 = .ok (.athrow, 1) := by decide +kernel
theorem dX3_turn_17 : decode cX3_turn 17 = .ok (.aload_n 0, 1) := by decide +kernel
theorem dX3_turn_18 : decode cX3_turn 18 = .ok (.invokevirtual 57, 3) := by decide +kernel
theorem dX3_turn_21 : decode cX3_turn 21 = .ok (.aload_n 0, 1) := by decide +kernel
theorem dX3_turn_22 : decode cX3_turn 22 = .ok (.getfield 10, 3) := by decide +kernel
theorem dX3_turn_25 : decode cX3_turn 25 = .ok (.iload_n 1, 1) := by decide +kernel
theorem dX3_turn_26 : decode cX3_turn 26 = .ok (.invokevirtual 91, 3) := by decide +kernel
theorem dX3_turn_29 : decode cX3_turn 29 = .ok (.ireturn, 1) := by decide +kernel
set_option maxRecDepth 20000 in
theorem ggX3_set_X3_saveState : GoodIn wsX3_set wsX3_saveState := goodIn_r _ [13, 7, 14, 15, 16, 17, 18, 19, 20, 21, 22, 12, 23, 24, 25, 26, 27, 28, 29, 30, 31, 32, 33, 34, 35, 36, 37, 38, 39, 40, 41, 42, 43, 44, 45, 46, 47, 48, 49, 50, 51, 52, 53, 54, 55, 56, 57, 58, 59, 60, 61, 62, 63, 64, 65, 66, 67, 68, 69] (by decide +kernel) (by decide +kernel)
set_option maxRecDepth 20000 in
theorem gX3_set_X3_saveState : GoodIn wsX3_set (wsV RX3 57 RX3 yX3_saveState wsX3_saveState) := goodIn_app (goodIn_of _ (by decide +kernel)) ggX3_set_X3_saveState
theorem dX3_set_0 : decode cX3_set 0 = .ok (.iload_n 1, 1) := by decide +kernel
theorem dX3_set_1 : decode cX3_set 1 = .ok (.ifCond .lt 8, 3) := by decide +kernel
theorem dX3_set_4 : decode cX3_set 4 = .ok (.iload_n 1, 1) := by decide +kernel
theorem dX3_set_5 : decode cX3_set 5 = .ok (.iconst 4, 1) := by decide +kernel
theorem dX3_set_6 : decode cX3_set 6 = .ok (.if_icmp .lt 13, 3) := by decide +kernel
theorem dX3_set_9 : decode cX3_set 9 = .ok (.new 67, 3) := by decide +kernel
theorem dX3_set_12 : decode cX3_set 12 = .ok (.dup, 1) := by decide +kernel
theorem dX3_set_13 : decode cX3_set 13 = .ok (.ldc 94, 2) := by decide +kernel
theorem dX3_set_15 : decode cX3_set 15 = .ok (.invokespecial 71, 3) := by decide +kernel
theorem dX3_set_18 : decode cX3_set 18 = .ok (.athrow, 1) := by decide +kernel
theorem dX3_set_19 : decode cX3_set 19 = .ok (.iload_n 2, 1) := by decide +kernel
theorem dX3_set_20 : decode cX3_set 20 = .ok (.getstatic 96, 3) := by decide +kernel
theorem dX3_set_23 : decode cX3_set 23 = .ok (.iload_n 1, 1) := by decide +kernel
theorem dX3_set_24 : decode cX3_set 24 = .ok (.iaload, 1) := by decide +kernel
theorem dX3_set_25 : decode cX3_set 25 = .ok (.if_icmp .lt 12, 3) := by decide +kernel
theorem dX3_set_28 : decode cX3_set 28 = .ok (.iload_n 2, 1) := by decide +kernel
theorem dX3_set_29 : decode cX3_set 29 = .ok (.getstatic 100, 3) := by decide +kernel
theorem dX3_set_32 : decode cX3_set 32 = .ok (.iload_n 1, 1) := by decide +kernel
theorem dX3_set_33 : decode cX3_set 33 = .ok (.iaload, 1) := by decide +kernel
theorem dX3_set_34 : decode cX3_set 34 = .ok (.if_icmp .le 13, 3) := by decide +kernel
theorem dX3_set_37 : decode cX3_set 37 = .ok (.new 42, 3) := by decide +kernel
theorem dX3_set_40 : decode cX3_set 40 = .ok (.dup, 1) := by decide +kernel
theorem dX3_set_41 : decode cX3_set 41 = .ok (.ldc 103, 2) := by decide +kernel
theorem dX3_set_43 : decode cX3_set 43 = .ok (.invokespecial 46, 3) := by decide +kernel
theorem dX3_set_46 : decode cX3_set 46 = .ok (.athrow, 1) := by decide +kernel
theorem dX3_set_47 : decode cX3_set 47 = .ok (.aload_n 0, 1) := by decide +kernel
theorem dX3_set_48 : decode cX3_set 48 = .ok (.invokevirtual 57, 3) := by decide +kernel
theorem dX3_set_51 : decode cX3_set 51 = .ok (.aload_n 0, 1) := by decide +kernel
theorem dX3_set_52 : decode cX3_set 52 = .ok (.getfield 10, 3) := by decide +kernel
theorem dX3_set_55 : decode cX3_set 55 = .ok (.getfield 105, 3) := by decide +kernel
theorem dX3_set_58 : decode cX3_set 58 = .ok (.iload_n 1, 1) := by decide +kernel
theorem dX3_set_59 : decode cX3_set 59 = .ok (.iaload, 1) := by decide +kernel
theorem dX3_set_60 : decode cX3_set 60 = .ok (.istore_n 3, 1) := by decide +kernel
theorem dX3_set_61 : decode cX3_set 61 = .ok (.aload_n 0, 1) := by decide +kernel
theorem dX3_set_62 : decode cX3_set 62 = .ok (.getfield 10, 3) := by decide +kernel
theorem dX3_set_65 : decode cX3_set 65 = .ok (.getfield 105, 3) := by decide +kernel
theorem dX3_set_68 : decode cX3_set 68 = .ok (.iload_n 1, 1) := by decide +kernel
theorem dX3_set_69 : decode cX3_set 69 = .ok (.iload_n 2, 1) := by decide +kernel
theorem dX3_set_70 : decode cX3_set 70 = .ok (.iastore, 1) := by decide +kernel
theorem dX3_set_71 : decode cX3_set 71 = .ok (.iload_n 3, 1) := by decide +kernel
theorem dX3_set_72 : decode cX3_set 72 = .ok (.ireturn, 1) := by decide +kernel
set_option maxRecDepth 20000 in
theorem ggX3_scan_X3_isLight : GoodIn wsX3_scan wsX3_isLight := goodIn_r _ [11] (by decide +kernel) (by decide +kernel)
set_option maxRecDepth 20000 in
theorem gX3_scan_X3_isLight : GoodIn wsX3_scan (va_wsS RX3 81 yX3_isLight wsX3_isLight) := goodIn_app (goodIn_of _ (by decide +kernel)) ggX3_scan_X3_isLight
set_option maxRecDepth 20000 in
theorem ggX3_scan_X2_hasLayer : GoodIn wsX3_scan wsX2_hasLayer := goodIn_r _ [16, 17, 89, 90, 91, 92, 93, 94, 95] (by decide +kernel) (by decide +kernel)
set_option maxRecDepth 20000 in
theorem gX3_scan_X2_hasLayer : GoodIn wsX3_scan (wsV RX3 64 RX2 yX2_hasLayer wsX2_hasLayer) := goodIn_app (goodIn_of _ (by decide +kernel)) ggX3_scan_X2_hasLayer
set_option maxRecDepth 20000 in
theorem ggX3_scan_X3_saveState : GoodIn wsX3_scan wsX3_saveState := goodIn_r _ [21, 3, 22, 23, 24, 25, 26, 6, 27, 28, 29, 10, 30, 31, 32, 33, 15, 34, 17, 35, 36, 37, 38, 39, 40, 41, 42, 43, 44, 45, 46, 47, 48, 49, 50, 51, 52, 53, 54, 80, 81, 82, 83, 84, 85, 86, 87, 88, 89, 90, 91, 92, 93, 94, 95, 96, 97, 98, 99] (by decide +kernel) (by decide +kernel)
set_option maxRecDepth 20000 in
theorem gX3_scan_X3_saveState : GoodIn wsX3_scan (wsV RX3 57 RX3 yX3_saveState wsX3_saveState) := goodIn_app (goodIn_of _ (by decide +kernel)) ggX3_scan_X3_saveState
set_option maxRecDepth 20000 in
theorem ggX3_scan_X2_slopeFoundByTrying : GoodIn wsX3_scan wsX2_slopeFoundByTrying := goodIn_r _ [58, 59, 60, 61, 15, 62, 35, 41, 63, 5, 6, 7, 64, 65, 66, 67, 42, 89, 90, 91, 92, 93, 94, 95] (by decide +kernel) (by decide +kernel)
set_option maxRecDepth 20000 in
theorem gX3_scan_X2_slopeFoundByTrying : GoodIn wsX3_scan (wsV RX3 110 RX2 yX2_slopeFoundByTrying wsX2_slopeFoundByTrying) := goodIn_app (goodIn_of _ (by decide +kernel)) ggX3_scan_X2_slopeFoundByTrying
set_option maxRecDepth 20000 in
theorem ggX3_scan_X2_giveSlope : GoodIn wsX3_scan wsX2_giveSlope := goodIn_r _ [71, 41, 89, 90, 91, 92, 93, 94, 95] (by decide +kernel) (by decide +kernel)
set_option maxRecDepth 20000 in
theorem gX3_scan_X2_giveSlope : GoodIn wsX3_scan (wsV RX3 88 RX2 yX2_giveSlope wsX2_giveSlope) := goodIn_app (goodIn_of _ (by decide +kernel)) ggX3_scan_X2_giveSlope
set_option maxRecDepth 20000 in
theorem ggX3_scan_X2_distance : GoodIn wsX3_scan wsX2_distance := goodIn_r _ [75, 41, 76, 77, 78, 15, 79, 35, 64, 65, 66, 67, 42, 89, 90, 91, 92, 93, 94, 95] (by decide +kernel) (by decide +kernel)
set_option maxRecDepth 20000 in
theorem gX3_scan_X2_distance : GoodIn wsX3_scan (wsV RX3 113 RX2 yX2_distance wsX2_distance) := goodIn_app (goodIn_of _ (by decide +kernel)) ggX3_scan_X2_distance
theorem dX3_scan_0 : decode cX3_scan 0 = .ok (.iload_n 1, 1) := by decide +kernel
theorem dX3_scan_1 : decode cX3_scan 1 = .ok (.invokestatic 81, 3) := by decide +kernel
theorem dX3_scan_4 : decode cX3_scan 4 = .ok (.ifCond .eq 14, 3) := by decide +kernel
theorem dX3_scan_7 : decode cX3_scan 7 = .ok (.aload_n 0, 1) := by decide +kernel
theorem dX3_scan_8 : decode cX3_scan 8 = .ok (.getfield 10, 3) := by decide +kernel
theorem dX3_scan_11 : decode cX3_scan 11 = .ok (.iload_n 2, 1) := by decide +kernel
theorem dX3_scan_12 : decode cX3_scan 12 = .ok (.invokevirtual 64, 3) := by decide +kernel
theorem dX3_scan_15 : decode cX3_scan 15 = .ok (.ifCond .ne 13, 3) := by decide +kernel
theorem dX3_scan_18 : decode cX3_scan 18 = .ok (.new 67, 3) := by decide +kernel
theorem dX3_scan_21 : decode cX3_scan 21 = .ok (.dup, 1) := by decide +kernel
theorem dX3_scan_22 : decode cX3_scan 22 = .ok (.ldc 108, 2) := by decide +kernel
theorem dX3_scan_24 : decode cX3_scan 24 = .ok (.invokespecial 71, 3) := by decide +kernel
theorem dX3_scan_27 : decode cX3_scan 27 = .ok (.athrow, 1) := by decide +kernel
theorem dX3_scan_28 : decode cX3_scan 28 = .ok (.aload_n 0, 1) := by decide +kernel
theorem dX3_scan_29 : decode cX3_scan 29 = .ok (.invokevirtual 57, 3) := by decide +kernel
theorem dX3_scan_32 : decode cX3_scan 32 = .ok (.aload_n 0, 1) := by decide +kernel
theorem dX3_scan_33 : decode cX3_scan 33 = .ok (.getfield 10, 3) := by decide +kernel
theorem dX3_scan_36 : decode cX3_scan 36 = .ok (.iload_n 1, 1) := by decide +kernel
theorem dX3_scan_37 : decode cX3_scan 37 = .ok (.aload_n 0, 1) := by decide +kernel
theorem dX3_scan_38 : decode cX3_scan 38 = .ok (.getfield 10, 3) := by decide +kernel
theorem dX3_scan_41 : decode cX3_scan 41 = .ok (.iload_n 1, 1) := by decide +kernel
theorem dX3_scan_42 : decode cX3_scan 42 = .ok (.iload_n 2, 1) := by decide +kernel
theorem dX3_scan_43 : decode cX3_scan 43 = .ok (.invokevirtual 110, 3) := by decide +kernel
theorem dX3_scan_46 : decode cX3_scan 46 = .ok (.invokevirtual 88, 3) := by decide +kernel
theorem dX3_scan_49 : decode cX3_scan 49 = .ok (.pop, 1) := by decide +kernel
theorem dX3_scan_50 : decode cX3_scan 50 = .ok (.aload_n 0, 1) := by decide +kernel
theorem dX3_scan_51 : decode cX3_scan 51 = .ok (.getfield 10, 3) := by decide +kernel
theorem dX3_scan_54 : decode cX3_scan 54 = .ok (.iload_n 2, 1) := by decide +kernel
theorem dX3_scan_55 : decode cX3_scan 55 = .ok (.invokevirtual 113, 3) := by decide +kernel
theorem dX3_scan_58 : decode cX3_scan 58 = .ok (.invokestatic 116, 3) := by decide +kernel
theorem dX3_scan_61 : decode cX3_scan 61 = .ok (.ireturn, 1) := by decide +kernel
set_option maxRecDepth 20000 in
theorem ggX3_log_X3_saveState : GoodIn wsX3_log wsX3_saveState := goodIn_r _ [6, 1, 7, 8, 9, 10, 11, 12, 13, 14, 15, 5, 16, 17, 18, 19, 20, 21, 22, 23, 24, 25, 26, 27, 28, 29, 30, 31, 32, 33, 34, 35, 36, 37, 38, 39, 40, 41, 42, 87, 88, 89, 90, 91, 92, 93, 94, 95, 96, 97, 98, 99, 100, 101, 102, 103, 104, 105, 106] (by decide +kernel) (by decide +kernel)
set_option maxRecDepth 20000 in
theorem gX3_log_X3_saveState : GoodIn wsX3_log (wsV RX3 57 RX3 yX3_saveState wsX3_saveState) := goodIn_app (goodIn_of _ (by decide +kernel)) ggX3_log_X3_saveState
set_option maxRecDepth 20000 in
theorem ggX3_log_X2_logNight : GoodIn wsX3_log wsX2_logNight := goodIn_r _ [46, 29, 32, 47, 23, 48, 49, 50, 20, 51, 31, 30, 22, 52, 53, 12, 54, 55, 56, 57, 58, 28, 59, 60, 61, 62, 63, 64, 65, 66, 67, 68, 69, 70, 71, 72, 73, 74, 75, 76, 36, 77, 38, 39, 25, 26, 27, 40, 78, 11, 13, 41, 42, 79, 80, 81, 82, 83, 84, 85, 86, 96, 97, 98, 99, 100, 101, 102, 103, 104, 105, 106] (by decide +kernel) (by decide +kernel)
set_option maxRecDepth 20000 in
theorem gX3_log_X2_logNight : GoodIn wsX3_log (wsV RX3 121 RX2 yX2_logNight wsX2_logNight) := goodIn_app (goodIn_of _ (by decide +kernel)) ggX3_log_X2_logNight
theorem dX3_log_0 : decode cX3_log 0 = .ok (.aload_n 0, 1) := by decide +kernel
theorem dX3_log_1 : decode cX3_log 1 = .ok (.invokevirtual 57, 3) := by decide +kernel
theorem dX3_log_4 : decode cX3_log 4 = .ok (.aload_n 0, 1) := by decide +kernel
theorem dX3_log_5 : decode cX3_log 5 = .ok (.getfield 10, 3) := by decide +kernel
theorem dX3_log_8 : decode cX3_log 8 = .ok (.invokevirtual 121, 3) := by decide +kernel
theorem dX3_log_11 : decode cX3_log 11 = .ok (.ireturn, 1) := by decide +kernel
set_option maxRecDepth 20000 in
theorem ggX3_undo_X3_copySky : GoodIn wsX3_undo wsX3_copySky := goodIn_r _ [10, 11, 12, 13, 14, 15, 16, 17, 18, 19, 20, 21, 22, 23, 24, 25, 26, 27, 28, 29, 30, 31, 32, 33, 34, 35, 36, 46, 47, 48, 49, 50, 51, 52, 53, 54, 55, 56] (by decide +kernel) (by decide +kernel)
set_option maxRecDepth 20000 in
theorem gX3_undo_X3_copySky : GoodIn wsX3_undo (va_wsS RX3 153 yX3_copySky wsX3_copySky) := goodIn_app (goodIn_of _ (by decide +kernel)) ggX3_undo_X3_copySky
theorem dX3_undo_0 : decode cX3_undo 0 = .ok (.aload_n 0, 1) := by decide +kernel
theorem dX3_undo_1 : decode cX3_undo 1 = .ok (.getfield 145, 3) := by decide +kernel
theorem dX3_undo_4 : decode cX3_undo 4 = .ok (.ifCond .gt 13, 3) := by decide +kernel
theorem dX3_undo_7 : decode cX3_undo 7 = .ok (.new 52, 3) := by decide +kernel
theorem dX3_undo_10 : decode cX3_undo 10 = .ok (.dup, 1) := by decide +kernel
theorem dX3_undo_11 : decode cX3_undo 11 = .ok (.ldc 148, 2) := by decide +kernel
theorem dX3_undo_13 : decode cX3_undo 13 = .ok (.invokespecial 56, 3) := by decide +kernel
theorem dX3_undo_16 : decode cX3_undo 16 = .ok (.athrow, 1) := by decide +kernel
theorem dX3_undo_17 : decode cX3_undo 17 = .ok (.aload_n 0, 1) := by decide +kernel
theorem dX3_undo_18 : decode cX3_undo 18 = .ok (.aload_n 0, 1) := by decide +kernel
theorem dX3_undo_19 : decode cX3_undo 19 = .ok (.getfield 150, 3) := by decide +kernel
theorem dX3_undo_22 : decode cX3_undo 22 = .ok (.bipush 6, 2) := by decide +kernel
theorem dX3_undo_24 : decode cX3_undo 24 = .ok (.iadd, 1) := by decide +kernel
theorem dX3_undo_25 : decode cX3_undo 25 = .ok (.iconst 1, 1) := by decide +kernel
theorem dX3_undo_26 : decode cX3_undo 26 = .ok (.isub, 1) := by decide +kernel
theorem dX3_undo_27 : decode cX3_undo 27 = .ok (.bipush 6, 2) := by decide +kernel
theorem dX3_undo_29 : decode cX3_undo 29 = .ok (.irem, 1) := by decide +kernel
theorem dX3_undo_30 : decode cX3_undo 30 = .ok (.putfield 150, 3) := by decide +kernel
theorem dX3_undo_33 : decode cX3_undo 33 = .ok (.aload_n 0, 1) := by decide +kernel
theorem dX3_undo_34 : decode cX3_undo 34 = .ok (.dup, 1) := by decide +kernel
theorem dX3_undo_35 : decode cX3_undo 35 = .ok (.getfield 145, 3) := by decide +kernel
theorem dX3_undo_38 : decode cX3_undo 38 = .ok (.iconst 1, 1) := by decide +kernel
theorem dX3_undo_39 : decode cX3_undo 39 = .ok (.isub, 1) := by decide +kernel
theorem dX3_undo_40 : decode cX3_undo 40 = .ok (.putfield 145, 3) := by decide +kernel
theorem dX3_undo_43 : decode cX3_undo 43 = .ok (.aload_n 0, 1) := by decide +kernel
theorem dX3_undo_44 : decode cX3_undo 44 = .ok (.getfield 16, 3) := by decide +kernel
theorem dX3_undo_47 : decode cX3_undo 47 = .ok (.aload_n 0, 1) := by decide +kernel
theorem dX3_undo_48 : decode cX3_undo 48 = .ok (.getfield 150, 3) := by decide +kernel
theorem dX3_undo_51 : decode cX3_undo 51 = .ok (.aaload, 1) := by decide +kernel
theorem dX3_undo_52 : decode cX3_undo 52 = .ok (.aload_n 0, 1) := by decide +kernel
theorem dX3_undo_53 : decode cX3_undo 53 = .ok (.getfield 10, 3) := by decide +kernel
theorem dX3_undo_56 : decode cX3_undo 56 = .ok (.invokestatic 153, 3) := by decide +kernel
theorem dX3_undo_59 : decode cX3_undo 59 = .ok (.aload_n 0, 1) := by decide +kernel
theorem dX3_undo_60 : decode cX3_undo 60 = .ok (.getfield 145, 3) := by decide +kernel
theorem dX3_undo_63 : decode cX3_undo 63 = .ok (.ireturn, 1) := by decide +kernel
set_option maxRecDepth 20000 in
theorem ggX3_layerOf_X2_hasLayer : GoodIn wsX3_layerOf wsX2_hasLayer := goodIn_r _ [13, 14, 70, 71, 72, 73, 74, 75, 76] (by decide +kernel) (by decide +kernel)
set_option maxRecDepth 20000 in
theorem gX3_layerOf_X2_hasLayer : GoodIn wsX3_layerOf (wsV RX3 64 RX2 yX2_hasLayer wsX2_hasLayer) := goodIn_app (goodIn_of _ (by decide +kernel)) ggX3_layerOf_X2_hasLayer
set_option maxRecDepth 20000 in
theorem ggX3_layerOf_X2_hasPair : GoodIn wsX3_layerOf wsX2_hasPair := goodIn_r _ [18, 19, 20, 21, 12, 22, 23, 24, 25, 26, 27, 28, 14, 29, 30, 31, 32, 33, 34, 35, 36, 37, 70, 71, 72, 73, 74, 75, 76] (by decide +kernel) (by decide +kernel)
set_option maxRecDepth 20000 in
theorem gX3_layerOf_X2_hasPair : GoodIn wsX3_layerOf (wsV RX3 173 RX2 yX2_hasPair wsX2_hasPair) := goodIn_app (goodIn_of _ (by decide +kernel)) ggX3_layerOf_X2_hasPair
set_option maxRecDepth 20000 in
theorem ggX3_layerOf_X2_distance : GoodIn wsX3_layerOf wsX2_distance := goodIn_r _ [41, 42, 43, 44, 45, 12, 46, 29, 47, 48, 49, 50, 24, 70, 71, 72, 73, 74, 75, 76] (by decide +kernel) (by decide +kernel)
set_option maxRecDepth 20000 in
theorem gX3_layerOf_X2_distance : GoodIn wsX3_layerOf (wsV RX3 113 RX2 yX2_distance wsX2_distance) := goodIn_app (goodIn_of _ (by decide +kernel)) ggX3_layerOf_X2_distance
set_option maxRecDepth 20000 in
theorem ggX3_layerOf_X2_hasClosePair : GoodIn wsX3_layerOf wsX2_hasClosePair := goodIn_r _ [54, 55, 56, 57, 58, 24, 59, 16, 17, 12, 18, 19, 20, 21, 22, 23, 25, 26, 27, 28, 14, 29, 30, 31, 32, 33, 34, 35, 36, 37, 60, 39, 40, 41, 42, 43, 44, 45, 46, 47, 48, 49, 50, 70, 71, 72, 73, 74, 75, 76] (by decide +kernel) (by decide +kernel)
set_option maxRecDepth 20000 in
theorem gX3_layerOf_X2_hasClosePair : GoodIn wsX3_layerOf (wsV RX3 177 RX2 yX2_hasClosePair wsX2_hasClosePair) := goodIn_app (goodIn_of _ (by decide +kernel)) ggX3_layerOf_X2_hasClosePair
theorem dX3_layerOf_0 : decode cX3_layerOf 0 = .ok (.aload_n 0, 1) := by decide +kernel
theorem dX3_layerOf_1 : decode cX3_layerOf 1 = .ok (.getfield 10, 3) := by decide +kernel
theorem dX3_layerOf_4 : decode cX3_layerOf 4 = .ok (.iload_n 1, 1) := by decide +kernel
theorem dX3_layerOf_5 : decode cX3_layerOf 5 = .ok (.invokevirtual 64, 3) := by decide +kernel
theorem dX3_layerOf_8 : decode cX3_layerOf 8 = .ok (.ifCond .ne 13, 3) := by decide +kernel
theorem dX3_layerOf_11 : decode cX3_layerOf 11 = .ok (.new 67, 3) := by decide +kernel
theorem dX3_layerOf_14 : decode cX3_layerOf 14 = .ok (.dup, 1) := by decide +kernel
theorem dX3_layerOf_15 : decode cX3_layerOf 15 = .ok (.ldc 69, 2) := by decide +kernel
theorem dX3_layerOf_17 : decode cX3_layerOf 17 = .ok (.invokespecial 71, 3) := by decide +kernel
theorem dX3_layerOf_20 : decode cX3_layerOf 20 = .ok (.athrow, 1) := by decide +kernel
theorem dX3_layerOf_21 : decode cX3_layerOf 21 = .ok (.iload_n 2, 1) := by decide +kernel
theorem dX3_layerOf_22 : decode cX3_layerOf 22 = .ok (.tableswitch 92 0 3 #[30, 40, 50, 75], 30) := by decide +kernel
theorem dX3_layerOf_52 : decode cX3_layerOf 52 = .ok (.aload_n 0, 1) := by decide +kernel
theorem dX3_layerOf_53 : decode cX3_layerOf 53 = .ok (.getfield 10, 3) := by decide +kernel
theorem dX3_layerOf_56 : decode cX3_layerOf 56 = .ok (.getfield 167, 3) := by decide +kernel
theorem dX3_layerOf_59 : decode cX3_layerOf 59 = .ok (.iload_n 1, 1) := by decide +kernel
theorem dX3_layerOf_60 : decode cX3_layerOf 60 = .ok (.iaload, 1) := by decide +kernel
theorem dX3_layerOf_61 : decode cX3_layerOf 61 = .ok (.ireturn, 1) := by decide +kernel
theorem dX3_layerOf_62 : decode cX3_layerOf 62 = .ok (.aload_n 0, 1) := by decide +kernel
theorem dX3_layerOf_63 : decode cX3_layerOf 63 = .ok (.getfield 10, 3) := by decide +kernel
theorem dX3_layerOf_66 : decode cX3_layerOf 66 = .ok (.getfield 170, 3) := by decide +kernel
theorem dX3_layerOf_69 : decode cX3_layerOf 69 = .ok (.iload_n 1, 1) := by decide +kernel
theorem dX3_layerOf_70 : decode cX3_layerOf 70 = .ok (.iaload, 1) := by decide +kernel
theorem dX3_layerOf_71 : decode cX3_layerOf 71 = .ok (.ireturn, 1) := by decide +kernel
theorem dX3_layerOf_72 : decode cX3_layerOf 72 = .ok (.aload_n 0, 1) := by decide +kernel
theorem dX3_layerOf_73 : decode cX3_layerOf 73 = .ok (.getfield 10, 3) := by decide +kernel
theorem dX3_layerOf_76 : decode cX3_layerOf 76 = .ok (.iload_n 1, 1) := by decide +kernel
theorem dX3_layerOf_77 : decode cX3_layerOf 77 = .ok (.invokevirtual 173, 3) := by decide +kernel
theorem dX3_layerOf_80 : decode cX3_layerOf 80 = .ok (.ifCond .eq 14, 3) := by decide +kernel
theorem dX3_layerOf_83 : decode cX3_layerOf 83 = .ok (.aload_n 0, 1) := by decide +kernel
theorem dX3_layerOf_84 : decode cX3_layerOf 84 = .ok (.getfield 10, 3) := by decide +kernel
theorem dX3_layerOf_87 : decode cX3_layerOf 87 = .ok (.iload_n 1, 1) := by decide +kernel
theorem dX3_layerOf_88 : decode cX3_layerOf 88 = .ok (.invokevirtual 113, 3) := by decide +kernel
theorem dX3_layerOf_91 : decode cX3_layerOf 91 = .ok (.goto 5, 3) := by decide +kernel
theorem dX3_layerOf_94 : decode cX3_layerOf 94 = .ok (.ldc 176, 2) := by decide +kernel
theorem dX3_layerOf_96 : decode cX3_layerOf 96 = .ok (.ireturn, 1) := by decide +kernel
theorem dX3_layerOf_97 : decode cX3_layerOf 97 = .ok (.aload_n 0, 1) := by decide +kernel
theorem dX3_layerOf_98 : decode cX3_layerOf 98 = .ok (.getfield 10, 3) := by decide +kernel
theorem dX3_layerOf_101 : decode cX3_layerOf 101 = .ok (.iload_n 1, 1) := by decide +kernel
theorem dX3_layerOf_102 : decode cX3_layerOf 102 = .ok (.invokevirtual 177, 3) := by decide +kernel
theorem dX3_layerOf_105 : decode cX3_layerOf 105 = .ok (.ifCond .eq 7, 3) := by decide +kernel
theorem dX3_layerOf_108 : decode cX3_layerOf 108 = .ok (.iconst 1, 1) := by decide +kernel
theorem dX3_layerOf_109 : decode cX3_layerOf 109 = .ok (.goto 4, 3) := by decide +kernel
theorem dX3_layerOf_112 : decode cX3_layerOf 112 = .ok (.iconst 0, 1) := by decide +kernel
theorem dX3_layerOf_113 : decode cX3_layerOf 113 = .ok (.ireturn, 1) := by decide +kernel
theorem dX3_layerOf_114 : decode cX3_layerOf 114 = .ok (.new 42, 3) := by decide +kernel
theorem dX3_layerOf_117 : decode cX3_layerOf 117 = .ok (.dup, 1) := by decide +kernel
theorem dX3_layerOf_118 : decode cX3_layerOf 118 = .ok (.ldc 180, 2) := by decide +kernel
theorem dX3_layerOf_120 : decode cX3_layerOf 120 = .ok (.invokespecial 46, 3) := by decide +kernel
theorem dX3_layerOf_123 : decode cX3_layerOf 123 = .ok (.athrow, 1) := by decide +kernel
set_option maxRecDepth 20000 in
theorem ggX3_spot_X3_isLight : GoodIn wsX3_spot wsX3_isLight := goodIn_r _ [10] (by decide +kernel) (by decide +kernel)
set_option maxRecDepth 20000 in
theorem gX3_spot_X3_isLight : GoodIn wsX3_spot (va_wsS RX3 81 yX3_isLight wsX3_isLight) := goodIn_app (goodIn_of _ (by decide +kernel)) ggX3_spot_X3_isLight
set_option maxRecDepth 20000 in
theorem ggX3_spot_X2_hasLayer : GoodIn wsX3_spot wsX2_hasLayer := goodIn_r _ [15, 16, 54, 55, 56, 57, 58, 59, 60] (by decide +kernel) (by decide +kernel)
set_option maxRecDepth 20000 in
theorem gX3_spot_X2_hasLayer : GoodIn wsX3_spot (wsV RX3 64 RX2 yX2_hasLayer wsX2_hasLayer) := goodIn_app (goodIn_of _ (by decide +kernel)) ggX3_spot_X2_hasLayer
set_option maxRecDepth 20000 in
theorem ggX3_spot_X2_isLit : GoodIn wsX3_spot wsX2_isLit := goodIn_r _ [20, 21, 54, 55, 56, 57, 58, 59, 60] (by decide +kernel) (by decide +kernel)
set_option maxRecDepth 20000 in
theorem gX3_spot_X2_isLit : GoodIn wsX3_spot (wsV RX3 184 RX2 yX2_isLit wsX2_isLit) := goodIn_app (goodIn_of _ (by decide +kernel)) ggX3_spot_X2_isLit
set_option maxRecDepth 20000 in
theorem ggX3_spot_X2_spotNumber : GoodIn wsX3_spot wsX2_spotNumber := goodIn_r _ [25, 26, 27, 28, 29, 30, 31, 32, 14, 33, 34, 35, 36, 37, 38, 39, 40, 41, 42, 43, 44, 54, 55, 56, 57, 58, 59, 60] (by decide +kernel) (by decide +kernel)
set_option maxRecDepth 20000 in
theorem gX3_spot_X2_spotNumber : GoodIn wsX3_spot (wsV RX3 187 RX2 yX2_spotNumber wsX2_spotNumber) := goodIn_app (goodIn_of _ (by decide +kernel)) ggX3_spot_X2_spotNumber
theorem dX3_spot_0 : decode cX3_spot 0 = .ok (.iload_n 1, 1) := by decide +kernel
theorem dX3_spot_1 : decode cX3_spot 1 = .ok (.invokestatic 81, 3) := by decide +kernel
theorem dX3_spot_4 : decode cX3_spot 4 = .ok (.ifCond .eq 14, 3) := by decide +kernel
theorem dX3_spot_7 : decode cX3_spot 7 = .ok (.aload_n 0, 1) := by decide +kernel
theorem dX3_spot_8 : decode cX3_spot 8 = .ok (.getfield 10, 3) := by decide +kernel
theorem dX3_spot_11 : decode cX3_spot 11 = .ok (.iload_n 2, 1) := by decide +kernel
theorem dX3_spot_12 : decode cX3_spot 12 = .ok (.invokevirtual 64, 3) := by decide +kernel
theorem dX3_spot_15 : decode cX3_spot 15 = .ok (.ifCond .ne 13, 3) := by decide +kernel
theorem dX3_spot_18 : decode cX3_spot 18 = .ok (.new 67, 3) := by decide +kernel
theorem dX3_spot_21 : decode cX3_spot 21 = .ok (.dup, 1) := by decide +kernel
theorem dX3_spot_22 : decode cX3_spot 22 = .ok (.ldc 108, 2) := by decide +kernel
theorem dX3_spot_24 : decode cX3_spot 24 = .ok (.invokespecial 71, 3) := by decide +kernel
theorem dX3_spot_27 : decode cX3_spot 27 = .ok (.athrow, 1) := by decide +kernel
theorem dX3_spot_28 : decode cX3_spot 28 = .ok (.iload_n 3, 1) := by decide +kernel
theorem dX3_spot_29 : decode cX3_spot 29 = .ok (.ifCond .lt 8, 3) := by decide +kernel
theorem dX3_spot_32 : decode cX3_spot 32 = .ok (.iload_n 3, 1) := by decide +kernel
theorem dX3_spot_33 : decode cX3_spot 33 = .ok (.iconst 4, 1) := by decide +kernel
theorem dX3_spot_34 : decode cX3_spot 34 = .ok (.if_icmp .le 13, 3) := by decide +kernel
theorem dX3_spot_37 : decode cX3_spot 37 = .ok (.new 42, 3) := by decide +kernel
theorem dX3_spot_40 : decode cX3_spot 40 = .ok (.dup, 1) := by decide +kernel
theorem dX3_spot_41 : decode cX3_spot 41 = .ok (.ldc 182, 2) := by decide +kernel
theorem dX3_spot_43 : decode cX3_spot 43 = .ok (.invokespecial 46, 3) := by decide +kernel
theorem dX3_spot_46 : decode cX3_spot 46 = .ok (.athrow, 1) := by decide +kernel
theorem dX3_spot_47 : decode cX3_spot 47 = .ok (.aload_n 0, 1) := by decide +kernel
theorem dX3_spot_48 : decode cX3_spot 48 = .ok (.getfield 10, 3) := by decide +kernel
theorem dX3_spot_51 : decode cX3_spot 51 = .ok (.iload_n 1, 1) := by decide +kernel
theorem dX3_spot_52 : decode cX3_spot 52 = .ok (.invokevirtual 184, 3) := by decide +kernel
theorem dX3_spot_55 : decode cX3_spot 55 = .ok (.ifCond .eq 16, 3) := by decide +kernel
theorem dX3_spot_58 : decode cX3_spot 58 = .ok (.aload_n 0, 1) := by decide +kernel
theorem dX3_spot_59 : decode cX3_spot 59 = .ok (.getfield 10, 3) := by decide +kernel
theorem dX3_spot_62 : decode cX3_spot 62 = .ok (.iload_n 1, 1) := by decide +kernel
theorem dX3_spot_63 : decode cX3_spot 63 = .ok (.iload_n 2, 1) := by decide +kernel
theorem dX3_spot_64 : decode cX3_spot 64 = .ok (.iload_n 3, 1) := by decide +kernel
theorem dX3_spot_65 : decode cX3_spot 65 = .ok (.invokevirtual 187, 3) := by decide +kernel
theorem dX3_spot_68 : decode cX3_spot 68 = .ok (.goto 5, 3) := by decide +kernel
theorem dX3_spot_71 : decode cX3_spot 71 = .ok (.ldc 176, 2) := by decide +kernel
theorem dX3_spot_73 : decode cX3_spot 73 = .ok (.ireturn, 1) := by decide +kernel
set_option maxRecDepth 20000 in
theorem ggX3_reading_X2_readingNumber : GoodIn wsX3_reading wsX2_readingNumber := goodIn_r _ [8, 9, 10, 11, 12, 13, 14, 7, 15, 16, 17, 18, 19, 20, 21, 22, 23, 24, 25, 26, 27, 28, 29, 30, 31, 32, 33, 34, 35, 36, 37, 38, 39, 40, 41, 42, 43, 44, 45, 46, 47, 48, 49, 50, 60, 61, 62, 63, 64, 65, 66] (by decide +kernel) (by decide +kernel)
set_option maxRecDepth 20000 in
theorem gX3_reading_X2_readingNumber : GoodIn wsX3_reading (wsV RX3 191 RX2 yX2_readingNumber wsX2_readingNumber) := goodIn_app (goodIn_of _ (by decide +kernel)) ggX3_reading_X2_readingNumber
theorem dX3_reading_0 : decode cX3_reading 0 = .ok (.iload_n 1, 1) := by decide +kernel
theorem dX3_reading_1 : decode cX3_reading 1 = .ok (.ifCond .lt 8, 3) := by decide +kernel
theorem dX3_reading_4 : decode cX3_reading 4 = .ok (.iload_n 1, 1) := by decide +kernel
theorem dX3_reading_5 : decode cX3_reading 5 = .ok (.iconst 3, 1) := by decide +kernel
theorem dX3_reading_6 : decode cX3_reading 6 = .ok (.if_icmp .le 13, 3) := by decide +kernel
theorem dX3_reading_9 : decode cX3_reading 9 = .ok (.new 42, 3) := by decide +kernel
theorem dX3_reading_12 : decode cX3_reading 12 = .ok (.dup, 1) := by decide +kernel
theorem dX3_reading_13 : decode cX3_reading 13 = .ok (.ldc 180, 2) := by decide +kernel
theorem dX3_reading_15 : decode cX3_reading 15 = .ok (.invokespecial 46, 3) := by decide +kernel
theorem dX3_reading_18 : decode cX3_reading 18 = .ok (.athrow, 1) := by decide +kernel
theorem dX3_reading_19 : decode cX3_reading 19 = .ok (.aload_n 0, 1) := by decide +kernel
theorem dX3_reading_20 : decode cX3_reading 20 = .ok (.getfield 10, 3) := by decide +kernel
theorem dX3_reading_23 : decode cX3_reading 23 = .ok (.iload_n 1, 1) := by decide +kernel
theorem dX3_reading_24 : decode cX3_reading 24 = .ok (.invokevirtual 191, 3) := by decide +kernel
theorem dX3_reading_27 : decode cX3_reading 27 = .ok (.ireturn, 1) := by decide +kernel
set_option maxRecDepth 20000 in
theorem ggX3_night_X0_nightNumber : GoodIn wsX3_night wsX0_nightNumber := goodIn_r _ [9, 10, 11, 12, 29, 30, 31, 32] (by decide +kernel) (by decide +kernel)
set_option maxRecDepth 20000 in
theorem gX3_night_X0_nightNumber : GoodIn wsX3_night (wsV RX3 200 RX0 yX0_nightNumber wsX0_nightNumber) := goodIn_app (goodIn_of _ (by decide +kernel)) ggX3_night_X0_nightNumber
theorem dX3_night_0 : decode cX3_night 0 = .ok (.iload_n 1, 1) := by decide +kernel
theorem dX3_night_1 : decode cX3_night 1 = .ok (.ifCond .lt 12, 3) := by decide +kernel
theorem dX3_night_4 : decode cX3_night 4 = .ok (.iload_n 2, 1) := by decide +kernel
theorem dX3_night_5 : decode cX3_night 5 = .ok (.ifCond .lt 8, 3) := by decide +kernel
theorem dX3_night_8 : decode cX3_night 8 = .ok (.iload_n 2, 1) := by decide +kernel
theorem dX3_night_9 : decode cX3_night 9 = .ok (.iconst 4, 1) := by decide +kernel
theorem dX3_night_10 : decode cX3_night 10 = .ok (.if_icmp .lt 13, 3) := by decide +kernel
theorem dX3_night_13 : decode cX3_night 13 = .ok (.new 42, 3) := by decide +kernel
theorem dX3_night_16 : decode cX3_night 16 = .ok (.dup, 1) := by decide +kernel
theorem dX3_night_17 : decode cX3_night 17 = .ok (.ldc 194, 2) := by decide +kernel
theorem dX3_night_19 : decode cX3_night 19 = .ok (.invokespecial 46, 3) := by decide +kernel
theorem dX3_night_22 : decode cX3_night 22 = .ok (.athrow, 1) := by decide +kernel
theorem dX3_night_23 : decode cX3_night 23 = .ok (.aload_n 0, 1) := by decide +kernel
theorem dX3_night_24 : decode cX3_night 24 = .ok (.getfield 10, 3) := by decide +kernel
theorem dX3_night_27 : decode cX3_night 27 = .ok (.getfield 196, 3) := by decide +kernel
theorem dX3_night_30 : decode cX3_night 30 = .ok (.iload_n 1, 1) := by decide +kernel
theorem dX3_night_31 : decode cX3_night 31 = .ok (.iload_n 2, 1) := by decide +kernel
theorem dX3_night_32 : decode cX3_night 32 = .ok (.invokevirtual 200, 3) := by decide +kernel
theorem dX3_night_35 : decode cX3_night 35 = .ok (.ireturn, 1) := by decide +kernel
set_option maxRecDepth 20000 in
theorem ggX3_count_X2_meetingHeight : GoodIn wsX3_count wsX2_meetingHeight := goodIn_r _ [18, 19, 20, 91, 92, 93, 94, 95, 96, 97] (by decide +kernel) (by decide +kernel)
set_option maxRecDepth 20000 in
theorem gX3_count_X2_meetingHeight : GoodIn wsX3_count (wsV RX3 211 RX2 yX2_meetingHeight wsX2_meetingHeight) := goodIn_app (goodIn_of _ (by decide +kernel)) ggX3_count_X2_meetingHeight
set_option maxRecDepth 20000 in
theorem ggX3_count_X2_seenSpots : GoodIn wsX3_count wsX2_seenSpots := goodIn_r _ [24, 25, 26, 27, 28, 17, 29, 30, 31, 32, 19, 33, 34, 35, 36, 37, 38, 39, 40, 41, 42, 43, 44, 45, 46, 91, 92, 93, 94, 95, 96, 97] (by decide +kernel) (by decide +kernel)
set_option maxRecDepth 20000 in
theorem gX3_count_X2_seenSpots : GoodIn wsX3_count (wsV RX3 214 RX2 yX2_seenSpots wsX2_seenSpots) := goodIn_app (goodIn_of _ (by decide +kernel)) ggX3_count_X2_seenSpots
set_option maxRecDepth 20000 in
theorem ggX3_count_X2_pairLayers : GoodIn wsX3_count wsX2_pairLayers := goodIn_r _ [50, 25, 19, 26, 27, 28, 17, 29, 30, 31, 32, 33, 34, 35, 36, 37, 38, 39, 91, 92, 93, 94, 95, 96, 97] (by decide +kernel) (by decide +kernel)
set_option maxRecDepth 20000 in
theorem gX3_count_X2_pairLayers : GoodIn wsX3_count (wsV RX3 217 RX2 yX2_pairLayers wsX2_pairLayers) := goodIn_app (goodIn_of _ (by decide +kernel)) ggX3_count_X2_pairLayers
set_option maxRecDepth 20000 in
theorem ggX3_count_J6_bitCount_0f7a4 : GoodIn wsX3_count wsJ6_bitCount_0f7a4 := goodIn_r _ [43, 44, 45, 46] (by decide +kernel) (by decide +kernel)
set_option maxRecDepth 20000 in
theorem gX3_count_J6_bitCount_0f7a4 : GoodIn wsX3_count (va_wsS RX3 220 yJ6_bitCount_0f7a4 wsJ6_bitCount_0f7a4) := goodIn_app (goodIn_of _ (by decide +kernel)) ggX3_count_J6_bitCount_0f7a4
set_option maxRecDepth 20000 in
theorem ggX3_count_X2_closePairs : GoodIn wsX3_count wsX2_closePairs := goodIn_r _ [55, 30, 56, 57, 58, 17, 59, 60, 61, 62, 63, 19, 64, 65, 66, 67, 68, 48, 49, 50, 25, 26, 27, 28, 29, 31, 32, 33, 34, 35, 36, 37, 38, 39, 69, 70, 71, 72, 73, 74, 75, 76, 77, 78, 79, 80, 81, 91, 92, 93, 94, 95, 96, 97] (by decide +kernel) (by decide +kernel)
set_option maxRecDepth 20000 in
theorem gX3_count_X2_closePairs : GoodIn wsX3_count (wsV RX3 225 RX2 yX2_closePairs wsX2_closePairs) := goodIn_app (goodIn_of _ (by decide +kernel)) ggX3_count_X2_closePairs
theorem dX3_count_0 : decode cX3_count 0 = .ok (.iload_n 1, 1) := by decide +kernel
theorem dX3_count_1 : decode cX3_count 1 = .ok (.tableswitch 264 0 16 #[83, 91, 101, 111, 119, 145, 162, 173, 181, 192, 203, 214, 219, 224, 234, 244, 254], 83) := by decide +kernel
theorem dX3_count_84 : decode cX3_count 84 = .ok (.aload_n 0, 1) := by decide +kernel
theorem dX3_count_85 : decode cX3_count 85 = .ok (.getfield 10, 3) := by decide +kernel
theorem dX3_count_88 : decode cX3_count 88 = .ok (.getfield 162, 3) := by decide +kernel
theorem dX3_count_91 : decode cX3_count 91 = .ok (.ireturn, 1) := by decide +kernel
theorem dX3_count_92 : decode cX3_count 92 = .ok (.aload_n 0, 1) := by decide +kernel
theorem dX3_count_93 : decode cX3_count 93 = .ok (.getfield 10, 3) := by decide +kernel
theorem dX3_count_96 : decode cX3_count 96 = .ok (.getfield 205, 3) := by decide +kernel
theorem dX3_count_99 : decode cX3_count 99 = .ok (.iconst 0, 1) := by decide +kernel
theorem dX3_count_100 : decode cX3_count 100 = .ok (.iaload, 1) := by decide +kernel
theorem dX3_count_101 : decode cX3_count 101 = .ok (.ireturn, 1) := by decide +kernel
theorem dX3_count_102 : decode cX3_count 102 = .ok (.aload_n 0, 1) := by decide +kernel
theorem dX3_count_103 : decode cX3_count 103 = .ok (.getfield 10, 3) := by decide +kernel
theorem dX3_count_106 : decode cX3_count 106 = .ok (.getfield 205, 3) := by decide +kernel
theorem dX3_count_109 : decode cX3_count 109 = .ok (.iconst 1, 1) := by decide +kernel
theorem dX3_count_110 : decode cX3_count 110 = .ok (.iaload, 1) := by decide +kernel
theorem dX3_count_111 : decode cX3_count 111 = .ok (.ireturn, 1) := by decide +kernel
theorem dX3_count_112 : decode cX3_count 112 = .ok (.aload_n 0, 1) := by decide +kernel
theorem dX3_count_113 : decode cX3_count 113 = .ok (.getfield 10, 3) := by decide +kernel
theorem dX3_count_116 : decode cX3_count 116 = .ok (.getfield 208, 3) := by decide +kernel
theorem dX3_count_119 : decode cX3_count 119 = .ok (.ireturn, 1) := by decide +kernel
theorem dX3_count_120 : decode cX3_count 120 = .ok (.aload_n 0, 1) := by decide +kernel
theorem dX3_count_121 : decode cX3_count 121 = .ok (.getfield 10, 3) := by decide +kernel
theorem dX3_count_124 : decode cX3_count 124 = .ok (.aload_n 0, 1) := by decide +kernel
theorem dX3_count_125 : decode cX3_count 125 = .ok (.getfield 10, 3) := by decide +kernel
theorem dX3_count_128 : decode cX3_count 128 = .ok (.getfield 205, 3) := by decide +kernel
theorem dX3_count_131 : decode cX3_count 131 = .ok (.iconst 0, 1) := by decide +kernel
theorem dX3_count_132 : decode cX3_count 132 = .ok (.iaload, 1) := by decide +kernel
theorem dX3_count_133 : decode cX3_count 133 = .ok (.aload_n 0, 1) := by decide +kernel
theorem dX3_count_134 : decode cX3_count 134 = .ok (.getfield 10, 3) := by decide +kernel
theorem dX3_count_137 : decode cX3_count 137 = .ok (.getfield 205, 3) := by decide +kernel
theorem dX3_count_140 : decode cX3_count 140 = .ok (.iconst 1, 1) := by decide +kernel
theorem dX3_count_141 : decode cX3_count 141 = .ok (.iaload, 1) := by decide +kernel
theorem dX3_count_142 : decode cX3_count 142 = .ok (.invokevirtual 211, 3) := by decide +kernel
theorem dX3_count_145 : decode cX3_count 145 = .ok (.ireturn, 1) := by decide +kernel
theorem dX3_count_146 : decode cX3_count 146 = .ok (.aload_n 0, 1) := by decide +kernel
theorem dX3_count_147 : decode cX3_count 147 = .ok (.getfield 10, 3) := by decide +kernel
theorem dX3_count_150 : decode cX3_count 150 = .ok (.aload_n 0, 1) := by decide +kernel
theorem dX3_count_151 : decode cX3_count 151 = .ok (.getfield 10, 3) := by decide +kernel
theorem dX3_count_154 : decode cX3_count 154 = .ok (.getfield 105, 3) := by decide +kernel
theorem dX3_count_157 : decode cX3_count 157 = .ok (.iconst 1, 1) := by decide +kernel
theorem dX3_count_158 : decode cX3_count 158 = .ok (.iaload, 1) := by decide +kernel
theorem dX3_count_159 : decode cX3_count 159 = .ok (.invokevirtual 214, 3) := by decide +kernel
theorem dX3_count_162 : decode cX3_count 162 = .ok (.ireturn, 1) := by decide +kernel
theorem dX3_count_163 : decode cX3_count 163 = .ok (.aload_n 0, 1) := by decide +kernel
theorem dX3_count_164 : decode cX3_count 164 = .ok (.getfield 10, 3) := by decide +kernel
theorem dX3_count_167 : decode cX3_count 167 = .ok (.invokevirtual 217, 3) := by decide +kernel
theorem dX3_count_170 : decode cX3_count 170 = .ok (.invokestatic 220, 3) := by decide +kernel
theorem dX3_count_173 : decode cX3_count 173 = .ok (.ireturn, 1) := by decide +kernel
theorem dX3_count_174 : decode cX3_count 174 = .ok (.aload_n 0, 1) := by decide +kernel
theorem dX3_count_175 : decode cX3_count 175 = .ok (.getfield 10, 3) := by decide +kernel
theorem dX3_count_178 : decode cX3_count 178 = .ok (.invokevirtual 225, 3) := by decide +kernel
theorem dX3_count_181 : decode cX3_count 181 = .ok (.ireturn, 1) := by decide +kernel
theorem dX3_count_182 : decode cX3_count 182 = .ok (.aload_n 0, 1) := by decide +kernel
theorem dX3_count_183 : decode cX3_count 183 = .ok (.getfield 10, 3) := by decide +kernel
theorem dX3_count_186 : decode cX3_count 186 = .ok (.getfield 196, 3) := by decide +kernel
theorem dX3_count_189 : decode cX3_count 189 = .ok (.getfield 228, 3) := by decide +kernel
theorem dX3_count_192 : decode cX3_count 192 = .ok (.ireturn, 1) := by decide +kernel
theorem dX3_count_193 : decode cX3_count 193 = .ok (.aload_n 0, 1) := by decide +kernel
theorem dX3_count_194 : decode cX3_count 194 = .ok (.getfield 10, 3) := by decide +kernel
theorem dX3_count_197 : decode cX3_count 197 = .ok (.getfield 196, 3) := by decide +kernel
theorem dX3_count_200 : decode cX3_count 200 = .ok (.getfield 231, 3) := by decide +kernel
theorem dX3_count_203 : decode cX3_count 203 = .ok (.ireturn, 1) := by decide +kernel
theorem dX3_count_204 : decode cX3_count 204 = .ok (.aload_n 0, 1) := by decide +kernel
theorem dX3_count_205 : decode cX3_count 205 = .ok (.getfield 10, 3) := by decide +kernel
theorem dX3_count_208 : decode cX3_count 208 = .ok (.getfield 196, 3) := by decide +kernel
theorem dX3_count_211 : decode cX3_count 211 = .ok (.getfield 234, 3) := by decide +kernel
theorem dX3_count_214 : decode cX3_count 214 = .ok (.ireturn, 1) := by decide +kernel
theorem dX3_count_215 : decode cX3_count 215 = .ok (.aload_n 0, 1) := by decide +kernel
theorem dX3_count_216 : decode cX3_count 216 = .ok (.getfield 145, 3) := by decide +kernel
theorem dX3_count_219 : decode cX3_count 219 = .ok (.ireturn, 1) := by decide +kernel
theorem dX3_count_220 : decode cX3_count 220 = .ok (.aload_n 0, 1) := by decide +kernel
theorem dX3_count_221 : decode cX3_count 221 = .ok (.getfield 127, 3) := by decide +kernel
theorem dX3_count_224 : decode cX3_count 224 = .ok (.ireturn, 1) := by decide +kernel
theorem dX3_count_225 : decode cX3_count 225 = .ok (.aload_n 0, 1) := by decide +kernel
theorem dX3_count_226 : decode cX3_count 226 = .ok (.getfield 10, 3) := by decide +kernel
theorem dX3_count_229 : decode cX3_count 229 = .ok (.getfield 105, 3) := by decide +kernel
theorem dX3_count_232 : decode cX3_count 232 = .ok (.iconst 0, 1) := by decide +kernel
theorem dX3_count_233 : decode cX3_count 233 = .ok (.iaload, 1) := by decide +kernel
theorem dX3_count_234 : decode cX3_count 234 = .ok (.ireturn, 1) := by decide +kernel
theorem dX3_count_235 : decode cX3_count 235 = .ok (.aload_n 0, 1) := by decide +kernel
theorem dX3_count_236 : decode cX3_count 236 = .ok (.getfield 10, 3) := by decide +kernel
theorem dX3_count_239 : decode cX3_count 239 = .ok (.getfield 105, 3) := by decide +kernel
theorem dX3_count_242 : decode cX3_count 242 = .ok (.iconst 1, 1) := by decide +kernel
theorem dX3_count_243 : decode cX3_count 243 = .ok (.iaload, 1) := by decide +kernel
theorem dX3_count_244 : decode cX3_count 244 = .ok (.ireturn, 1) := by decide +kernel
theorem dX3_count_245 : decode cX3_count 245 = .ok (.aload_n 0, 1) := by decide +kernel
theorem dX3_count_246 : decode cX3_count 246 = .ok (.getfield 10, 3) := by decide +kernel
theorem dX3_count_249 : decode cX3_count 249 = .ok (.getfield 105, 3) := by decide +kernel
theorem dX3_count_252 : decode cX3_count 252 = .ok (.iconst 2, 1) := by decide +kernel
theorem dX3_count_253 : decode cX3_count 253 = .ok (.iaload, 1) := by decide +kernel
theorem dX3_count_254 : decode cX3_count 254 = .ok (.ireturn, 1) := by decide +kernel
theorem dX3_count_255 : decode cX3_count 255 = .ok (.aload_n 0, 1) := by decide +kernel
theorem dX3_count_256 : decode cX3_count 256 = .ok (.getfield 10, 3) := by decide +kernel
theorem dX3_count_259 : decode cX3_count 259 = .ok (.getfield 105, 3) := by decide +kernel
theorem dX3_count_262 : decode cX3_count 262 = .ok (.iconst 3, 1) := by decide +kernel
theorem dX3_count_263 : decode cX3_count 263 = .ok (.iaload, 1) := by decide +kernel
theorem dX3_count_264 : decode cX3_count 264 = .ok (.ireturn, 1) := by decide +kernel
theorem dX3_count_265 : decode cX3_count 265 = .ok (.new 42, 3) := by decide +kernel
theorem dX3_count_268 : decode cX3_count 268 = .ok (.dup, 1) := by decide +kernel
theorem dX3_count_269 : decode cX3_count 269 = .ok (.ldc 237, 2) := by decide +kernel
theorem dX3_count_271 : decode cX3_count 271 = .ok (.invokespecial 46, 3) := by decide +kernel
theorem dX3_count_274 : decode cX3_count 274 = .ok (.athrow, 1) := by decide +kernel
set_option maxRecDepth 20000 in
theorem ggX3_nearest_X3_isLight : GoodIn wsX3_nearest wsX3_isLight := goodIn_r _ [9] (by decide +kernel) (by decide +kernel)
set_option maxRecDepth 20000 in
theorem gX3_nearest_X3_isLight : GoodIn wsX3_nearest (va_wsS RX3 81 yX3_isLight wsX3_isLight) := goodIn_app (goodIn_of _ (by decide +kernel)) ggX3_nearest_X3_isLight
set_option maxRecDepth 20000 in
theorem ggX3_nearest_X2_hasLayer : GoodIn wsX3_nearest wsX2_hasLayer := goodIn_r _ [14, 15, 54, 55, 56, 57, 58, 59, 60] (by decide +kernel) (by decide +kernel)
set_option maxRecDepth 20000 in
theorem gX3_nearest_X2_hasLayer : GoodIn wsX3_nearest (wsV RX3 64 RX2 yX2_hasLayer wsX2_hasLayer) := goodIn_app (goodIn_of _ (by decide +kernel)) ggX3_nearest_X2_hasLayer
set_option maxRecDepth 20000 in
theorem ggX3_nearest_X2_slopeFoundByTrying : GoodIn wsX3_nearest wsX2_slopeFoundByTrying := goodIn_r _ [19, 20, 21, 22, 13, 23, 24, 25, 26, 27, 28, 29, 30, 31, 32, 33, 34, 54, 55, 56, 57, 58, 59, 60] (by decide +kernel) (by decide +kernel)
set_option maxRecDepth 20000 in
theorem gX3_nearest_X2_slopeFoundByTrying : GoodIn wsX3_nearest (wsV RX3 110 RX2 yX2_slopeFoundByTrying wsX2_slopeFoundByTrying) := goodIn_app (goodIn_of _ (by decide +kernel)) ggX3_nearest_X2_slopeFoundByTrying
set_option maxRecDepth 20000 in
theorem ggX3_nearest_X2_slopeFoundByComputing : GoodIn wsX3_nearest wsX2_slopeFoundByComputing := goodIn_r _ [38, 24, 25, 39, 40, 28, 41, 42, 43, 44, 30, 31, 32, 13, 33, 34, 20, 21, 22, 23, 26, 27, 29, 54, 55, 56, 57, 58, 59, 60] (by decide +kernel) (by decide +kernel)
set_option maxRecDepth 20000 in
theorem gX3_nearest_X2_slopeFoundByComputing : GoodIn wsX3_nearest (wsV RX3 241 RX2 yX2_slopeFoundByComputing wsX2_slopeFoundByComputing) := goodIn_app (goodIn_of _ (by decide +kernel)) ggX3_nearest_X2_slopeFoundByComputing
theorem dX3_nearest_0 : decode cX3_nearest 0 = .ok (.iload_n 1, 1) := by decide +kernel
theorem dX3_nearest_1 : decode cX3_nearest 1 = .ok (.invokestatic 81, 3) := by decide +kernel
theorem dX3_nearest_4 : decode cX3_nearest 4 = .ok (.ifCond .eq 14, 3) := by decide +kernel
theorem dX3_nearest_7 : decode cX3_nearest 7 = .ok (.aload_n 0, 1) := by decide +kernel
theorem dX3_nearest_8 : decode cX3_nearest 8 = .ok (.getfield 10, 3) := by decide +kernel
theorem dX3_nearest_11 : decode cX3_nearest 11 = .ok (.iload_n 2, 1) := by decide +kernel
theorem dX3_nearest_12 : decode cX3_nearest 12 = .ok (.invokevirtual 64, 3) := by decide +kernel
theorem dX3_nearest_15 : decode cX3_nearest 15 = .ok (.ifCond .ne 13, 3) := by decide +kernel
theorem dX3_nearest_18 : decode cX3_nearest 18 = .ok (.new 67, 3) := by decide +kernel
theorem dX3_nearest_21 : decode cX3_nearest 21 = .ok (.dup, 1) := by decide +kernel
theorem dX3_nearest_22 : decode cX3_nearest 22 = .ok (.ldc 108, 2) := by decide +kernel
theorem dX3_nearest_24 : decode cX3_nearest 24 = .ok (.invokespecial 71, 3) := by decide +kernel
theorem dX3_nearest_27 : decode cX3_nearest 27 = .ok (.athrow, 1) := by decide +kernel
theorem dX3_nearest_28 : decode cX3_nearest 28 = .ok (.iload_n 3, 1) := by decide +kernel
theorem dX3_nearest_29 : decode cX3_nearest 29 = .ok (.ifCond .eq 18, 3) := by decide +kernel
theorem dX3_nearest_32 : decode cX3_nearest 32 = .ok (.iload_n 3, 1) := by decide +kernel
theorem dX3_nearest_33 : decode cX3_nearest 33 = .ok (.iconst 1, 1) := by decide +kernel
theorem dX3_nearest_34 : decode cX3_nearest 34 = .ok (.if_icmp .eq 13, 3) := by decide +kernel
theorem dX3_nearest_37 : decode cX3_nearest 37 = .ok (.new 42, 3) := by decide +kernel
theorem dX3_nearest_40 : decode cX3_nearest 40 = .ok (.dup, 1) := by decide +kernel
theorem dX3_nearest_41 : decode cX3_nearest 41 = .ok (.ldc 239, 2) := by decide +kernel
theorem dX3_nearest_43 : decode cX3_nearest 43 = .ok (.invokespecial 46, 3) := by decide +kernel
theorem dX3_nearest_46 : decode cX3_nearest 46 = .ok (.athrow, 1) := by decide +kernel
theorem dX3_nearest_47 : decode cX3_nearest 47 = .ok (.iload_n 3, 1) := by decide +kernel
theorem dX3_nearest_48 : decode cX3_nearest 48 = .ok (.ifCond .ne 15, 3) := by decide +kernel
theorem dX3_nearest_51 : decode cX3_nearest 51 = .ok (.aload_n 0, 1) := by decide +kernel
theorem dX3_nearest_52 : decode cX3_nearest 52 = .ok (.getfield 10, 3) := by decide +kernel
theorem dX3_nearest_55 : decode cX3_nearest 55 = .ok (.iload_n 1, 1) := by decide +kernel
theorem dX3_nearest_56 : decode cX3_nearest 56 = .ok (.iload_n 2, 1) := by decide +kernel
theorem dX3_nearest_57 : decode cX3_nearest 57 = .ok (.invokevirtual 110, 3) := by decide +kernel
theorem dX3_nearest_60 : decode cX3_nearest 60 = .ok (.goto 12, 3) := by decide +kernel
theorem dX3_nearest_63 : decode cX3_nearest 63 = .ok (.aload_n 0, 1) := by decide +kernel
theorem dX3_nearest_64 : decode cX3_nearest 64 = .ok (.getfield 10, 3) := by decide +kernel
theorem dX3_nearest_67 : decode cX3_nearest 67 = .ok (.iload_n 1, 1) := by decide +kernel
theorem dX3_nearest_68 : decode cX3_nearest 68 = .ok (.iload_n 2, 1) := by decide +kernel
theorem dX3_nearest_69 : decode cX3_nearest 69 = .ok (.invokevirtual 241, 3) := by decide +kernel
theorem dX3_nearest_72 : decode cX3_nearest 72 = .ok (.istore 4, 2) := by decide +kernel
theorem dX3_nearest_74 : decode cX3_nearest 74 = .ok (.iload 4, 2) := by decide +kernel
theorem dX3_nearest_76 : decode cX3_nearest 76 = .ok (.bipush 100, 2) := by decide +kernel
theorem dX3_nearest_78 : decode cX3_nearest 78 = .ok (.iadd, 1) := by decide +kernel
theorem dX3_nearest_79 : decode cX3_nearest 79 = .ok (.ireturn, 1) := by decide +kernel
set_option maxRecDepth 20000 in
theorem ggX3_ifScanned_X3_isLight : GoodIn wsX3_ifScanned wsX3_isLight := goodIn_r _ [9] (by decide +kernel) (by decide +kernel)
set_option maxRecDepth 20000 in
theorem gX3_ifScanned_X3_isLight : GoodIn wsX3_ifScanned (va_wsS RX3 81 yX3_isLight wsX3_isLight) := goodIn_app (goodIn_of _ (by decide +kernel)) ggX3_ifScanned_X3_isLight
set_option maxRecDepth 20000 in
theorem ggX3_ifScanned_X2_slopesWithReading : GoodIn wsX3_ifScanned wsX2_slopesWithReading := goodIn_r _ [14, 15, 16, 17, 13, 18, 19, 20, 21, 22, 23, 24, 25, 26, 27, 28, 29, 30, 31, 32, 33, 34, 35, 36, 37, 38, 39, 40, 41, 42, 43, 44, 45, 46, 47, 48, 49, 50, 51, 52, 53, 54, 55, 56, 57, 58, 59, 60, 61, 62, 63, 64, 78, 79, 80, 81, 82, 83, 84] (by decide +kernel) (by decide +kernel)
set_option maxRecDepth 20000 in
theorem gX3_ifScanned_X2_slopesWithReading : GoodIn wsX3_ifScanned (wsV RX3 244 RX2 yX2_slopesWithReading wsX2_slopesWithReading) := goodIn_app (goodIn_of _ (by decide +kernel)) ggX3_ifScanned_X2_slopesWithReading
set_option maxRecDepth 20000 in
theorem ggX3_ifScanned_X2_outermostSlopeWithReading : GoodIn wsX3_ifScanned wsX2_outermostSlopeWithReading := goodIn_r _ [68, 60, 15, 16, 17, 13, 18, 19, 20, 21, 22, 23, 24, 25, 26, 27, 28, 29, 30, 31, 32, 33, 34, 35, 36, 37, 38, 39, 40, 41, 42, 43, 44, 45, 46, 47, 48, 49, 50, 51, 78, 79, 80, 81, 82, 83, 84] (by decide +kernel) (by decide +kernel)
set_option maxRecDepth 20000 in
theorem gX3_ifScanned_X2_outermostSlopeWithReading : GoodIn wsX3_ifScanned (wsV RX3 248 RX2 yX2_outermostSlopeWithReading wsX2_outermostSlopeWithReading) := goodIn_app (goodIn_of _ (by decide +kernel)) ggX3_ifScanned_X2_outermostSlopeWithReading
theorem dX3_ifScanned_0 : decode cX3_ifScanned 0 = .ok (.iload_n 1, 1) := by decide +kernel
theorem dX3_ifScanned_1 : decode cX3_ifScanned 1 = .ok (.invokestatic 81, 3) := by decide +kernel
theorem dX3_ifScanned_4 : decode cX3_ifScanned 4 = .ok (.ifCond .ne 13, 3) := by decide +kernel
theorem dX3_ifScanned_7 : decode cX3_ifScanned 7 = .ok (.new 67, 3) := by decide +kernel
theorem dX3_ifScanned_10 : decode cX3_ifScanned 10 = .ok (.dup, 1) := by decide +kernel
theorem dX3_ifScanned_11 : decode cX3_ifScanned 11 = .ok (.ldc 84, 2) := by decide +kernel
theorem dX3_ifScanned_13 : decode cX3_ifScanned 13 = .ok (.invokespecial 71, 3) := by decide +kernel
theorem dX3_ifScanned_16 : decode cX3_ifScanned 16 = .ok (.athrow, 1) := by decide +kernel
theorem dX3_ifScanned_17 : decode cX3_ifScanned 17 = .ok (.iload_n 2, 1) := by decide +kernel
theorem dX3_ifScanned_18 : decode cX3_ifScanned 18 = .ok (.ifCond .lt 8, 3) := by decide +kernel
theorem dX3_ifScanned_21 : decode cX3_ifScanned 21 = .ok (.iload_n 2, 1) := by decide +kernel
theorem dX3_ifScanned_22 : decode cX3_ifScanned 22 = .ok (.iconst 3, 1) := by decide +kernel
theorem dX3_ifScanned_23 : decode cX3_ifScanned 23 = .ok (.if_icmp .le 13, 3) := by decide +kernel
theorem dX3_ifScanned_26 : decode cX3_ifScanned 26 = .ok (.new 42, 3) := by decide +kernel
theorem dX3_ifScanned_29 : decode cX3_ifScanned 29 = .ok (.dup, 1) := by decide +kernel
theorem dX3_ifScanned_30 : decode cX3_ifScanned 30 = .ok (.ldc 180, 2) := by decide +kernel
theorem dX3_ifScanned_32 : decode cX3_ifScanned 32 = .ok (.invokespecial 46, 3) := by decide +kernel
theorem dX3_ifScanned_35 : decode cX3_ifScanned 35 = .ok (.athrow, 1) := by decide +kernel
theorem dX3_ifScanned_36 : decode cX3_ifScanned 36 = .ok (.iload_n 2, 1) := by decide +kernel
theorem dX3_ifScanned_37 : decode cX3_ifScanned 37 = .ok (.iconst 2, 1) := by decide +kernel
theorem dX3_ifScanned_38 : decode cX3_ifScanned 38 = .ok (.if_icmp .ge 24, 3) := by decide +kernel
theorem dX3_ifScanned_41 : decode cX3_ifScanned 41 = .ok (.aload_n 0, 1) := by decide +kernel
theorem dX3_ifScanned_42 : decode cX3_ifScanned 42 = .ok (.getfield 10, 3) := by decide +kernel
theorem dX3_ifScanned_45 : decode cX3_ifScanned 45 = .ok (.iload_n 1, 1) := by decide +kernel
theorem dX3_ifScanned_46 : decode cX3_ifScanned 46 = .ok (.iload_n 2, 1) := by decide +kernel
theorem dX3_ifScanned_47 : decode cX3_ifScanned 47 = .ok (.iconst 1, 1) := by decide +kernel
theorem dX3_ifScanned_48 : decode cX3_ifScanned 48 = .ok (.if_icmp .ne 7, 3) := by decide +kernel
theorem dX3_ifScanned_51 : decode cX3_ifScanned 51 = .ok (.iconst 1, 1) := by decide +kernel
theorem dX3_ifScanned_52 : decode cX3_ifScanned 52 = .ok (.goto 4, 3) := by decide +kernel
theorem dX3_ifScanned_55 : decode cX3_ifScanned 55 = .ok (.iconst 0, 1) := by decide +kernel
theorem dX3_ifScanned_56 : decode cX3_ifScanned 56 = .ok (.invokevirtual 244, 3) := by decide +kernel
theorem dX3_ifScanned_59 : decode cX3_ifScanned 59 = .ok (.goto 21, 3) := by decide +kernel
theorem dX3_ifScanned_62 : decode cX3_ifScanned 62 = .ok (.aload_n 0, 1) := by decide +kernel
theorem dX3_ifScanned_63 : decode cX3_ifScanned 63 = .ok (.getfield 10, 3) := by decide +kernel
theorem dX3_ifScanned_66 : decode cX3_ifScanned 66 = .ok (.iload_n 1, 1) := by decide +kernel
theorem dX3_ifScanned_67 : decode cX3_ifScanned 67 = .ok (.iload_n 2, 1) := by decide +kernel
theorem dX3_ifScanned_68 : decode cX3_ifScanned 68 = .ok (.iconst 3, 1) := by decide +kernel
theorem dX3_ifScanned_69 : decode cX3_ifScanned 69 = .ok (.if_icmp .ne 7, 3) := by decide +kernel
theorem dX3_ifScanned_72 : decode cX3_ifScanned 72 = .ok (.iconst 1, 1) := by decide +kernel
theorem dX3_ifScanned_73 : decode cX3_ifScanned 73 = .ok (.goto 4, 3) := by decide +kernel
theorem dX3_ifScanned_76 : decode cX3_ifScanned 76 = .ok (.iconst 0, 1) := by decide +kernel
theorem dX3_ifScanned_77 : decode cX3_ifScanned 77 = .ok (.invokevirtual 248, 3) := by decide +kernel
theorem dX3_ifScanned_80 : decode cX3_ifScanned 80 = .ok (.ireturn, 1) := by decide +kernel
set_option maxRecDepth 20000 in
theorem ggX3_clearEnough_X2_seenSpots : GoodIn wsX3_clearEnough wsX2_seenSpots := goodIn_r _ [6, 7, 8, 9, 10, 5, 11, 12, 13, 14, 15, 16, 17, 18, 19, 20, 21, 22, 23, 24, 25, 26, 27, 28, 29, 39, 40, 41, 42, 43, 44, 45] (by decide +kernel) (by decide +kernel)
set_option maxRecDepth 20000 in
theorem gX3_clearEnough_X2_seenSpots : GoodIn wsX3_clearEnough (wsV RX3 214 RX2 yX2_seenSpots wsX2_seenSpots) := goodIn_app (goodIn_of _ (by decide +kernel)) ggX3_clearEnough_X2_seenSpots
theorem dX3_clearEnough_0 : decode cX3_clearEnough 0 = .ok (.aload_n 0, 1) := by decide +kernel
theorem dX3_clearEnough_1 : decode cX3_clearEnough 1 = .ok (.getfield 10, 3) := by decide +kernel
theorem dX3_clearEnough_4 : decode cX3_clearEnough 4 = .ok (.iconst 0, 1) := by decide +kernel
theorem dX3_clearEnough_5 : decode cX3_clearEnough 5 = .ok (.invokevirtual 214, 3) := by decide +kernel
theorem dX3_clearEnough_8 : decode cX3_clearEnough 8 = .ok (.istore_n 1, 1) := by decide +kernel
theorem dX3_clearEnough_9 : decode cX3_clearEnough 9 = .ok (.sipush 1000, 3) := by decide +kernel
theorem dX3_clearEnough_12 : decode cX3_clearEnough 12 = .ok (.istore_n 2, 1) := by decide +kernel
theorem dX3_clearEnough_13 : decode cX3_clearEnough 13 = .ok (.iload_n 2, 1) := by decide +kernel
theorem dX3_clearEnough_14 : decode cX3_clearEnough 14 = .ok (.ifCond .le 23, 3) := by decide +kernel
theorem dX3_clearEnough_17 : decode cX3_clearEnough 17 = .ok (.aload_n 0, 1) := by decide +kernel
theorem dX3_clearEnough_18 : decode cX3_clearEnough 18 = .ok (.getfield 10, 3) := by decide +kernel
theorem dX3_clearEnough_21 : decode cX3_clearEnough 21 = .ok (.iload_n 2, 1) := by decide +kernel
theorem dX3_clearEnough_22 : decode cX3_clearEnough 22 = .ok (.invokevirtual 214, 3) := by decide +kernel
theorem dX3_clearEnough_25 : decode cX3_clearEnough 25 = .ok (.iload_n 1, 1) := by decide +kernel
theorem dX3_clearEnough_26 : decode cX3_clearEnough 26 = .ok (.if_icmp .ne 5, 3) := by decide +kernel
theorem dX3_clearEnough_29 : decode cX3_clearEnough 29 = .ok (.iload_n 2, 1) := by decide +kernel
theorem dX3_clearEnough_30 : decode cX3_clearEnough 30 = .ok (.ireturn, 1) := by decide +kernel
theorem dX3_clearEnough_31 : decode cX3_clearEnough 31 = .ok (.iinc 2 (-1), 3) := by decide +kernel
theorem dX3_clearEnough_34 : decode cX3_clearEnough 34 = .ok (.goto (-21), 3) := by decide +kernel
theorem dX3_clearEnough_37 : decode cX3_clearEnough 37 = .ok (.iconst 0, 1) := by decide +kernel
theorem dX3_clearEnough_38 : decode cX3_clearEnough 38 = .ok (.ireturn, 1) := by decide +kernel
set_option maxRecDepth 20000 in
theorem ggX3_meanError_X0_meanSizeOfErrors : GoodIn wsX3_meanError wsX0_meanSizeOfErrors := goodIn_r _ [7, 8, 9, 10, 11, 12, 13, 14, 15, 16, 6, 17, 18, 35, 36, 37, 38] (by decide +kernel) (by decide +kernel)
set_option maxRecDepth 20000 in
theorem gX3_meanError_X0_meanSizeOfErrors : GoodIn wsX3_meanError (wsV RX3 251 RX0 yX0_meanSizeOfErrors wsX0_meanSizeOfErrors) := goodIn_app (goodIn_of _ (by decide +kernel)) ggX3_meanError_X0_meanSizeOfErrors
theorem dX3_meanError_0 : decode cX3_meanError 0 = .ok (.aload_n 0, 1) := by decide +kernel
theorem dX3_meanError_1 : decode cX3_meanError 1 = .ok (.getfield 10, 3) := by decide +kernel
theorem dX3_meanError_4 : decode cX3_meanError 4 = .ok (.getfield 196, 3) := by decide +kernel
theorem dX3_meanError_7 : decode cX3_meanError 7 = .ok (.invokevirtual 251, 3) := by decide +kernel
theorem dX3_meanError_10 : decode cX3_meanError 10 = .ok (.freturn, 1) := by decide +kernel
theorem dX3_isLight_0 : decode cX3_isLight 0 = .ok (.iload_n 0, 1) := by decide +kernel
theorem dX3_isLight_1 : decode cX3_isLight 1 = .ok (.ifCond .lt 12, 3) := by decide +kernel
theorem dX3_isLight_4 : decode cX3_isLight 4 = .ok (.iload_n 0, 1) := by decide +kernel
theorem dX3_isLight_5 : decode cX3_isLight 5 = .ok (.iconst 2, 1) := by decide +kernel
theorem dX3_isLight_6 : decode cX3_isLight 6 = .ok (.if_icmp .ge 7, 3) := by decide +kernel
theorem dX3_isLight_9 : decode cX3_isLight 9 = .ok (.iconst 1, 1) := by decide +kernel
theorem dX3_isLight_10 : decode cX3_isLight 10 = .ok (.goto 4, 3) := by decide +kernel
theorem dX3_isLight_13 : decode cX3_isLight 13 = .ok (.iconst 0, 1) := by decide +kernel
theorem dX3_isLight_14 : decode cX3_isLight 14 = .ok (.ireturn, 1) := by decide +kernel
theorem dX3_isThickness_0 : decode cX3_isThickness 0 = .ok (.iload_n 0, 1) := by decide +kernel
theorem dX3_isThickness_1 : decode cX3_isThickness 1 = .ok (.iconst 1, 1) := by decide +kernel
theorem dX3_isThickness_2 : decode cX3_isThickness 2 = .ok (.if_icmp .lt 13, 3) := by decide +kernel
theorem dX3_isThickness_5 : decode cX3_isThickness 5 = .ok (.iload_n 0, 1) := by decide +kernel
theorem dX3_isThickness_6 : decode cX3_isThickness 6 = .ok (.bipush 100, 2) := by decide +kernel
theorem dX3_isThickness_8 : decode cX3_isThickness 8 = .ok (.if_icmp .gt 7, 3) := by decide +kernel
theorem dX3_isThickness_11 : decode cX3_isThickness 11 = .ok (.iconst 1, 1) := by decide +kernel
theorem dX3_isThickness_12 : decode cX3_isThickness 12 = .ok (.goto 4, 3) := by decide +kernel
theorem dX3_isThickness_15 : decode cX3_isThickness 15 = .ok (.iconst 0, 1) := by decide +kernel
theorem dX3_isThickness_16 : decode cX3_isThickness 16 = .ok (.ireturn, 1) := by decide +kernel
set_option maxRecDepth 20000 in
theorem ggX3_copySky_X2_becomeLike : GoodIn wsX3_copySky wsX2_becomeLike := goodIn_r _ [5, 6, 7, 8, 9, 10, 11, 12, 13, 14, 15, 16, 17, 18, 19, 20, 21, 22, 23, 24, 25, 26, 27, 28, 29, 30, 31, 32, 33, 34, 35, 36, 37] (by decide +kernel) (by decide +kernel)
set_option maxRecDepth 20000 in
theorem gX3_copySky_X2_becomeLike : GoodIn wsX3_copySky (wsV RX3 255 RX2 yX2_becomeLike wsX2_becomeLike) := goodIn_app (goodIn_of _ (by decide +kernel)) ggX3_copySky_X2_becomeLike
theorem dX3_copySky_0 : decode cX3_copySky 0 = .ok (.aload_n 0, 1) := by decide +kernel
theorem dX3_copySky_1 : decode cX3_copySky 1 = .ok (.ifnull 12, 3) := by decide +kernel
theorem dX3_copySky_4 : decode cX3_copySky 4 = .ok (.aload_n 1, 1) := by decide +kernel
theorem dX3_copySky_5 : decode cX3_copySky 5 = .ok (.ifnull 8, 3) := by decide +kernel
theorem dX3_copySky_8 : decode cX3_copySky 8 = .ok (.aload_n 1, 1) := by decide +kernel
theorem dX3_copySky_9 : decode cX3_copySky 9 = .ok (.aload_n 0, 1) := by decide +kernel
theorem dX3_copySky_10 : decode cX3_copySky 10 = .ok (.invokevirtual 255, 3) := by decide +kernel
theorem dX3_copySky_13 : decode cX3_copySky 13 = .ok (.return_, 1) := by decide +kernel
set_option maxRecDepth 20000 in
theorem ggX3_saveState_X3_copySky : GoodIn wsX3_saveState wsX3_copySky := goodIn_r _ [12, 13, 14, 15, 16, 17, 18, 19, 20, 21, 22, 23, 24, 25, 26, 27, 28, 29, 30, 31, 32, 33, 34, 35, 36, 37, 38, 48, 49, 50, 51, 52, 53, 54, 55, 56, 57, 58] (by decide +kernel) (by decide +kernel)
set_option maxRecDepth 20000 in
theorem gX3_saveState_X3_copySky : GoodIn wsX3_saveState (va_wsS RX3 153 yX3_copySky wsX3_copySky) := goodIn_app (goodIn_of _ (by decide +kernel)) ggX3_saveState_X3_copySky
theorem dX3_saveState_0 : decode cX3_saveState 0 = .ok (.aload_n 0, 1) := by decide +kernel
theorem dX3_saveState_1 : decode cX3_saveState 1 = .ok (.getfield 10, 3) := by decide +kernel
theorem dX3_saveState_4 : decode cX3_saveState 4 = .ok (.aload_n 0, 1) := by decide +kernel
theorem dX3_saveState_5 : decode cX3_saveState 5 = .ok (.getfield 16, 3) := by decide +kernel
theorem dX3_saveState_8 : decode cX3_saveState 8 = .ok (.aload_n 0, 1) := by decide +kernel
theorem dX3_saveState_9 : decode cX3_saveState 9 = .ok (.getfield 150, 3) := by decide +kernel
theorem dX3_saveState_12 : decode cX3_saveState 12 = .ok (.aaload, 1) := by decide +kernel
theorem dX3_saveState_13 : decode cX3_saveState 13 = .ok (.invokestatic 153, 3) := by decide +kernel
theorem dX3_saveState_16 : decode cX3_saveState 16 = .ok (.aload_n 0, 1) := by decide +kernel
theorem dX3_saveState_17 : decode cX3_saveState 17 = .ok (.aload_n 0, 1) := by decide +kernel
theorem dX3_saveState_18 : decode cX3_saveState 18 = .ok (.getfield 150, 3) := by decide +kernel
theorem dX3_saveState_21 : decode cX3_saveState 21 = .ok (.iconst 1, 1) := by decide +kernel
theorem dX3_saveState_22 : decode cX3_saveState 22 = .ok (.iadd, 1) := by decide +kernel
theorem dX3_saveState_23 : decode cX3_saveState 23 = .ok (.bipush 6, 2) := by decide +kernel
theorem dX3_saveState_25 : decode cX3_saveState 25 = .ok (.irem, 1) := by decide +kernel
theorem dX3_saveState_26 : decode cX3_saveState 26 = .ok (.putfield 150, 3) := by decide +kernel
theorem dX3_saveState_29 : decode cX3_saveState 29 = .ok (.aload_n 0, 1) := by decide +kernel
theorem dX3_saveState_30 : decode cX3_saveState 30 = .ok (.aload_n 0, 1) := by decide +kernel
theorem dX3_saveState_31 : decode cX3_saveState 31 = .ok (.getfield 145, 3) := by decide +kernel
theorem dX3_saveState_34 : decode cX3_saveState 34 = .ok (.iconst 1, 1) := by decide +kernel
theorem dX3_saveState_35 : decode cX3_saveState 35 = .ok (.iadd, 1) := by decide +kernel
theorem dX3_saveState_36 : decode cX3_saveState 36 = .ok (.bipush 6, 2) := by decide +kernel
theorem dX3_saveState_38 : decode cX3_saveState 38 = .ok (.invokestatic 259, 3) := by decide +kernel
theorem dX3_saveState_41 : decode cX3_saveState 41 = .ok (.putfield 145, 3) := by decide +kernel
theorem dX3_saveState_44 : decode cX3_saveState 44 = .ok (.return_, 1) := by decide +kernel
theorem dJ6_bitCount_0f7a4_0 : decode cJ6_bitCount_0f7a4 0 = .ok (.iload_n 0, 1) := by decide +kernel
theorem dJ6_bitCount_0f7a4_1 : decode cJ6_bitCount_0f7a4 1 = .ok (.iload_n 0, 1) := by decide +kernel
theorem dJ6_bitCount_0f7a4_2 : decode cJ6_bitCount_0f7a4 2 = .ok (.iconst 1, 1) := by decide +kernel
theorem dJ6_bitCount_0f7a4_3 : decode cJ6_bitCount_0f7a4 3 = .ok (.iushr, 1) := by decide +kernel
theorem dJ6_bitCount_0f7a4_4 : decode cJ6_bitCount_0f7a4 4 = .ok (.ldc_w 265, 3) := by decide +kernel
theorem dJ6_bitCount_0f7a4_7 : decode cJ6_bitCount_0f7a4 7 = .ok (.iand, 1) := by decide +kernel
theorem dJ6_bitCount_0f7a4_8 : decode cJ6_bitCount_0f7a4 8 = .ok (.isub, 1) := by decide +kernel
theorem dJ6_bitCount_0f7a4_9 : decode cJ6_bitCount_0f7a4 9 = .ok (.istore_n 0, 1) := by decide +kernel
theorem dJ6_bitCount_0f7a4_10 : decode cJ6_bitCount_0f7a4 10 = .ok (.iload_n 0, 1) := by decide +kernel
theorem dJ6_bitCount_0f7a4_11 : decode cJ6_bitCount_0f7a4 11 = .ok (.ldc_w 266, 3) := by decide +kernel
theorem dJ6_bitCount_0f7a4_14 : decode cJ6_bitCount_0f7a4 14 = .ok (.iand, 1) := by decide +kernel
theorem dJ6_bitCount_0f7a4_15 : decode cJ6_bitCount_0f7a4 15 = .ok (.iload_n 0, 1) := by decide +kernel
theorem dJ6_bitCount_0f7a4_16 : decode cJ6_bitCount_0f7a4 16 = .ok (.iconst 2, 1) := by decide +kernel
theorem dJ6_bitCount_0f7a4_17 : decode cJ6_bitCount_0f7a4 17 = .ok (.iushr, 1) := by decide +kernel
theorem dJ6_bitCount_0f7a4_18 : decode cJ6_bitCount_0f7a4 18 = .ok (.ldc_w 266, 3) := by decide +kernel
theorem dJ6_bitCount_0f7a4_21 : decode cJ6_bitCount_0f7a4 21 = .ok (.iand, 1) := by decide +kernel
theorem dJ6_bitCount_0f7a4_22 : decode cJ6_bitCount_0f7a4 22 = .ok (.iadd, 1) := by decide +kernel
theorem dJ6_bitCount_0f7a4_23 : decode cJ6_bitCount_0f7a4 23 = .ok (.istore_n 0, 1) := by decide +kernel
theorem dJ6_bitCount_0f7a4_24 : decode cJ6_bitCount_0f7a4 24 = .ok (.iload_n 0, 1) := by decide +kernel
theorem dJ6_bitCount_0f7a4_25 : decode cJ6_bitCount_0f7a4 25 = .ok (.iload_n 0, 1) := by decide +kernel
theorem dJ6_bitCount_0f7a4_26 : decode cJ6_bitCount_0f7a4 26 = .ok (.iconst 4, 1) := by decide +kernel
theorem dJ6_bitCount_0f7a4_27 : decode cJ6_bitCount_0f7a4 27 = .ok (.iushr, 1) := by decide +kernel
theorem dJ6_bitCount_0f7a4_28 : decode cJ6_bitCount_0f7a4 28 = .ok (.iadd, 1) := by decide +kernel
theorem dJ6_bitCount_0f7a4_29 : decode cJ6_bitCount_0f7a4 29 = .ok (.ldc_w 267, 3) := by decide +kernel
theorem dJ6_bitCount_0f7a4_32 : decode cJ6_bitCount_0f7a4 32 = .ok (.iand, 1) := by decide +kernel
theorem dJ6_bitCount_0f7a4_33 : decode cJ6_bitCount_0f7a4 33 = .ok (.istore_n 0, 1) := by decide +kernel
theorem dJ6_bitCount_0f7a4_34 : decode cJ6_bitCount_0f7a4 34 = .ok (.iload_n 0, 1) := by decide +kernel
theorem dJ6_bitCount_0f7a4_35 : decode cJ6_bitCount_0f7a4 35 = .ok (.iload_n 0, 1) := by decide +kernel
theorem dJ6_bitCount_0f7a4_36 : decode cJ6_bitCount_0f7a4 36 = .ok (.bipush 8, 2) := by decide +kernel
theorem dJ6_bitCount_0f7a4_38 : decode cJ6_bitCount_0f7a4 38 = .ok (.iushr, 1) := by decide +kernel
theorem dJ6_bitCount_0f7a4_39 : decode cJ6_bitCount_0f7a4 39 = .ok (.iadd, 1) := by decide +kernel
theorem dJ6_bitCount_0f7a4_40 : decode cJ6_bitCount_0f7a4 40 = .ok (.istore_n 0, 1) := by decide +kernel
theorem dJ6_bitCount_0f7a4_41 : decode cJ6_bitCount_0f7a4 41 = .ok (.iload_n 0, 1) := by decide +kernel
theorem dJ6_bitCount_0f7a4_42 : decode cJ6_bitCount_0f7a4 42 = .ok (.iload_n 0, 1) := by decide +kernel
theorem dJ6_bitCount_0f7a4_43 : decode cJ6_bitCount_0f7a4 43 = .ok (.bipush 16, 2) := by decide +kernel
theorem dJ6_bitCount_0f7a4_45 : decode cJ6_bitCount_0f7a4 45 = .ok (.iushr, 1) := by decide +kernel
theorem dJ6_bitCount_0f7a4_46 : decode cJ6_bitCount_0f7a4 46 = .ok (.iadd, 1) := by decide +kernel
theorem dJ6_bitCount_0f7a4_47 : decode cJ6_bitCount_0f7a4 47 = .ok (.istore_n 0, 1) := by decide +kernel
theorem dJ6_bitCount_0f7a4_48 : decode cJ6_bitCount_0f7a4 48 = .ok (.iload_n 0, 1) := by decide +kernel
theorem dJ6_bitCount_0f7a4_49 : decode cJ6_bitCount_0f7a4 49 = .ok (.bipush 63, 2) := by decide +kernel
theorem dJ6_bitCount_0f7a4_51 : decode cJ6_bitCount_0f7a4 51 = .ok (.iand, 1) := by decide +kernel
theorem dJ6_bitCount_0f7a4_52 : decode cJ6_bitCount_0f7a4 52 = .ok (.ireturn, 1) := by decide +kernel
theorem dJ9_abs_0f7a4_0 : decode cJ9_abs_0f7a4 0 = .ok (.iload_n 0, 1) := by decide +kernel
theorem dJ9_abs_0f7a4_1 : decode cJ9_abs_0f7a4 1 = .ok (.ifCond .ge 8, 3) := by decide +kernel
theorem dJ9_abs_0f7a4_4 : decode cJ9_abs_0f7a4 4 = .ok (.iload_n 0, 1) := by decide +kernel
theorem dJ9_abs_0f7a4_5 : decode cJ9_abs_0f7a4 5 = .ok (.ineg, 1) := by decide +kernel
theorem dJ9_abs_0f7a4_6 : decode cJ9_abs_0f7a4 6 = .ok (.goto 4, 3) := by decide +kernel
theorem dJ9_abs_0f7a4_9 : decode cJ9_abs_0f7a4 9 = .ok (.iload_n 0, 1) := by decide +kernel
theorem dJ9_abs_0f7a4_10 : decode cJ9_abs_0f7a4 10 = .ok (.ireturn, 1) := by decide +kernel
theorem dJ9_max_7cf53_0 : decode cJ9_max_7cf53 0 = .ok (.iload_n 0, 1) := by decide +kernel
theorem dJ9_max_7cf53_1 : decode cJ9_max_7cf53 1 = .ok (.iload_n 1, 1) := by decide +kernel
theorem dJ9_max_7cf53_2 : decode cJ9_max_7cf53 2 = .ok (.if_icmp .lt 7, 3) := by decide +kernel
theorem dJ9_max_7cf53_5 : decode cJ9_max_7cf53 5 = .ok (.iload_n 0, 1) := by decide +kernel
theorem dJ9_max_7cf53_6 : decode cJ9_max_7cf53 6 = .ok (.goto 4, 3) := by decide +kernel
theorem dJ9_max_7cf53_9 : decode cJ9_max_7cf53 9 = .ok (.iload_n 1, 1) := by decide +kernel
theorem dJ9_max_7cf53_10 : decode cJ9_max_7cf53 10 = .ok (.ireturn, 1) := by decide +kernel
theorem dJ9_min_7cf53_0 : decode cJ9_min_7cf53 0 = .ok (.iload_n 0, 1) := by decide +kernel
theorem dJ9_min_7cf53_1 : decode cJ9_min_7cf53 1 = .ok (.iload_n 1, 1) := by decide +kernel
theorem dJ9_min_7cf53_2 : decode cJ9_min_7cf53 2 = .ok (.if_icmp .gt 7, 3) := by decide +kernel
theorem dJ9_min_7cf53_5 : decode cJ9_min_7cf53 5 = .ok (.iload_n 0, 1) := by decide +kernel
theorem dJ9_min_7cf53_6 : decode cJ9_min_7cf53 6 = .ok (.goto 4, 3) := by decide +kernel
theorem dJ9_min_7cf53_9 : decode cJ9_min_7cf53 9 = .ok (.iload_n 1, 1) := by decide +kernel
theorem dJ9_min_7cf53_10 : decode cJ9_min_7cf53 10 = .ok (.ireturn, 1) := by decide +kernel
theorem dL_cell_0 : decode cL_cell 0 = .ok (.iload_n 1, 1) := by decide +kernel
theorem dL_cell_1 : decode cL_cell 1 = .ok (.aload_n 0, 1) := by decide +kernel
theorem dL_cell_2 : decode cL_cell 2 = .ok (.arraylength, 1) := by decide +kernel
theorem dL_cell_3 : decode cL_cell 3 = .ok (.if_icmp .ge 9, 3) := by decide +kernel
theorem dL_cell_6 : decode cL_cell 6 = .ok (.aload_n 0, 1) := by decide +kernel
theorem dL_cell_7 : decode cL_cell 7 = .ok (.iload_n 1, 1) := by decide +kernel
theorem dL_cell_8 : decode cL_cell 8 = .ok (.iaload, 1) := by decide +kernel
theorem dL_cell_9 : decode cL_cell 9 = .ok (.goto 13, 3) := by decide +kernel
theorem dL_cell_12 : decode cL_cell 12 = .ok (.ldc 7, 2) := by decide +kernel
theorem dL_cell_14 : decode cL_cell 14 = .ok (.iload_n 1, 1) := by decide +kernel
theorem dL_cell_15 : decode cL_cell 15 = .ok (.bipush 7, 2) := by decide +kernel
theorem dL_cell_17 : decode cL_cell 17 = .ok (.iadd, 1) := by decide +kernel
theorem dL_cell_18 : decode cL_cell 18 = .ok (.imul, 1) := by decide +kernel
theorem dL_cell_19 : decode cL_cell 19 = .ok (.ldc 8, 2) := by decide +kernel
theorem dL_cell_21 : decode cL_cell 21 = .ok (.iadd, 1) := by decide +kernel
theorem dL_cell_22 : decode cL_cell 22 = .ok (.ireturn, 1) := by decide +kernel
theorem dL_low_0 : decode cL_low 0 = .ok (.iload_n 0, 1) := by decide +kernel
theorem dL_low_1 : decode cL_low 1 = .ok (.ldc 9, 2) := by decide +kernel
theorem dL_low_3 : decode cL_low 3 = .ok (.iand, 1) := by decide +kernel
theorem dL_low_4 : decode cL_low 4 = .ok (.iload_n 1, 1) := by decide +kernel
theorem dL_low_5 : decode cL_low 5 = .ok (.irem, 1) := by decide +kernel
theorem dL_low_6 : decode cL_low 6 = .ok (.ireturn, 1) := by decide +kernel
set_option maxRecDepth 20000 in
theorem ggL_layer_X3_layer : GoodIn wsL_layer wsX3_layer := goodIn_ca (goodIn_ca (goodIn_r _ [9, 10, 11, 12, 13, 14, 15, 16, 8, 17, 18, 19, 20, 21, 22, 23, 24, 25, 26, 27, 28, 29, 30, 31, 32, 33, 34, 35, 36, 37, 38, 39, 40, 41, 42, 43, 44, 45, 46, 47, 48, 49, 50, 51, 52, 53, 54, 55, 56, 57, 58, 59, 60, 61, 62, 63, 64, 65, 66, 67, 68, 69, 70, 71, 72, 73, 74, 75, 76, 77, 78, 79, 80, 81, 82, 83, 84, 85] (by decide +kernel) (by decide +kernel)) (goodIn_sub (fun _ h => List.mem_cons_of_mem _ (List.mem_append_left _ (List.mem_append_right _ h))) (by decide +kernel))) (goodIn_sub (fun _ h => List.mem_cons_of_mem _ (List.mem_append_right _ h)) (by decide +kernel))
set_option maxRecDepth 20000 in
theorem gL_layer_X3_layer : GoodIn wsL_layer (wsV RL 10 RX3 yX3_layer wsX3_layer) := goodIn_app (goodIn_of _ (by decide +kernel)) ggL_layer_X3_layer
