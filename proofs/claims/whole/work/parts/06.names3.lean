theorem dX4_read_0 : decode cX4_read 0 = .ok (.aload_n 0, 1) := by decide +kernel
theorem dX4_read_1 : decode cX4_read 1 = .ok (.aload_n 0, 1) := by decide +kernel
theorem dX4_read_2 : decode cX4_read 2 = .ok (.getfield 7, 3) := by decide +kernel
theorem dX4_read_5 : decode cX4_read 5 = .ok (.iconst 1, 1) := by decide +kernel
theorem dX4_read_6 : decode cX4_read 6 = .ok (.iaload, 1) := by decide +kernel
theorem dX4_read_7 : decode cX4_read 7 = .ok (.invokevirtual 82, 3) := by decide +kernel
theorem dX4_read_10 : decode cX4_read 10 = .ok (.aload_n 0, 1) := by decide +kernel
theorem dX4_read_11 : decode cX4_read 11 = .ok (.invokevirtual 86, 3) := by decide +kernel
theorem dX4_read_14 : decode cX4_read 14 = .ok (.istore_n 1, 1) := by decide +kernel
theorem dX4_read_15 : decode cX4_read 15 = .ok (.aload_n 0, 1) := by decide +kernel
theorem dX4_read_16 : decode cX4_read 16 = .ok (.invokevirtual 90, 3) := by decide +kernel
theorem dX4_read_19 : decode cX4_read 19 = .ok (.istore_n 2, 1) := by decide +kernel
theorem dX4_read_20 : decode cX4_read 20 = .ok (.iload_n 1, 1) := by decide +kernel
theorem dX4_read_21 : decode cX4_read 21 = .ok (.ldc 78, 2) := by decide +kernel
theorem dX4_read_23 : decode cX4_read 23 = .ok (.if_icmp .eq 13, 3) := by decide +kernel
theorem dX4_read_26 : decode cX4_read 26 = .ok (.iload_n 2, 1) := by decide +kernel
theorem dX4_read_27 : decode cX4_read 27 = .ok (.ldc 78, 2) := by decide +kernel
theorem dX4_read_29 : decode cX4_read 29 = .ok (.if_icmp .eq 7, 3) := by decide +kernel
theorem dX4_read_32 : decode cX4_read 32 = .ok (.iconst 1, 1) := by decide +kernel
theorem dX4_read_33 : decode cX4_read 33 = .ok (.goto 4, 3) := by decide +kernel
theorem dX4_read_36 : decode cX4_read 36 = .ok (.iconst 0, 1) := by decide +kernel
theorem dX4_read_37 : decode cX4_read 37 = .ok (.istore_n 3, 1) := by decide +kernel
theorem dX4_read_38 : decode cX4_read 38 = .ok (.aload_n 0, 1) := by decide +kernel
theorem dX4_read_39 : decode cX4_read 39 = .ok (.getfield 31, 3) := by decide +kernel
theorem dX4_read_42 : decode cX4_read 42 = .ok (.iconst 0, 1) := by decide +kernel
theorem dX4_read_43 : decode cX4_read 43 = .ok (.iload_n 3, 1) := by decide +kernel
theorem dX4_read_44 : decode cX4_read 44 = .ok (.ifCond .eq 7, 3) := by decide +kernel
theorem dX4_read_47 : decode cX4_read 47 = .ok (.iload_n 1, 1) := by decide +kernel
theorem dX4_read_48 : decode cX4_read 48 = .ok (.goto 5, 3) := by decide +kernel
theorem dX4_read_51 : decode cX4_read 51 = .ok (.ldc 78, 2) := by decide +kernel
theorem dX4_read_53 : decode cX4_read 53 = .ok (.iastore, 1) := by decide +kernel
theorem dX4_read_54 : decode cX4_read 54 = .ok (.aload_n 0, 1) := by decide +kernel
theorem dX4_read_55 : decode cX4_read 55 = .ok (.getfield 31, 3) := by decide +kernel
theorem dX4_read_58 : decode cX4_read 58 = .ok (.iconst 1, 1) := by decide +kernel
theorem dX4_read_59 : decode cX4_read 59 = .ok (.iload_n 3, 1) := by decide +kernel
theorem dX4_read_60 : decode cX4_read 60 = .ok (.ifCond .eq 7, 3) := by decide +kernel
theorem dX4_read_63 : decode cX4_read 63 = .ok (.iload_n 2, 1) := by decide +kernel
theorem dX4_read_64 : decode cX4_read 64 = .ok (.goto 5, 3) := by decide +kernel
theorem dX4_read_67 : decode cX4_read 67 = .ok (.ldc 78, 2) := by decide +kernel
theorem dX4_read_69 : decode cX4_read 69 = .ok (.iastore, 1) := by decide +kernel
theorem dX4_read_70 : decode cX4_read 70 = .ok (.aload_n 0, 1) := by decide +kernel
theorem dX4_read_71 : decode cX4_read 71 = .ok (.getfield 31, 3) := by decide +kernel
theorem dX4_read_74 : decode cX4_read 74 = .ok (.iconst 2, 1) := by decide +kernel
theorem dX4_read_75 : decode cX4_read 75 = .ok (.iload_n 3, 1) := by decide +kernel
theorem dX4_read_76 : decode cX4_read 76 = .ok (.ifCond .eq 17, 3) := by decide +kernel
theorem dX4_read_79 : decode cX4_read 79 = .ok (.iload_n 1, 1) := by decide +kernel
theorem dX4_read_80 : decode cX4_read 80 = .ok (.aload_n 0, 1) := by decide +kernel
theorem dX4_read_81 : decode cX4_read 81 = .ok (.getfield 7, 3) := by decide +kernel
theorem dX4_read_84 : decode cX4_read 84 = .ok (.bipush 12, 2) := by decide +kernel
theorem dX4_read_86 : decode cX4_read 86 = .ok (.iload_n 2, 1) := by decide +kernel
theorem dX4_read_87 : decode cX4_read 87 = .ok (.iadd, 1) := by decide +kernel
theorem dX4_read_88 : decode cX4_read 88 = .ok (.iaload, 1) := by decide +kernel
theorem dX4_read_89 : decode cX4_read 89 = .ok (.isub, 1) := by decide +kernel
theorem dX4_read_90 : decode cX4_read 90 = .ok (.goto 5, 3) := by decide +kernel
theorem dX4_read_93 : decode cX4_read 93 = .ok (.ldc 78, 2) := by decide +kernel
theorem dX4_read_95 : decode cX4_read 95 = .ok (.iastore, 1) := by decide +kernel
theorem dX4_read_96 : decode cX4_read 96 = .ok (.aload_n 0, 1) := by decide +kernel
theorem dX4_read_97 : decode cX4_read 97 = .ok (.getfield 31, 3) := by decide +kernel
theorem dX4_read_100 : decode cX4_read 100 = .ok (.iconst 3, 1) := by decide +kernel
theorem dX4_read_101 : decode cX4_read 101 = .ok (.iload_n 3, 1) := by decide +kernel
theorem dX4_read_102 : decode cX4_read 102 = .ok (.ifCond .ne 8, 3) := by decide +kernel
theorem dX4_read_105 : decode cX4_read 105 = .ok (.ldc 78, 2) := by decide +kernel
theorem dX4_read_107 : decode cX4_read 107 = .ok (.goto 17, 3) := by decide +kernel
theorem dX4_read_110 : decode cX4_read 110 = .ok (.aload_n 0, 1) := by decide +kernel
theorem dX4_read_111 : decode cX4_read 111 = .ok (.iload_n 1, 1) := by decide +kernel
theorem dX4_read_112 : decode cX4_read 112 = .ok (.iload_n 2, 1) := by decide +kernel
theorem dX4_read_113 : decode cX4_read 113 = .ok (.invokevirtual 93, 3) := by decide +kernel
theorem dX4_read_116 : decode cX4_read 116 = .ok (.ifCond .eq 7, 3) := by decide +kernel
theorem dX4_read_119 : decode cX4_read 119 = .ok (.iconst 1, 1) := by decide +kernel
theorem dX4_read_120 : decode cX4_read 120 = .ok (.goto 4, 3) := by decide +kernel
theorem dX4_read_123 : decode cX4_read 123 = .ok (.iconst 0, 1) := by decide +kernel
theorem dX4_read_124 : decode cX4_read 124 = .ok (.iastore, 1) := by decide +kernel
theorem dX4_read_125 : decode cX4_read 125 = .ok (.iload_n 3, 1) := by decide +kernel
theorem dX4_read_126 : decode cX4_read 126 = .ok (.ireturn, 1) := by decide +kernel
set_option maxRecDepth 20000 in
theorem ggX4_whyNotLayer_X4_within : GoodIn wsX4_whyNotLayer wsX4_within := goodIn_r _ [5] (by decide +kernel) (by decide +kernel)
set_option maxRecDepth 20000 in
theorem gX4_whyNotLayer_X4_within : GoodIn wsX4_whyNotLayer (va_wsS RX4 38 yX4_within wsX4_within) := goodIn_app (goodIn_of _ (by decide +kernel)) ggX4_whyNotLayer_X4_within
theorem dX4_whyNotLayer_0 : decode cX4_whyNotLayer 0 = .ok (.iload_n 1, 1) := by decide +kernel
theorem dX4_whyNotLayer_1 : decode cX4_whyNotLayer 1 = .ok (.bipush 50, 2) := by decide +kernel
theorem dX4_whyNotLayer_3 : decode cX4_whyNotLayer 3 = .ok (.sipush 3000, 3) := by decide +kernel
theorem dX4_whyNotLayer_6 : decode cX4_whyNotLayer 6 = .ok (.invokestatic 38, 3) := by decide +kernel
theorem dX4_whyNotLayer_9 : decode cX4_whyNotLayer 9 = .ok (.ifCond .eq 13, 3) := by decide +kernel
theorem dX4_whyNotLayer_12 : decode cX4_whyNotLayer 12 = .ok (.iload_n 2, 1) := by decide +kernel
theorem dX4_whyNotLayer_13 : decode cX4_whyNotLayer 13 = .ok (.iconst 1, 1) := by decide +kernel
theorem dX4_whyNotLayer_14 : decode cX4_whyNotLayer 14 = .ok (.bipush 100, 2) := by decide +kernel
theorem dX4_whyNotLayer_16 : decode cX4_whyNotLayer 16 = .ok (.invokestatic 38, 3) := by decide +kernel
theorem dX4_whyNotLayer_19 : decode cX4_whyNotLayer 19 = .ok (.ifCond .ne 5, 3) := by decide +kernel
theorem dX4_whyNotLayer_22 : decode cX4_whyNotLayer 22 = .ok (.iconst 1, 1) := by decide +kernel
theorem dX4_whyNotLayer_23 : decode cX4_whyNotLayer 23 = .ok (.ireturn, 1) := by decide +kernel
theorem dX4_whyNotLayer_24 : decode cX4_whyNotLayer 24 = .ok (.aload_n 0, 1) := by decide +kernel
theorem dX4_whyNotLayer_25 : decode cX4_whyNotLayer 25 = .ok (.getfield 7, 3) := by decide +kernel
theorem dX4_whyNotLayer_28 : decode cX4_whyNotLayer 28 = .ok (.bipush 8, 2) := by decide +kernel
theorem dX4_whyNotLayer_30 : decode cX4_whyNotLayer 30 = .ok (.iaload, 1) := by decide +kernel
theorem dX4_whyNotLayer_31 : decode cX4_whyNotLayer 31 = .ok (.bipush 6, 2) := by decide +kernel
theorem dX4_whyNotLayer_33 : decode cX4_whyNotLayer 33 = .ok (.if_icmp .ne 7, 3) := by decide +kernel
theorem dX4_whyNotLayer_36 : decode cX4_whyNotLayer 36 = .ok (.iconst 1, 1) := by decide +kernel
theorem dX4_whyNotLayer_37 : decode cX4_whyNotLayer 37 = .ok (.goto 4, 3) := by decide +kernel
theorem dX4_whyNotLayer_40 : decode cX4_whyNotLayer 40 = .ok (.iconst 0, 1) := by decide +kernel
theorem dX4_whyNotLayer_41 : decode cX4_whyNotLayer 41 = .ok (.istore_n 3, 1) := by decide +kernel
theorem dX4_whyNotLayer_42 : decode cX4_whyNotLayer 42 = .ok (.iconst 0, 1) := by decide +kernel
theorem dX4_whyNotLayer_43 : decode cX4_whyNotLayer 43 = .ok (.istore 4, 2) := by decide +kernel
theorem dX4_whyNotLayer_45 : decode cX4_whyNotLayer 45 = .ok (.iload 4, 2) := by decide +kernel
theorem dX4_whyNotLayer_47 : decode cX4_whyNotLayer 47 = .ok (.aload_n 0, 1) := by decide +kernel
theorem dX4_whyNotLayer_48 : decode cX4_whyNotLayer 48 = .ok (.getfield 7, 3) := by decide +kernel
theorem dX4_whyNotLayer_51 : decode cX4_whyNotLayer 51 = .ok (.bipush 8, 2) := by decide +kernel
theorem dX4_whyNotLayer_53 : decode cX4_whyNotLayer 53 = .ok (.iaload, 1) := by decide +kernel
theorem dX4_whyNotLayer_54 : decode cX4_whyNotLayer 54 = .ok (.if_icmp .ge 33, 3) := by decide +kernel
theorem dX4_whyNotLayer_57 : decode cX4_whyNotLayer 57 = .ok (.iload_n 3, 1) := by decide +kernel
theorem dX4_whyNotLayer_58 : decode cX4_whyNotLayer 58 = .ok (.ifCond .ne 17, 3) := by decide +kernel
theorem dX4_whyNotLayer_61 : decode cX4_whyNotLayer 61 = .ok (.aload_n 0, 1) := by decide +kernel
theorem dX4_whyNotLayer_62 : decode cX4_whyNotLayer 62 = .ok (.getfield 7, 3) := by decide +kernel
theorem dX4_whyNotLayer_65 : decode cX4_whyNotLayer 65 = .ok (.bipush 12, 2) := by decide +kernel
theorem dX4_whyNotLayer_67 : decode cX4_whyNotLayer 67 = .ok (.iload 4, 2) := by decide +kernel
theorem dX4_whyNotLayer_69 : decode cX4_whyNotLayer 69 = .ok (.iadd, 1) := by decide +kernel
theorem dX4_whyNotLayer_70 : decode cX4_whyNotLayer 70 = .ok (.iaload, 1) := by decide +kernel
theorem dX4_whyNotLayer_71 : decode cX4_whyNotLayer 71 = .ok (.iload_n 1, 1) := by decide +kernel
theorem dX4_whyNotLayer_72 : decode cX4_whyNotLayer 72 = .ok (.if_icmp .ne 7, 3) := by decide +kernel
theorem dX4_whyNotLayer_75 : decode cX4_whyNotLayer 75 = .ok (.iconst 1, 1) := by decide +kernel
theorem dX4_whyNotLayer_76 : decode cX4_whyNotLayer 76 = .ok (.goto 4, 3) := by decide +kernel
theorem dX4_whyNotLayer_79 : decode cX4_whyNotLayer 79 = .ok (.iconst 0, 1) := by decide +kernel
theorem dX4_whyNotLayer_80 : decode cX4_whyNotLayer 80 = .ok (.istore_n 3, 1) := by decide +kernel
theorem dX4_whyNotLayer_81 : decode cX4_whyNotLayer 81 = .ok (.iinc 4 1, 3) := by decide +kernel
theorem dX4_whyNotLayer_84 : decode cX4_whyNotLayer 84 = .ok (.goto (-39), 3) := by decide +kernel
theorem dX4_whyNotLayer_87 : decode cX4_whyNotLayer 87 = .ok (.iload_n 3, 1) := by decide +kernel
theorem dX4_whyNotLayer_88 : decode cX4_whyNotLayer 88 = .ok (.ifCond .eq 7, 3) := by decide +kernel
theorem dX4_whyNotLayer_91 : decode cX4_whyNotLayer 91 = .ok (.iconst 2, 1) := by decide +kernel
theorem dX4_whyNotLayer_92 : decode cX4_whyNotLayer 92 = .ok (.goto 4, 3) := by decide +kernel
theorem dX4_whyNotLayer_95 : decode cX4_whyNotLayer 95 = .ok (.iconst 0, 1) := by decide +kernel
theorem dX4_whyNotLayer_96 : decode cX4_whyNotLayer 96 = .ok (.ireturn, 1) := by decide +kernel
theorem dX4_addLayer_0 : decode cX4_addLayer 0 = .ok (.aload_n 0, 1) := by decide +kernel
theorem dX4_addLayer_1 : decode cX4_addLayer 1 = .ok (.getfield 7, 3) := by decide +kernel
theorem dX4_addLayer_4 : decode cX4_addLayer 4 = .ok (.bipush 8, 2) := by decide +kernel
theorem dX4_addLayer_6 : decode cX4_addLayer 6 = .ok (.iaload, 1) := by decide +kernel
theorem dX4_addLayer_7 : decode cX4_addLayer 7 = .ok (.istore_n 3, 1) := by decide +kernel
theorem dX4_addLayer_8 : decode cX4_addLayer 8 = .ok (.iload_n 3, 1) := by decide +kernel
theorem dX4_addLayer_9 : decode cX4_addLayer 9 = .ok (.ifCond .le 64, 3) := by decide +kernel
theorem dX4_addLayer_12 : decode cX4_addLayer 12 = .ok (.aload_n 0, 1) := by decide +kernel
theorem dX4_addLayer_13 : decode cX4_addLayer 13 = .ok (.getfield 7, 3) := by decide +kernel
theorem dX4_addLayer_16 : decode cX4_addLayer 16 = .ok (.bipush 12, 2) := by decide +kernel
theorem dX4_addLayer_18 : decode cX4_addLayer 18 = .ok (.iload_n 3, 1) := by decide +kernel
theorem dX4_addLayer_19 : decode cX4_addLayer 19 = .ok (.iadd, 1) := by decide +kernel
theorem dX4_addLayer_20 : decode cX4_addLayer 20 = .ok (.iconst 1, 1) := by decide +kernel
theorem dX4_addLayer_21 : decode cX4_addLayer 21 = .ok (.isub, 1) := by decide +kernel
theorem dX4_addLayer_22 : decode cX4_addLayer 22 = .ok (.iaload, 1) := by decide +kernel
theorem dX4_addLayer_23 : decode cX4_addLayer 23 = .ok (.iload_n 1, 1) := by decide +kernel
theorem dX4_addLayer_24 : decode cX4_addLayer 24 = .ok (.if_icmp .le 49, 3) := by decide +kernel
theorem dX4_addLayer_27 : decode cX4_addLayer 27 = .ok (.aload_n 0, 1) := by decide +kernel
theorem dX4_addLayer_28 : decode cX4_addLayer 28 = .ok (.getfield 7, 3) := by decide +kernel
theorem dX4_addLayer_31 : decode cX4_addLayer 31 = .ok (.bipush 12, 2) := by decide +kernel
theorem dX4_addLayer_33 : decode cX4_addLayer 33 = .ok (.iload_n 3, 1) := by decide +kernel
theorem dX4_addLayer_34 : decode cX4_addLayer 34 = .ok (.iadd, 1) := by decide +kernel
theorem dX4_addLayer_35 : decode cX4_addLayer 35 = .ok (.aload_n 0, 1) := by decide +kernel
theorem dX4_addLayer_36 : decode cX4_addLayer 36 = .ok (.getfield 7, 3) := by decide +kernel
theorem dX4_addLayer_39 : decode cX4_addLayer 39 = .ok (.bipush 12, 2) := by decide +kernel
theorem dX4_addLayer_41 : decode cX4_addLayer 41 = .ok (.iload_n 3, 1) := by decide +kernel
theorem dX4_addLayer_42 : decode cX4_addLayer 42 = .ok (.iadd, 1) := by decide +kernel
theorem dX4_addLayer_43 : decode cX4_addLayer 43 = .ok (.iconst 1, 1) := by decide +kernel
theorem dX4_addLayer_44 : decode cX4_addLayer 44 = .ok (.isub, 1) := by decide +kernel
theorem dX4_addLayer_45 : decode cX4_addLayer 45 = .ok (.iaload, 1) := by decide +kernel
theorem dX4_addLayer_46 : decode cX4_addLayer 46 = .ok (.iastore, 1) := by decide +kernel
theorem dX4_addLayer_47 : decode cX4_addLayer 47 = .ok (.aload_n 0, 1) := by decide +kernel
theorem dX4_addLayer_48 : decode cX4_addLayer 48 = .ok (.getfield 7, 3) := by decide +kernel
theorem dX4_addLayer_51 : decode cX4_addLayer 51 = .ok (.bipush 18, 2) := by decide +kernel
theorem dX4_addLayer_53 : decode cX4_addLayer 53 = .ok (.iload_n 3, 1) := by decide +kernel
theorem dX4_addLayer_54 : decode cX4_addLayer 54 = .ok (.iadd, 1) := by decide +kernel
theorem dX4_addLayer_55 : decode cX4_addLayer 55 = .ok (.aload_n 0, 1) := by decide +kernel
theorem dX4_addLayer_56 : decode cX4_addLayer 56 = .ok (.getfield 7, 3) := by decide +kernel
theorem dX4_addLayer_59 : decode cX4_addLayer 59 = .ok (.bipush 18, 2) := by decide +kernel
theorem dX4_addLayer_61 : decode cX4_addLayer 61 = .ok (.iload_n 3, 1) := by decide +kernel
theorem dX4_addLayer_62 : decode cX4_addLayer 62 = .ok (.iadd, 1) := by decide +kernel
theorem dX4_addLayer_63 : decode cX4_addLayer 63 = .ok (.iconst 1, 1) := by decide +kernel
theorem dX4_addLayer_64 : decode cX4_addLayer 64 = .ok (.isub, 1) := by decide +kernel
theorem dX4_addLayer_65 : decode cX4_addLayer 65 = .ok (.iaload, 1) := by decide +kernel
theorem dX4_addLayer_66 : decode cX4_addLayer 66 = .ok (.iastore, 1) := by decide +kernel
theorem dX4_addLayer_67 : decode cX4_addLayer 67 = .ok (.iinc 3 (-1), 3) := by decide +kernel
theorem dX4_addLayer_70 : decode cX4_addLayer 70 = .ok (.goto (-62), 3) := by decide +kernel
theorem dX4_addLayer_73 : decode cX4_addLayer 73 = .ok (.aload_n 0, 1) := by decide +kernel
theorem dX4_addLayer_74 : decode cX4_addLayer 74 = .ok (.getfield 7, 3) := by decide +kernel
theorem dX4_addLayer_77 : decode cX4_addLayer 77 = .ok (.bipush 12, 2) := by decide +kernel
theorem dX4_addLayer_79 : decode cX4_addLayer 79 = .ok (.iload_n 3, 1) := by decide +kernel
theorem dX4_addLayer_80 : decode cX4_addLayer 80 = .ok (.iadd, 1) := by decide +kernel
theorem dX4_addLayer_81 : decode cX4_addLayer 81 = .ok (.iload_n 1, 1) := by decide +kernel
theorem dX4_addLayer_82 : decode cX4_addLayer 82 = .ok (.iastore, 1) := by decide +kernel
theorem dX4_addLayer_83 : decode cX4_addLayer 83 = .ok (.aload_n 0, 1) := by decide +kernel
theorem dX4_addLayer_84 : decode cX4_addLayer 84 = .ok (.getfield 7, 3) := by decide +kernel
theorem dX4_addLayer_87 : decode cX4_addLayer 87 = .ok (.bipush 18, 2) := by decide +kernel
theorem dX4_addLayer_89 : decode cX4_addLayer 89 = .ok (.iload_n 3, 1) := by decide +kernel
theorem dX4_addLayer_90 : decode cX4_addLayer 90 = .ok (.iadd, 1) := by decide +kernel
theorem dX4_addLayer_91 : decode cX4_addLayer 91 = .ok (.iload_n 2, 1) := by decide +kernel
theorem dX4_addLayer_92 : decode cX4_addLayer 92 = .ok (.iastore, 1) := by decide +kernel
theorem dX4_addLayer_93 : decode cX4_addLayer 93 = .ok (.aload_n 0, 1) := by decide +kernel
theorem dX4_addLayer_94 : decode cX4_addLayer 94 = .ok (.getfield 7, 3) := by decide +kernel
theorem dX4_addLayer_97 : decode cX4_addLayer 97 = .ok (.bipush 8, 2) := by decide +kernel
theorem dX4_addLayer_99 : decode cX4_addLayer 99 = .ok (.dup2, 1) := by decide +kernel
theorem dX4_addLayer_100 : decode cX4_addLayer 100 = .ok (.iaload, 1) := by decide +kernel
theorem dX4_addLayer_101 : decode cX4_addLayer 101 = .ok (.iconst 1, 1) := by decide +kernel
theorem dX4_addLayer_102 : decode cX4_addLayer 102 = .ok (.iadd, 1) := by decide +kernel
theorem dX4_addLayer_103 : decode cX4_addLayer 103 = .ok (.iastore, 1) := by decide +kernel
theorem dX4_addLayer_104 : decode cX4_addLayer 104 = .ok (.iload_n 3, 1) := by decide +kernel
theorem dX4_addLayer_105 : decode cX4_addLayer 105 = .ok (.ireturn, 1) := by decide +kernel
theorem dX4_dropLayer_0 : decode cX4_dropLayer 0 = .ok (.aload_n 0, 1) := by decide +kernel
theorem dX4_dropLayer_1 : decode cX4_dropLayer 1 = .ok (.getfield 7, 3) := by decide +kernel
theorem dX4_dropLayer_4 : decode cX4_dropLayer 4 = .ok (.bipush 12, 2) := by decide +kernel
theorem dX4_dropLayer_6 : decode cX4_dropLayer 6 = .ok (.iload_n 1, 1) := by decide +kernel
theorem dX4_dropLayer_7 : decode cX4_dropLayer 7 = .ok (.iadd, 1) := by decide +kernel
theorem dX4_dropLayer_8 : decode cX4_dropLayer 8 = .ok (.iaload, 1) := by decide +kernel
theorem dX4_dropLayer_9 : decode cX4_dropLayer 9 = .ok (.istore_n 2, 1) := by decide +kernel
theorem dX4_dropLayer_10 : decode cX4_dropLayer 10 = .ok (.aload_n 0, 1) := by decide +kernel
theorem dX4_dropLayer_11 : decode cX4_dropLayer 11 = .ok (.getfield 7, 3) := by decide +kernel
theorem dX4_dropLayer_14 : decode cX4_dropLayer 14 = .ok (.bipush 8, 2) := by decide +kernel
theorem dX4_dropLayer_16 : decode cX4_dropLayer 16 = .ok (.dup2, 1) := by decide +kernel
theorem dX4_dropLayer_17 : decode cX4_dropLayer 17 = .ok (.iaload, 1) := by decide +kernel
theorem dX4_dropLayer_18 : decode cX4_dropLayer 18 = .ok (.iconst 1, 1) := by decide +kernel
theorem dX4_dropLayer_19 : decode cX4_dropLayer 19 = .ok (.isub, 1) := by decide +kernel
theorem dX4_dropLayer_20 : decode cX4_dropLayer 20 = .ok (.iastore, 1) := by decide +kernel
theorem dX4_dropLayer_21 : decode cX4_dropLayer 21 = .ok (.iload_n 1, 1) := by decide +kernel
theorem dX4_dropLayer_22 : decode cX4_dropLayer 22 = .ok (.istore_n 3, 1) := by decide +kernel
theorem dX4_dropLayer_23 : decode cX4_dropLayer 23 = .ok (.iload_n 3, 1) := by decide +kernel
theorem dX4_dropLayer_24 : decode cX4_dropLayer 24 = .ok (.aload_n 0, 1) := by decide +kernel
theorem dX4_dropLayer_25 : decode cX4_dropLayer 25 = .ok (.getfield 7, 3) := by decide +kernel
theorem dX4_dropLayer_28 : decode cX4_dropLayer 28 = .ok (.bipush 8, 2) := by decide +kernel
theorem dX4_dropLayer_30 : decode cX4_dropLayer 30 = .ok (.iaload, 1) := by decide +kernel
theorem dX4_dropLayer_31 : decode cX4_dropLayer 31 = .ok (.if_icmp .ge 49, 3) := by decide +kernel
theorem dX4_dropLayer_34 : decode cX4_dropLayer 34 = .ok (.aload_n 0, 1) := by decide +kernel
theorem dX4_dropLayer_35 : decode cX4_dropLayer 35 = .ok (.getfield 7, 3) := by decide +kernel
theorem dX4_dropLayer_38 : decode cX4_dropLayer 38 = .ok (.bipush 12, 2) := by decide +kernel
theorem dX4_dropLayer_40 : decode cX4_dropLayer 40 = .ok (.iload_n 3, 1) := by decide +kernel
theorem dX4_dropLayer_41 : decode cX4_dropLayer 41 = .ok (.iadd, 1) := by decide +kernel
theorem dX4_dropLayer_42 : decode cX4_dropLayer 42 = .ok (.aload_n 0, 1) := by decide +kernel
theorem dX4_dropLayer_43 : decode cX4_dropLayer 43 = .ok (.getfield 7, 3) := by decide +kernel
theorem dX4_dropLayer_46 : decode cX4_dropLayer 46 = .ok (.bipush 12, 2) := by decide +kernel
theorem dX4_dropLayer_48 : decode cX4_dropLayer 48 = .ok (.iload_n 3, 1) := by decide +kernel
theorem dX4_dropLayer_49 : decode cX4_dropLayer 49 = .ok (.iadd, 1) := by decide +kernel
theorem dX4_dropLayer_50 : decode cX4_dropLayer 50 = .ok (.iconst 1, 1) := by decide +kernel
theorem dX4_dropLayer_51 : decode cX4_dropLayer 51 = .ok (.iadd, 1) := by decide +kernel
theorem dX4_dropLayer_52 : decode cX4_dropLayer 52 = .ok (.iaload, 1) := by decide +kernel
theorem dX4_dropLayer_53 : decode cX4_dropLayer 53 = .ok (.iastore, 1) := by decide +kernel
theorem dX4_dropLayer_54 : decode cX4_dropLayer 54 = .ok (.aload_n 0, 1) := by decide +kernel
theorem dX4_dropLayer_55 : decode cX4_dropLayer 55 = .ok (.getfield 7, 3) := by decide +kernel
theorem dX4_dropLayer_58 : decode cX4_dropLayer 58 = .ok (.bipush 18, 2) := by decide +kernel
theorem dX4_dropLayer_60 : decode cX4_dropLayer 60 = .ok (.iload_n 3, 1) := by decide +kernel
theorem dX4_dropLayer_61 : decode cX4_dropLayer 61 = .ok (.iadd, 1) := by decide +kernel
theorem dX4_dropLayer_62 : decode cX4_dropLayer 62 = .ok (.aload_n 0, 1) := by decide +kernel
theorem dX4_dropLayer_63 : decode cX4_dropLayer 63 = .ok (.getfield 7, 3) := by decide +kernel
theorem dX4_dropLayer_66 : decode cX4_dropLayer 66 = .ok (.bipush 18, 2) := by decide +kernel
theorem dX4_dropLayer_68 : decode cX4_dropLayer 68 = .ok (.iload_n 3, 1) := by decide +kernel
theorem dX4_dropLayer_69 : decode cX4_dropLayer 69 = .ok (.iadd, 1) := by decide +kernel
theorem dX4_dropLayer_70 : decode cX4_dropLayer 70 = .ok (.iconst 1, 1) := by decide +kernel
theorem dX4_dropLayer_71 : decode cX4_dropLayer 71 = .ok (.iadd, 1) := by decide +kernel
theorem dX4_dropLayer_72 : decode cX4_dropLayer 72 = .ok (.iaload, 1) := by decide +kernel
theorem dX4_dropLayer_73 : decode cX4_dropLayer 73 = .ok (.iastore, 1) := by decide +kernel
theorem dX4_dropLayer_74 : decode cX4_dropLayer 74 = .ok (.iinc 3 1, 3) := by decide +kernel
theorem dX4_dropLayer_77 : decode cX4_dropLayer 77 = .ok (.goto (-54), 3) := by decide +kernel
theorem dX4_dropLayer_80 : decode cX4_dropLayer 80 = .ok (.iload_n 2, 1) := by decide +kernel
theorem dX4_dropLayer_81 : decode cX4_dropLayer 81 = .ok (.ireturn, 1) := by decide +kernel
theorem dX4_turnTo_0 : decode cX4_turnTo 0 = .ok (.aload_n 0, 1) := by decide +kernel
theorem dX4_turnTo_1 : decode cX4_turnTo 1 = .ok (.getfield 7, 3) := by decide +kernel
theorem dX4_turnTo_4 : decode cX4_turnTo 4 = .ok (.iconst 4, 1) := by decide +kernel
theorem dX4_turnTo_5 : decode cX4_turnTo 5 = .ok (.iload_n 1, 1) := by decide +kernel
theorem dX4_turnTo_6 : decode cX4_turnTo 6 = .ok (.iadd, 1) := by decide +kernel
theorem dX4_turnTo_7 : decode cX4_turnTo 7 = .ok (.iaload, 1) := by decide +kernel
theorem dX4_turnTo_8 : decode cX4_turnTo 8 = .ok (.istore_n 3, 1) := by decide +kernel
theorem dX4_turnTo_9 : decode cX4_turnTo 9 = .ok (.aload_n 0, 1) := by decide +kernel
theorem dX4_turnTo_10 : decode cX4_turnTo 10 = .ok (.getfield 7, 3) := by decide +kernel
theorem dX4_turnTo_13 : decode cX4_turnTo 13 = .ok (.iconst 4, 1) := by decide +kernel
theorem dX4_turnTo_14 : decode cX4_turnTo 14 = .ok (.iload_n 1, 1) := by decide +kernel
theorem dX4_turnTo_15 : decode cX4_turnTo 15 = .ok (.iadd, 1) := by decide +kernel
theorem dX4_turnTo_16 : decode cX4_turnTo 16 = .ok (.iload_n 2, 1) := by decide +kernel
theorem dX4_turnTo_17 : decode cX4_turnTo 17 = .ok (.iastore, 1) := by decide +kernel
theorem dX4_turnTo_18 : decode cX4_turnTo 18 = .ok (.iload_n 3, 1) := by decide +kernel
theorem dX4_turnTo_19 : decode cX4_turnTo 19 = .ok (.ireturn, 1) := by decide +kernel
set_option maxRecDepth 20000 in
theorem ggX4_logNow_X4_read : GoodIn wsX4_logNow wsX4_read := goodIn_r _ [8, 1, 3, 2, 9, 10, 11, 7, 12, 13, 14, 15, 16, 17, 18, 19, 20, 21, 22, 23, 24, 25, 26, 27, 28, 29, 30, 31, 32, 33, 34, 35, 36, 37, 38, 39, 40, 41, 42, 43, 44, 45, 46, 47, 48, 49, 50, 51, 52, 53, 54, 55, 56, 57, 58, 59, 60, 61, 62, 63, 64, 65, 66, 67, 68, 69, 70, 71, 72, 73] (by decide +kernel) (by decide +kernel)
set_option maxRecDepth 20000 in
theorem gX4_logNow_X4_read : GoodIn wsX4_logNow (wsV RX4 96 RX4 yX4_read wsX4_read) := goodIn_app (goodIn_of _ (by decide +kernel)) ggX4_logNow_X4_read
theorem dX4_logNow_0 : decode cX4_logNow 0 = .ok (.aload_n 0, 1) := by decide +kernel
theorem dX4_logNow_1 : decode cX4_logNow 1 = .ok (.invokevirtual 96, 3) := by decide +kernel
theorem dX4_logNow_4 : decode cX4_logNow 4 = .ok (.istore_n 1, 1) := by decide +kernel
theorem dX4_logNow_5 : decode cX4_logNow 5 = .ok (.bipush 31, 2) := by decide +kernel
theorem dX4_logNow_7 : decode cX4_logNow 7 = .ok (.istore_n 2, 1) := by decide +kernel
theorem dX4_logNow_8 : decode cX4_logNow 8 = .ok (.iload_n 2, 1) := by decide +kernel
theorem dX4_logNow_9 : decode cX4_logNow 9 = .ok (.iconst 3, 1) := by decide +kernel
theorem dX4_logNow_10 : decode cX4_logNow 10 = .ok (.if_icmp .le 29, 3) := by decide +kernel
theorem dX4_logNow_13 : decode cX4_logNow 13 = .ok (.aload_n 0, 1) := by decide +kernel
theorem dX4_logNow_14 : decode cX4_logNow 14 = .ok (.getfield 7, 3) := by decide +kernel
theorem dX4_logNow_17 : decode cX4_logNow 17 = .ok (.bipush 24, 2) := by decide +kernel
theorem dX4_logNow_19 : decode cX4_logNow 19 = .ok (.iload_n 2, 1) := by decide +kernel
theorem dX4_logNow_20 : decode cX4_logNow 20 = .ok (.iadd, 1) := by decide +kernel
theorem dX4_logNow_21 : decode cX4_logNow 21 = .ok (.aload_n 0, 1) := by decide +kernel
theorem dX4_logNow_22 : decode cX4_logNow 22 = .ok (.getfield 7, 3) := by decide +kernel
theorem dX4_logNow_25 : decode cX4_logNow 25 = .ok (.bipush 24, 2) := by decide +kernel
theorem dX4_logNow_27 : decode cX4_logNow 27 = .ok (.iload_n 2, 1) := by decide +kernel
theorem dX4_logNow_28 : decode cX4_logNow 28 = .ok (.iadd, 1) := by decide +kernel
theorem dX4_logNow_29 : decode cX4_logNow 29 = .ok (.iconst 4, 1) := by decide +kernel
theorem dX4_logNow_30 : decode cX4_logNow 30 = .ok (.isub, 1) := by decide +kernel
theorem dX4_logNow_31 : decode cX4_logNow 31 = .ok (.iaload, 1) := by decide +kernel
theorem dX4_logNow_32 : decode cX4_logNow 32 = .ok (.iastore, 1) := by decide +kernel
theorem dX4_logNow_33 : decode cX4_logNow 33 = .ok (.iinc 2 (-1), 3) := by decide +kernel
theorem dX4_logNow_36 : decode cX4_logNow 36 = .ok (.goto (-28), 3) := by decide +kernel
theorem dX4_logNow_39 : decode cX4_logNow 39 = .ok (.aload_n 0, 1) := by decide +kernel
theorem dX4_logNow_40 : decode cX4_logNow 40 = .ok (.getfield 7, 3) := by decide +kernel
theorem dX4_logNow_43 : decode cX4_logNow 43 = .ok (.bipush 24, 2) := by decide +kernel
theorem dX4_logNow_45 : decode cX4_logNow 45 = .ok (.aload_n 0, 1) := by decide +kernel
theorem dX4_logNow_46 : decode cX4_logNow 46 = .ok (.getfield 31, 3) := by decide +kernel
theorem dX4_logNow_49 : decode cX4_logNow 49 = .ok (.iconst 0, 1) := by decide +kernel
theorem dX4_logNow_50 : decode cX4_logNow 50 = .ok (.iaload, 1) := by decide +kernel
theorem dX4_logNow_51 : decode cX4_logNow 51 = .ok (.iastore, 1) := by decide +kernel
theorem dX4_logNow_52 : decode cX4_logNow 52 = .ok (.aload_n 0, 1) := by decide +kernel
theorem dX4_logNow_53 : decode cX4_logNow 53 = .ok (.getfield 7, 3) := by decide +kernel
theorem dX4_logNow_56 : decode cX4_logNow 56 = .ok (.bipush 25, 2) := by decide +kernel
theorem dX4_logNow_58 : decode cX4_logNow 58 = .ok (.iload_n 1, 1) := by decide +kernel
theorem dX4_logNow_59 : decode cX4_logNow 59 = .ok (.ifCond .eq 20, 3) := by decide +kernel
theorem dX4_logNow_62 : decode cX4_logNow 62 = .ok (.aload_n 0, 1) := by decide +kernel
theorem dX4_logNow_63 : decode cX4_logNow 63 = .ok (.getfield 7, 3) := by decide +kernel
theorem dX4_logNow_66 : decode cX4_logNow 66 = .ok (.bipush 12, 2) := by decide +kernel
theorem dX4_logNow_68 : decode cX4_logNow 68 = .ok (.aload_n 0, 1) := by decide +kernel
theorem dX4_logNow_69 : decode cX4_logNow 69 = .ok (.getfield 31, 3) := by decide +kernel
theorem dX4_logNow_72 : decode cX4_logNow 72 = .ok (.iconst 1, 1) := by decide +kernel
theorem dX4_logNow_73 : decode cX4_logNow 73 = .ok (.iaload, 1) := by decide +kernel
theorem dX4_logNow_74 : decode cX4_logNow 74 = .ok (.iadd, 1) := by decide +kernel
theorem dX4_logNow_75 : decode cX4_logNow 75 = .ok (.iaload, 1) := by decide +kernel
theorem dX4_logNow_76 : decode cX4_logNow 76 = .ok (.goto 5, 3) := by decide +kernel
theorem dX4_logNow_79 : decode cX4_logNow 79 = .ok (.ldc 78, 2) := by decide +kernel
theorem dX4_logNow_81 : decode cX4_logNow 81 = .ok (.iastore, 1) := by decide +kernel
theorem dX4_logNow_82 : decode cX4_logNow 82 = .ok (.aload_n 0, 1) := by decide +kernel
theorem dX4_logNow_83 : decode cX4_logNow 83 = .ok (.getfield 7, 3) := by decide +kernel
theorem dX4_logNow_86 : decode cX4_logNow 86 = .ok (.bipush 26, 2) := by decide +kernel
theorem dX4_logNow_88 : decode cX4_logNow 88 = .ok (.aload_n 0, 1) := by decide +kernel
theorem dX4_logNow_89 : decode cX4_logNow 89 = .ok (.getfield 31, 3) := by decide +kernel
theorem dX4_logNow_92 : decode cX4_logNow 92 = .ok (.iconst 2, 1) := by decide +kernel
theorem dX4_logNow_93 : decode cX4_logNow 93 = .ok (.iaload, 1) := by decide +kernel
theorem dX4_logNow_94 : decode cX4_logNow 94 = .ok (.iastore, 1) := by decide +kernel
theorem dX4_logNow_95 : decode cX4_logNow 95 = .ok (.aload_n 0, 1) := by decide +kernel
theorem dX4_logNow_96 : decode cX4_logNow 96 = .ok (.getfield 7, 3) := by decide +kernel
theorem dX4_logNow_99 : decode cX4_logNow 99 = .ok (.bipush 27, 2) := by decide +kernel
theorem dX4_logNow_101 : decode cX4_logNow 101 = .ok (.iload_n 1, 1) := by decide +kernel
theorem dX4_logNow_102 : decode cX4_logNow 102 = .ok (.ifCond .eq 12, 3) := by decide +kernel
theorem dX4_logNow_105 : decode cX4_logNow 105 = .ok (.aload_n 0, 1) := by decide +kernel
theorem dX4_logNow_106 : decode cX4_logNow 106 = .ok (.getfield 31, 3) := by decide +kernel
theorem dX4_logNow_109 : decode cX4_logNow 109 = .ok (.iconst 3, 1) := by decide +kernel
theorem dX4_logNow_110 : decode cX4_logNow 110 = .ok (.iaload, 1) := by decide +kernel
theorem dX4_logNow_111 : decode cX4_logNow 111 = .ok (.goto 4, 3) := by decide +kernel
theorem dX4_logNow_114 : decode cX4_logNow 114 = .ok (.iconst 0, 1) := by decide +kernel
theorem dX4_logNow_115 : decode cX4_logNow 115 = .ok (.iastore, 1) := by decide +kernel
theorem dX4_logNow_116 : decode cX4_logNow 116 = .ok (.aload_n 0, 1) := by decide +kernel
theorem dX4_logNow_117 : decode cX4_logNow 117 = .ok (.getfield 7, 3) := by decide +kernel
theorem dX4_logNow_120 : decode cX4_logNow 120 = .ok (.bipush 9, 2) := by decide +kernel
theorem dX4_logNow_122 : decode cX4_logNow 122 = .ok (.dup2, 1) := by decide +kernel
theorem dX4_logNow_123 : decode cX4_logNow 123 = .ok (.iaload, 1) := by decide +kernel
theorem dX4_logNow_124 : decode cX4_logNow 124 = .ok (.aload_n 0, 1) := by decide +kernel
theorem dX4_logNow_125 : decode cX4_logNow 125 = .ok (.getfield 7, 3) := by decide +kernel
theorem dX4_logNow_128 : decode cX4_logNow 128 = .ok (.bipush 9, 2) := by decide +kernel
theorem dX4_logNow_130 : decode cX4_logNow 130 = .ok (.iaload, 1) := by decide +kernel
theorem dX4_logNow_131 : decode cX4_logNow 131 = .ok (.bipush 8, 2) := by decide +kernel
theorem dX4_logNow_133 : decode cX4_logNow 133 = .ok (.if_icmp .ge 7, 3) := by decide +kernel
theorem dX4_logNow_136 : decode cX4_logNow 136 = .ok (.iconst 1, 1) := by decide +kernel
theorem dX4_logNow_137 : decode cX4_logNow 137 = .ok (.goto 4, 3) := by decide +kernel
theorem dX4_logNow_140 : decode cX4_logNow 140 = .ok (.iconst 0, 1) := by decide +kernel
theorem dX4_logNow_141 : decode cX4_logNow 141 = .ok (.iadd, 1) := by decide +kernel
theorem dX4_logNow_142 : decode cX4_logNow 142 = .ok (.iastore, 1) := by decide +kernel
theorem dX4_logNow_143 : decode cX4_logNow 143 = .ok (.aload_n 0, 1) := by decide +kernel
theorem dX4_logNow_144 : decode cX4_logNow 144 = .ok (.getfield 7, 3) := by decide +kernel
theorem dX4_logNow_147 : decode cX4_logNow 147 = .ok (.bipush 10, 2) := by decide +kernel
theorem dX4_logNow_149 : decode cX4_logNow 149 = .ok (.dup2, 1) := by decide +kernel
theorem dX4_logNow_150 : decode cX4_logNow 150 = .ok (.iaload, 1) := by decide +kernel
theorem dX4_logNow_151 : decode cX4_logNow 151 = .ok (.iconst 1, 1) := by decide +kernel
theorem dX4_logNow_152 : decode cX4_logNow 152 = .ok (.iadd, 1) := by decide +kernel
theorem dX4_logNow_153 : decode cX4_logNow 153 = .ok (.iastore, 1) := by decide +kernel
theorem dX4_logNow_154 : decode cX4_logNow 154 = .ok (.aload_n 0, 1) := by decide +kernel
theorem dX4_logNow_155 : decode cX4_logNow 155 = .ok (.getfield 7, 3) := by decide +kernel
theorem dX4_logNow_158 : decode cX4_logNow 158 = .ok (.bipush 11, 2) := by decide +kernel
theorem dX4_logNow_160 : decode cX4_logNow 160 = .ok (.dup2, 1) := by decide +kernel
theorem dX4_logNow_161 : decode cX4_logNow 161 = .ok (.iaload, 1) := by decide +kernel
theorem dX4_logNow_162 : decode cX4_logNow 162 = .ok (.aload_n 0, 1) := by decide +kernel
theorem dX4_logNow_163 : decode cX4_logNow 163 = .ok (.getfield 7, 3) := by decide +kernel
theorem dX4_logNow_166 : decode cX4_logNow 166 = .ok (.bipush 27, 2) := by decide +kernel
theorem dX4_logNow_168 : decode cX4_logNow 168 = .ok (.iaload, 1) := by decide +kernel
theorem dX4_logNow_169 : decode cX4_logNow 169 = .ok (.iadd, 1) := by decide +kernel
theorem dX4_logNow_170 : decode cX4_logNow 170 = .ok (.iastore, 1) := by decide +kernel
theorem dX4_logNow_171 : decode cX4_logNow 171 = .ok (.aload_n 0, 1) := by decide +kernel
theorem dX4_logNow_172 : decode cX4_logNow 172 = .ok (.getfield 7, 3) := by decide +kernel
theorem dX4_logNow_175 : decode cX4_logNow 175 = .ok (.bipush 9, 2) := by decide +kernel
theorem dX4_logNow_177 : decode cX4_logNow 177 = .ok (.iaload, 1) := by decide +kernel
theorem dX4_logNow_178 : decode cX4_logNow 178 = .ok (.ireturn, 1) := by decide +kernel
set_option maxRecDepth 20000 in
theorem ggX4_bestSlope_X4_distance : GoodIn wsX4_bestSlope wsX4_distance := goodIn_r _ [6, 7, 8, 9, 5, 10, 1, 11, 12, 13, 14, 18, 19, 20, 21, 22, 23, 24, 25, 26, 27, 28, 29, 30, 31, 32] (by decide +kernel) (by decide +kernel)
set_option maxRecDepth 20000 in
theorem gX4_bestSlope_X4_distance : GoodIn wsX4_bestSlope (wsV RX4 72 RX4 yX4_distance wsX4_distance) := goodIn_app (goodIn_of _ (by decide +kernel)) ggX4_bestSlope_X4_distance
set_option maxRecDepth 20000 in
theorem ggX4_bestSlope_X4_sizeOf : GoodIn wsX4_bestSlope wsX4_sizeOf := goodIn_r _ [17] (by decide +kernel) (by decide +kernel)
set_option maxRecDepth 20000 in
theorem gX4_bestSlope_X4_sizeOf : GoodIn wsX4_bestSlope (va_wsS RX4 75 yX4_sizeOf wsX4_sizeOf) := goodIn_app (goodIn_of _ (by decide +kernel)) ggX4_bestSlope_X4_sizeOf
theorem dX4_bestSlope_0 : decode cX4_bestSlope 0 = .ok (.aload_n 0, 1) := by decide +kernel
theorem dX4_bestSlope_1 : decode cX4_bestSlope 1 = .ok (.getfield 7, 3) := by decide +kernel
theorem dX4_bestSlope_4 : decode cX4_bestSlope 4 = .ok (.iconst 4, 1) := by decide +kernel
theorem dX4_bestSlope_5 : decode cX4_bestSlope 5 = .ok (.iload_n 1, 1) := by decide +kernel
theorem dX4_bestSlope_6 : decode cX4_bestSlope 6 = .ok (.iadd, 1) := by decide +kernel
theorem dX4_bestSlope_7 : decode cX4_bestSlope 7 = .ok (.iaload, 1) := by decide +kernel
theorem dX4_bestSlope_8 : decode cX4_bestSlope 8 = .ok (.istore_n 3, 1) := by decide +kernel
theorem dX4_bestSlope_9 : decode cX4_bestSlope 9 = .ok (.iconst 0, 1) := by decide +kernel
theorem dX4_bestSlope_10 : decode cX4_bestSlope 10 = .ok (.istore 4, 2) := by decide +kernel
theorem dX4_bestSlope_12 : decode cX4_bestSlope 12 = .ok (.iconst (-1), 1) := by decide +kernel
theorem dX4_bestSlope_13 : decode cX4_bestSlope 13 = .ok (.istore 5, 2) := by decide +kernel
theorem dX4_bestSlope_15 : decode cX4_bestSlope 15 = .ok (.bipush (-30), 2) := by decide +kernel
theorem dX4_bestSlope_17 : decode cX4_bestSlope 17 = .ok (.istore 6, 2) := by decide +kernel
theorem dX4_bestSlope_19 : decode cX4_bestSlope 19 = .ok (.iload 6, 2) := by decide +kernel
theorem dX4_bestSlope_21 : decode cX4_bestSlope 21 = .ok (.bipush 30, 2) := by decide +kernel
theorem dX4_bestSlope_23 : decode cX4_bestSlope 23 = .ok (.if_icmp .gt 76, 3) := by decide +kernel
theorem dX4_bestSlope_26 : decode cX4_bestSlope 26 = .ok (.aload_n 0, 1) := by decide +kernel
theorem dX4_bestSlope_27 : decode cX4_bestSlope 27 = .ok (.getfield 7, 3) := by decide +kernel
theorem dX4_bestSlope_30 : decode cX4_bestSlope 30 = .ok (.iconst 4, 1) := by decide +kernel
theorem dX4_bestSlope_31 : decode cX4_bestSlope 31 = .ok (.iload_n 1, 1) := by decide +kernel
theorem dX4_bestSlope_32 : decode cX4_bestSlope 32 = .ok (.iadd, 1) := by decide +kernel
theorem dX4_bestSlope_33 : decode cX4_bestSlope 33 = .ok (.iload 6, 2) := by decide +kernel
theorem dX4_bestSlope_35 : decode cX4_bestSlope 35 = .ok (.iastore, 1) := by decide +kernel
theorem dX4_bestSlope_36 : decode cX4_bestSlope 36 = .ok (.aload_n 0, 1) := by decide +kernel
theorem dX4_bestSlope_37 : decode cX4_bestSlope 37 = .ok (.iload_n 2, 1) := by decide +kernel
theorem dX4_bestSlope_38 : decode cX4_bestSlope 38 = .ok (.invokevirtual 72, 3) := by decide +kernel
theorem dX4_bestSlope_41 : decode cX4_bestSlope 41 = .ok (.invokestatic 75, 3) := by decide +kernel
theorem dX4_bestSlope_44 : decode cX4_bestSlope 44 = .ok (.istore 7, 2) := by decide +kernel
theorem dX4_bestSlope_46 : decode cX4_bestSlope 46 = .ok (.iload 5, 2) := by decide +kernel
theorem dX4_bestSlope_48 : decode cX4_bestSlope 48 = .ok (.ifCond .lt 10, 3) := by decide +kernel
theorem dX4_bestSlope_51 : decode cX4_bestSlope 51 = .ok (.iload 7, 2) := by decide +kernel
theorem dX4_bestSlope_53 : decode cX4_bestSlope 53 = .ok (.iload 5, 2) := by decide +kernel
theorem dX4_bestSlope_55 : decode cX4_bestSlope 55 = .ok (.if_icmp .ge 7, 3) := by decide +kernel
theorem dX4_bestSlope_58 : decode cX4_bestSlope 58 = .ok (.iconst 1, 1) := by decide +kernel
theorem dX4_bestSlope_59 : decode cX4_bestSlope 59 = .ok (.goto 4, 3) := by decide +kernel
theorem dX4_bestSlope_62 : decode cX4_bestSlope 62 = .ok (.iconst 0, 1) := by decide +kernel
theorem dX4_bestSlope_63 : decode cX4_bestSlope 63 = .ok (.istore 8, 2) := by decide +kernel
theorem dX4_bestSlope_65 : decode cX4_bestSlope 65 = .ok (.iload 8, 2) := by decide +kernel
theorem dX4_bestSlope_67 : decode cX4_bestSlope 67 = .ok (.ifCond .eq 8, 3) := by decide +kernel
theorem dX4_bestSlope_70 : decode cX4_bestSlope 70 = .ok (.iload 6, 2) := by decide +kernel
theorem dX4_bestSlope_72 : decode cX4_bestSlope 72 = .ok (.goto 5, 3) := by decide +kernel
theorem dX4_bestSlope_75 : decode cX4_bestSlope 75 = .ok (.iload 4, 2) := by decide +kernel
theorem dX4_bestSlope_77 : decode cX4_bestSlope 77 = .ok (.istore 4, 2) := by decide +kernel
theorem dX4_bestSlope_79 : decode cX4_bestSlope 79 = .ok (.iload 8, 2) := by decide +kernel
theorem dX4_bestSlope_81 : decode cX4_bestSlope 81 = .ok (.ifCond .eq 8, 3) := by decide +kernel
theorem dX4_bestSlope_84 : decode cX4_bestSlope 84 = .ok (.iload 7, 2) := by decide +kernel
theorem dX4_bestSlope_86 : decode cX4_bestSlope 86 = .ok (.goto 5, 3) := by decide +kernel
theorem dX4_bestSlope_89 : decode cX4_bestSlope 89 = .ok (.iload 5, 2) := by decide +kernel
theorem dX4_bestSlope_91 : decode cX4_bestSlope 91 = .ok (.istore 5, 2) := by decide +kernel
theorem dX4_bestSlope_93 : decode cX4_bestSlope 93 = .ok (.iinc 6 1, 3) := by decide +kernel
theorem dX4_bestSlope_96 : decode cX4_bestSlope 96 = .ok (.goto (-77), 3) := by decide +kernel
theorem dX4_bestSlope_99 : decode cX4_bestSlope 99 = .ok (.aload_n 0, 1) := by decide +kernel
theorem dX4_bestSlope_100 : decode cX4_bestSlope 100 = .ok (.getfield 7, 3) := by decide +kernel
theorem dX4_bestSlope_103 : decode cX4_bestSlope 103 = .ok (.iconst 4, 1) := by decide +kernel
theorem dX4_bestSlope_104 : decode cX4_bestSlope 104 = .ok (.iload_n 1, 1) := by decide +kernel
theorem dX4_bestSlope_105 : decode cX4_bestSlope 105 = .ok (.iadd, 1) := by decide +kernel
theorem dX4_bestSlope_106 : decode cX4_bestSlope 106 = .ok (.iload_n 3, 1) := by decide +kernel
theorem dX4_bestSlope_107 : decode cX4_bestSlope 107 = .ok (.iastore, 1) := by decide +kernel
theorem dX4_bestSlope_108 : decode cX4_bestSlope 108 = .ok (.iload 4, 2) := by decide +kernel
theorem dX4_bestSlope_110 : decode cX4_bestSlope 110 = .ok (.ireturn, 1) := by decide +kernel
set_option maxRecDepth 20000 in
theorem ggX4_layer_X4_whyNotLayer : GoodIn wsX4_layer wsX4_whyNotLayer := goodIn_r _ [6, 7, 8, 9, 5, 10, 21, 22, 23, 24, 25, 26, 27, 28, 29, 30, 31, 32, 33, 34, 35] (by decide +kernel) (by decide +kernel)
set_option maxRecDepth 20000 in
theorem gX4_layer_X4_whyNotLayer : GoodIn wsX4_layer (wsV RX4 100 RX4 yX4_whyNotLayer wsX4_whyNotLayer) := goodIn_app (goodIn_of _ (by decide +kernel)) ggX4_layer_X4_whyNotLayer
set_option maxRecDepth 20000 in
theorem ggX4_layer_X4_save : GoodIn wsX4_layer wsX4_save := goodIn_r _ [14, 15, 16, 7, 21, 22, 23, 24, 25, 26, 27, 28, 29, 30, 31, 32, 33, 34, 35] (by decide +kernel) (by decide +kernel)
set_option maxRecDepth 20000 in
theorem gX4_layer_X4_save : GoodIn wsX4_layer (wsV RX4 49 RX4 yX4_save wsX4_save) := goodIn_app (goodIn_of _ (by decide +kernel)) ggX4_layer_X4_save
set_option maxRecDepth 20000 in
theorem ggX4_layer_X4_addLayer : GoodIn wsX4_layer wsX4_addLayer := goodIn_r _ [20, 7, 21, 22, 23, 24, 25, 26, 27, 28, 29, 30, 31, 32, 33, 34, 35] (by decide +kernel) (by decide +kernel)
set_option maxRecDepth 20000 in
theorem gX4_layer_X4_addLayer : GoodIn wsX4_layer (wsV RX4 103 RX4 yX4_addLayer wsX4_addLayer) := goodIn_app (goodIn_of _ (by decide +kernel)) ggX4_layer_X4_addLayer
theorem dX4_layer_0 : decode cX4_layer 0 = .ok (.aload_n 0, 1) := by decide +kernel
theorem dX4_layer_1 : decode cX4_layer 1 = .ok (.aload_n 0, 1) := by decide +kernel
theorem dX4_layer_2 : decode cX4_layer 2 = .ok (.iload_n 1, 1) := by decide +kernel
theorem dX4_layer_3 : decode cX4_layer 3 = .ok (.iload_n 2, 1) := by decide +kernel
theorem dX4_layer_4 : decode cX4_layer 4 = .ok (.invokevirtual 100, 3) := by decide +kernel
theorem dX4_layer_7 : decode cX4_layer 7 = .ok (.putfield 34, 3) := by decide +kernel
theorem dX4_layer_10 : decode cX4_layer 10 = .ok (.aload_n 0, 1) := by decide +kernel
theorem dX4_layer_11 : decode cX4_layer 11 = .ok (.getfield 34, 3) := by decide +kernel
theorem dX4_layer_14 : decode cX4_layer 14 = .ok (.ifCond .eq 5, 3) := by decide +kernel
theorem dX4_layer_17 : decode cX4_layer 17 = .ok (.iconst 0, 1) := by decide +kernel
theorem dX4_layer_18 : decode cX4_layer 18 = .ok (.ireturn, 1) := by decide +kernel
theorem dX4_layer_19 : decode cX4_layer 19 = .ok (.aload_n 0, 1) := by decide +kernel
theorem dX4_layer_20 : decode cX4_layer 20 = .ok (.invokevirtual 49, 3) := by decide +kernel
theorem dX4_layer_23 : decode cX4_layer 23 = .ok (.aload_n 0, 1) := by decide +kernel
theorem dX4_layer_24 : decode cX4_layer 24 = .ok (.iload_n 1, 1) := by decide +kernel
theorem dX4_layer_25 : decode cX4_layer 25 = .ok (.iload_n 2, 1) := by decide +kernel
theorem dX4_layer_26 : decode cX4_layer 26 = .ok (.invokevirtual 103, 3) := by decide +kernel
theorem dX4_layer_29 : decode cX4_layer 29 = .ok (.ireturn, 1) := by decide +kernel
set_option maxRecDepth 20000 in
theorem ggX4_clear_X4_isLayer : GoodIn wsX4_clear wsX4_isLayer := goodIn_r _ [6, 7, 8, 9, 5, 10, 25, 26, 27, 28, 29, 30, 31, 32, 33, 34, 35, 36, 37, 38, 39] (by decide +kernel) (by decide +kernel)
set_option maxRecDepth 20000 in
theorem gX4_clear_X4_isLayer : GoodIn wsX4_clear (wsV RX4 106 RX4 yX4_isLayer wsX4_isLayer) := goodIn_app (goodIn_of _ (by decide +kernel)) ggX4_clear_X4_isLayer
set_option maxRecDepth 20000 in
theorem ggX4_clear_X4_fails : GoodIn wsX4_clear wsX4_fails := goodIn_r _ [14, 1, 25, 26, 27, 28, 29, 30, 31, 32, 33, 34, 35, 36, 37, 38, 39] (by decide +kernel) (by decide +kernel)
set_option maxRecDepth 20000 in
theorem gX4_clear_X4_fails : GoodIn wsX4_clear (wsV RX4 45 RX4 yX4_fails wsX4_fails) := goodIn_app (goodIn_of _ (by decide +kernel)) ggX4_clear_X4_fails
set_option maxRecDepth 20000 in
theorem ggX4_clear_X4_save : GoodIn wsX4_clear wsX4_save := goodIn_r _ [18, 19, 20, 7, 25, 26, 27, 28, 29, 30, 31, 32, 33, 34, 35, 36, 37, 38, 39] (by decide +kernel) (by decide +kernel)
set_option maxRecDepth 20000 in
theorem gX4_clear_X4_save : GoodIn wsX4_clear (wsV RX4 49 RX4 yX4_save wsX4_save) := goodIn_app (goodIn_of _ (by decide +kernel)) ggX4_clear_X4_save
set_option maxRecDepth 20000 in
theorem ggX4_clear_X4_dropLayer : GoodIn wsX4_clear wsX4_dropLayer := goodIn_r _ [24, 7, 25, 26, 27, 28, 29, 30, 31, 32, 33, 34, 35, 36, 37, 38, 39] (by decide +kernel) (by decide +kernel)
set_option maxRecDepth 20000 in
theorem gX4_clear_X4_dropLayer : GoodIn wsX4_clear (wsV RX4 109 RX4 yX4_dropLayer wsX4_dropLayer) := goodIn_app (goodIn_of _ (by decide +kernel)) ggX4_clear_X4_dropLayer
theorem dX4_clear_0 : decode cX4_clear 0 = .ok (.aload_n 0, 1) := by decide +kernel
theorem dX4_clear_1 : decode cX4_clear 1 = .ok (.iconst 0, 1) := by decide +kernel
theorem dX4_clear_2 : decode cX4_clear 2 = .ok (.putfield 34, 3) := by decide +kernel
theorem dX4_clear_5 : decode cX4_clear 5 = .ok (.aload_n 0, 1) := by decide +kernel
theorem dX4_clear_6 : decode cX4_clear 6 = .ok (.iload_n 1, 1) := by decide +kernel
theorem dX4_clear_7 : decode cX4_clear 7 = .ok (.invokevirtual 106, 3) := by decide +kernel
theorem dX4_clear_10 : decode cX4_clear 10 = .ok (.ifCond .ne 9, 3) := by decide +kernel
theorem dX4_clear_13 : decode cX4_clear 13 = .ok (.aload_n 0, 1) := by decide +kernel
theorem dX4_clear_14 : decode cX4_clear 14 = .ok (.iconst 1, 1) := by decide +kernel
theorem dX4_clear_15 : decode cX4_clear 15 = .ok (.invokevirtual 45, 3) := by decide +kernel
theorem dX4_clear_18 : decode cX4_clear 18 = .ok (.ireturn, 1) := by decide +kernel
theorem dX4_clear_19 : decode cX4_clear 19 = .ok (.aload_n 0, 1) := by decide +kernel
theorem dX4_clear_20 : decode cX4_clear 20 = .ok (.invokevirtual 49, 3) := by decide +kernel
theorem dX4_clear_23 : decode cX4_clear 23 = .ok (.aload_n 0, 1) := by decide +kernel
theorem dX4_clear_24 : decode cX4_clear 24 = .ok (.iload_n 1, 1) := by decide +kernel
theorem dX4_clear_25 : decode cX4_clear 25 = .ok (.invokevirtual 109, 3) := by decide +kernel
theorem dX4_clear_28 : decode cX4_clear 28 = .ok (.ireturn, 1) := by decide +kernel
set_option maxRecDepth 20000 in
theorem ggX4_clearThin_X4_within : GoodIn wsX4_clearThin wsX4_within := goodIn_r _ [6] (by decide +kernel) (by decide +kernel)
set_option maxRecDepth 20000 in
theorem gX4_clearThin_X4_within : GoodIn wsX4_clearThin (va_wsS RX4 38 yX4_within wsX4_within) := goodIn_app (goodIn_of _ (by decide +kernel)) ggX4_clearThin_X4_within
set_option maxRecDepth 20000 in
theorem ggX4_clearThin_X4_fails : GoodIn wsX4_clearThin wsX4_fails := goodIn_r _ [10, 1, 21, 22, 23, 24, 25, 26, 27, 28, 29, 30, 31, 32, 33, 34, 35] (by decide +kernel) (by decide +kernel)
set_option maxRecDepth 20000 in
theorem gX4_clearThin_X4_fails : GoodIn wsX4_clearThin (wsV RX4 45 RX4 yX4_fails wsX4_fails) := goodIn_app (goodIn_of _ (by decide +kernel)) ggX4_clearThin_X4_fails
set_option maxRecDepth 20000 in
theorem ggX4_clearThin_X4_save : GoodIn wsX4_clearThin wsX4_save := goodIn_r _ [14, 15, 16, 2, 21, 22, 23, 24, 25, 26, 27, 28, 29, 30, 31, 32, 33, 34, 35] (by decide +kernel) (by decide +kernel)
set_option maxRecDepth 20000 in
theorem gX4_clearThin_X4_save : GoodIn wsX4_clearThin (wsV RX4 49 RX4 yX4_save wsX4_save) := goodIn_app (goodIn_of _ (by decide +kernel)) ggX4_clearThin_X4_save
set_option maxRecDepth 20000 in
theorem ggX4_clearThin_X4_dropLayer : GoodIn wsX4_clearThin wsX4_dropLayer := goodIn_r _ [20, 2, 21, 22, 23, 24, 25, 26, 27, 28, 29, 30, 31, 32, 33, 34, 35] (by decide +kernel) (by decide +kernel)
set_option maxRecDepth 20000 in
theorem gX4_clearThin_X4_dropLayer : GoodIn wsX4_clearThin (wsV RX4 109 RX4 yX4_dropLayer wsX4_dropLayer) := goodIn_app (goodIn_of _ (by decide +kernel)) ggX4_clearThin_X4_dropLayer
theorem dX4_clearThin_0 : decode cX4_clearThin 0 = .ok (.aload_n 0, 1) := by decide +kernel
theorem dX4_clearThin_1 : decode cX4_clearThin 1 = .ok (.iconst 0, 1) := by decide +kernel
theorem dX4_clearThin_2 : decode cX4_clearThin 2 = .ok (.putfield 34, 3) := by decide +kernel
theorem dX4_clearThin_5 : decode cX4_clearThin 5 = .ok (.iload_n 1, 1) := by decide +kernel
theorem dX4_clearThin_6 : decode cX4_clearThin 6 = .ok (.iconst 1, 1) := by decide +kernel
theorem dX4_clearThin_7 : decode cX4_clearThin 7 = .ok (.bipush 100, 2) := by decide +kernel
theorem dX4_clearThin_9 : decode cX4_clearThin 9 = .ok (.invokestatic 38, 3) := by decide +kernel
theorem dX4_clearThin_12 : decode cX4_clearThin 12 = .ok (.ifCond .ne 9, 3) := by decide +kernel
theorem dX4_clearThin_15 : decode cX4_clearThin 15 = .ok (.aload_n 0, 1) := by decide +kernel
theorem dX4_clearThin_16 : decode cX4_clearThin 16 = .ok (.iconst 1, 1) := by decide +kernel
theorem dX4_clearThin_17 : decode cX4_clearThin 17 = .ok (.invokevirtual 45, 3) := by decide +kernel
theorem dX4_clearThin_20 : decode cX4_clearThin 20 = .ok (.ireturn, 1) := by decide +kernel
theorem dX4_clearThin_21 : decode cX4_clearThin 21 = .ok (.aload_n 0, 1) := by decide +kernel
theorem dX4_clearThin_22 : decode cX4_clearThin 22 = .ok (.invokevirtual 49, 3) := by decide +kernel
theorem dX4_clearThin_25 : decode cX4_clearThin 25 = .ok (.aload_n 0, 1) := by decide +kernel
theorem dX4_clearThin_26 : decode cX4_clearThin 26 = .ok (.getfield 7, 3) := by decide +kernel
theorem dX4_clearThin_29 : decode cX4_clearThin 29 = .ok (.bipush 8, 2) := by decide +kernel
theorem dX4_clearThin_31 : decode cX4_clearThin 31 = .ok (.iaload, 1) := by decide +kernel
theorem dX4_clearThin_32 : decode cX4_clearThin 32 = .ok (.istore_n 2, 1) := by decide +kernel
theorem dX4_clearThin_33 : decode cX4_clearThin 33 = .ok (.iload_n 2, 1) := by decide +kernel
theorem dX4_clearThin_34 : decode cX4_clearThin 34 = .ok (.iconst 1, 1) := by decide +kernel
theorem dX4_clearThin_35 : decode cX4_clearThin 35 = .ok (.isub, 1) := by decide +kernel
theorem dX4_clearThin_36 : decode cX4_clearThin 36 = .ok (.istore_n 3, 1) := by decide +kernel
theorem dX4_clearThin_37 : decode cX4_clearThin 37 = .ok (.iload_n 3, 1) := by decide +kernel
theorem dX4_clearThin_38 : decode cX4_clearThin 38 = .ok (.ifCond .lt 28, 3) := by decide +kernel
theorem dX4_clearThin_41 : decode cX4_clearThin 41 = .ok (.aload_n 0, 1) := by decide +kernel
theorem dX4_clearThin_42 : decode cX4_clearThin 42 = .ok (.getfield 7, 3) := by decide +kernel
theorem dX4_clearThin_45 : decode cX4_clearThin 45 = .ok (.bipush 18, 2) := by decide +kernel
theorem dX4_clearThin_47 : decode cX4_clearThin 47 = .ok (.iload_n 3, 1) := by decide +kernel
theorem dX4_clearThin_48 : decode cX4_clearThin 48 = .ok (.iadd, 1) := by decide +kernel
theorem dX4_clearThin_49 : decode cX4_clearThin 49 = .ok (.iaload, 1) := by decide +kernel
theorem dX4_clearThin_50 : decode cX4_clearThin 50 = .ok (.iload_n 1, 1) := by decide +kernel
theorem dX4_clearThin_51 : decode cX4_clearThin 51 = .ok (.if_icmp .gt 9, 3) := by decide +kernel
theorem dX4_clearThin_54 : decode cX4_clearThin 54 = .ok (.aload_n 0, 1) := by decide +kernel
theorem dX4_clearThin_55 : decode cX4_clearThin 55 = .ok (.iload_n 3, 1) := by decide +kernel
theorem dX4_clearThin_56 : decode cX4_clearThin 56 = .ok (.invokevirtual 109, 3) := by decide +kernel
theorem dX4_clearThin_59 : decode cX4_clearThin 59 = .ok (.pop, 1) := by decide +kernel
theorem dX4_clearThin_60 : decode cX4_clearThin 60 = .ok (.iinc 3 (-1), 3) := by decide +kernel
theorem dX4_clearThin_63 : decode cX4_clearThin 63 = .ok (.goto (-26), 3) := by decide +kernel
theorem dX4_clearThin_66 : decode cX4_clearThin 66 = .ok (.iload_n 2, 1) := by decide +kernel
theorem dX4_clearThin_67 : decode cX4_clearThin 67 = .ok (.aload_n 0, 1) := by decide +kernel
theorem dX4_clearThin_68 : decode cX4_clearThin 68 = .ok (.getfield 7, 3) := by decide +kernel
theorem dX4_clearThin_71 : decode cX4_clearThin 71 = .ok (.bipush 8, 2) := by decide +kernel
theorem dX4_clearThin_73 : decode cX4_clearThin 73 = .ok (.iaload, 1) := by decide +kernel
theorem dX4_clearThin_74 : decode cX4_clearThin 74 = .ok (.isub, 1) := by decide +kernel
theorem dX4_clearThin_75 : decode cX4_clearThin 75 = .ok (.ireturn, 1) := by decide +kernel
set_option maxRecDepth 20000 in
theorem ggX4_aim_X4_isLight : GoodIn wsX4_aim wsX4_isLight := goodIn_r _ [5, 6, 7, 4, 8] (by decide +kernel) (by decide +kernel)
set_option maxRecDepth 20000 in
theorem gX4_aim_X4_isLight : GoodIn wsX4_aim (va_wsS RX4 112 yX4_isLight wsX4_isLight) := goodIn_app (goodIn_of _ (by decide +kernel)) ggX4_aim_X4_isLight
set_option maxRecDepth 20000 in
theorem ggX4_aim_X4_fails : GoodIn wsX4_aim wsX4_fails := goodIn_r _ [12, 1, 24, 25, 26, 27, 28, 29, 30, 31, 32, 33, 34, 35, 36, 37, 38] (by decide +kernel) (by decide +kernel)
set_option maxRecDepth 20000 in
theorem gX4_aim_X4_fails : GoodIn wsX4_aim (wsV RX4 45 RX4 yX4_fails wsX4_fails) := goodIn_app (goodIn_of _ (by decide +kernel)) ggX4_aim_X4_fails
set_option maxRecDepth 20000 in
theorem ggX4_aim_X4_within : GoodIn wsX4_aim wsX4_within := goodIn_r _ [8] (by decide +kernel) (by decide +kernel)
set_option maxRecDepth 20000 in
theorem gX4_aim_X4_within : GoodIn wsX4_aim (va_wsS RX4 38 yX4_within wsX4_within) := goodIn_app (goodIn_of _ (by decide +kernel)) ggX4_aim_X4_within
set_option maxRecDepth 20000 in
theorem ggX4_aim_X4_save : GoodIn wsX4_aim wsX4_save := goodIn_r _ [16, 17, 18, 19, 24, 25, 26, 27, 28, 29, 30, 31, 32, 33, 34, 35, 36, 37, 38] (by decide +kernel) (by decide +kernel)
set_option maxRecDepth 20000 in
theorem gX4_aim_X4_save : GoodIn wsX4_aim (wsV RX4 49 RX4 yX4_save wsX4_save) := goodIn_app (goodIn_of _ (by decide +kernel)) ggX4_aim_X4_save
set_option maxRecDepth 20000 in
theorem ggX4_aim_X4_turnTo : GoodIn wsX4_aim wsX4_turnTo := goodIn_r _ [23, 19, 24, 25, 26, 27, 28, 29, 30, 31, 32, 33, 34, 35, 36, 37, 38] (by decide +kernel) (by decide +kernel)
set_option maxRecDepth 20000 in
theorem gX4_aim_X4_turnTo : GoodIn wsX4_aim (wsV RX4 115 RX4 yX4_turnTo wsX4_turnTo) := goodIn_app (goodIn_of _ (by decide +kernel)) ggX4_aim_X4_turnTo
theorem dX4_aim_0 : decode cX4_aim 0 = .ok (.aload_n 0, 1) := by decide +kernel
theorem dX4_aim_1 : decode cX4_aim 1 = .ok (.iconst 0, 1) := by decide +kernel
theorem dX4_aim_2 : decode cX4_aim 2 = .ok (.putfield 34, 3) := by decide +kernel
theorem dX4_aim_5 : decode cX4_aim 5 = .ok (.iload_n 1, 1) := by decide +kernel
theorem dX4_aim_6 : decode cX4_aim 6 = .ok (.invokestatic 112, 3) := by decide +kernel
theorem dX4_aim_9 : decode cX4_aim 9 = .ok (.ifCond .ne 9, 3) := by decide +kernel
theorem dX4_aim_12 : decode cX4_aim 12 = .ok (.aload_n 0, 1) := by decide +kernel
theorem dX4_aim_13 : decode cX4_aim 13 = .ok (.iconst 1, 1) := by decide +kernel
theorem dX4_aim_14 : decode cX4_aim 14 = .ok (.invokevirtual 45, 3) := by decide +kernel
theorem dX4_aim_17 : decode cX4_aim 17 = .ok (.ireturn, 1) := by decide +kernel
theorem dX4_aim_18 : decode cX4_aim 18 = .ok (.iload_n 2, 1) := by decide +kernel
theorem dX4_aim_19 : decode cX4_aim 19 = .ok (.bipush (-30), 2) := by decide +kernel
theorem dX4_aim_21 : decode cX4_aim 21 = .ok (.bipush 30, 2) := by decide +kernel
theorem dX4_aim_23 : decode cX4_aim 23 = .ok (.invokestatic 38, 3) := by decide +kernel
theorem dX4_aim_26 : decode cX4_aim 26 = .ok (.ifCond .ne 9, 3) := by decide +kernel
theorem dX4_aim_29 : decode cX4_aim 29 = .ok (.aload_n 0, 1) := by decide +kernel
theorem dX4_aim_30 : decode cX4_aim 30 = .ok (.iconst 2, 1) := by decide +kernel
theorem dX4_aim_31 : decode cX4_aim 31 = .ok (.invokevirtual 45, 3) := by decide +kernel
theorem dX4_aim_34 : decode cX4_aim 34 = .ok (.ireturn, 1) := by decide +kernel
theorem dX4_aim_35 : decode cX4_aim 35 = .ok (.aload_n 0, 1) := by decide +kernel
theorem dX4_aim_36 : decode cX4_aim 36 = .ok (.invokevirtual 49, 3) := by decide +kernel
theorem dX4_aim_39 : decode cX4_aim 39 = .ok (.aload_n 0, 1) := by decide +kernel
theorem dX4_aim_40 : decode cX4_aim 40 = .ok (.iload_n 1, 1) := by decide +kernel
theorem dX4_aim_41 : decode cX4_aim 41 = .ok (.iload_n 2, 1) := by decide +kernel
theorem dX4_aim_42 : decode cX4_aim 42 = .ok (.invokevirtual 115, 3) := by decide +kernel
theorem dX4_aim_45 : decode cX4_aim 45 = .ok (.ireturn, 1) := by decide +kernel
set_option maxRecDepth 20000 in
theorem ggX4_turn_X4_isLight : GoodIn wsX4_turn wsX4_isLight := goodIn_r _ [6, 7, 8, 5, 9] (by decide +kernel) (by decide +kernel)
set_option maxRecDepth 20000 in
theorem gX4_turn_X4_isLight : GoodIn wsX4_turn (va_wsS RX4 112 yX4_isLight wsX4_isLight) := goodIn_app (goodIn_of _ (by decide +kernel)) ggX4_turn_X4_isLight
set_option maxRecDepth 20000 in
theorem ggX4_turn_X4_fails : GoodIn wsX4_turn wsX4_fails := goodIn_r _ [13, 1, 20, 21, 22, 23, 24, 25, 26, 27, 28, 29, 30, 31, 32, 33, 34] (by decide +kernel) (by decide +kernel)
set_option maxRecDepth 20000 in
theorem gX4_turn_X4_fails : GoodIn wsX4_turn (wsV RX4 45 RX4 yX4_fails wsX4_fails) := goodIn_app (goodIn_of _ (by decide +kernel)) ggX4_turn_X4_fails
set_option maxRecDepth 20000 in
theorem ggX4_turn_X4_save : GoodIn wsX4_turn wsX4_save := goodIn_r _ [17, 18, 19, 2, 20, 21, 22, 23, 24, 25, 26, 27, 28, 29, 30, 31, 32, 33, 34] (by decide +kernel) (by decide +kernel)
set_option maxRecDepth 20000 in
theorem gX4_turn_X4_save : GoodIn wsX4_turn (wsV RX4 49 RX4 yX4_save wsX4_save) := goodIn_app (goodIn_of _ (by decide +kernel)) ggX4_turn_X4_save
theorem dX4_turn_0 : decode cX4_turn 0 = .ok (.aload_n 0, 1) := by decide +kernel
theorem dX4_turn_1 : decode cX4_turn 1 = .ok (.iconst 0, 1) := by decide +kernel
theorem dX4_turn_2 : decode cX4_turn 2 = .ok (.putfield 34, 3) := by decide +kernel
theorem dX4_turn_5 : decode cX4_turn 5 = .ok (.iload_n 1, 1) := by decide +kernel
theorem dX4_turn_6 : decode cX4_turn 6 = .ok (.invokestatic 112, 3) := by decide +kernel
theorem dX4_turn_9 : decode cX4_turn 9 = .ok (.ifCond .ne 9, 3) := by decide +kernel
theorem dX4_turn_12 : decode cX4_turn 12 = .ok (.aload_n 0, 1) := by decide +kernel
theorem dX4_turn_13 : decode cX4_turn 13 = .ok (.iconst 1, 1) := by decide +kernel
theorem dX4_turn_14 : decode cX4_turn 14 = .ok (.invokevirtual 45, 3) := by decide +kernel
theorem dX4_turn_17 : decode cX4_turn 17 = .ok (.ireturn, 1) := by decide +kernel
theorem dX4_turn_18 : decode cX4_turn 18 = .ok (.aload_n 0, 1) := by decide +kernel
theorem dX4_turn_19 : decode cX4_turn 19 = .ok (.invokevirtual 49, 3) := by decide +kernel
theorem dX4_turn_22 : decode cX4_turn 22 = .ok (.aload_n 0, 1) := by decide +kernel
theorem dX4_turn_23 : decode cX4_turn 23 = .ok (.getfield 7, 3) := by decide +kernel
theorem dX4_turn_26 : decode cX4_turn 26 = .ok (.bipush 6, 2) := by decide +kernel
theorem dX4_turn_28 : decode cX4_turn 28 = .ok (.iload_n 1, 1) := by decide +kernel
theorem dX4_turn_29 : decode cX4_turn 29 = .ok (.iadd, 1) := by decide +kernel
theorem dX4_turn_30 : decode cX4_turn 30 = .ok (.iconst 1, 1) := by decide +kernel
theorem dX4_turn_31 : decode cX4_turn 31 = .ok (.aload_n 0, 1) := by decide +kernel
theorem dX4_turn_32 : decode cX4_turn 32 = .ok (.getfield 7, 3) := by decide +kernel
theorem dX4_turn_35 : decode cX4_turn 35 = .ok (.bipush 6, 2) := by decide +kernel
theorem dX4_turn_37 : decode cX4_turn 37 = .ok (.iload_n 1, 1) := by decide +kernel
theorem dX4_turn_38 : decode cX4_turn 38 = .ok (.iadd, 1) := by decide +kernel
theorem dX4_turn_39 : decode cX4_turn 39 = .ok (.iaload, 1) := by decide +kernel
theorem dX4_turn_40 : decode cX4_turn 40 = .ok (.isub, 1) := by decide +kernel
theorem dX4_turn_41 : decode cX4_turn 41 = .ok (.iastore, 1) := by decide +kernel
theorem dX4_turn_42 : decode cX4_turn 42 = .ok (.aload_n 0, 1) := by decide +kernel
theorem dX4_turn_43 : decode cX4_turn 43 = .ok (.getfield 7, 3) := by decide +kernel
theorem dX4_turn_46 : decode cX4_turn 46 = .ok (.bipush 6, 2) := by decide +kernel
theorem dX4_turn_48 : decode cX4_turn 48 = .ok (.iload_n 1, 1) := by decide +kernel
theorem dX4_turn_49 : decode cX4_turn 49 = .ok (.iadd, 1) := by decide +kernel
theorem dX4_turn_50 : decode cX4_turn 50 = .ok (.iaload, 1) := by decide +kernel
theorem dX4_turn_51 : decode cX4_turn 51 = .ok (.ireturn, 1) := by decide +kernel
theorem dX4_leastOf_0 : decode cX4_leastOf 0 = .ok (.iload_n 0, 1) := by decide +kernel
theorem dX4_leastOf_1 : decode cX4_leastOf 1 = .ok (.ifCond .ne 8, 3) := by decide +kernel
theorem dX4_leastOf_4 : decode cX4_leastOf 4 = .ok (.bipush 50, 2) := by decide +kernel
theorem dX4_leastOf_6 : decode cX4_leastOf 6 = .ok (.goto 13, 3) := by decide +kernel
theorem dX4_leastOf_9 : decode cX4_leastOf 9 = .ok (.iload_n 0, 1) := by decide +kernel
theorem dX4_leastOf_10 : decode cX4_leastOf 10 = .ok (.iconst 2, 1) := by decide +kernel
theorem dX4_leastOf_11 : decode cX4_leastOf 11 = .ok (.if_icmp .ne 7, 3) := by decide +kernel
theorem dX4_leastOf_14 : decode cX4_leastOf 14 = .ok (.iconst 1, 1) := by decide +kernel
theorem dX4_leastOf_15 : decode cX4_leastOf 15 = .ok (.goto 4, 3) := by decide +kernel
theorem dX4_leastOf_18 : decode cX4_leastOf 18 = .ok (.iconst 0, 1) := by decide +kernel
theorem dX4_leastOf_19 : decode cX4_leastOf 19 = .ok (.ireturn, 1) := by decide +kernel
theorem dX4_mostOf_0 : decode cX4_mostOf 0 = .ok (.iload_n 0, 1) := by decide +kernel
theorem dX4_mostOf_1 : decode cX4_mostOf 1 = .ok (.iconst 2, 1) := by decide +kernel
theorem dX4_mostOf_2 : decode cX4_mostOf 2 = .ok (.if_icmp .ge 9, 3) := by decide +kernel
theorem dX4_mostOf_5 : decode cX4_mostOf 5 = .ok (.sipush 1000, 3) := by decide +kernel
theorem dX4_mostOf_8 : decode cX4_mostOf 8 = .ok (.goto 16, 3) := by decide +kernel
theorem dX4_mostOf_11 : decode cX4_mostOf 11 = .ok (.iload_n 0, 1) := by decide +kernel
theorem dX4_mostOf_12 : decode cX4_mostOf 12 = .ok (.iconst 2, 1) := by decide +kernel
theorem dX4_mostOf_13 : decode cX4_mostOf 13 = .ok (.if_icmp .ne 9, 3) := by decide +kernel
theorem dX4_mostOf_16 : decode cX4_mostOf 16 = .ok (.sipush 500, 3) := by decide +kernel
theorem dX4_mostOf_19 : decode cX4_mostOf 19 = .ok (.goto 5, 3) := by decide +kernel
theorem dX4_mostOf_22 : decode cX4_mostOf 22 = .ok (.bipush 100, 2) := by decide +kernel
theorem dX4_mostOf_24 : decode cX4_mostOf 24 = .ok (.ireturn, 1) := by decide +kernel
set_option maxRecDepth 20000 in
theorem ggX4_set_X4_within : GoodIn wsX4_set wsX4_within := goodIn_r _ [6] (by decide +kernel) (by decide +kernel)
set_option maxRecDepth 20000 in
theorem gX4_set_X4_within : GoodIn wsX4_set (va_wsS RX4 38 yX4_within wsX4_within) := goodIn_app (goodIn_of _ (by decide +kernel)) ggX4_set_X4_within
set_option maxRecDepth 20000 in
theorem ggX4_set_X4_fails : GoodIn wsX4_set wsX4_fails := goodIn_r _ [10, 1, 23, 24, 25, 26, 27, 28, 29, 30, 31, 32, 33, 34, 35, 36, 37] (by decide +kernel) (by decide +kernel)
set_option maxRecDepth 20000 in
theorem gX4_set_X4_fails : GoodIn wsX4_set (wsV RX4 45 RX4 yX4_fails wsX4_fails) := goodIn_app (goodIn_of _ (by decide +kernel)) ggX4_set_X4_fails
set_option maxRecDepth 20000 in
theorem ggX4_set_X4_leastOf : GoodIn wsX4_set wsX4_leastOf := goodIn_r _ [13] (by decide +kernel) (by decide +kernel)
set_option maxRecDepth 20000 in
theorem gX4_set_X4_leastOf : GoodIn wsX4_set (va_wsS RX4 118 yX4_leastOf wsX4_leastOf) := goodIn_app (goodIn_of _ (by decide +kernel)) ggX4_set_X4_leastOf
set_option maxRecDepth 20000 in
theorem ggX4_set_X4_mostOf : GoodIn wsX4_set wsX4_mostOf := goodIn_r _ [16] (by decide +kernel) (by decide +kernel)
set_option maxRecDepth 20000 in
theorem gX4_set_X4_mostOf : GoodIn wsX4_set (va_wsS RX4 121 yX4_mostOf wsX4_mostOf) := goodIn_app (goodIn_of _ (by decide +kernel)) ggX4_set_X4_mostOf
set_option maxRecDepth 20000 in
theorem ggX4_set_X4_save : GoodIn wsX4_set wsX4_save := goodIn_r _ [20, 21, 22, 2, 23, 24, 25, 26, 27, 28, 29, 30, 31, 32, 33, 34, 35, 36, 37] (by decide +kernel) (by decide +kernel)
set_option maxRecDepth 20000 in
theorem gX4_set_X4_save : GoodIn wsX4_set (wsV RX4 49 RX4 yX4_save wsX4_save) := goodIn_app (goodIn_of _ (by decide +kernel)) ggX4_set_X4_save
theorem dX4_set_0 : decode cX4_set 0 = .ok (.aload_n 0, 1) := by decide +kernel
theorem dX4_set_1 : decode cX4_set 1 = .ok (.iconst 0, 1) := by decide +kernel
theorem dX4_set_2 : decode cX4_set 2 = .ok (.putfield 34, 3) := by decide +kernel
theorem dX4_set_5 : decode cX4_set 5 = .ok (.iload_n 1, 1) := by decide +kernel
theorem dX4_set_6 : decode cX4_set 6 = .ok (.iconst 0, 1) := by decide +kernel
theorem dX4_set_7 : decode cX4_set 7 = .ok (.iconst 3, 1) := by decide +kernel
theorem dX4_set_8 : decode cX4_set 8 = .ok (.invokestatic 38, 3) := by decide +kernel
theorem dX4_set_11 : decode cX4_set 11 = .ok (.ifCond .ne 9, 3) := by decide +kernel
theorem dX4_set_14 : decode cX4_set 14 = .ok (.aload_n 0, 1) := by decide +kernel
theorem dX4_set_15 : decode cX4_set 15 = .ok (.iconst 1, 1) := by decide +kernel
theorem dX4_set_16 : decode cX4_set 16 = .ok (.invokevirtual 45, 3) := by decide +kernel
theorem dX4_set_19 : decode cX4_set 19 = .ok (.ireturn, 1) := by decide +kernel
theorem dX4_set_20 : decode cX4_set 20 = .ok (.iload_n 2, 1) := by decide +kernel
theorem dX4_set_21 : decode cX4_set 21 = .ok (.iload_n 1, 1) := by decide +kernel
theorem dX4_set_22 : decode cX4_set 22 = .ok (.invokestatic 118, 3) := by decide +kernel
theorem dX4_set_25 : decode cX4_set 25 = .ok (.iload_n 1, 1) := by decide +kernel
theorem dX4_set_26 : decode cX4_set 26 = .ok (.invokestatic 121, 3) := by decide +kernel
theorem dX4_set_29 : decode cX4_set 29 = .ok (.invokestatic 38, 3) := by decide +kernel
theorem dX4_set_32 : decode cX4_set 32 = .ok (.ifCond .ne 9, 3) := by decide +kernel
theorem dX4_set_35 : decode cX4_set 35 = .ok (.aload_n 0, 1) := by decide +kernel
theorem dX4_set_36 : decode cX4_set 36 = .ok (.iconst 2, 1) := by decide +kernel
theorem dX4_set_37 : decode cX4_set 37 = .ok (.invokevirtual 45, 3) := by decide +kernel
theorem dX4_set_40 : decode cX4_set 40 = .ok (.ireturn, 1) := by decide +kernel
theorem dX4_set_41 : decode cX4_set 41 = .ok (.aload_n 0, 1) := by decide +kernel
theorem dX4_set_42 : decode cX4_set 42 = .ok (.invokevirtual 49, 3) := by decide +kernel
theorem dX4_set_45 : decode cX4_set 45 = .ok (.aload_n 0, 1) := by decide +kernel
theorem dX4_set_46 : decode cX4_set 46 = .ok (.getfield 7, 3) := by decide +kernel
theorem dX4_set_49 : decode cX4_set 49 = .ok (.iconst 0, 1) := by decide +kernel
theorem dX4_set_50 : decode cX4_set 50 = .ok (.iload_n 1, 1) := by decide +kernel
theorem dX4_set_51 : decode cX4_set 51 = .ok (.iadd, 1) := by decide +kernel
theorem dX4_set_52 : decode cX4_set 52 = .ok (.iaload, 1) := by decide +kernel
theorem dX4_set_53 : decode cX4_set 53 = .ok (.istore_n 3, 1) := by decide +kernel
theorem dX4_set_54 : decode cX4_set 54 = .ok (.aload_n 0, 1) := by decide +kernel
theorem dX4_set_55 : decode cX4_set 55 = .ok (.getfield 7, 3) := by decide +kernel
theorem dX4_set_58 : decode cX4_set 58 = .ok (.iconst 0, 1) := by decide +kernel
theorem dX4_set_59 : decode cX4_set 59 = .ok (.iload_n 1, 1) := by decide +kernel
theorem dX4_set_60 : decode cX4_set 60 = .ok (.iadd, 1) := by decide +kernel
theorem dX4_set_61 : decode cX4_set 61 = .ok (.iload_n 2, 1) := by decide +kernel
theorem dX4_set_62 : decode cX4_set 62 = .ok (.iastore, 1) := by decide +kernel
theorem dX4_set_63 : decode cX4_set 63 = .ok (.iload_n 3, 1) := by decide +kernel
theorem dX4_set_64 : decode cX4_set 64 = .ok (.ireturn, 1) := by decide +kernel
set_option maxRecDepth 20000 in
theorem ggX4_scan_X4_isLight : GoodIn wsX4_scan wsX4_isLight := goodIn_r _ [6, 7, 8, 5, 9] (by decide +kernel) (by decide +kernel)
set_option maxRecDepth 20000 in
theorem gX4_scan_X4_isLight : GoodIn wsX4_scan (va_wsS RX4 112 yX4_isLight wsX4_isLight) := goodIn_app (goodIn_of _ (by decide +kernel)) ggX4_scan_X4_isLight
set_option maxRecDepth 20000 in
theorem ggX4_scan_X4_isLayer : GoodIn wsX4_scan wsX4_isLayer := goodIn_r _ [13, 2, 7, 8, 5, 9, 43, 44, 45, 46, 47, 48, 49, 50, 51, 52, 53, 54, 55, 56, 57] (by decide +kernel) (by decide +kernel)
set_option maxRecDepth 20000 in
theorem gX4_scan_X4_isLayer : GoodIn wsX4_scan (wsV RX4 106 RX4 yX4_isLayer wsX4_isLayer) := goodIn_app (goodIn_of _ (by decide +kernel)) ggX4_scan_X4_isLayer
set_option maxRecDepth 20000 in
theorem ggX4_scan_X4_fails : GoodIn wsX4_scan wsX4_fails := goodIn_r _ [17, 1, 43, 44, 45, 46, 47, 48, 49, 50, 51, 52, 53, 54, 55, 56, 57] (by decide +kernel) (by decide +kernel)
set_option maxRecDepth 20000 in
theorem gX4_scan_X4_fails : GoodIn wsX4_scan (wsV RX4 45 RX4 yX4_fails wsX4_fails) := goodIn_app (goodIn_of _ (by decide +kernel)) ggX4_scan_X4_fails
set_option maxRecDepth 20000 in
theorem ggX4_scan_X4_save : GoodIn wsX4_scan wsX4_save := goodIn_r _ [21, 22, 23, 2, 43, 44, 45, 46, 47, 48, 49, 50, 51, 52, 53, 54, 55, 56, 57] (by decide +kernel) (by decide +kernel)
set_option maxRecDepth 20000 in
theorem gX4_scan_X4_save : GoodIn wsX4_scan (wsV RX4 49 RX4 yX4_save wsX4_save) := goodIn_app (goodIn_of _ (by decide +kernel)) ggX4_scan_X4_save
set_option maxRecDepth 20000 in
theorem ggX4_scan_X4_bestSlope : GoodIn wsX4_scan wsX4_bestSlope := goodIn_r _ [27, 2, 28, 29, 30, 5, 31, 32, 33, 34, 35, 36, 37, 38, 39, 40, 41, 42, 43, 44, 45, 46, 47, 48, 49, 50, 51, 52, 53, 54, 55, 56, 57] (by decide +kernel) (by decide +kernel)
set_option maxRecDepth 20000 in
theorem gX4_scan_X4_bestSlope : GoodIn wsX4_scan (wsV RX4 124 RX4 yX4_bestSlope wsX4_bestSlope) := goodIn_app (goodIn_of _ (by decide +kernel)) ggX4_scan_X4_bestSlope
set_option maxRecDepth 20000 in
theorem ggX4_scan_X4_distance : GoodIn wsX4_scan wsX4_distance := goodIn_r _ [31, 32, 33, 34, 5, 35, 2, 36, 37, 38, 39, 43, 44, 45, 46, 47, 48, 49, 50, 51, 52, 53, 54, 55, 56, 57] (by decide +kernel) (by decide +kernel)
set_option maxRecDepth 20000 in
theorem gX4_scan_X4_distance : GoodIn wsX4_scan (wsV RX4 72 RX4 yX4_distance wsX4_distance) := goodIn_app (goodIn_of _ (by decide +kernel)) ggX4_scan_X4_distance
set_option maxRecDepth 20000 in
theorem ggX4_scan_X4_sizeOf : GoodIn wsX4_scan wsX4_sizeOf := goodIn_r _ [42] (by decide +kernel) (by decide +kernel)
set_option maxRecDepth 20000 in
theorem gX4_scan_X4_sizeOf : GoodIn wsX4_scan (va_wsS RX4 75 yX4_sizeOf wsX4_sizeOf) := goodIn_app (goodIn_of _ (by decide +kernel)) ggX4_scan_X4_sizeOf
theorem dX4_scan_0 : decode cX4_scan 0 = .ok (.aload_n 0, 1) := by decide +kernel
theorem dX4_scan_1 : decode cX4_scan 1 = .ok (.iconst 0, 1) := by decide +kernel
theorem dX4_scan_2 : decode cX4_scan 2 = .ok (.putfield 34, 3) := by decide +kernel
theorem dX4_scan_5 : decode cX4_scan 5 = .ok (.iload_n 1, 1) := by decide +kernel
theorem dX4_scan_6 : decode cX4_scan 6 = .ok (.invokestatic 112, 3) := by decide +kernel
theorem dX4_scan_9 : decode cX4_scan 9 = .ok (.ifCond .eq 11, 3) := by decide +kernel
theorem dX4_scan_12 : decode cX4_scan 12 = .ok (.aload_n 0, 1) := by decide +kernel
theorem dX4_scan_13 : decode cX4_scan 13 = .ok (.iload_n 2, 1) := by decide +kernel
theorem dX4_scan_14 : decode cX4_scan 14 = .ok (.invokevirtual 106, 3) := by decide +kernel
theorem dX4_scan_17 : decode cX4_scan 17 = .ok (.ifCond .ne 9, 3) := by decide +kernel
theorem dX4_scan_20 : decode cX4_scan 20 = .ok (.aload_n 0, 1) := by decide +kernel
theorem dX4_scan_21 : decode cX4_scan 21 = .ok (.iconst 1, 1) := by decide +kernel
theorem dX4_scan_22 : decode cX4_scan 22 = .ok (.invokevirtual 45, 3) := by decide +kernel
theorem dX4_scan_25 : decode cX4_scan 25 = .ok (.ireturn, 1) := by decide +kernel
theorem dX4_scan_26 : decode cX4_scan 26 = .ok (.aload_n 0, 1) := by decide +kernel
theorem dX4_scan_27 : decode cX4_scan 27 = .ok (.invokevirtual 49, 3) := by decide +kernel
theorem dX4_scan_30 : decode cX4_scan 30 = .ok (.aload_n 0, 1) := by decide +kernel
theorem dX4_scan_31 : decode cX4_scan 31 = .ok (.getfield 7, 3) := by decide +kernel
theorem dX4_scan_34 : decode cX4_scan 34 = .ok (.iconst 4, 1) := by decide +kernel
theorem dX4_scan_35 : decode cX4_scan 35 = .ok (.iload_n 1, 1) := by decide +kernel
theorem dX4_scan_36 : decode cX4_scan 36 = .ok (.iadd, 1) := by decide +kernel
theorem dX4_scan_37 : decode cX4_scan 37 = .ok (.aload_n 0, 1) := by decide +kernel
theorem dX4_scan_38 : decode cX4_scan 38 = .ok (.iload_n 1, 1) := by decide +kernel
theorem dX4_scan_39 : decode cX4_scan 39 = .ok (.iload_n 2, 1) := by decide +kernel
theorem dX4_scan_40 : decode cX4_scan 40 = .ok (.invokevirtual 124, 3) := by decide +kernel
theorem dX4_scan_43 : decode cX4_scan 43 = .ok (.iastore, 1) := by decide +kernel
theorem dX4_scan_44 : decode cX4_scan 44 = .ok (.aload_n 0, 1) := by decide +kernel
theorem dX4_scan_45 : decode cX4_scan 45 = .ok (.iload_n 2, 1) := by decide +kernel
theorem dX4_scan_46 : decode cX4_scan 46 = .ok (.invokevirtual 72, 3) := by decide +kernel
theorem dX4_scan_49 : decode cX4_scan 49 = .ok (.invokestatic 75, 3) := by decide +kernel
theorem dX4_scan_52 : decode cX4_scan 52 = .ok (.ireturn, 1) := by decide +kernel
set_option maxRecDepth 20000 in
theorem ggX4_log_X4_save : GoodIn wsX4_log wsX4_save := goodIn_r _ [6, 7, 8, 9, 70, 71, 72, 73, 74, 75, 76, 77, 78, 79, 80, 81, 82, 83, 84] (by decide +kernel) (by decide +kernel)
set_option maxRecDepth 20000 in
theorem gX4_log_X4_save : GoodIn wsX4_log (wsV RX4 49 RX4 yX4_save wsX4_save) := goodIn_app (goodIn_of _ (by decide +kernel)) ggX4_log_X4_save
set_option maxRecDepth 20000 in
theorem ggX4_log_X4_logNow : GoodIn wsX4_log wsX4_logNow := goodIn_r _ [13, 9, 14, 15, 16, 17, 18, 5, 19, 20, 21, 22, 23, 24, 25, 26, 27, 28, 29, 30, 31, 32, 33, 34, 35, 36, 37, 38, 39, 40, 41, 42, 43, 44, 45, 46, 47, 48, 49, 50, 51, 52, 53, 54, 55, 56, 57, 58, 59, 60, 61, 62, 63, 64, 65, 66, 67, 68, 69, 70, 71, 72, 73, 74, 75, 76, 77, 78, 79, 80, 81, 82, 83, 84] (by decide +kernel) (by decide +kernel)
set_option maxRecDepth 20000 in
theorem gX4_log_X4_logNow : GoodIn wsX4_log (wsV RX4 127 RX4 yX4_logNow wsX4_logNow) := goodIn_app (goodIn_of _ (by decide +kernel)) ggX4_log_X4_logNow
theorem dX4_log_0 : decode cX4_log 0 = .ok (.aload_n 0, 1) := by decide +kernel
theorem dX4_log_1 : decode cX4_log 1 = .ok (.iconst 0, 1) := by decide +kernel
theorem dX4_log_2 : decode cX4_log 2 = .ok (.putfield 34, 3) := by decide +kernel
theorem dX4_log_5 : decode cX4_log 5 = .ok (.aload_n 0, 1) := by decide +kernel
theorem dX4_log_6 : decode cX4_log 6 = .ok (.invokevirtual 49, 3) := by decide +kernel
theorem dX4_log_9 : decode cX4_log 9 = .ok (.aload_n 0, 1) := by decide +kernel
theorem dX4_log_10 : decode cX4_log 10 = .ok (.invokevirtual 127, 3) := by decide +kernel
theorem dX4_log_13 : decode cX4_log 13 = .ok (.ireturn, 1) := by decide +kernel
set_option maxRecDepth 20000 in
theorem ggX4_append_X4_within : GoodIn wsX4_append wsX4_within := goodIn_r _ [7] (by decide +kernel) (by decide +kernel)
set_option maxRecDepth 20000 in
theorem gX4_append_X4_within : GoodIn wsX4_append (va_wsS RX4 38 yX4_within wsX4_within) := goodIn_app (goodIn_of _ (by decide +kernel)) ggX4_append_X4_within
set_option maxRecDepth 20000 in
theorem ggX4_append_X4_fails : GoodIn wsX4_append wsX4_fails := goodIn_r _ [11, 1, 12, 13, 14, 15, 16, 17, 18, 19, 20, 21, 22, 23, 24, 25, 26] (by decide +kernel) (by decide +kernel)
set_option maxRecDepth 20000 in
theorem gX4_append_X4_fails : GoodIn wsX4_append (wsV RX4 45 RX4 yX4_fails wsX4_fails) := goodIn_app (goodIn_of _ (by decide +kernel)) ggX4_append_X4_fails
theorem dX4_append_0 : decode cX4_append 0 = .ok (.aload_n 0, 1) := by decide +kernel
theorem dX4_append_1 : decode cX4_append 1 = .ok (.iconst 0, 1) := by decide +kernel
theorem dX4_append_2 : decode cX4_append 2 = .ok (.putfield 34, 3) := by decide +kernel
theorem dX4_append_5 : decode cX4_append 5 = .ok (.iload_n 1, 1) := by decide +kernel
theorem dX4_append_6 : decode cX4_append 6 = .ok (.bipush 33, 2) := by decide +kernel
theorem dX4_append_8 : decode cX4_append 8 = .ok (.bipush 126, 2) := by decide +kernel
theorem dX4_append_10 : decode cX4_append 10 = .ok (.invokestatic 38, 3) := by decide +kernel
theorem dX4_append_13 : decode cX4_append 13 = .ok (.ifCond .ne 9, 3) := by decide +kernel
theorem dX4_append_16 : decode cX4_append 16 = .ok (.aload_n 0, 1) := by decide +kernel
theorem dX4_append_17 : decode cX4_append 17 = .ok (.iconst 1, 1) := by decide +kernel
theorem dX4_append_18 : decode cX4_append 18 = .ok (.invokevirtual 45, 3) := by decide +kernel
theorem dX4_append_21 : decode cX4_append 21 = .ok (.ireturn, 1) := by decide +kernel
theorem dX4_append_22 : decode cX4_append 22 = .ok (.aload_n 0, 1) := by decide +kernel
theorem dX4_append_23 : decode cX4_append 23 = .ok (.getfield 130, 3) := by decide +kernel
theorem dX4_append_26 : decode cX4_append 26 = .ok (.bipush 60, 2) := by decide +kernel
theorem dX4_append_28 : decode cX4_append 28 = .ok (.if_icmp .ne 9, 3) := by decide +kernel
theorem dX4_append_31 : decode cX4_append 31 = .ok (.aload_n 0, 1) := by decide +kernel
theorem dX4_append_32 : decode cX4_append 32 = .ok (.iconst 2, 1) := by decide +kernel
theorem dX4_append_33 : decode cX4_append 33 = .ok (.invokevirtual 45, 3) := by decide +kernel
theorem dX4_append_36 : decode cX4_append 36 = .ok (.ireturn, 1) := by decide +kernel
theorem dX4_append_37 : decode cX4_append 37 = .ok (.aload_n 0, 1) := by decide +kernel
theorem dX4_append_38 : decode cX4_append 38 = .ok (.getfield 22, 3) := by decide +kernel
theorem dX4_append_41 : decode cX4_append 41 = .ok (.aload_n 0, 1) := by decide +kernel
theorem dX4_append_42 : decode cX4_append 42 = .ok (.getfield 130, 3) := by decide +kernel
theorem dX4_append_45 : decode cX4_append 45 = .ok (.iload_n 1, 1) := by decide +kernel
theorem dX4_append_46 : decode cX4_append 46 = .ok (.iastore, 1) := by decide +kernel
theorem dX4_append_47 : decode cX4_append 47 = .ok (.aload_n 0, 1) := by decide +kernel
theorem dX4_append_48 : decode cX4_append 48 = .ok (.dup, 1) := by decide +kernel
theorem dX4_append_49 : decode cX4_append 49 = .ok (.getfield 130, 3) := by decide +kernel
theorem dX4_append_52 : decode cX4_append 52 = .ok (.iconst 1, 1) := by decide +kernel
theorem dX4_append_53 : decode cX4_append 53 = .ok (.iadd, 1) := by decide +kernel
theorem dX4_append_54 : decode cX4_append 54 = .ok (.putfield 130, 3) := by decide +kernel
theorem dX4_append_57 : decode cX4_append 57 = .ok (.aload_n 0, 1) := by decide +kernel
theorem dX4_append_58 : decode cX4_append 58 = .ok (.getfield 130, 3) := by decide +kernel
theorem dX4_append_61 : decode cX4_append 61 = .ok (.ireturn, 1) := by decide +kernel
theorem dX4_clearBuffer_0 : decode cX4_clearBuffer 0 = .ok (.aload_n 0, 1) := by decide +kernel
theorem dX4_clearBuffer_1 : decode cX4_clearBuffer 1 = .ok (.iconst 0, 1) := by decide +kernel
theorem dX4_clearBuffer_2 : decode cX4_clearBuffer 2 = .ok (.putfield 34, 3) := by decide +kernel
theorem dX4_clearBuffer_5 : decode cX4_clearBuffer 5 = .ok (.aload_n 0, 1) := by decide +kernel
theorem dX4_clearBuffer_6 : decode cX4_clearBuffer 6 = .ok (.getfield 130, 3) := by decide +kernel
theorem dX4_clearBuffer_9 : decode cX4_clearBuffer 9 = .ok (.istore_n 1, 1) := by decide +kernel
theorem dX4_clearBuffer_10 : decode cX4_clearBuffer 10 = .ok (.aload_n 0, 1) := by decide +kernel
theorem dX4_clearBuffer_11 : decode cX4_clearBuffer 11 = .ok (.iconst 0, 1) := by decide +kernel
theorem dX4_clearBuffer_12 : decode cX4_clearBuffer 12 = .ok (.putfield 130, 3) := by decide +kernel
theorem dX4_clearBuffer_15 : decode cX4_clearBuffer 15 = .ok (.iload_n 1, 1) := by decide +kernel
theorem dX4_clearBuffer_16 : decode cX4_clearBuffer 16 = .ok (.ireturn, 1) := by decide +kernel
theorem dX4_next_0 : decode cX4_next 0 = .ok (.aload_n 0, 1) := by decide +kernel
theorem dX4_next_1 : decode cX4_next 1 = .ok (.getfield 133, 3) := by decide +kernel
theorem dX4_next_4 : decode cX4_next 4 = .ok (.aload_n 0, 1) := by decide +kernel
theorem dX4_next_5 : decode cX4_next 5 = .ok (.getfield 130, 3) := by decide +kernel
theorem dX4_next_8 : decode cX4_next 8 = .ok (.if_icmp .ge 15, 3) := by decide +kernel
theorem dX4_next_11 : decode cX4_next 11 = .ok (.aload_n 0, 1) := by decide +kernel
theorem dX4_next_12 : decode cX4_next 12 = .ok (.getfield 22, 3) := by decide +kernel
theorem dX4_next_15 : decode cX4_next 15 = .ok (.aload_n 0, 1) := by decide +kernel
theorem dX4_next_16 : decode cX4_next 16 = .ok (.getfield 133, 3) := by decide +kernel
theorem dX4_next_19 : decode cX4_next 19 = .ok (.iaload, 1) := by decide +kernel
theorem dX4_next_20 : decode cX4_next 20 = .ok (.goto 4, 3) := by decide +kernel
theorem dX4_next_23 : decode cX4_next 23 = .ok (.iconst 0, 1) := by decide +kernel
theorem dX4_next_24 : decode cX4_next 24 = .ok (.ireturn, 1) := by decide +kernel
set_option maxRecDepth 20000 in
theorem ggX4_takes_X4_next : GoodIn wsX4_takes wsX4_next := goodIn_r _ [6, 1, 7, 8, 9, 10, 11, 12, 13, 14, 15, 16, 17, 18, 19, 20, 21, 22, 23] (by decide +kernel) (by decide +kernel)
set_option maxRecDepth 20000 in
theorem gX4_takes_X4_next : GoodIn wsX4_takes (wsV RX4 136 RX4 yX4_next wsX4_next) := goodIn_app (goodIn_of _ (by decide +kernel)) ggX4_takes_X4_next
theorem dX4_takes_0 : decode cX4_takes 0 = .ok (.aload_n 0, 1) := by decide +kernel
theorem dX4_takes_1 : decode cX4_takes 1 = .ok (.invokevirtual 136, 3) := by decide +kernel
theorem dX4_takes_4 : decode cX4_takes 4 = .ok (.iload_n 1, 1) := by decide +kernel
theorem dX4_takes_5 : decode cX4_takes 5 = .ok (.if_icmp .ne 7, 3) := by decide +kernel
theorem dX4_takes_8 : decode cX4_takes 8 = .ok (.iconst 1, 1) := by decide +kernel
theorem dX4_takes_9 : decode cX4_takes 9 = .ok (.goto 4, 3) := by decide +kernel
theorem dX4_takes_12 : decode cX4_takes 12 = .ok (.iconst 0, 1) := by decide +kernel
theorem dX4_takes_13 : decode cX4_takes 13 = .ok (.istore_n 2, 1) := by decide +kernel
theorem dX4_takes_14 : decode cX4_takes 14 = .ok (.aload_n 0, 1) := by decide +kernel
theorem dX4_takes_15 : decode cX4_takes 15 = .ok (.dup, 1) := by decide +kernel
theorem dX4_takes_16 : decode cX4_takes 16 = .ok (.getfield 133, 3) := by decide +kernel
theorem dX4_takes_19 : decode cX4_takes 19 = .ok (.iload_n 2, 1) := by decide +kernel
theorem dX4_takes_20 : decode cX4_takes 20 = .ok (.ifCond .eq 7, 3) := by decide +kernel
theorem dX4_takes_23 : decode cX4_takes 23 = .ok (.iconst 1, 1) := by decide +kernel
theorem dX4_takes_24 : decode cX4_takes 24 = .ok (.goto 4, 3) := by decide +kernel
theorem dX4_takes_27 : decode cX4_takes 27 = .ok (.iconst 0, 1) := by decide +kernel
theorem dX4_takes_28 : decode cX4_takes 28 = .ok (.iadd, 1) := by decide +kernel
theorem dX4_takes_29 : decode cX4_takes 29 = .ok (.putfield 133, 3) := by decide +kernel
theorem dX4_takes_32 : decode cX4_takes 32 = .ok (.iload_n 2, 1) := by decide +kernel
theorem dX4_takes_33 : decode cX4_takes 33 = .ok (.ireturn, 1) := by decide +kernel
set_option maxRecDepth 20000 in
theorem ggX4_readNumber_X4_next : GoodIn wsX4_readNumber wsX4_next := goodIn_r _ [7, 2, 8, 9, 13, 14, 15, 16, 17, 18, 19, 20, 21, 22, 23, 24, 25, 26, 27] (by decide +kernel) (by decide +kernel)
set_option maxRecDepth 20000 in
theorem gX4_readNumber_X4_next : GoodIn wsX4_readNumber (wsV RX4 136 RX4 yX4_next wsX4_next) := goodIn_app (goodIn_of _ (by decide +kernel)) ggX4_readNumber_X4_next
set_option maxRecDepth 20000 in
theorem ggX4_readNumber_X4_within : GoodIn wsX4_readNumber wsX4_within := goodIn_r _ [12] (by decide +kernel) (by decide +kernel)
set_option maxRecDepth 20000 in
theorem gX4_readNumber_X4_within : GoodIn wsX4_readNumber (va_wsS RX4 38 yX4_within wsX4_within) := goodIn_app (goodIn_of _ (by decide +kernel)) ggX4_readNumber_X4_within
theorem dX4_readNumber_0 : decode cX4_readNumber 0 = .ok (.aload_n 0, 1) := by decide +kernel
theorem dX4_readNumber_1 : decode cX4_readNumber 1 = .ok (.invokevirtual 136, 3) := by decide +kernel
theorem dX4_readNumber_4 : decode cX4_readNumber 4 = .ok (.bipush 48, 2) := by decide +kernel
theorem dX4_readNumber_6 : decode cX4_readNumber 6 = .ok (.isub, 1) := by decide +kernel
theorem dX4_readNumber_7 : decode cX4_readNumber 7 = .ok (.istore_n 3, 1) := by decide +kernel
theorem dX4_readNumber_8 : decode cX4_readNumber 8 = .ok (.iload_n 3, 1) := by decide +kernel
theorem dX4_readNumber_9 : decode cX4_readNumber 9 = .ok (.iload_n 1, 1) := by decide +kernel
theorem dX4_readNumber_10 : decode cX4_readNumber 10 = .ok (.bipush 9, 2) := by decide +kernel
theorem dX4_readNumber_12 : decode cX4_readNumber 12 = .ok (.invokestatic 38, 3) := by decide +kernel
theorem dX4_readNumber_15 : decode cX4_readNumber 15 = .ok (.ifCond .eq 8, 3) := by decide +kernel
theorem dX4_readNumber_18 : decode cX4_readNumber 18 = .ok (.iload_n 3, 1) := by decide +kernel
theorem dX4_readNumber_19 : decode cX4_readNumber 19 = .ok (.iload_n 2, 1) := by decide +kernel
theorem dX4_readNumber_20 : decode cX4_readNumber 20 = .ok (.if_icmp .le 6, 3) := by decide +kernel
theorem dX4_readNumber_23 : decode cX4_readNumber 23 = .ok (.ldc 78, 2) := by decide +kernel
theorem dX4_readNumber_25 : decode cX4_readNumber 25 = .ok (.ireturn, 1) := by decide +kernel
theorem dX4_readNumber_26 : decode cX4_readNumber 26 = .ok (.aload_n 0, 1) := by decide +kernel
theorem dX4_readNumber_27 : decode cX4_readNumber 27 = .ok (.dup, 1) := by decide +kernel
theorem dX4_readNumber_28 : decode cX4_readNumber 28 = .ok (.getfield 133, 3) := by decide +kernel
theorem dX4_readNumber_31 : decode cX4_readNumber 31 = .ok (.iconst 1, 1) := by decide +kernel
theorem dX4_readNumber_32 : decode cX4_readNumber 32 = .ok (.iadd, 1) := by decide +kernel
theorem dX4_readNumber_33 : decode cX4_readNumber 33 = .ok (.putfield 133, 3) := by decide +kernel
theorem dX4_readNumber_36 : decode cX4_readNumber 36 = .ok (.iload_n 3, 1) := by decide +kernel
theorem dX4_readNumber_37 : decode cX4_readNumber 37 = .ok (.ifCond .le 59, 3) := by decide +kernel
theorem dX4_readNumber_40 : decode cX4_readNumber 40 = .ok (.aload_n 0, 1) := by decide +kernel
theorem dX4_readNumber_41 : decode cX4_readNumber 41 = .ok (.invokevirtual 136, 3) := by decide +kernel
theorem dX4_readNumber_44 : decode cX4_readNumber 44 = .ok (.bipush 48, 2) := by decide +kernel
theorem dX4_readNumber_46 : decode cX4_readNumber 46 = .ok (.bipush 57, 2) := by decide +kernel
theorem dX4_readNumber_48 : decode cX4_readNumber 48 = .ok (.invokestatic 38, 3) := by decide +kernel
theorem dX4_readNumber_51 : decode cX4_readNumber 51 = .ok (.ifCond .eq 45, 3) := by decide +kernel
theorem dX4_readNumber_54 : decode cX4_readNumber 54 = .ok (.bipush 10, 2) := by decide +kernel
theorem dX4_readNumber_56 : decode cX4_readNumber 56 = .ok (.iload_n 3, 1) := by decide +kernel
theorem dX4_readNumber_57 : decode cX4_readNumber 57 = .ok (.imul, 1) := by decide +kernel
theorem dX4_readNumber_58 : decode cX4_readNumber 58 = .ok (.aload_n 0, 1) := by decide +kernel
theorem dX4_readNumber_59 : decode cX4_readNumber 59 = .ok (.invokevirtual 136, 3) := by decide +kernel
theorem dX4_readNumber_62 : decode cX4_readNumber 62 = .ok (.iadd, 1) := by decide +kernel
theorem dX4_readNumber_63 : decode cX4_readNumber 63 = .ok (.bipush 48, 2) := by decide +kernel
theorem dX4_readNumber_65 : decode cX4_readNumber 65 = .ok (.isub, 1) := by decide +kernel
theorem dX4_readNumber_66 : decode cX4_readNumber 66 = .ok (.iload_n 2, 1) := by decide +kernel
theorem dX4_readNumber_67 : decode cX4_readNumber 67 = .ok (.if_icmp .gt 29, 3) := by decide +kernel
theorem dX4_readNumber_70 : decode cX4_readNumber 70 = .ok (.bipush 10, 2) := by decide +kernel
theorem dX4_readNumber_72 : decode cX4_readNumber 72 = .ok (.iload_n 3, 1) := by decide +kernel
theorem dX4_readNumber_73 : decode cX4_readNumber 73 = .ok (.imul, 1) := by decide +kernel
theorem dX4_readNumber_74 : decode cX4_readNumber 74 = .ok (.aload_n 0, 1) := by decide +kernel
theorem dX4_readNumber_75 : decode cX4_readNumber 75 = .ok (.invokevirtual 136, 3) := by decide +kernel
theorem dX4_readNumber_78 : decode cX4_readNumber 78 = .ok (.iadd, 1) := by decide +kernel
theorem dX4_readNumber_79 : decode cX4_readNumber 79 = .ok (.bipush 48, 2) := by decide +kernel
theorem dX4_readNumber_81 : decode cX4_readNumber 81 = .ok (.isub, 1) := by decide +kernel
theorem dX4_readNumber_82 : decode cX4_readNumber 82 = .ok (.istore_n 3, 1) := by decide +kernel
theorem dX4_readNumber_83 : decode cX4_readNumber 83 = .ok (.aload_n 0, 1) := by decide +kernel
theorem dX4_readNumber_84 : decode cX4_readNumber 84 = .ok (.dup, 1) := by decide +kernel
theorem dX4_readNumber_85 : decode cX4_readNumber 85 = .ok (.getfield 133, 3) := by decide +kernel
theorem dX4_readNumber_88 : decode cX4_readNumber 88 = .ok (.iconst 1, 1) := by decide +kernel
theorem dX4_readNumber_89 : decode cX4_readNumber 89 = .ok (.iadd, 1) := by decide +kernel
theorem dX4_readNumber_90 : decode cX4_readNumber 90 = .ok (.putfield 133, 3) := by decide +kernel
theorem dX4_readNumber_93 : decode cX4_readNumber 93 = .ok (.goto (-57), 3) := by decide +kernel
theorem dX4_readNumber_96 : decode cX4_readNumber 96 = .ok (.iload_n 3, 1) := by decide +kernel
theorem dX4_readNumber_97 : decode cX4_readNumber 97 = .ok (.ireturn, 1) := by decide +kernel
set_option maxRecDepth 20000 in
theorem ggX4_readsLayer_X4_readNumber : GoodIn wsX4_readsLayer wsX4_readNumber := goodIn_r _ [8, 3, 9, 10, 11, 12, 7, 13, 14, 15, 16, 17, 18, 23, 24, 25, 26, 27, 28, 29, 30, 31, 32, 33, 34, 35, 36, 37] (by decide +kernel) (by decide +kernel)
set_option maxRecDepth 20000 in
theorem gX4_readsLayer_X4_readNumber : GoodIn wsX4_readsLayer (wsV RX4 139 RX4 yX4_readNumber wsX4_readNumber) := goodIn_app (goodIn_of _ (by decide +kernel)) ggX4_readsLayer_X4_readNumber
set_option maxRecDepth 20000 in
theorem ggX4_readsLayer_X4_takes : GoodIn wsX4_readsLayer wsX4_takes := goodIn_r _ [22, 9, 10, 11, 12, 7, 13, 14, 15, 23, 24, 25, 26, 27, 28, 29, 30, 31, 32, 33, 34, 35, 36, 37] (by decide +kernel) (by decide +kernel)
set_option maxRecDepth 20000 in
theorem gX4_readsLayer_X4_takes : GoodIn wsX4_readsLayer (wsV RX4 145 RX4 yX4_takes wsX4_takes) := goodIn_app (goodIn_of _ (by decide +kernel)) ggX4_readsLayer_X4_takes
theorem dX4_readsLayer_0 : decode cX4_readsLayer 0 = .ok (.aload_n 0, 1) := by decide +kernel
theorem dX4_readsLayer_1 : decode cX4_readsLayer 1 = .ok (.aload_n 0, 1) := by decide +kernel
theorem dX4_readsLayer_2 : decode cX4_readsLayer 2 = .ok (.iconst 1, 1) := by decide +kernel
theorem dX4_readsLayer_3 : decode cX4_readsLayer 3 = .ok (.sipush 3000, 3) := by decide +kernel
theorem dX4_readsLayer_6 : decode cX4_readsLayer 6 = .ok (.invokevirtual 139, 3) := by decide +kernel
theorem dX4_readsLayer_9 : decode cX4_readsLayer 9 = .ok (.putfield 142, 3) := by decide +kernel
theorem dX4_readsLayer_12 : decode cX4_readsLayer 12 = .ok (.aload_n 0, 1) := by decide +kernel
theorem dX4_readsLayer_13 : decode cX4_readsLayer 13 = .ok (.getfield 142, 3) := by decide +kernel
theorem dX4_readsLayer_16 : decode cX4_readsLayer 16 = .ok (.bipush 50, 2) := by decide +kernel
theorem dX4_readsLayer_18 : decode cX4_readsLayer 18 = .ok (.if_icmp .lt 12, 3) := by decide +kernel
theorem dX4_readsLayer_21 : decode cX4_readsLayer 21 = .ok (.aload_n 0, 1) := by decide +kernel
theorem dX4_readsLayer_22 : decode cX4_readsLayer 22 = .ok (.bipush 42, 2) := by decide +kernel
theorem dX4_readsLayer_24 : decode cX4_readsLayer 24 = .ok (.invokevirtual 145, 3) := by decide +kernel
theorem dX4_readsLayer_27 : decode cX4_readsLayer 27 = .ok (.ifCond .ne 5, 3) := by decide +kernel
theorem dX4_readsLayer_30 : decode cX4_readsLayer 30 = .ok (.iconst 0, 1) := by decide +kernel
theorem dX4_readsLayer_31 : decode cX4_readsLayer 31 = .ok (.ireturn, 1) := by decide +kernel
theorem dX4_readsLayer_32 : decode cX4_readsLayer 32 = .ok (.aload_n 0, 1) := by decide +kernel
theorem dX4_readsLayer_33 : decode cX4_readsLayer 33 = .ok (.aload_n 0, 1) := by decide +kernel
theorem dX4_readsLayer_34 : decode cX4_readsLayer 34 = .ok (.iconst 1, 1) := by decide +kernel
theorem dX4_readsLayer_35 : decode cX4_readsLayer 35 = .ok (.bipush 100, 2) := by decide +kernel
theorem dX4_readsLayer_37 : decode cX4_readsLayer 37 = .ok (.invokevirtual 139, 3) := by decide +kernel
theorem dX4_readsLayer_40 : decode cX4_readsLayer 40 = .ok (.putfield 148, 3) := by decide +kernel
theorem dX4_readsLayer_43 : decode cX4_readsLayer 43 = .ok (.aload_n 0, 1) := by decide +kernel
theorem dX4_readsLayer_44 : decode cX4_readsLayer 44 = .ok (.getfield 148, 3) := by decide +kernel
theorem dX4_readsLayer_47 : decode cX4_readsLayer 47 = .ok (.ldc 78, 2) := by decide +kernel
theorem dX4_readsLayer_49 : decode cX4_readsLayer 49 = .ok (.if_icmp .eq 7, 3) := by decide +kernel
theorem dX4_readsLayer_52 : decode cX4_readsLayer 52 = .ok (.iconst 1, 1) := by decide +kernel
theorem dX4_readsLayer_53 : decode cX4_readsLayer 53 = .ok (.goto 4, 3) := by decide +kernel
theorem dX4_readsLayer_56 : decode cX4_readsLayer 56 = .ok (.iconst 0, 1) := by decide +kernel
theorem dX4_readsLayer_57 : decode cX4_readsLayer 57 = .ok (.ireturn, 1) := by decide +kernel
set_option maxRecDepth 20000 in
theorem ggX4_readsSlope_X4_takes : GoodIn wsX4_readsSlope wsX4_takes := goodIn_r _ [7, 8, 9, 10, 11, 6, 12, 13, 14, 22, 23, 24, 25, 26, 27, 28, 29, 30, 31, 32, 33, 34, 35, 36] (by decide +kernel) (by decide +kernel)
set_option maxRecDepth 20000 in
theorem gX4_readsSlope_X4_takes : GoodIn wsX4_readsSlope (wsV RX4 145 RX4 yX4_takes wsX4_takes) := goodIn_app (goodIn_of _ (by decide +kernel)) ggX4_readsSlope_X4_takes
set_option maxRecDepth 20000 in
theorem ggX4_readsSlope_X4_readNumber : GoodIn wsX4_readsSlope wsX4_readNumber := goodIn_r _ [18, 2, 8, 9, 10, 11, 6, 12, 13, 14, 19, 20, 21, 22, 23, 24, 25, 26, 27, 28, 29, 30, 31, 32, 33, 34, 35, 36] (by decide +kernel) (by decide +kernel)
set_option maxRecDepth 20000 in
theorem gX4_readsSlope_X4_readNumber : GoodIn wsX4_readsSlope (wsV RX4 139 RX4 yX4_readNumber wsX4_readNumber) := goodIn_app (goodIn_of _ (by decide +kernel)) ggX4_readsSlope_X4_readNumber
theorem dX4_readsSlope_0 : decode cX4_readsSlope 0 = .ok (.aload_n 0, 1) := by decide +kernel
theorem dX4_readsSlope_1 : decode cX4_readsSlope 1 = .ok (.bipush 45, 2) := by decide +kernel
theorem dX4_readsSlope_3 : decode cX4_readsSlope 3 = .ok (.invokevirtual 145, 3) := by decide +kernel
theorem dX4_readsSlope_6 : decode cX4_readsSlope 6 = .ok (.istore_n 1, 1) := by decide +kernel
theorem dX4_readsSlope_7 : decode cX4_readsSlope 7 = .ok (.aload_n 0, 1) := by decide +kernel
theorem dX4_readsSlope_8 : decode cX4_readsSlope 8 = .ok (.aload_n 0, 1) := by decide +kernel
theorem dX4_readsSlope_9 : decode cX4_readsSlope 9 = .ok (.iconst 0, 1) := by decide +kernel
theorem dX4_readsSlope_10 : decode cX4_readsSlope 10 = .ok (.bipush 30, 2) := by decide +kernel
theorem dX4_readsSlope_12 : decode cX4_readsSlope 12 = .ok (.invokevirtual 139, 3) := by decide +kernel
theorem dX4_readsSlope_15 : decode cX4_readsSlope 15 = .ok (.putfield 142, 3) := by decide +kernel
theorem dX4_readsSlope_18 : decode cX4_readsSlope 18 = .ok (.aload_n 0, 1) := by decide +kernel
theorem dX4_readsSlope_19 : decode cX4_readsSlope 19 = .ok (.getfield 142, 3) := by decide +kernel
theorem dX4_readsSlope_22 : decode cX4_readsSlope 22 = .ok (.ldc 78, 2) := by decide +kernel
theorem dX4_readsSlope_24 : decode cX4_readsSlope 24 = .ok (.if_icmp .eq 7, 3) := by decide +kernel
theorem dX4_readsSlope_27 : decode cX4_readsSlope 27 = .ok (.iconst 1, 1) := by decide +kernel
theorem dX4_readsSlope_28 : decode cX4_readsSlope 28 = .ok (.goto 4, 3) := by decide +kernel
theorem dX4_readsSlope_31 : decode cX4_readsSlope 31 = .ok (.iconst 0, 1) := by decide +kernel
theorem dX4_readsSlope_32 : decode cX4_readsSlope 32 = .ok (.istore_n 2, 1) := by decide +kernel
theorem dX4_readsSlope_33 : decode cX4_readsSlope 33 = .ok (.aload_n 0, 1) := by decide +kernel
theorem dX4_readsSlope_34 : decode cX4_readsSlope 34 = .ok (.iload_n 1, 1) := by decide +kernel
theorem dX4_readsSlope_35 : decode cX4_readsSlope 35 = .ok (.ifCond .eq 11, 3) := by decide +kernel
theorem dX4_readsSlope_38 : decode cX4_readsSlope 38 = .ok (.aload_n 0, 1) := by decide +kernel
theorem dX4_readsSlope_39 : decode cX4_readsSlope 39 = .ok (.getfield 142, 3) := by decide +kernel
theorem dX4_readsSlope_42 : decode cX4_readsSlope 42 = .ok (.ineg, 1) := by decide +kernel
theorem dX4_readsSlope_43 : decode cX4_readsSlope 43 = .ok (.goto 7, 3) := by decide +kernel
theorem dX4_readsSlope_46 : decode cX4_readsSlope 46 = .ok (.aload_n 0, 1) := by decide +kernel
theorem dX4_readsSlope_47 : decode cX4_readsSlope 47 = .ok (.getfield 142, 3) := by decide +kernel
theorem dX4_readsSlope_50 : decode cX4_readsSlope 50 = .ok (.putfield 142, 3) := by decide +kernel
theorem dX4_readsSlope_53 : decode cX4_readsSlope 53 = .ok (.iload_n 2, 1) := by decide +kernel
theorem dX4_readsSlope_54 : decode cX4_readsSlope 54 = .ok (.ireturn, 1) := by decide +kernel
set_option maxRecDepth 20000 in
theorem ggX4_readsOrder_X4_next : GoodIn wsX4_readsOrder wsX4_next := goodIn_r _ [9, 2, 10, 11, 32, 33, 34, 35, 36, 37, 38, 39, 40, 41, 42, 43, 44, 45, 46] (by decide +kernel) (by decide +kernel)
set_option maxRecDepth 20000 in
theorem gX4_readsOrder_X4_next : GoodIn wsX4_readsOrder (wsV RX4 136 RX4 yX4_next wsX4_next) := goodIn_app (goodIn_of _ (by decide +kernel)) ggX4_readsOrder_X4_next
set_option maxRecDepth 20000 in
theorem ggX4_readsOrder_X4_readsLayer : GoodIn wsX4_readsOrder wsX4_readsLayer := goodIn_r _ [15, 3, 16, 4, 17, 18, 19, 8, 20, 2, 5, 6, 7, 9, 10, 11, 21, 22, 23, 24, 25, 26, 27, 32, 33, 34, 35, 36, 37, 38, 39, 40, 41, 42, 43, 44, 45, 46] (by decide +kernel) (by decide +kernel)
set_option maxRecDepth 20000 in
theorem gX4_readsOrder_X4_readsLayer : GoodIn wsX4_readsOrder (wsV RX4 154 RX4 yX4_readsLayer wsX4_readsLayer) := goodIn_app (goodIn_of _ (by decide +kernel)) ggX4_readsOrder_X4_readsLayer
set_option maxRecDepth 20000 in
theorem ggX4_readsOrder_X4_readsSlope : GoodIn wsX4_readsOrder wsX4_readsSlope := goodIn_r _ [31, 3, 4, 24, 25, 26, 8, 27, 2, 5, 6, 7, 9, 10, 11, 17, 18, 19, 20, 21, 22, 23, 32, 33, 34, 35, 36, 37, 38, 39, 40, 41, 42, 43, 44, 45, 46] (by decide +kernel) (by decide +kernel)
set_option maxRecDepth 20000 in
theorem gX4_readsOrder_X4_readsSlope : GoodIn wsX4_readsOrder (wsV RX4 157 RX4 yX4_readsSlope wsX4_readsSlope) := goodIn_app (goodIn_of _ (by decide +kernel)) ggX4_readsOrder_X4_readsSlope
set_option maxRecDepth 20000 in
theorem ggX4_readsOrder_X4_readNumber : GoodIn wsX4_readsOrder wsX4_readNumber := goodIn_r _ [20, 4, 2, 5, 6, 7, 8, 9, 10, 11, 21, 22, 23, 32, 33, 34, 35, 36, 37, 38, 39, 40, 41, 42, 43, 44, 45, 46] (by decide +kernel) (by decide +kernel)
set_option maxRecDepth 20000 in
theorem gX4_readsOrder_X4_readNumber : GoodIn wsX4_readsOrder (wsV RX4 139 RX4 yX4_readNumber wsX4_readNumber) := goodIn_app (goodIn_of _ (by decide +kernel)) ggX4_readsOrder_X4_readNumber
theorem dX4_readsOrder_0 : decode cX4_readsOrder 0 = .ok (.aload_n 0, 1) := by decide +kernel
theorem dX4_readsOrder_1 : decode cX4_readsOrder 1 = .ok (.aload_n 0, 1) := by decide +kernel
theorem dX4_readsOrder_2 : decode cX4_readsOrder 2 = .ok (.invokevirtual 136, 3) := by decide +kernel
theorem dX4_readsOrder_5 : decode cX4_readsOrder 5 = .ok (.putfield 151, 3) := by decide +kernel
theorem dX4_readsOrder_8 : decode cX4_readsOrder 8 = .ok (.aload_n 0, 1) := by decide +kernel
theorem dX4_readsOrder_9 : decode cX4_readsOrder 9 = .ok (.getfield 151, 3) := by decide +kernel
theorem dX4_readsOrder_12 : decode cX4_readsOrder 12 = .ok (.lookupswitch 129 #[(97, 67), (98, 67), (99, 52), (110, 117), (120, 82)], 52) := by decide +kernel
theorem dX4_readsOrder_64 : decode cX4_readsOrder 64 = .ok (.aload_n 0, 1) := by decide +kernel
theorem dX4_readsOrder_65 : decode cX4_readsOrder 65 = .ok (.dup, 1) := by decide +kernel
theorem dX4_readsOrder_66 : decode cX4_readsOrder 66 = .ok (.getfield 133, 3) := by decide +kernel
theorem dX4_readsOrder_69 : decode cX4_readsOrder 69 = .ok (.iconst 1, 1) := by decide +kernel
theorem dX4_readsOrder_70 : decode cX4_readsOrder 70 = .ok (.iadd, 1) := by decide +kernel
theorem dX4_readsOrder_71 : decode cX4_readsOrder 71 = .ok (.putfield 133, 3) := by decide +kernel
theorem dX4_readsOrder_74 : decode cX4_readsOrder 74 = .ok (.aload_n 0, 1) := by decide +kernel
theorem dX4_readsOrder_75 : decode cX4_readsOrder 75 = .ok (.invokevirtual 154, 3) := by decide +kernel
theorem dX4_readsOrder_78 : decode cX4_readsOrder 78 = .ok (.ireturn, 1) := by decide +kernel
theorem dX4_readsOrder_79 : decode cX4_readsOrder 79 = .ok (.aload_n 0, 1) := by decide +kernel
theorem dX4_readsOrder_80 : decode cX4_readsOrder 80 = .ok (.dup, 1) := by decide +kernel
theorem dX4_readsOrder_81 : decode cX4_readsOrder 81 = .ok (.getfield 133, 3) := by decide +kernel
theorem dX4_readsOrder_84 : decode cX4_readsOrder 84 = .ok (.iconst 1, 1) := by decide +kernel
theorem dX4_readsOrder_85 : decode cX4_readsOrder 85 = .ok (.iadd, 1) := by decide +kernel
theorem dX4_readsOrder_86 : decode cX4_readsOrder 86 = .ok (.putfield 133, 3) := by decide +kernel
theorem dX4_readsOrder_89 : decode cX4_readsOrder 89 = .ok (.aload_n 0, 1) := by decide +kernel
theorem dX4_readsOrder_90 : decode cX4_readsOrder 90 = .ok (.invokevirtual 157, 3) := by decide +kernel
theorem dX4_readsOrder_93 : decode cX4_readsOrder 93 = .ok (.ireturn, 1) := by decide +kernel
theorem dX4_readsOrder_94 : decode cX4_readsOrder 94 = .ok (.aload_n 0, 1) := by decide +kernel
theorem dX4_readsOrder_95 : decode cX4_readsOrder 95 = .ok (.dup, 1) := by decide +kernel
theorem dX4_readsOrder_96 : decode cX4_readsOrder 96 = .ok (.getfield 133, 3) := by decide +kernel
theorem dX4_readsOrder_99 : decode cX4_readsOrder 99 = .ok (.iconst 1, 1) := by decide +kernel
theorem dX4_readsOrder_100 : decode cX4_readsOrder 100 = .ok (.iadd, 1) := by decide +kernel
theorem dX4_readsOrder_101 : decode cX4_readsOrder 101 = .ok (.putfield 133, 3) := by decide +kernel
theorem dX4_readsOrder_104 : decode cX4_readsOrder 104 = .ok (.aload_n 0, 1) := by decide +kernel
theorem dX4_readsOrder_105 : decode cX4_readsOrder 105 = .ok (.aload_n 0, 1) := by decide +kernel
theorem dX4_readsOrder_106 : decode cX4_readsOrder 106 = .ok (.iconst 0, 1) := by decide +kernel
theorem dX4_readsOrder_107 : decode cX4_readsOrder 107 = .ok (.iconst 5, 1) := by decide +kernel
theorem dX4_readsOrder_108 : decode cX4_readsOrder 108 = .ok (.invokevirtual 139, 3) := by decide +kernel
theorem dX4_readsOrder_111 : decode cX4_readsOrder 111 = .ok (.putfield 142, 3) := by decide +kernel
theorem dX4_readsOrder_114 : decode cX4_readsOrder 114 = .ok (.aload_n 0, 1) := by decide +kernel
theorem dX4_readsOrder_115 : decode cX4_readsOrder 115 = .ok (.getfield 142, 3) := by decide +kernel
theorem dX4_readsOrder_118 : decode cX4_readsOrder 118 = .ok (.ldc 78, 2) := by decide +kernel
theorem dX4_readsOrder_120 : decode cX4_readsOrder 120 = .ok (.if_icmp .eq 7, 3) := by decide +kernel
theorem dX4_readsOrder_123 : decode cX4_readsOrder 123 = .ok (.iconst 1, 1) := by decide +kernel
theorem dX4_readsOrder_124 : decode cX4_readsOrder 124 = .ok (.goto 4, 3) := by decide +kernel
theorem dX4_readsOrder_127 : decode cX4_readsOrder 127 = .ok (.iconst 0, 1) := by decide +kernel
theorem dX4_readsOrder_128 : decode cX4_readsOrder 128 = .ok (.ireturn, 1) := by decide +kernel
theorem dX4_readsOrder_129 : decode cX4_readsOrder 129 = .ok (.aload_n 0, 1) := by decide +kernel
theorem dX4_readsOrder_130 : decode cX4_readsOrder 130 = .ok (.dup, 1) := by decide +kernel
theorem dX4_readsOrder_131 : decode cX4_readsOrder 131 = .ok (.getfield 133, 3) := by decide +kernel
theorem dX4_readsOrder_134 : decode cX4_readsOrder 134 = .ok (.iconst 1, 1) := by decide +kernel
theorem dX4_readsOrder_135 : decode cX4_readsOrder 135 = .ok (.iadd, 1) := by decide +kernel
theorem dX4_readsOrder_136 : decode cX4_readsOrder 136 = .ok (.putfield 133, 3) := by decide +kernel
theorem dX4_readsOrder_139 : decode cX4_readsOrder 139 = .ok (.iconst 1, 1) := by decide +kernel
theorem dX4_readsOrder_140 : decode cX4_readsOrder 140 = .ok (.ireturn, 1) := by decide +kernel
theorem dX4_readsOrder_141 : decode cX4_readsOrder 141 = .ok (.iconst 0, 1) := by decide +kernel
theorem dX4_readsOrder_142 : decode cX4_readsOrder 142 = .ok (.ireturn, 1) := by decide +kernel
set_option maxRecDepth 20000 in
theorem ggX4_findError_X4_readsOrder : GoodIn wsX4_findError wsX4_readsOrder := goodIn_r _ [7, 8, 1, 9, 10, 11, 12, 13, 6, 14, 2, 15, 16, 17, 18, 19, 20, 21, 22, 23, 24, 25, 26, 27, 28, 29, 30, 31, 32, 33, 34, 35, 36, 37, 38, 39, 40, 41, 42, 43, 44, 45, 46, 47, 48, 49, 50] (by decide +kernel) (by decide +kernel)
set_option maxRecDepth 20000 in
theorem gX4_findError_X4_readsOrder : GoodIn wsX4_findError (wsV RX4 160 RX4 yX4_readsOrder wsX4_readsOrder) := goodIn_app (goodIn_of _ (by decide +kernel)) ggX4_findError_X4_readsOrder
set_option maxRecDepth 20000 in
theorem ggX4_findError_X4_takes : GoodIn wsX4_findError wsX4_takes := goodIn_r _ [31, 1, 11, 12, 13, 6, 14, 2, 15, 36, 37, 38, 39, 40, 41, 42, 43, 44, 45, 46, 47, 48, 49, 50] (by decide +kernel) (by decide +kernel)
set_option maxRecDepth 20000 in
theorem gX4_findError_X4_takes : GoodIn wsX4_findError (wsV RX4 145 RX4 yX4_takes wsX4_takes) := goodIn_app (goodIn_of _ (by decide +kernel)) ggX4_findError_X4_takes
theorem dX4_findError_0 : decode cX4_findError 0 = .ok (.aload_n 0, 1) := by decide +kernel
theorem dX4_findError_1 : decode cX4_findError 1 = .ok (.iconst 0, 1) := by decide +kernel
theorem dX4_findError_2 : decode cX4_findError 2 = .ok (.putfield 133, 3) := by decide +kernel
theorem dX4_findError_5 : decode cX4_findError 5 = .ok (.aload_n 0, 1) := by decide +kernel
theorem dX4_findError_6 : decode cX4_findError 6 = .ok (.invokevirtual 160, 3) := by decide +kernel
theorem dX4_findError_9 : decode cX4_findError 9 = .ok (.ifCond .eq 30, 3) := by decide +kernel
theorem dX4_findError_12 : decode cX4_findError 12 = .ok (.aload_n 0, 1) := by decide +kernel
theorem dX4_findError_13 : decode cX4_findError 13 = .ok (.getfield 133, 3) := by decide +kernel
theorem dX4_findError_16 : decode cX4_findError 16 = .ok (.aload_n 0, 1) := by decide +kernel
theorem dX4_findError_17 : decode cX4_findError 17 = .ok (.getfield 130, 3) := by decide +kernel
theorem dX4_findError_20 : decode cX4_findError 20 = .ok (.if_icmp .ne 5, 3) := by decide +kernel
theorem dX4_findError_23 : decode cX4_findError 23 = .ok (.iconst (-1), 1) := by decide +kernel
theorem dX4_findError_24 : decode cX4_findError 24 = .ok (.ireturn, 1) := by decide +kernel
theorem dX4_findError_25 : decode cX4_findError 25 = .ok (.aload_n 0, 1) := by decide +kernel
theorem dX4_findError_26 : decode cX4_findError 26 = .ok (.bipush 59, 2) := by decide +kernel
theorem dX4_findError_28 : decode cX4_findError 28 = .ok (.invokevirtual 145, 3) := by decide +kernel
theorem dX4_findError_31 : decode cX4_findError 31 = .ok (.ifCond .ne (-26), 3) := by decide +kernel
theorem dX4_findError_34 : decode cX4_findError 34 = .ok (.aload_n 0, 1) := by decide +kernel
theorem dX4_findError_35 : decode cX4_findError 35 = .ok (.getfield 133, 3) := by decide +kernel
theorem dX4_findError_38 : decode cX4_findError 38 = .ok (.ireturn, 1) := by decide +kernel
theorem dX4_findError_39 : decode cX4_findError 39 = .ok (.aload_n 0, 1) := by decide +kernel
theorem dX4_findError_40 : decode cX4_findError 40 = .ok (.getfield 133, 3) := by decide +kernel
theorem dX4_findError_43 : decode cX4_findError 43 = .ok (.ireturn, 1) := by decide +kernel
set_option maxRecDepth 20000 in
theorem ggX4_firstError_X4_findError : GoodIn wsX4_firstError wsX4_findError := goodIn_r _ [7, 8, 2, 9, 10, 11, 6, 12, 13, 14, 15, 16, 17, 18, 19, 20, 21, 22, 23, 24, 25, 26, 27, 28, 29, 30, 31, 32, 33, 34, 35, 36, 37, 38, 39, 40, 41, 42, 43, 44, 45, 46, 47, 48, 49, 50, 51, 52, 53, 54, 55] (by decide +kernel) (by decide +kernel)
set_option maxRecDepth 20000 in
theorem gX4_firstError_X4_findError : GoodIn wsX4_firstError (wsV RX4 163 RX4 yX4_findError wsX4_findError) := goodIn_app (goodIn_of _ (by decide +kernel)) ggX4_firstError_X4_findError
theorem dX4_firstError_0 : decode cX4_firstError 0 = .ok (.aload_n 0, 1) := by decide +kernel
theorem dX4_firstError_1 : decode cX4_firstError 1 = .ok (.iconst 0, 1) := by decide +kernel
theorem dX4_firstError_2 : decode cX4_firstError 2 = .ok (.putfield 34, 3) := by decide +kernel
theorem dX4_firstError_5 : decode cX4_firstError 5 = .ok (.aload_n 0, 1) := by decide +kernel
theorem dX4_firstError_6 : decode cX4_firstError 6 = .ok (.invokevirtual 163, 3) := by decide +kernel
theorem dX4_firstError_9 : decode cX4_firstError 9 = .ok (.istore_n 1, 1) := by decide +kernel
theorem dX4_firstError_10 : decode cX4_firstError 10 = .ok (.iload_n 1, 1) := by decide +kernel
theorem dX4_firstError_11 : decode cX4_firstError 11 = .ok (.iconst (-1), 1) := by decide +kernel
theorem dX4_firstError_12 : decode cX4_firstError 12 = .ok (.if_icmp .ne 10, 3) := by decide +kernel
theorem dX4_firstError_15 : decode cX4_firstError 15 = .ok (.aload_n 0, 1) := by decide +kernel
theorem dX4_firstError_16 : decode cX4_firstError 16 = .ok (.getfield 130, 3) := by decide +kernel
theorem dX4_firstError_19 : decode cX4_firstError 19 = .ok (.goto 4, 3) := by decide +kernel
theorem dX4_firstError_22 : decode cX4_firstError 22 = .ok (.iload_n 1, 1) := by decide +kernel
theorem dX4_firstError_23 : decode cX4_firstError 23 = .ok (.ireturn, 1) := by decide +kernel
set_option maxRecDepth 20000 in
theorem ggX4_doesOrder_X4_whyNotLayer : GoodIn wsX4_doesOrder wsX4_whyNotLayer := goodIn_r _ [8, 9, 10, 11, 7, 12, 89, 90, 91, 92, 93, 94, 95, 96, 97, 98, 99, 100, 101, 102, 103] (by decide +kernel) (by decide +kernel)
set_option maxRecDepth 20000 in
theorem gX4_doesOrder_X4_whyNotLayer : GoodIn wsX4_doesOrder (wsV RX4 100 RX4 yX4_whyNotLayer wsX4_whyNotLayer) := goodIn_app (goodIn_of _ (by decide +kernel)) ggX4_doesOrder_X4_whyNotLayer
set_option maxRecDepth 20000 in
theorem ggX4_doesOrder_X4_addLayer : GoodIn wsX4_doesOrder wsX4_addLayer := goodIn_r _ [16, 9, 89, 90, 91, 92, 93, 94, 95, 96, 97, 98, 99, 100, 101, 102, 103] (by decide +kernel) (by decide +kernel)
set_option maxRecDepth 20000 in
theorem gX4_doesOrder_X4_addLayer : GoodIn wsX4_doesOrder (wsV RX4 103 RX4 yX4_addLayer wsX4_addLayer) := goodIn_app (goodIn_of _ (by decide +kernel)) ggX4_doesOrder_X4_addLayer
set_option maxRecDepth 20000 in
theorem ggX4_doesOrder_X4_isLayer : GoodIn wsX4_doesOrder wsX4_isLayer := goodIn_r _ [20, 9, 10, 11, 7, 12, 89, 90, 91, 92, 93, 94, 95, 96, 97, 98, 99, 100, 101, 102, 103] (by decide +kernel) (by decide +kernel)
set_option maxRecDepth 20000 in
theorem gX4_doesOrder_X4_isLayer : GoodIn wsX4_doesOrder (wsV RX4 106 RX4 yX4_isLayer wsX4_isLayer) := goodIn_app (goodIn_of _ (by decide +kernel)) ggX4_doesOrder_X4_isLayer
set_option maxRecDepth 20000 in
theorem ggX4_doesOrder_X4_dropLayer : GoodIn wsX4_doesOrder wsX4_dropLayer := goodIn_r _ [24, 9, 89, 90, 91, 92, 93, 94, 95, 96, 97, 98, 99, 100, 101, 102, 103] (by decide +kernel) (by decide +kernel)
set_option maxRecDepth 20000 in
theorem gX4_doesOrder_X4_dropLayer : GoodIn wsX4_doesOrder (wsV RX4 109 RX4 yX4_dropLayer wsX4_dropLayer) := goodIn_app (goodIn_of _ (by decide +kernel)) ggX4_doesOrder_X4_dropLayer
set_option maxRecDepth 20000 in
theorem ggX4_doesOrder_X4_logNow : GoodIn wsX4_doesOrder wsX4_logNow := goodIn_r _ [28, 9, 29, 30, 31, 32, 33, 7, 34, 35, 36, 37, 38, 39, 40, 41, 42, 43, 44, 45, 46, 47, 48, 49, 50, 51, 52, 53, 54, 55, 56, 57, 58, 59, 60, 61, 62, 63, 64, 65, 66, 67, 68, 69, 70, 71, 72, 73, 74, 75, 76, 77, 78, 79, 80, 81, 82, 83, 84, 89, 90, 91, 92, 93, 94, 95, 96, 97, 98, 99, 100, 101, 102, 103] (by decide +kernel) (by decide +kernel)
set_option maxRecDepth 20000 in
theorem gX4_doesOrder_X4_logNow : GoodIn wsX4_doesOrder (wsV RX4 127 RX4 yX4_logNow wsX4_logNow) := goodIn_app (goodIn_of _ (by decide +kernel)) ggX4_doesOrder_X4_logNow
set_option maxRecDepth 20000 in
theorem ggX4_doesOrder_X4_turnTo : GoodIn wsX4_doesOrder wsX4_turnTo := goodIn_r _ [88, 9, 89, 90, 91, 92, 93, 94, 95, 96, 97, 98, 99, 100, 101, 102, 103] (by decide +kernel) (by decide +kernel)
set_option maxRecDepth 20000 in
theorem gX4_doesOrder_X4_turnTo : GoodIn wsX4_doesOrder (wsV RX4 115 RX4 yX4_turnTo wsX4_turnTo) := goodIn_app (goodIn_of _ (by decide +kernel)) ggX4_doesOrder_X4_turnTo
theorem dX4_doesOrder_0 : decode cX4_doesOrder 0 = .ok (.aload_n 0, 1) := by decide +kernel
theorem dX4_doesOrder_1 : decode cX4_doesOrder 1 = .ok (.getfield 151, 3) := by decide +kernel
theorem dX4_doesOrder_4 : decode cX4_doesOrder 4 = .ok (.lookupswitch 113 #[(99, 36), (110, 100), (120, 72)], 36) := by decide +kernel
theorem dX4_doesOrder_40 : decode cX4_doesOrder 40 = .ok (.aload_n 0, 1) := by decide +kernel
theorem dX4_doesOrder_41 : decode cX4_doesOrder 41 = .ok (.aload_n 0, 1) := by decide +kernel
theorem dX4_doesOrder_42 : decode cX4_doesOrder 42 = .ok (.getfield 142, 3) := by decide +kernel
theorem dX4_doesOrder_45 : decode cX4_doesOrder 45 = .ok (.aload_n 0, 1) := by decide +kernel
theorem dX4_doesOrder_46 : decode cX4_doesOrder 46 = .ok (.getfield 148, 3) := by decide +kernel
theorem dX4_doesOrder_49 : decode cX4_doesOrder 49 = .ok (.invokevirtual 100, 3) := by decide +kernel
theorem dX4_doesOrder_52 : decode cX4_doesOrder 52 = .ok (.ifCond .ne 22, 3) := by decide +kernel
theorem dX4_doesOrder_55 : decode cX4_doesOrder 55 = .ok (.aload_n 0, 1) := by decide +kernel
theorem dX4_doesOrder_56 : decode cX4_doesOrder 56 = .ok (.aload_n 0, 1) := by decide +kernel
theorem dX4_doesOrder_57 : decode cX4_doesOrder 57 = .ok (.getfield 142, 3) := by decide +kernel
theorem dX4_doesOrder_60 : decode cX4_doesOrder 60 = .ok (.aload_n 0, 1) := by decide +kernel
theorem dX4_doesOrder_61 : decode cX4_doesOrder 61 = .ok (.getfield 148, 3) := by decide +kernel
theorem dX4_doesOrder_64 : decode cX4_doesOrder 64 = .ok (.invokevirtual 103, 3) := by decide +kernel
theorem dX4_doesOrder_67 : decode cX4_doesOrder 67 = .ok (.ifCond .lt 7, 3) := by decide +kernel
theorem dX4_doesOrder_70 : decode cX4_doesOrder 70 = .ok (.iconst 1, 1) := by decide +kernel
theorem dX4_doesOrder_71 : decode cX4_doesOrder 71 = .ok (.goto 4, 3) := by decide +kernel
theorem dX4_doesOrder_74 : decode cX4_doesOrder 74 = .ok (.iconst 0, 1) := by decide +kernel
theorem dX4_doesOrder_75 : decode cX4_doesOrder 75 = .ok (.ireturn, 1) := by decide +kernel
theorem dX4_doesOrder_76 : decode cX4_doesOrder 76 = .ok (.aload_n 0, 1) := by decide +kernel
theorem dX4_doesOrder_77 : decode cX4_doesOrder 77 = .ok (.aload_n 0, 1) := by decide +kernel
theorem dX4_doesOrder_78 : decode cX4_doesOrder 78 = .ok (.getfield 142, 3) := by decide +kernel
theorem dX4_doesOrder_81 : decode cX4_doesOrder 81 = .ok (.invokevirtual 106, 3) := by decide +kernel
theorem dX4_doesOrder_84 : decode cX4_doesOrder 84 = .ok (.ifCond .eq 18, 3) := by decide +kernel
theorem dX4_doesOrder_87 : decode cX4_doesOrder 87 = .ok (.aload_n 0, 1) := by decide +kernel
theorem dX4_doesOrder_88 : decode cX4_doesOrder 88 = .ok (.aload_n 0, 1) := by decide +kernel
theorem dX4_doesOrder_89 : decode cX4_doesOrder 89 = .ok (.getfield 142, 3) := by decide +kernel
theorem dX4_doesOrder_92 : decode cX4_doesOrder 92 = .ok (.invokevirtual 109, 3) := by decide +kernel
theorem dX4_doesOrder_95 : decode cX4_doesOrder 95 = .ok (.ifCond .le 7, 3) := by decide +kernel
theorem dX4_doesOrder_98 : decode cX4_doesOrder 98 = .ok (.iconst 1, 1) := by decide +kernel
theorem dX4_doesOrder_99 : decode cX4_doesOrder 99 = .ok (.goto 4, 3) := by decide +kernel
theorem dX4_doesOrder_102 : decode cX4_doesOrder 102 = .ok (.iconst 0, 1) := by decide +kernel
theorem dX4_doesOrder_103 : decode cX4_doesOrder 103 = .ok (.ireturn, 1) := by decide +kernel
theorem dX4_doesOrder_104 : decode cX4_doesOrder 104 = .ok (.aload_n 0, 1) := by decide +kernel
theorem dX4_doesOrder_105 : decode cX4_doesOrder 105 = .ok (.invokevirtual 127, 3) := by decide +kernel
theorem dX4_doesOrder_108 : decode cX4_doesOrder 108 = .ok (.ifCond .le 7, 3) := by decide +kernel
theorem dX4_doesOrder_111 : decode cX4_doesOrder 111 = .ok (.iconst 1, 1) := by decide +kernel
theorem dX4_doesOrder_112 : decode cX4_doesOrder 112 = .ok (.goto 4, 3) := by decide +kernel
theorem dX4_doesOrder_115 : decode cX4_doesOrder 115 = .ok (.iconst 0, 1) := by decide +kernel
theorem dX4_doesOrder_116 : decode cX4_doesOrder 116 = .ok (.ireturn, 1) := by decide +kernel
theorem dX4_doesOrder_117 : decode cX4_doesOrder 117 = .ok (.aload_n 0, 1) := by decide +kernel
theorem dX4_doesOrder_118 : decode cX4_doesOrder 118 = .ok (.aload_n 0, 1) := by decide +kernel
theorem dX4_doesOrder_119 : decode cX4_doesOrder 119 = .ok (.getfield 151, 3) := by decide +kernel
theorem dX4_doesOrder_122 : decode cX4_doesOrder 122 = .ok (.bipush 97, 2) := by decide +kernel
theorem dX4_doesOrder_124 : decode cX4_doesOrder 124 = .ok (.isub, 1) := by decide +kernel
theorem dX4_doesOrder_125 : decode cX4_doesOrder 125 = .ok (.aload_n 0, 1) := by decide +kernel
theorem dX4_doesOrder_126 : decode cX4_doesOrder 126 = .ok (.getfield 142, 3) := by decide +kernel
theorem dX4_doesOrder_129 : decode cX4_doesOrder 129 = .ok (.invokevirtual 115, 3) := by decide +kernel
theorem dX4_doesOrder_132 : decode cX4_doesOrder 132 = .ok (.bipush (-30), 2) := by decide +kernel
theorem dX4_doesOrder_134 : decode cX4_doesOrder 134 = .ok (.if_icmp .lt 7, 3) := by decide +kernel
theorem dX4_doesOrder_137 : decode cX4_doesOrder 137 = .ok (.iconst 1, 1) := by decide +kernel
theorem dX4_doesOrder_138 : decode cX4_doesOrder 138 = .ok (.goto 4, 3) := by decide +kernel
theorem dX4_doesOrder_141 : decode cX4_doesOrder 141 = .ok (.iconst 0, 1) := by decide +kernel
theorem dX4_doesOrder_142 : decode cX4_doesOrder 142 = .ok (.ireturn, 1) := by decide +kernel
set_option maxRecDepth 20000 in
theorem ggX4_execute_X4_findError : GoodIn wsX4_execute wsX4_findError := goodIn_r _ [8, 2, 3, 9, 10, 11, 7, 12, 13, 14, 15, 16, 17, 18, 19, 20, 21, 22, 23, 24, 25, 26, 27, 28, 29, 30, 31, 32, 33, 34, 35, 36, 37, 38, 39, 40, 135, 136, 137, 138, 139, 140, 141, 142, 143, 144, 145, 146, 147, 148, 149] (by decide +kernel) (by decide +kernel)
set_option maxRecDepth 20000 in
theorem gX4_execute_X4_findError : GoodIn wsX4_execute (wsV RX4 163 RX4 yX4_findError wsX4_findError) := goodIn_app (goodIn_of _ (by decide +kernel)) ggX4_execute_X4_findError
set_option maxRecDepth 20000 in
theorem ggX4_execute_X4_fails : GoodIn wsX4_execute wsX4_fails := goodIn_r _ [44, 1, 135, 136, 137, 138, 139, 140, 141, 142, 143, 144, 145, 146, 147, 148, 149] (by decide +kernel) (by decide +kernel)
set_option maxRecDepth 20000 in
theorem gX4_execute_X4_fails : GoodIn wsX4_execute (wsV RX4 45 RX4 yX4_fails wsX4_fails) := goodIn_app (goodIn_of _ (by decide +kernel)) ggX4_execute_X4_fails
set_option maxRecDepth 20000 in
theorem ggX4_execute_X4_save : GoodIn wsX4_execute wsX4_save := goodIn_r _ [48, 49, 50, 51, 135, 136, 137, 138, 139, 140, 141, 142, 143, 144, 145, 146, 147, 148, 149] (by decide +kernel) (by decide +kernel)
set_option maxRecDepth 20000 in
theorem gX4_execute_X4_save : GoodIn wsX4_execute (wsV RX4 49 RX4 yX4_save wsX4_save) := goodIn_app (goodIn_of _ (by decide +kernel)) ggX4_execute_X4_save
set_option maxRecDepth 20000 in
theorem ggX4_execute_X4_readsOrder : GoodIn wsX4_execute wsX4_readsOrder := goodIn_r _ [12, 13, 2, 14, 15, 16, 17, 18, 7, 19, 3, 20, 21, 22, 23, 24, 25, 26, 27, 28, 29, 30, 31, 32, 33, 34, 35, 36, 37, 38, 39, 40, 135, 136, 137, 138, 139, 140, 141, 142, 143, 144, 145, 146, 147, 148, 149] (by decide +kernel) (by decide +kernel)
set_option maxRecDepth 20000 in
theorem gX4_execute_X4_readsOrder : GoodIn wsX4_execute (wsV RX4 160 RX4 yX4_readsOrder wsX4_readsOrder) := goodIn_app (goodIn_of _ (by decide +kernel)) ggX4_execute_X4_readsOrder
set_option maxRecDepth 20000 in
theorem ggX4_execute_X4_doesOrder : GoodIn wsX4_execute wsX4_doesOrder := goodIn_r _ [55, 13, 14, 25, 56, 57, 58, 7, 59, 51, 30, 31, 32, 60, 61, 62, 63, 64, 65, 66, 67, 68, 69, 70, 71, 72, 73, 74, 75, 76, 15, 77, 78, 79, 80, 81, 82, 83, 84, 85, 86, 87, 88, 89, 90, 91, 92, 93, 94, 95, 96, 97, 98, 99, 100, 101, 102, 103, 104, 105, 106, 107, 108, 109, 110, 111, 112, 113, 114, 115, 116, 117, 118, 119, 120, 121, 122, 123, 124, 125, 126, 127, 128, 129, 130, 131, 132, 133, 134, 135, 136, 137, 138, 139, 140, 141, 142, 143, 144, 145, 146, 147, 148, 149] (by decide +kernel) (by decide +kernel)
set_option maxRecDepth 20000 in
theorem gX4_execute_X4_doesOrder : GoodIn wsX4_execute (wsV RX4 166 RX4 yX4_doesOrder wsX4_doesOrder) := goodIn_app (goodIn_of _ (by decide +kernel)) ggX4_execute_X4_doesOrder
theorem dX4_execute_0 : decode cX4_execute 0 = .ok (.aload_n 0, 1) := by decide +kernel
theorem dX4_execute_1 : decode cX4_execute 1 = .ok (.iconst 0, 1) := by decide +kernel
theorem dX4_execute_2 : decode cX4_execute 2 = .ok (.putfield 34, 3) := by decide +kernel
theorem dX4_execute_5 : decode cX4_execute 5 = .ok (.aload_n 0, 1) := by decide +kernel
theorem dX4_execute_6 : decode cX4_execute 6 = .ok (.invokevirtual 163, 3) := by decide +kernel
theorem dX4_execute_9 : decode cX4_execute 9 = .ok (.iconst (-1), 1) := by decide +kernel
theorem dX4_execute_10 : decode cX4_execute 10 = .ok (.if_icmp .eq 9, 3) := by decide +kernel
theorem dX4_execute_13 : decode cX4_execute 13 = .ok (.aload_n 0, 1) := by decide +kernel
theorem dX4_execute_14 : decode cX4_execute 14 = .ok (.iconst 1, 1) := by decide +kernel
theorem dX4_execute_15 : decode cX4_execute 15 = .ok (.invokevirtual 45, 3) := by decide +kernel
theorem dX4_execute_18 : decode cX4_execute 18 = .ok (.ireturn, 1) := by decide +kernel
theorem dX4_execute_19 : decode cX4_execute 19 = .ok (.aload_n 0, 1) := by decide +kernel
theorem dX4_execute_20 : decode cX4_execute 20 = .ok (.invokevirtual 49, 3) := by decide +kernel
theorem dX4_execute_23 : decode cX4_execute 23 = .ok (.aload_n 0, 1) := by decide +kernel
theorem dX4_execute_24 : decode cX4_execute 24 = .ok (.iconst 0, 1) := by decide +kernel
theorem dX4_execute_25 : decode cX4_execute 25 = .ok (.putfield 133, 3) := by decide +kernel
theorem dX4_execute_28 : decode cX4_execute 28 = .ok (.iconst 0, 1) := by decide +kernel
theorem dX4_execute_29 : decode cX4_execute 29 = .ok (.istore_n 1, 1) := by decide +kernel
theorem dX4_execute_30 : decode cX4_execute 30 = .ok (.iconst 1, 1) := by decide +kernel
theorem dX4_execute_31 : decode cX4_execute 31 = .ok (.istore_n 2, 1) := by decide +kernel
theorem dX4_execute_32 : decode cX4_execute 32 = .ok (.iload_n 2, 1) := by decide +kernel
theorem dX4_execute_33 : decode cX4_execute 33 = .ok (.ifCond .eq 59, 3) := by decide +kernel
theorem dX4_execute_36 : decode cX4_execute 36 = .ok (.aload_n 0, 1) := by decide +kernel
theorem dX4_execute_37 : decode cX4_execute 37 = .ok (.getfield 133, 3) := by decide +kernel
theorem dX4_execute_40 : decode cX4_execute 40 = .ok (.aload_n 0, 1) := by decide +kernel
theorem dX4_execute_41 : decode cX4_execute 41 = .ok (.getfield 130, 3) := by decide +kernel
theorem dX4_execute_44 : decode cX4_execute 44 = .ok (.if_icmp .ge 48, 3) := by decide +kernel
theorem dX4_execute_47 : decode cX4_execute 47 = .ok (.aload_n 0, 1) := by decide +kernel
theorem dX4_execute_48 : decode cX4_execute 48 = .ok (.invokevirtual 160, 3) := by decide +kernel
theorem dX4_execute_51 : decode cX4_execute 51 = .ok (.ifCond .eq 14, 3) := by decide +kernel
theorem dX4_execute_54 : decode cX4_execute 54 = .ok (.aload_n 0, 1) := by decide +kernel
theorem dX4_execute_55 : decode cX4_execute 55 = .ok (.invokevirtual 166, 3) := by decide +kernel
theorem dX4_execute_58 : decode cX4_execute 58 = .ok (.ifCond .eq 7, 3) := by decide +kernel
theorem dX4_execute_61 : decode cX4_execute 61 = .ok (.iconst 1, 1) := by decide +kernel
theorem dX4_execute_62 : decode cX4_execute 62 = .ok (.goto 4, 3) := by decide +kernel
theorem dX4_execute_65 : decode cX4_execute 65 = .ok (.iconst 0, 1) := by decide +kernel
theorem dX4_execute_66 : decode cX4_execute 66 = .ok (.istore_n 2, 1) := by decide +kernel
theorem dX4_execute_67 : decode cX4_execute 67 = .ok (.iload_n 1, 1) := by decide +kernel
theorem dX4_execute_68 : decode cX4_execute 68 = .ok (.iload_n 2, 1) := by decide +kernel
theorem dX4_execute_69 : decode cX4_execute 69 = .ok (.ifCond .eq 7, 3) := by decide +kernel
theorem dX4_execute_72 : decode cX4_execute 72 = .ok (.iconst 1, 1) := by decide +kernel
theorem dX4_execute_73 : decode cX4_execute 73 = .ok (.goto 4, 3) := by decide +kernel
theorem dX4_execute_76 : decode cX4_execute 76 = .ok (.iconst 0, 1) := by decide +kernel
theorem dX4_execute_77 : decode cX4_execute 77 = .ok (.iadd, 1) := by decide +kernel
theorem dX4_execute_78 : decode cX4_execute 78 = .ok (.istore_n 1, 1) := by decide +kernel
theorem dX4_execute_79 : decode cX4_execute 79 = .ok (.aload_n 0, 1) := by decide +kernel
theorem dX4_execute_80 : decode cX4_execute 80 = .ok (.dup, 1) := by decide +kernel
theorem dX4_execute_81 : decode cX4_execute 81 = .ok (.getfield 133, 3) := by decide +kernel
theorem dX4_execute_84 : decode cX4_execute 84 = .ok (.iconst 1, 1) := by decide +kernel
theorem dX4_execute_85 : decode cX4_execute 85 = .ok (.iadd, 1) := by decide +kernel
theorem dX4_execute_86 : decode cX4_execute 86 = .ok (.putfield 133, 3) := by decide +kernel
theorem dX4_execute_89 : decode cX4_execute 89 = .ok (.goto (-57), 3) := by decide +kernel
theorem dX4_execute_92 : decode cX4_execute 92 = .ok (.aload_n 0, 1) := by decide +kernel
theorem dX4_execute_93 : decode cX4_execute 93 = .ok (.iconst 0, 1) := by decide +kernel
theorem dX4_execute_94 : decode cX4_execute 94 = .ok (.putfield 130, 3) := by decide +kernel
theorem dX4_execute_97 : decode cX4_execute 97 = .ok (.iload_n 1, 1) := by decide +kernel
theorem dX4_execute_98 : decode cX4_execute 98 = .ok (.ireturn, 1) := by decide +kernel
set_option maxRecDepth 20000 in
theorem ggX4_tellsLayer_X4_lay : GoodIn wsX4_tellsLayer wsX4_lay := goodIn_r _ [7, 1, 8, 9, 10, 42, 43, 44, 45, 46, 47, 48, 49, 50, 51, 52, 53, 54, 55, 56] (by decide +kernel) (by decide +kernel)
set_option maxRecDepth 20000 in
theorem gX4_tellsLayer_X4_lay : GoodIn wsX4_tellsLayer (wsV RX4 82 RX4 yX4_lay wsX4_lay) := goodIn_app (goodIn_of _ (by decide +kernel)) ggX4_tellsLayer_X4_lay
set_option maxRecDepth 20000 in
theorem ggX4_tellsLayer_X4_isPair : GoodIn wsX4_tellsLayer wsX4_isPair := goodIn_r _ [14, 15, 16, 17, 6, 18, 1, 19, 20, 21, 22, 9, 10, 42, 43, 44, 45, 46, 47, 48, 49, 50, 51, 52, 53, 54, 55, 56] (by decide +kernel) (by decide +kernel)
set_option maxRecDepth 20000 in
theorem gX4_tellsLayer_X4_isPair : GoodIn wsX4_tellsLayer (wsV RX4 68 RX4 yX4_isPair wsX4_isPair) := goodIn_app (goodIn_of _ (by decide +kernel)) ggX4_tellsLayer_X4_isPair
set_option maxRecDepth 20000 in
theorem ggX4_tellsLayer_X4_distance : GoodIn wsX4_tellsLayer wsX4_distance := goodIn_r _ [26, 27, 28, 29, 6, 30, 1, 31, 32, 33, 34, 42, 43, 44, 45, 46, 47, 48, 49, 50, 51, 52, 53, 54, 55, 56] (by decide +kernel) (by decide +kernel)
set_option maxRecDepth 20000 in
theorem gX4_tellsLayer_X4_distance : GoodIn wsX4_tellsLayer (wsV RX4 72 RX4 yX4_distance wsX4_distance) := goodIn_app (goodIn_of _ (by decide +kernel)) ggX4_tellsLayer_X4_distance
set_option maxRecDepth 20000 in
theorem ggX4_tellsLayer_X4_isClose : GoodIn wsX4_tellsLayer wsX4_isClose := goodIn_r _ [38, 1, 11, 12, 13, 6, 14, 15, 16, 17, 18, 19, 20, 21, 22, 9, 10, 23, 24, 25, 26, 27, 28, 29, 30, 31, 32, 33, 34, 39, 40, 41, 42, 43, 44, 45, 46, 47, 48, 49, 50, 51, 52, 53, 54, 55, 56] (by decide +kernel) (by decide +kernel)
set_option maxRecDepth 20000 in
theorem gX4_tellsLayer_X4_isClose : GoodIn wsX4_tellsLayer (wsV RX4 79 RX4 yX4_isClose wsX4_isClose) := goodIn_app (goodIn_of _ (by decide +kernel)) ggX4_tellsLayer_X4_isClose
theorem dX4_tellsLayer_0 : decode cX4_tellsLayer 0 = .ok (.aload_n 0, 1) := by decide +kernel
theorem dX4_tellsLayer_1 : decode cX4_tellsLayer 1 = .ok (.aload_n 0, 1) := by decide +kernel
theorem dX4_tellsLayer_2 : decode cX4_tellsLayer 2 = .ok (.getfield 7, 3) := by decide +kernel
theorem dX4_tellsLayer_5 : decode cX4_tellsLayer 5 = .ok (.iconst 1, 1) := by decide +kernel
theorem dX4_tellsLayer_6 : decode cX4_tellsLayer 6 = .ok (.iaload, 1) := by decide +kernel
theorem dX4_tellsLayer_7 : decode cX4_tellsLayer 7 = .ok (.invokevirtual 82, 3) := by decide +kernel
theorem dX4_tellsLayer_10 : decode cX4_tellsLayer 10 = .ok (.iload_n 2, 1) := by decide +kernel
theorem dX4_tellsLayer_11 : decode cX4_tellsLayer 11 = .ok (.tableswitch 64 0 2 #[25, 35, 45], 25) := by decide +kernel
theorem dX4_tellsLayer_36 : decode cX4_tellsLayer 36 = .ok (.aload_n 0, 1) := by decide +kernel
theorem dX4_tellsLayer_37 : decode cX4_tellsLayer 37 = .ok (.getfield 7, 3) := by decide +kernel
theorem dX4_tellsLayer_40 : decode cX4_tellsLayer 40 = .ok (.bipush 12, 2) := by decide +kernel
theorem dX4_tellsLayer_42 : decode cX4_tellsLayer 42 = .ok (.iload_n 1, 1) := by decide +kernel
theorem dX4_tellsLayer_43 : decode cX4_tellsLayer 43 = .ok (.iadd, 1) := by decide +kernel
theorem dX4_tellsLayer_44 : decode cX4_tellsLayer 44 = .ok (.iaload, 1) := by decide +kernel
theorem dX4_tellsLayer_45 : decode cX4_tellsLayer 45 = .ok (.ireturn, 1) := by decide +kernel
theorem dX4_tellsLayer_46 : decode cX4_tellsLayer 46 = .ok (.aload_n 0, 1) := by decide +kernel
theorem dX4_tellsLayer_47 : decode cX4_tellsLayer 47 = .ok (.getfield 7, 3) := by decide +kernel
theorem dX4_tellsLayer_50 : decode cX4_tellsLayer 50 = .ok (.bipush 18, 2) := by decide +kernel
theorem dX4_tellsLayer_52 : decode cX4_tellsLayer 52 = .ok (.iload_n 1, 1) := by decide +kernel
theorem dX4_tellsLayer_53 : decode cX4_tellsLayer 53 = .ok (.iadd, 1) := by decide +kernel
theorem dX4_tellsLayer_54 : decode cX4_tellsLayer 54 = .ok (.iaload, 1) := by decide +kernel
theorem dX4_tellsLayer_55 : decode cX4_tellsLayer 55 = .ok (.ireturn, 1) := by decide +kernel
theorem dX4_tellsLayer_56 : decode cX4_tellsLayer 56 = .ok (.aload_n 0, 1) := by decide +kernel
theorem dX4_tellsLayer_57 : decode cX4_tellsLayer 57 = .ok (.iload_n 1, 1) := by decide +kernel
theorem dX4_tellsLayer_58 : decode cX4_tellsLayer 58 = .ok (.invokevirtual 68, 3) := by decide +kernel
theorem dX4_tellsLayer_61 : decode cX4_tellsLayer 61 = .ok (.ifCond .eq 11, 3) := by decide +kernel
theorem dX4_tellsLayer_64 : decode cX4_tellsLayer 64 = .ok (.aload_n 0, 1) := by decide +kernel
theorem dX4_tellsLayer_65 : decode cX4_tellsLayer 65 = .ok (.iload_n 1, 1) := by decide +kernel
theorem dX4_tellsLayer_66 : decode cX4_tellsLayer 66 = .ok (.invokevirtual 72, 3) := by decide +kernel
theorem dX4_tellsLayer_69 : decode cX4_tellsLayer 69 = .ok (.goto 5, 3) := by decide +kernel
theorem dX4_tellsLayer_72 : decode cX4_tellsLayer 72 = .ok (.ldc 78, 2) := by decide +kernel
theorem dX4_tellsLayer_74 : decode cX4_tellsLayer 74 = .ok (.ireturn, 1) := by decide +kernel
theorem dX4_tellsLayer_75 : decode cX4_tellsLayer 75 = .ok (.aload_n 0, 1) := by decide +kernel
theorem dX4_tellsLayer_76 : decode cX4_tellsLayer 76 = .ok (.iload_n 1, 1) := by decide +kernel
theorem dX4_tellsLayer_77 : decode cX4_tellsLayer 77 = .ok (.invokevirtual 79, 3) := by decide +kernel
theorem dX4_tellsLayer_80 : decode cX4_tellsLayer 80 = .ok (.ifCond .eq 7, 3) := by decide +kernel
theorem dX4_tellsLayer_83 : decode cX4_tellsLayer 83 = .ok (.iconst 1, 1) := by decide +kernel
theorem dX4_tellsLayer_84 : decode cX4_tellsLayer 84 = .ok (.goto 4, 3) := by decide +kernel
theorem dX4_tellsLayer_87 : decode cX4_tellsLayer 87 = .ok (.iconst 0, 1) := by decide +kernel
theorem dX4_tellsLayer_88 : decode cX4_tellsLayer 88 = .ok (.ireturn, 1) := by decide +kernel
set_option maxRecDepth 20000 in
theorem ggX4_layerOf_X4_isLayer : GoodIn wsX4_layerOf wsX4_isLayer := goodIn_r _ [6, 7, 8, 9, 5, 10, 58, 59, 60, 61, 62, 63, 64, 65, 66, 67, 68, 69, 70, 71, 72] (by decide +kernel) (by decide +kernel)
set_option maxRecDepth 20000 in
theorem gX4_layerOf_X4_isLayer : GoodIn wsX4_layerOf (wsV RX4 106 RX4 yX4_isLayer wsX4_isLayer) := goodIn_app (goodIn_of _ (by decide +kernel)) ggX4_layerOf_X4_isLayer
set_option maxRecDepth 20000 in
theorem ggX4_layerOf_X4_fails : GoodIn wsX4_layerOf wsX4_fails := goodIn_r _ [14, 1, 58, 59, 60, 61, 62, 63, 64, 65, 66, 67, 68, 69, 70, 71, 72] (by decide +kernel) (by decide +kernel)
set_option maxRecDepth 20000 in
theorem gX4_layerOf_X4_fails : GoodIn wsX4_layerOf (wsV RX4 45 RX4 yX4_fails wsX4_fails) := goodIn_app (goodIn_of _ (by decide +kernel)) ggX4_layerOf_X4_fails
set_option maxRecDepth 20000 in
theorem ggX4_layerOf_X4_within : GoodIn wsX4_layerOf wsX4_within := goodIn_r _ [10] (by decide +kernel) (by decide +kernel)
set_option maxRecDepth 20000 in
theorem gX4_layerOf_X4_within : GoodIn wsX4_layerOf (va_wsS RX4 38 yX4_within wsX4_within) := goodIn_app (goodIn_of _ (by decide +kernel)) ggX4_layerOf_X4_within
set_option maxRecDepth 20000 in
theorem ggX4_layerOf_X4_tellsLayer : GoodIn wsX4_layerOf wsX4_tellsLayer := goodIn_r _ [18, 7, 19, 20, 21, 22, 5, 23, 24, 25, 26, 27, 28, 29, 30, 31, 32, 33, 34, 35, 36, 37, 38, 39, 40, 41, 42, 43, 44, 45, 46, 47, 48, 49, 50, 51, 52, 53, 54, 55, 56, 57, 58, 59, 60, 61, 62, 63, 64, 65, 66, 67, 68, 69, 70, 71, 72] (by decide +kernel) (by decide +kernel)
set_option maxRecDepth 20000 in
theorem gX4_layerOf_X4_tellsLayer : GoodIn wsX4_layerOf (wsV RX4 169 RX4 yX4_tellsLayer wsX4_tellsLayer) := goodIn_app (goodIn_of _ (by decide +kernel)) ggX4_layerOf_X4_tellsLayer
theorem dX4_layerOf_0 : decode cX4_layerOf 0 = .ok (.aload_n 0, 1) := by decide +kernel
theorem dX4_layerOf_1 : decode cX4_layerOf 1 = .ok (.iconst 0, 1) := by decide +kernel
theorem dX4_layerOf_2 : decode cX4_layerOf 2 = .ok (.putfield 34, 3) := by decide +kernel
theorem dX4_layerOf_5 : decode cX4_layerOf 5 = .ok (.aload_n 0, 1) := by decide +kernel
theorem dX4_layerOf_6 : decode cX4_layerOf 6 = .ok (.iload_n 1, 1) := by decide +kernel
theorem dX4_layerOf_7 : decode cX4_layerOf 7 = .ok (.invokevirtual 106, 3) := by decide +kernel
theorem dX4_layerOf_10 : decode cX4_layerOf 10 = .ok (.ifCond .ne 9, 3) := by decide +kernel
theorem dX4_layerOf_13 : decode cX4_layerOf 13 = .ok (.aload_n 0, 1) := by decide +kernel
theorem dX4_layerOf_14 : decode cX4_layerOf 14 = .ok (.iconst 1, 1) := by decide +kernel
theorem dX4_layerOf_15 : decode cX4_layerOf 15 = .ok (.invokevirtual 45, 3) := by decide +kernel
theorem dX4_layerOf_18 : decode cX4_layerOf 18 = .ok (.ireturn, 1) := by decide +kernel
theorem dX4_layerOf_19 : decode cX4_layerOf 19 = .ok (.iload_n 2, 1) := by decide +kernel
theorem dX4_layerOf_20 : decode cX4_layerOf 20 = .ok (.iconst 0, 1) := by decide +kernel
theorem dX4_layerOf_21 : decode cX4_layerOf 21 = .ok (.iconst 3, 1) := by decide +kernel
theorem dX4_layerOf_22 : decode cX4_layerOf 22 = .ok (.invokestatic 38, 3) := by decide +kernel
theorem dX4_layerOf_25 : decode cX4_layerOf 25 = .ok (.ifCond .eq 12, 3) := by decide +kernel
theorem dX4_layerOf_28 : decode cX4_layerOf 28 = .ok (.aload_n 0, 1) := by decide +kernel
theorem dX4_layerOf_29 : decode cX4_layerOf 29 = .ok (.iload_n 1, 1) := by decide +kernel
theorem dX4_layerOf_30 : decode cX4_layerOf 30 = .ok (.iload_n 2, 1) := by decide +kernel
theorem dX4_layerOf_31 : decode cX4_layerOf 31 = .ok (.invokevirtual 169, 3) := by decide +kernel
theorem dX4_layerOf_34 : decode cX4_layerOf 34 = .ok (.goto 8, 3) := by decide +kernel
theorem dX4_layerOf_37 : decode cX4_layerOf 37 = .ok (.aload_n 0, 1) := by decide +kernel
theorem dX4_layerOf_38 : decode cX4_layerOf 38 = .ok (.iconst 2, 1) := by decide +kernel
theorem dX4_layerOf_39 : decode cX4_layerOf 39 = .ok (.invokevirtual 45, 3) := by decide +kernel
theorem dX4_layerOf_42 : decode cX4_layerOf 42 = .ok (.ireturn, 1) := by decide +kernel
set_option maxRecDepth 20000 in
theorem ggX4_tellsSpot_X4_lay : GoodIn wsX4_tellsSpot wsX4_lay := goodIn_r _ [9, 1, 10, 3, 4, 27, 28, 29, 30, 31, 32, 33, 34, 35, 36, 37, 38, 39, 40, 41] (by decide +kernel) (by decide +kernel)
set_option maxRecDepth 20000 in
theorem gX4_tellsSpot_X4_lay : GoodIn wsX4_tellsSpot (wsV RX4 82 RX4 yX4_lay wsX4_lay) := goodIn_app (goodIn_of _ (by decide +kernel)) ggX4_tellsSpot_X4_lay
set_option maxRecDepth 20000 in
theorem ggX4_tellsSpot_X4_place : GoodIn wsX4_tellsSpot wsX4_place := goodIn_r _ [14, 1, 15, 16, 17, 8, 18, 27, 28, 29, 30, 31, 32, 33, 34, 35, 36, 37, 38, 39, 40, 41] (by decide +kernel) (by decide +kernel)
set_option maxRecDepth 20000 in
theorem gX4_tellsSpot_X4_place : GoodIn wsX4_tellsSpot (wsV RX4 65 RX4 yX4_place wsX4_place) := goodIn_app (goodIn_of _ (by decide +kernel)) ggX4_tellsSpot_X4_place
set_option maxRecDepth 20000 in
theorem ggX4_tellsSpot_X4_brightness : GoodIn wsX4_tellsSpot wsX4_brightness := goodIn_r _ [22, 3, 4, 27, 28, 29, 30, 31, 32, 33, 34, 35, 36, 37, 38, 39, 40, 41] (by decide +kernel) (by decide +kernel)
set_option maxRecDepth 20000 in
theorem gX4_tellsSpot_X4_brightness : GoodIn wsX4_tellsSpot (wsV RX4 58 RX4 yX4_brightness wsX4_brightness) := goodIn_app (goodIn_of _ (by decide +kernel)) ggX4_tellsSpot_X4_brightness
set_option maxRecDepth 20000 in
theorem ggX4_tellsSpot_X4_isSeen : GoodIn wsX4_tellsSpot wsX4_isSeen := goodIn_r _ [26, 1, 19, 20, 21, 8, 22, 3, 4, 27, 28, 29, 30, 31, 32, 33, 34, 35, 36, 37, 38, 39, 40, 41] (by decide +kernel) (by decide +kernel)
set_option maxRecDepth 20000 in
theorem gX4_tellsSpot_X4_isSeen : GoodIn wsX4_tellsSpot (wsV RX4 61 RX4 yX4_isSeen wsX4_isSeen) := goodIn_app (goodIn_of _ (by decide +kernel)) ggX4_tellsSpot_X4_isSeen
theorem dX4_tellsSpot_0 : decode cX4_tellsSpot 0 = .ok (.aload_n 0, 1) := by decide +kernel
theorem dX4_tellsSpot_1 : decode cX4_tellsSpot 1 = .ok (.getfield 7, 3) := by decide +kernel
theorem dX4_tellsSpot_4 : decode cX4_tellsSpot 4 = .ok (.bipush 6, 2) := by decide +kernel
theorem dX4_tellsSpot_6 : decode cX4_tellsSpot 6 = .ok (.iload_n 1, 1) := by decide +kernel
theorem dX4_tellsSpot_7 : decode cX4_tellsSpot 7 = .ok (.iadd, 1) := by decide +kernel
theorem dX4_tellsSpot_8 : decode cX4_tellsSpot 8 = .ok (.iaload, 1) := by decide +kernel
theorem dX4_tellsSpot_9 : decode cX4_tellsSpot 9 = .ok (.ifCond .ne 6, 3) := by decide +kernel
theorem dX4_tellsSpot_12 : decode cX4_tellsSpot 12 = .ok (.ldc 78, 2) := by decide +kernel
theorem dX4_tellsSpot_14 : decode cX4_tellsSpot 14 = .ok (.ireturn, 1) := by decide +kernel
theorem dX4_tellsSpot_15 : decode cX4_tellsSpot 15 = .ok (.aload_n 0, 1) := by decide +kernel
theorem dX4_tellsSpot_16 : decode cX4_tellsSpot 16 = .ok (.aload_n 0, 1) := by decide +kernel
theorem dX4_tellsSpot_17 : decode cX4_tellsSpot 17 = .ok (.getfield 7, 3) := by decide +kernel
theorem dX4_tellsSpot_20 : decode cX4_tellsSpot 20 = .ok (.iconst 1, 1) := by decide +kernel
theorem dX4_tellsSpot_21 : decode cX4_tellsSpot 21 = .ok (.iaload, 1) := by decide +kernel
theorem dX4_tellsSpot_22 : decode cX4_tellsSpot 22 = .ok (.invokevirtual 82, 3) := by decide +kernel
theorem dX4_tellsSpot_25 : decode cX4_tellsSpot 25 = .ok (.iload_n 3, 1) := by decide +kernel
theorem dX4_tellsSpot_26 : decode cX4_tellsSpot 26 = .ok (.tableswitch 71 0 3 #[30, 37, 44, 59], 30) := by decide +kernel
theorem dX4_tellsSpot_56 : decode cX4_tellsSpot 56 = .ok (.aload_n 0, 1) := by decide +kernel
theorem dX4_tellsSpot_57 : decode cX4_tellsSpot 57 = .ok (.iload_n 1, 1) := by decide +kernel
theorem dX4_tellsSpot_58 : decode cX4_tellsSpot 58 = .ok (.iload_n 2, 1) := by decide +kernel
theorem dX4_tellsSpot_59 : decode cX4_tellsSpot 59 = .ok (.invokevirtual 65, 3) := by decide +kernel
theorem dX4_tellsSpot_62 : decode cX4_tellsSpot 62 = .ok (.ireturn, 1) := by decide +kernel
theorem dX4_tellsSpot_63 : decode cX4_tellsSpot 63 = .ok (.aload_n 0, 1) := by decide +kernel
theorem dX4_tellsSpot_64 : decode cX4_tellsSpot 64 = .ok (.iload_n 1, 1) := by decide +kernel
theorem dX4_tellsSpot_65 : decode cX4_tellsSpot 65 = .ok (.iload_n 2, 1) := by decide +kernel
theorem dX4_tellsSpot_66 : decode cX4_tellsSpot 66 = .ok (.invokevirtual 58, 3) := by decide +kernel
theorem dX4_tellsSpot_69 : decode cX4_tellsSpot 69 = .ok (.ireturn, 1) := by decide +kernel
theorem dX4_tellsSpot_70 : decode cX4_tellsSpot 70 = .ok (.aload_n 0, 1) := by decide +kernel
theorem dX4_tellsSpot_71 : decode cX4_tellsSpot 71 = .ok (.iload_n 1, 1) := by decide +kernel
theorem dX4_tellsSpot_72 : decode cX4_tellsSpot 72 = .ok (.iload_n 2, 1) := by decide +kernel
theorem dX4_tellsSpot_73 : decode cX4_tellsSpot 73 = .ok (.invokevirtual 61, 3) := by decide +kernel
theorem dX4_tellsSpot_76 : decode cX4_tellsSpot 76 = .ok (.ifCond .eq 7, 3) := by decide +kernel
theorem dX4_tellsSpot_79 : decode cX4_tellsSpot 79 = .ok (.iconst 1, 1) := by decide +kernel
theorem dX4_tellsSpot_80 : decode cX4_tellsSpot 80 = .ok (.goto 4, 3) := by decide +kernel
theorem dX4_tellsSpot_83 : decode cX4_tellsSpot 83 = .ok (.iconst 0, 1) := by decide +kernel
theorem dX4_tellsSpot_84 : decode cX4_tellsSpot 84 = .ok (.ireturn, 1) := by decide +kernel
theorem dX4_tellsSpot_85 : decode cX4_tellsSpot 85 = .ok (.aload_n 0, 1) := by decide +kernel
theorem dX4_tellsSpot_86 : decode cX4_tellsSpot 86 = .ok (.getfield 25, 3) := by decide +kernel
theorem dX4_tellsSpot_89 : decode cX4_tellsSpot 89 = .ok (.bipush 6, 2) := by decide +kernel
theorem dX4_tellsSpot_91 : decode cX4_tellsSpot 91 = .ok (.iload_n 1, 1) := by decide +kernel
theorem dX4_tellsSpot_92 : decode cX4_tellsSpot 92 = .ok (.imul, 1) := by decide +kernel
theorem dX4_tellsSpot_93 : decode cX4_tellsSpot 93 = .ok (.iload_n 2, 1) := by decide +kernel
theorem dX4_tellsSpot_94 : decode cX4_tellsSpot 94 = .ok (.iadd, 1) := by decide +kernel
theorem dX4_tellsSpot_95 : decode cX4_tellsSpot 95 = .ok (.iaload, 1) := by decide +kernel
theorem dX4_tellsSpot_96 : decode cX4_tellsSpot 96 = .ok (.ireturn, 1) := by decide +kernel
theorem dX4_tellsSpot_97 : decode cX4_tellsSpot 97 = .ok (.aload_n 0, 1) := by decide +kernel
theorem dX4_tellsSpot_98 : decode cX4_tellsSpot 98 = .ok (.getfield 28, 3) := by decide +kernel
theorem dX4_tellsSpot_101 : decode cX4_tellsSpot 101 = .ok (.bipush 6, 2) := by decide +kernel
theorem dX4_tellsSpot_103 : decode cX4_tellsSpot 103 = .ok (.iload_n 1, 1) := by decide +kernel
theorem dX4_tellsSpot_104 : decode cX4_tellsSpot 104 = .ok (.imul, 1) := by decide +kernel
theorem dX4_tellsSpot_105 : decode cX4_tellsSpot 105 = .ok (.iload_n 2, 1) := by decide +kernel
theorem dX4_tellsSpot_106 : decode cX4_tellsSpot 106 = .ok (.iadd, 1) := by decide +kernel
theorem dX4_tellsSpot_107 : decode cX4_tellsSpot 107 = .ok (.iaload, 1) := by decide +kernel
theorem dX4_tellsSpot_108 : decode cX4_tellsSpot 108 = .ok (.ireturn, 1) := by decide +kernel
set_option maxRecDepth 20000 in
theorem ggX4_spot_X4_isLight : GoodIn wsX4_spot wsX4_isLight := goodIn_r _ [5, 6, 7, 4, 8] (by decide +kernel) (by decide +kernel)
set_option maxRecDepth 20000 in
theorem gX4_spot_X4_isLight : GoodIn wsX4_spot (va_wsS RX4 112 yX4_isLight wsX4_isLight) := goodIn_app (goodIn_of _ (by decide +kernel)) ggX4_spot_X4_isLight
set_option maxRecDepth 20000 in
theorem ggX4_spot_X4_isLayer : GoodIn wsX4_spot wsX4_isLayer := goodIn_r _ [12, 13, 6, 7, 4, 8, 46, 47, 48, 49, 50, 51, 52, 53, 54, 55, 56, 57, 58, 59, 60] (by decide +kernel) (by decide +kernel)
set_option maxRecDepth 20000 in
theorem gX4_spot_X4_isLayer : GoodIn wsX4_spot (wsV RX4 106 RX4 yX4_isLayer wsX4_isLayer) := goodIn_app (goodIn_of _ (by decide +kernel)) ggX4_spot_X4_isLayer
set_option maxRecDepth 20000 in
theorem ggX4_spot_X4_fails : GoodIn wsX4_spot wsX4_fails := goodIn_r _ [17, 1, 46, 47, 48, 49, 50, 51, 52, 53, 54, 55, 56, 57, 58, 59, 60] (by decide +kernel) (by decide +kernel)
set_option maxRecDepth 20000 in
theorem gX4_spot_X4_fails : GoodIn wsX4_spot (wsV RX4 45 RX4 yX4_fails wsX4_fails) := goodIn_app (goodIn_of _ (by decide +kernel)) ggX4_spot_X4_fails
set_option maxRecDepth 20000 in
theorem ggX4_spot_X4_within : GoodIn wsX4_spot wsX4_within := goodIn_r _ [8] (by decide +kernel) (by decide +kernel)
set_option maxRecDepth 20000 in
theorem gX4_spot_X4_within : GoodIn wsX4_spot (va_wsS RX4 38 yX4_within wsX4_within) := goodIn_app (goodIn_of _ (by decide +kernel)) ggX4_spot_X4_within
set_option maxRecDepth 20000 in
theorem ggX4_spot_X4_tellsSpot : GoodIn wsX4_spot wsX4_tellsSpot := goodIn_r _ [21, 13, 22, 23, 24, 25, 26, 27, 4, 28, 29, 30, 31, 32, 33, 34, 35, 36, 37, 38, 39, 40, 41, 42, 43, 44, 45, 46, 47, 48, 49, 50, 51, 52, 53, 54, 55, 56, 57, 58, 59, 60] (by decide +kernel) (by decide +kernel)
set_option maxRecDepth 20000 in
theorem gX4_spot_X4_tellsSpot : GoodIn wsX4_spot (wsV RX4 172 RX4 yX4_tellsSpot wsX4_tellsSpot) := goodIn_app (goodIn_of _ (by decide +kernel)) ggX4_spot_X4_tellsSpot
theorem dX4_spot_0 : decode cX4_spot 0 = .ok (.aload_n 0, 1) := by decide +kernel
theorem dX4_spot_1 : decode cX4_spot 1 = .ok (.iconst 0, 1) := by decide +kernel
theorem dX4_spot_2 : decode cX4_spot 2 = .ok (.putfield 34, 3) := by decide +kernel
theorem dX4_spot_5 : decode cX4_spot 5 = .ok (.iload_n 1, 1) := by decide +kernel
theorem dX4_spot_6 : decode cX4_spot 6 = .ok (.invokestatic 112, 3) := by decide +kernel
theorem dX4_spot_9 : decode cX4_spot 9 = .ok (.ifCond .eq 11, 3) := by decide +kernel
theorem dX4_spot_12 : decode cX4_spot 12 = .ok (.aload_n 0, 1) := by decide +kernel
theorem dX4_spot_13 : decode cX4_spot 13 = .ok (.iload_n 2, 1) := by decide +kernel
theorem dX4_spot_14 : decode cX4_spot 14 = .ok (.invokevirtual 106, 3) := by decide +kernel
theorem dX4_spot_17 : decode cX4_spot 17 = .ok (.ifCond .ne 9, 3) := by decide +kernel
theorem dX4_spot_20 : decode cX4_spot 20 = .ok (.aload_n 0, 1) := by decide +kernel
theorem dX4_spot_21 : decode cX4_spot 21 = .ok (.iconst 1, 1) := by decide +kernel
theorem dX4_spot_22 : decode cX4_spot 22 = .ok (.invokevirtual 45, 3) := by decide +kernel
theorem dX4_spot_25 : decode cX4_spot 25 = .ok (.ireturn, 1) := by decide +kernel
theorem dX4_spot_26 : decode cX4_spot 26 = .ok (.iload_n 3, 1) := by decide +kernel
theorem dX4_spot_27 : decode cX4_spot 27 = .ok (.iconst 0, 1) := by decide +kernel
theorem dX4_spot_28 : decode cX4_spot 28 = .ok (.iconst 4, 1) := by decide +kernel
theorem dX4_spot_29 : decode cX4_spot 29 = .ok (.invokestatic 38, 3) := by decide +kernel
theorem dX4_spot_32 : decode cX4_spot 32 = .ok (.ifCond .eq 13, 3) := by decide +kernel
theorem dX4_spot_35 : decode cX4_spot 35 = .ok (.aload_n 0, 1) := by decide +kernel
theorem dX4_spot_36 : decode cX4_spot 36 = .ok (.iload_n 1, 1) := by decide +kernel
theorem dX4_spot_37 : decode cX4_spot 37 = .ok (.iload_n 2, 1) := by decide +kernel
theorem dX4_spot_38 : decode cX4_spot 38 = .ok (.iload_n 3, 1) := by decide +kernel
theorem dX4_spot_39 : decode cX4_spot 39 = .ok (.invokevirtual 172, 3) := by decide +kernel
theorem dX4_spot_42 : decode cX4_spot 42 = .ok (.goto 8, 3) := by decide +kernel
theorem dX4_spot_45 : decode cX4_spot 45 = .ok (.aload_n 0, 1) := by decide +kernel
theorem dX4_spot_46 : decode cX4_spot 46 = .ok (.iconst 2, 1) := by decide +kernel
theorem dX4_spot_47 : decode cX4_spot 47 = .ok (.invokevirtual 45, 3) := by decide +kernel
theorem dX4_spot_50 : decode cX4_spot 50 = .ok (.ireturn, 1) := by decide +kernel
set_option maxRecDepth 20000 in
theorem ggX4_reading_X4_within : GoodIn wsX4_reading wsX4_within := goodIn_r _ [7] (by decide +kernel) (by decide +kernel)
set_option maxRecDepth 20000 in
theorem gX4_reading_X4_within : GoodIn wsX4_reading (va_wsS RX4 38 yX4_within wsX4_within) := goodIn_app (goodIn_of _ (by decide +kernel)) ggX4_reading_X4_within
set_option maxRecDepth 20000 in
theorem ggX4_reading_X4_fails : GoodIn wsX4_reading wsX4_fails := goodIn_r _ [11, 1, 67, 68, 69, 70, 71, 72, 73, 74, 75, 76, 77, 78, 79, 80, 81] (by decide +kernel) (by decide +kernel)
set_option maxRecDepth 20000 in
theorem gX4_reading_X4_fails : GoodIn wsX4_reading (wsV RX4 45 RX4 yX4_fails wsX4_fails) := goodIn_app (goodIn_of _ (by decide +kernel)) ggX4_reading_X4_fails
set_option maxRecDepth 20000 in
theorem ggX4_reading_X4_read : GoodIn wsX4_reading wsX4_read := goodIn_r _ [15, 16, 3, 2, 17, 18, 19, 6, 20, 21, 22, 23, 24, 25, 26, 27, 28, 29, 30, 31, 32, 33, 34, 35, 36, 37, 38, 39, 40, 41, 42, 43, 44, 45, 46, 47, 48, 49, 50, 51, 52, 53, 54, 55, 56, 57, 58, 59, 60, 61, 62, 63, 64, 65, 66, 67, 68, 69, 70, 71, 72, 73, 74, 75, 76, 77, 78, 79, 80, 81] (by decide +kernel) (by decide +kernel)
set_option maxRecDepth 20000 in
theorem gX4_reading_X4_read : GoodIn wsX4_reading (wsV RX4 96 RX4 yX4_read wsX4_read) := goodIn_app (goodIn_of _ (by decide +kernel)) ggX4_reading_X4_read
theorem dX4_reading_0 : decode cX4_reading 0 = .ok (.aload_n 0, 1) := by decide +kernel
theorem dX4_reading_1 : decode cX4_reading 1 = .ok (.iconst 0, 1) := by decide +kernel
theorem dX4_reading_2 : decode cX4_reading 2 = .ok (.putfield 34, 3) := by decide +kernel
theorem dX4_reading_5 : decode cX4_reading 5 = .ok (.iload_n 1, 1) := by decide +kernel
theorem dX4_reading_6 : decode cX4_reading 6 = .ok (.iconst 0, 1) := by decide +kernel
theorem dX4_reading_7 : decode cX4_reading 7 = .ok (.iconst 3, 1) := by decide +kernel
theorem dX4_reading_8 : decode cX4_reading 8 = .ok (.invokestatic 38, 3) := by decide +kernel
theorem dX4_reading_11 : decode cX4_reading 11 = .ok (.ifCond .ne 9, 3) := by decide +kernel
theorem dX4_reading_14 : decode cX4_reading 14 = .ok (.aload_n 0, 1) := by decide +kernel
theorem dX4_reading_15 : decode cX4_reading 15 = .ok (.iconst 1, 1) := by decide +kernel
theorem dX4_reading_16 : decode cX4_reading 16 = .ok (.invokevirtual 45, 3) := by decide +kernel
theorem dX4_reading_19 : decode cX4_reading 19 = .ok (.ireturn, 1) := by decide +kernel
theorem dX4_reading_20 : decode cX4_reading 20 = .ok (.aload_n 0, 1) := by decide +kernel
theorem dX4_reading_21 : decode cX4_reading 21 = .ok (.invokevirtual 96, 3) := by decide +kernel
theorem dX4_reading_24 : decode cX4_reading 24 = .ok (.ifCond .eq 12, 3) := by decide +kernel
theorem dX4_reading_27 : decode cX4_reading 27 = .ok (.aload_n 0, 1) := by decide +kernel
theorem dX4_reading_28 : decode cX4_reading 28 = .ok (.getfield 31, 3) := by decide +kernel
theorem dX4_reading_31 : decode cX4_reading 31 = .ok (.iload_n 1, 1) := by decide +kernel
theorem dX4_reading_32 : decode cX4_reading 32 = .ok (.iaload, 1) := by decide +kernel
theorem dX4_reading_33 : decode cX4_reading 33 = .ok (.goto 5, 3) := by decide +kernel
theorem dX4_reading_36 : decode cX4_reading 36 = .ok (.ldc 78, 2) := by decide +kernel
theorem dX4_reading_38 : decode cX4_reading 38 = .ok (.ireturn, 1) := by decide +kernel
set_option maxRecDepth 20000 in
theorem ggX4_night_X4_within : GoodIn wsX4_night wsX4_within := goodIn_r _ [7] (by decide +kernel) (by decide +kernel)
set_option maxRecDepth 20000 in
theorem gX4_night_X4_within : GoodIn wsX4_night (va_wsS RX4 38 yX4_within wsX4_within) := goodIn_app (goodIn_of _ (by decide +kernel)) ggX4_night_X4_within
set_option maxRecDepth 20000 in
theorem ggX4_night_X4_fails : GoodIn wsX4_night wsX4_fails := goodIn_r _ [11, 1, 12, 13, 14, 15, 16, 17, 18, 19, 20, 21, 22, 23, 24, 25, 26] (by decide +kernel) (by decide +kernel)
set_option maxRecDepth 20000 in
theorem gX4_night_X4_fails : GoodIn wsX4_night (wsV RX4 45 RX4 yX4_fails wsX4_fails) := goodIn_app (goodIn_of _ (by decide +kernel)) ggX4_night_X4_fails
theorem dX4_night_0 : decode cX4_night 0 = .ok (.aload_n 0, 1) := by decide +kernel
theorem dX4_night_1 : decode cX4_night 1 = .ok (.iconst 0, 1) := by decide +kernel
theorem dX4_night_2 : decode cX4_night 2 = .ok (.putfield 34, 3) := by decide +kernel
theorem dX4_night_5 : decode cX4_night 5 = .ok (.iload_n 1, 1) := by decide +kernel
theorem dX4_night_6 : decode cX4_night 6 = .ok (.ifCond .lt 12, 3) := by decide +kernel
theorem dX4_night_9 : decode cX4_night 9 = .ok (.iload_n 2, 1) := by decide +kernel
theorem dX4_night_10 : decode cX4_night 10 = .ok (.iconst 0, 1) := by decide +kernel
theorem dX4_night_11 : decode cX4_night 11 = .ok (.iconst 3, 1) := by decide +kernel
theorem dX4_night_12 : decode cX4_night 12 = .ok (.invokestatic 38, 3) := by decide +kernel
theorem dX4_night_15 : decode cX4_night 15 = .ok (.ifCond .ne 9, 3) := by decide +kernel
theorem dX4_night_18 : decode cX4_night 18 = .ok (.aload_n 0, 1) := by decide +kernel
theorem dX4_night_19 : decode cX4_night 19 = .ok (.iconst 1, 1) := by decide +kernel
theorem dX4_night_20 : decode cX4_night 20 = .ok (.invokevirtual 45, 3) := by decide +kernel
theorem dX4_night_23 : decode cX4_night 23 = .ok (.ireturn, 1) := by decide +kernel
theorem dX4_night_24 : decode cX4_night 24 = .ok (.iload_n 1, 1) := by decide +kernel
theorem dX4_night_25 : decode cX4_night 25 = .ok (.aload_n 0, 1) := by decide +kernel
theorem dX4_night_26 : decode cX4_night 26 = .ok (.getfield 7, 3) := by decide +kernel
theorem dX4_night_29 : decode cX4_night 29 = .ok (.bipush 9, 2) := by decide +kernel
theorem dX4_night_31 : decode cX4_night 31 = .ok (.iaload, 1) := by decide +kernel
theorem dX4_night_32 : decode cX4_night 32 = .ok (.if_icmp .ge 19, 3) := by decide +kernel
theorem dX4_night_35 : decode cX4_night 35 = .ok (.aload_n 0, 1) := by decide +kernel
theorem dX4_night_36 : decode cX4_night 36 = .ok (.getfield 7, 3) := by decide +kernel
theorem dX4_night_39 : decode cX4_night 39 = .ok (.bipush 24, 2) := by decide +kernel
theorem dX4_night_41 : decode cX4_night 41 = .ok (.iconst 4, 1) := by decide +kernel
theorem dX4_night_42 : decode cX4_night 42 = .ok (.iload_n 1, 1) := by decide +kernel
theorem dX4_night_43 : decode cX4_night 43 = .ok (.imul, 1) := by decide +kernel
theorem dX4_night_44 : decode cX4_night 44 = .ok (.iadd, 1) := by decide +kernel
theorem dX4_night_45 : decode cX4_night 45 = .ok (.iload_n 2, 1) := by decide +kernel
theorem dX4_night_46 : decode cX4_night 46 = .ok (.iadd, 1) := by decide +kernel
theorem dX4_night_47 : decode cX4_night 47 = .ok (.iaload, 1) := by decide +kernel
theorem dX4_night_48 : decode cX4_night 48 = .ok (.goto 5, 3) := by decide +kernel
theorem dX4_night_51 : decode cX4_night 51 = .ok (.ldc 78, 2) := by decide +kernel
theorem dX4_night_53 : decode cX4_night 53 = .ok (.ireturn, 1) := by decide +kernel
set_option maxRecDepth 20000 in
theorem ggX4_pairs_X4_isClose : GoodIn wsX4_pairs wsX4_isClose := goodIn_r _ [6, 1, 7, 8, 9, 5, 10, 11, 12, 13, 14, 15, 16, 17, 18, 19, 20, 21, 22, 23, 24, 25, 26, 27, 28, 29, 30, 31, 32, 33, 34, 35, 36, 37, 38, 39, 40, 41, 42, 43, 44, 45, 46, 47, 48, 49, 50] (by decide +kernel) (by decide +kernel)
set_option maxRecDepth 20000 in
theorem gX4_pairs_X4_isClose : GoodIn wsX4_pairs (wsV RX4 79 RX4 yX4_isClose wsX4_isClose) := goodIn_app (goodIn_of _ (by decide +kernel)) ggX4_pairs_X4_isClose
set_option maxRecDepth 20000 in
theorem ggX4_pairs_X4_isPair : GoodIn wsX4_pairs wsX4_isPair := goodIn_r _ [10, 11, 12, 13, 5, 14, 1, 15, 16, 17, 18, 19, 20, 36, 37, 38, 39, 40, 41, 42, 43, 44, 45, 46, 47, 48, 49, 50] (by decide +kernel) (by decide +kernel)
set_option maxRecDepth 20000 in
theorem gX4_pairs_X4_isPair : GoodIn wsX4_pairs (wsV RX4 68 RX4 yX4_isPair wsX4_isPair) := goodIn_app (goodIn_of _ (by decide +kernel)) ggX4_pairs_X4_isPair
theorem dX4_pairs_0 : decode cX4_pairs 0 = .ok (.iconst 0, 1) := by decide +kernel
theorem dX4_pairs_1 : decode cX4_pairs 1 = .ok (.istore_n 2, 1) := by decide +kernel
theorem dX4_pairs_2 : decode cX4_pairs 2 = .ok (.iconst 0, 1) := by decide +kernel
theorem dX4_pairs_3 : decode cX4_pairs 3 = .ok (.istore_n 3, 1) := by decide +kernel
theorem dX4_pairs_4 : decode cX4_pairs 4 = .ok (.iload_n 3, 1) := by decide +kernel
theorem dX4_pairs_5 : decode cX4_pairs 5 = .ok (.aload_n 0, 1) := by decide +kernel
theorem dX4_pairs_6 : decode cX4_pairs 6 = .ok (.getfield 7, 3) := by decide +kernel
theorem dX4_pairs_9 : decode cX4_pairs 9 = .ok (.bipush 8, 2) := by decide +kernel
theorem dX4_pairs_11 : decode cX4_pairs 11 = .ok (.iaload, 1) := by decide +kernel
theorem dX4_pairs_12 : decode cX4_pairs 12 = .ok (.if_icmp .ge 40, 3) := by decide +kernel
theorem dX4_pairs_15 : decode cX4_pairs 15 = .ok (.iload_n 2, 1) := by decide +kernel
theorem dX4_pairs_16 : decode cX4_pairs 16 = .ok (.iload_n 1, 1) := by decide +kernel
theorem dX4_pairs_17 : decode cX4_pairs 17 = .ok (.ifCond .eq 14, 3) := by decide +kernel
theorem dX4_pairs_20 : decode cX4_pairs 20 = .ok (.aload_n 0, 1) := by decide +kernel
theorem dX4_pairs_21 : decode cX4_pairs 21 = .ok (.iload_n 3, 1) := by decide +kernel
theorem dX4_pairs_22 : decode cX4_pairs 22 = .ok (.invokevirtual 79, 3) := by decide +kernel
theorem dX4_pairs_25 : decode cX4_pairs 25 = .ok (.ifCond .eq 18, 3) := by decide +kernel
theorem dX4_pairs_28 : decode cX4_pairs 28 = .ok (.goto 11, 3) := by decide +kernel
theorem dX4_pairs_31 : decode cX4_pairs 31 = .ok (.aload_n 0, 1) := by decide +kernel
theorem dX4_pairs_32 : decode cX4_pairs 32 = .ok (.iload_n 3, 1) := by decide +kernel
theorem dX4_pairs_33 : decode cX4_pairs 33 = .ok (.invokevirtual 68, 3) := by decide +kernel
theorem dX4_pairs_36 : decode cX4_pairs 36 = .ok (.ifCond .eq 7, 3) := by decide +kernel
theorem dX4_pairs_39 : decode cX4_pairs 39 = .ok (.iconst 1, 1) := by decide +kernel
theorem dX4_pairs_40 : decode cX4_pairs 40 = .ok (.goto 4, 3) := by decide +kernel
theorem dX4_pairs_43 : decode cX4_pairs 43 = .ok (.iconst 0, 1) := by decide +kernel
theorem dX4_pairs_44 : decode cX4_pairs 44 = .ok (.iadd, 1) := by decide +kernel
theorem dX4_pairs_45 : decode cX4_pairs 45 = .ok (.istore_n 2, 1) := by decide +kernel
theorem dX4_pairs_46 : decode cX4_pairs 46 = .ok (.iinc 3 1, 3) := by decide +kernel
theorem dX4_pairs_49 : decode cX4_pairs 49 = .ok (.goto (-45), 3) := by decide +kernel
theorem dX4_pairs_52 : decode cX4_pairs 52 = .ok (.iload_n 2, 1) := by decide +kernel
theorem dX4_pairs_53 : decode cX4_pairs 53 = .ok (.ireturn, 1) := by decide +kernel
set_option maxRecDepth 20000 in
theorem ggX4_tellsCount_X4_lay : GoodIn wsX4_tellsCount wsX4_lay := goodIn_r _ [8, 1, 9, 10, 11, 56, 57, 58, 59, 60, 61, 62, 63, 64, 65, 66, 67, 68, 69, 70] (by decide +kernel) (by decide +kernel)
set_option maxRecDepth 20000 in
theorem gX4_tellsCount_X4_lay : GoodIn wsX4_tellsCount (wsV RX4 82 RX4 yX4_lay wsX4_lay) := goodIn_app (goodIn_of _ (by decide +kernel)) ggX4_tellsCount_X4_lay
set_option maxRecDepth 20000 in
theorem ggX4_tellsCount_X4_meeting : GoodIn wsX4_tellsCount wsX4_meeting := goodIn_r _ [15, 1, 16, 56, 57, 58, 59, 60, 61, 62, 63, 64, 65, 66, 67, 68, 69, 70] (by decide +kernel) (by decide +kernel)
set_option maxRecDepth 20000 in
theorem gX4_tellsCount_X4_meeting : GoodIn wsX4_tellsCount (wsV RX4 86 RX4 yX4_meeting wsX4_meeting) := goodIn_app (goodIn_of _ (by decide +kernel)) ggX4_tellsCount_X4_meeting
set_option maxRecDepth 20000 in
theorem ggX4_tellsCount_X4_seenSpots : GoodIn wsX4_tellsCount wsX4_seenSpots := goodIn_r _ [20, 1, 21, 22, 23, 7, 24, 25, 26, 27, 28, 10, 11, 56, 57, 58, 59, 60, 61, 62, 63, 64, 65, 66, 67, 68, 69, 70] (by decide +kernel) (by decide +kernel)
set_option maxRecDepth 20000 in
theorem gX4_tellsCount_X4_seenSpots : GoodIn wsX4_tellsCount (wsV RX4 176 RX4 yX4_seenSpots wsX4_seenSpots) := goodIn_app (goodIn_of _ (by decide +kernel)) ggX4_tellsCount_X4_seenSpots
set_option maxRecDepth 20000 in
theorem ggX4_tellsCount_X4_pairs : GoodIn wsX4_tellsCount wsX4_pairs := goodIn_r _ [32, 1, 33, 34, 35, 7, 36, 37, 38, 39, 40, 21, 22, 23, 24, 25, 26, 27, 28, 10, 11, 41, 42, 43, 44, 45, 46, 47, 48, 49, 50, 51, 52, 53, 54, 55, 56, 57, 58, 59, 60, 61, 62, 63, 64, 65, 66, 67, 68, 69, 70] (by decide +kernel) (by decide +kernel)
set_option maxRecDepth 20000 in
theorem gX4_tellsCount_X4_pairs : GoodIn wsX4_tellsCount (wsV RX4 179 RX4 yX4_pairs wsX4_pairs) := goodIn_app (goodIn_of _ (by decide +kernel)) ggX4_tellsCount_X4_pairs
theorem dX4_tellsCount_0 : decode cX4_tellsCount 0 = .ok (.aload_n 0, 1) := by decide +kernel
theorem dX4_tellsCount_1 : decode cX4_tellsCount 1 = .ok (.aload_n 0, 1) := by decide +kernel
theorem dX4_tellsCount_2 : decode cX4_tellsCount 2 = .ok (.getfield 7, 3) := by decide +kernel
theorem dX4_tellsCount_5 : decode cX4_tellsCount 5 = .ok (.iconst 1, 1) := by decide +kernel
theorem dX4_tellsCount_6 : decode cX4_tellsCount 6 = .ok (.iaload, 1) := by decide +kernel
theorem dX4_tellsCount_7 : decode cX4_tellsCount 7 = .ok (.invokevirtual 82, 3) := by decide +kernel
theorem dX4_tellsCount_10 : decode cX4_tellsCount 10 = .ok (.iload_n 1, 1) := by decide +kernel
theorem dX4_tellsCount_11 : decode cX4_tellsCount 11 = .ok (.tableswitch 151 0 12 #[65, 73, 73, 84, 102, 107, 112, 112, 128, 128, 128, 141, 146], 65) := by decide +kernel
theorem dX4_tellsCount_76 : decode cX4_tellsCount 76 = .ok (.aload_n 0, 1) := by decide +kernel
theorem dX4_tellsCount_77 : decode cX4_tellsCount 77 = .ok (.getfield 7, 3) := by decide +kernel
theorem dX4_tellsCount_80 : decode cX4_tellsCount 80 = .ok (.bipush 8, 2) := by decide +kernel
theorem dX4_tellsCount_82 : decode cX4_tellsCount 82 = .ok (.iaload, 1) := by decide +kernel
theorem dX4_tellsCount_83 : decode cX4_tellsCount 83 = .ok (.ireturn, 1) := by decide +kernel
theorem dX4_tellsCount_84 : decode cX4_tellsCount 84 = .ok (.aload_n 0, 1) := by decide +kernel
theorem dX4_tellsCount_85 : decode cX4_tellsCount 85 = .ok (.getfield 7, 3) := by decide +kernel
theorem dX4_tellsCount_88 : decode cX4_tellsCount 88 = .ok (.iconst 4, 1) := by decide +kernel
theorem dX4_tellsCount_89 : decode cX4_tellsCount 89 = .ok (.iload_n 1, 1) := by decide +kernel
theorem dX4_tellsCount_90 : decode cX4_tellsCount 90 = .ok (.iadd, 1) := by decide +kernel
theorem dX4_tellsCount_91 : decode cX4_tellsCount 91 = .ok (.iconst 1, 1) := by decide +kernel
theorem dX4_tellsCount_92 : decode cX4_tellsCount 92 = .ok (.isub, 1) := by decide +kernel
theorem dX4_tellsCount_93 : decode cX4_tellsCount 93 = .ok (.iaload, 1) := by decide +kernel
theorem dX4_tellsCount_94 : decode cX4_tellsCount 94 = .ok (.ireturn, 1) := by decide +kernel
theorem dX4_tellsCount_95 : decode cX4_tellsCount 95 = .ok (.aload_n 0, 1) := by decide +kernel
theorem dX4_tellsCount_96 : decode cX4_tellsCount 96 = .ok (.getfield 7, 3) := by decide +kernel
theorem dX4_tellsCount_99 : decode cX4_tellsCount 99 = .ok (.bipush 6, 2) := by decide +kernel
theorem dX4_tellsCount_101 : decode cX4_tellsCount 101 = .ok (.iaload, 1) := by decide +kernel
theorem dX4_tellsCount_102 : decode cX4_tellsCount 102 = .ok (.iconst 2, 1) := by decide +kernel
theorem dX4_tellsCount_103 : decode cX4_tellsCount 103 = .ok (.aload_n 0, 1) := by decide +kernel
theorem dX4_tellsCount_104 : decode cX4_tellsCount 104 = .ok (.getfield 7, 3) := by decide +kernel
theorem dX4_tellsCount_107 : decode cX4_tellsCount 107 = .ok (.bipush 7, 2) := by decide +kernel
theorem dX4_tellsCount_109 : decode cX4_tellsCount 109 = .ok (.iaload, 1) := by decide +kernel
theorem dX4_tellsCount_110 : decode cX4_tellsCount 110 = .ok (.imul, 1) := by decide +kernel
theorem dX4_tellsCount_111 : decode cX4_tellsCount 111 = .ok (.iadd, 1) := by decide +kernel
theorem dX4_tellsCount_112 : decode cX4_tellsCount 112 = .ok (.ireturn, 1) := by decide +kernel
theorem dX4_tellsCount_113 : decode cX4_tellsCount 113 = .ok (.aload_n 0, 1) := by decide +kernel
theorem dX4_tellsCount_114 : decode cX4_tellsCount 114 = .ok (.invokevirtual 86, 3) := by decide +kernel
theorem dX4_tellsCount_117 : decode cX4_tellsCount 117 = .ok (.ireturn, 1) := by decide +kernel
theorem dX4_tellsCount_118 : decode cX4_tellsCount 118 = .ok (.aload_n 0, 1) := by decide +kernel
theorem dX4_tellsCount_119 : decode cX4_tellsCount 119 = .ok (.invokevirtual 176, 3) := by decide +kernel
theorem dX4_tellsCount_122 : decode cX4_tellsCount 122 = .ok (.ireturn, 1) := by decide +kernel
theorem dX4_tellsCount_123 : decode cX4_tellsCount 123 = .ok (.aload_n 0, 1) := by decide +kernel
theorem dX4_tellsCount_124 : decode cX4_tellsCount 124 = .ok (.iload_n 1, 1) := by decide +kernel
theorem dX4_tellsCount_125 : decode cX4_tellsCount 125 = .ok (.bipush 7, 2) := by decide +kernel
theorem dX4_tellsCount_127 : decode cX4_tellsCount 127 = .ok (.if_icmp .ne 7, 3) := by decide +kernel
theorem dX4_tellsCount_130 : decode cX4_tellsCount 130 = .ok (.iconst 1, 1) := by decide +kernel
theorem dX4_tellsCount_131 : decode cX4_tellsCount 131 = .ok (.goto 4, 3) := by decide +kernel
theorem dX4_tellsCount_134 : decode cX4_tellsCount 134 = .ok (.iconst 0, 1) := by decide +kernel
theorem dX4_tellsCount_135 : decode cX4_tellsCount 135 = .ok (.invokevirtual 179, 3) := by decide +kernel
theorem dX4_tellsCount_138 : decode cX4_tellsCount 138 = .ok (.ireturn, 1) := by decide +kernel
theorem dX4_tellsCount_139 : decode cX4_tellsCount 139 = .ok (.aload_n 0, 1) := by decide +kernel
theorem dX4_tellsCount_140 : decode cX4_tellsCount 140 = .ok (.getfield 7, 3) := by decide +kernel
theorem dX4_tellsCount_143 : decode cX4_tellsCount 143 = .ok (.bipush 9, 2) := by decide +kernel
theorem dX4_tellsCount_145 : decode cX4_tellsCount 145 = .ok (.iload_n 1, 1) := by decide +kernel
theorem dX4_tellsCount_146 : decode cX4_tellsCount 146 = .ok (.iadd, 1) := by decide +kernel
theorem dX4_tellsCount_147 : decode cX4_tellsCount 147 = .ok (.bipush 8, 2) := by decide +kernel
theorem dX4_tellsCount_149 : decode cX4_tellsCount 149 = .ok (.isub, 1) := by decide +kernel
theorem dX4_tellsCount_150 : decode cX4_tellsCount 150 = .ok (.iaload, 1) := by decide +kernel
theorem dX4_tellsCount_151 : decode cX4_tellsCount 151 = .ok (.ireturn, 1) := by decide +kernel
theorem dX4_tellsCount_152 : decode cX4_tellsCount 152 = .ok (.aload_n 0, 1) := by decide +kernel
theorem dX4_tellsCount_153 : decode cX4_tellsCount 153 = .ok (.getfield 42, 3) := by decide +kernel
theorem dX4_tellsCount_156 : decode cX4_tellsCount 156 = .ok (.ireturn, 1) := by decide +kernel
theorem dX4_tellsCount_157 : decode cX4_tellsCount 157 = .ok (.aload_n 0, 1) := by decide +kernel
theorem dX4_tellsCount_158 : decode cX4_tellsCount 158 = .ok (.getfield 130, 3) := by decide +kernel
theorem dX4_tellsCount_161 : decode cX4_tellsCount 161 = .ok (.ireturn, 1) := by decide +kernel
theorem dX4_tellsCount_162 : decode cX4_tellsCount 162 = .ok (.aload_n 0, 1) := by decide +kernel
theorem dX4_tellsCount_163 : decode cX4_tellsCount 163 = .ok (.getfield 7, 3) := by decide +kernel
theorem dX4_tellsCount_166 : decode cX4_tellsCount 166 = .ok (.iconst 0, 1) := by decide +kernel
theorem dX4_tellsCount_167 : decode cX4_tellsCount 167 = .ok (.iload_n 1, 1) := by decide +kernel
theorem dX4_tellsCount_168 : decode cX4_tellsCount 168 = .ok (.iadd, 1) := by decide +kernel
theorem dX4_tellsCount_169 : decode cX4_tellsCount 169 = .ok (.bipush 13, 2) := by decide +kernel
theorem dX4_tellsCount_171 : decode cX4_tellsCount 171 = .ok (.isub, 1) := by decide +kernel
theorem dX4_tellsCount_172 : decode cX4_tellsCount 172 = .ok (.iaload, 1) := by decide +kernel
theorem dX4_tellsCount_173 : decode cX4_tellsCount 173 = .ok (.ireturn, 1) := by decide +kernel
set_option maxRecDepth 20000 in
theorem ggX4_count_X4_within : GoodIn wsX4_count wsX4_within := goodIn_r _ [5] (by decide +kernel) (by decide +kernel)
set_option maxRecDepth 20000 in
theorem gX4_count_X4_within : GoodIn wsX4_count (va_wsS RX4 38 yX4_within wsX4_within) := goodIn_app (goodIn_of _ (by decide +kernel)) ggX4_count_X4_within
set_option maxRecDepth 20000 in
theorem ggX4_count_X4_tellsCount : GoodIn wsX4_count wsX4_tellsCount := goodIn_r _ [9, 10, 11, 12, 13, 14, 15, 4, 16, 17, 18, 19, 20, 21, 22, 23, 24, 25, 26, 27, 28, 29, 30, 31, 32, 33, 34, 35, 36, 37, 38, 39, 40, 41, 42, 43, 44, 45, 46, 47, 48, 49, 50, 51, 52, 53, 54, 55, 56, 57, 58, 59, 60, 61, 62, 63, 68, 69, 70, 71, 72, 73, 74, 75, 76, 77, 78, 79, 80, 81, 82] (by decide +kernel) (by decide +kernel)
set_option maxRecDepth 20000 in
theorem gX4_count_X4_tellsCount : GoodIn wsX4_count (wsV RX4 183 RX4 yX4_tellsCount wsX4_tellsCount) := goodIn_app (goodIn_of _ (by decide +kernel)) ggX4_count_X4_tellsCount
set_option maxRecDepth 20000 in
theorem ggX4_count_X4_fails : GoodIn wsX4_count wsX4_fails := goodIn_r _ [67, 1, 68, 69, 70, 71, 72, 73, 74, 75, 76, 77, 78, 79, 80, 81, 82] (by decide +kernel) (by decide +kernel)
set_option maxRecDepth 20000 in
theorem gX4_count_X4_fails : GoodIn wsX4_count (wsV RX4 45 RX4 yX4_fails wsX4_fails) := goodIn_app (goodIn_of _ (by decide +kernel)) ggX4_count_X4_fails
