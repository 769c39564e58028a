theorem dX0_init_0 : decode cX0_init 0 = .ok (.aload_n 0, 1) := by decide +kernel
theorem dX0_init_1 : decode cX0_init 1 = .ok (.invokespecial 3, 3) := by decide +kernel
theorem dX0_init_4 : decode cX0_init 4 = .ok (.aload_n 0, 1) := by decide +kernel
theorem dX0_init_5 : decode cX0_init 5 = .ok (.bipush 32, 2) := by decide +kernel
theorem dX0_init_7 : decode cX0_init 7 = .ok (.newarray .int, 2) := by decide +kernel
theorem dX0_init_9 : decode cX0_init 9 = .ok (.putfield 9, 3) := by decide +kernel
theorem dX0_init_12 : decode cX0_init 12 = .ok (.return_, 1) := by decide +kernel
theorem dX0_becomeLike_0 : decode cX0_becomeLike 0 = .ok (.aload_n 1, 1) := by decide +kernel
theorem dX0_becomeLike_1 : decode cX0_becomeLike 1 = .ok (.getfield 9, 3) := by decide +kernel
theorem dX0_becomeLike_4 : decode cX0_becomeLike 4 = .ok (.iconst 0, 1) := by decide +kernel
theorem dX0_becomeLike_5 : decode cX0_becomeLike 5 = .ok (.aload_n 0, 1) := by decide +kernel
theorem dX0_becomeLike_6 : decode cX0_becomeLike 6 = .ok (.getfield 9, 3) := by decide +kernel
theorem dX0_becomeLike_9 : decode cX0_becomeLike 9 = .ok (.iconst 0, 1) := by decide +kernel
theorem dX0_becomeLike_10 : decode cX0_becomeLike 10 = .ok (.bipush 32, 2) := by decide +kernel
theorem dX0_becomeLike_12 : decode cX0_becomeLike 12 = .ok (.invokestatic 15, 3) := by decide +kernel
theorem dX0_becomeLike_15 : decode cX0_becomeLike 15 = .ok (.aload_n 0, 1) := by decide +kernel
theorem dX0_becomeLike_16 : decode cX0_becomeLike 16 = .ok (.aload_n 1, 1) := by decide +kernel
theorem dX0_becomeLike_17 : decode cX0_becomeLike 17 = .ok (.getfield 21, 3) := by decide +kernel
theorem dX0_becomeLike_20 : decode cX0_becomeLike 20 = .ok (.putfield 21, 3) := by decide +kernel
theorem dX0_becomeLike_23 : decode cX0_becomeLike 23 = .ok (.aload_n 0, 1) := by decide +kernel
theorem dX0_becomeLike_24 : decode cX0_becomeLike 24 = .ok (.aload_n 1, 1) := by decide +kernel
theorem dX0_becomeLike_25 : decode cX0_becomeLike 25 = .ok (.getfield 25, 3) := by decide +kernel
theorem dX0_becomeLike_28 : decode cX0_becomeLike 28 = .ok (.putfield 25, 3) := by decide +kernel
theorem dX0_becomeLike_31 : decode cX0_becomeLike 31 = .ok (.aload_n 0, 1) := by decide +kernel
theorem dX0_becomeLike_32 : decode cX0_becomeLike 32 = .ok (.aload_n 1, 1) := by decide +kernel
theorem dX0_becomeLike_33 : decode cX0_becomeLike 33 = .ok (.getfield 28, 3) := by decide +kernel
theorem dX0_becomeLike_36 : decode cX0_becomeLike 36 = .ok (.putfield 28, 3) := by decide +kernel
theorem dX0_becomeLike_39 : decode cX0_becomeLike 39 = .ok (.return_, 1) := by decide +kernel
theorem dX0_write_0 : decode cX0_write 0 = .ok (.aload_n 0, 1) := by decide +kernel
theorem dX0_write_1 : decode cX0_write 1 = .ok (.getfield 9, 3) := by decide +kernel
theorem dX0_write_4 : decode cX0_write 4 = .ok (.iconst 0, 1) := by decide +kernel
theorem dX0_write_5 : decode cX0_write 5 = .ok (.aload_n 0, 1) := by decide +kernel
theorem dX0_write_6 : decode cX0_write 6 = .ok (.getfield 9, 3) := by decide +kernel
theorem dX0_write_9 : decode cX0_write 9 = .ok (.iconst 4, 1) := by decide +kernel
theorem dX0_write_10 : decode cX0_write 10 = .ok (.bipush 28, 2) := by decide +kernel
theorem dX0_write_12 : decode cX0_write 12 = .ok (.invokestatic 15, 3) := by decide +kernel
theorem dX0_write_15 : decode cX0_write 15 = .ok (.aload_n 0, 1) := by decide +kernel
theorem dX0_write_16 : decode cX0_write 16 = .ok (.getfield 9, 3) := by decide +kernel
theorem dX0_write_19 : decode cX0_write 19 = .ok (.iconst 0, 1) := by decide +kernel
theorem dX0_write_20 : decode cX0_write 20 = .ok (.iload_n 1, 1) := by decide +kernel
theorem dX0_write_21 : decode cX0_write 21 = .ok (.iastore, 1) := by decide +kernel
theorem dX0_write_22 : decode cX0_write 22 = .ok (.aload_n 0, 1) := by decide +kernel
theorem dX0_write_23 : decode cX0_write 23 = .ok (.getfield 9, 3) := by decide +kernel
theorem dX0_write_26 : decode cX0_write 26 = .ok (.iconst 1, 1) := by decide +kernel
theorem dX0_write_27 : decode cX0_write 27 = .ok (.iload_n 2, 1) := by decide +kernel
theorem dX0_write_28 : decode cX0_write 28 = .ok (.iastore, 1) := by decide +kernel
theorem dX0_write_29 : decode cX0_write 29 = .ok (.aload_n 0, 1) := by decide +kernel
theorem dX0_write_30 : decode cX0_write 30 = .ok (.getfield 9, 3) := by decide +kernel
theorem dX0_write_33 : decode cX0_write 33 = .ok (.iconst 2, 1) := by decide +kernel
theorem dX0_write_34 : decode cX0_write 34 = .ok (.iload_n 3, 1) := by decide +kernel
theorem dX0_write_35 : decode cX0_write 35 = .ok (.iastore, 1) := by decide +kernel
theorem dX0_write_36 : decode cX0_write 36 = .ok (.aload_n 0, 1) := by decide +kernel
theorem dX0_write_37 : decode cX0_write 37 = .ok (.getfield 9, 3) := by decide +kernel
theorem dX0_write_40 : decode cX0_write 40 = .ok (.iconst 3, 1) := by decide +kernel
theorem dX0_write_41 : decode cX0_write 41 = .ok (.iload 4, 2) := by decide +kernel
theorem dX0_write_43 : decode cX0_write 43 = .ok (.ifCond .eq 7, 3) := by decide +kernel
theorem dX0_write_46 : decode cX0_write 46 = .ok (.iconst 1, 1) := by decide +kernel
theorem dX0_write_47 : decode cX0_write 47 = .ok (.goto 4, 3) := by decide +kernel
theorem dX0_write_50 : decode cX0_write 50 = .ok (.iconst 0, 1) := by decide +kernel
theorem dX0_write_51 : decode cX0_write 51 = .ok (.iastore, 1) := by decide +kernel
theorem dX0_write_52 : decode cX0_write 52 = .ok (.aload_n 0, 1) := by decide +kernel
theorem dX0_write_53 : decode cX0_write 53 = .ok (.aload_n 0, 1) := by decide +kernel
theorem dX0_write_54 : decode cX0_write 54 = .ok (.getfield 21, 3) := by decide +kernel
theorem dX0_write_57 : decode cX0_write 57 = .ok (.iconst 1, 1) := by decide +kernel
theorem dX0_write_58 : decode cX0_write 58 = .ok (.iadd, 1) := by decide +kernel
theorem dX0_write_59 : decode cX0_write 59 = .ok (.bipush 8, 2) := by decide +kernel
theorem dX0_write_61 : decode cX0_write 61 = .ok (.invokestatic 31, 3) := by decide +kernel
theorem dX0_write_64 : decode cX0_write 64 = .ok (.putfield 21, 3) := by decide +kernel
theorem dX0_write_67 : decode cX0_write 67 = .ok (.aload_n 0, 1) := by decide +kernel
theorem dX0_write_68 : decode cX0_write 68 = .ok (.dup, 1) := by decide +kernel
theorem dX0_write_69 : decode cX0_write 69 = .ok (.getfield 25, 3) := by decide +kernel
theorem dX0_write_72 : decode cX0_write 72 = .ok (.iconst 1, 1) := by decide +kernel
theorem dX0_write_73 : decode cX0_write 73 = .ok (.iadd, 1) := by decide +kernel
theorem dX0_write_74 : decode cX0_write 74 = .ok (.putfield 25, 3) := by decide +kernel
theorem dX0_write_77 : decode cX0_write 77 = .ok (.iload 4, 2) := by decide +kernel
theorem dX0_write_79 : decode cX0_write 79 = .ok (.ifCond .eq 13, 3) := by decide +kernel
theorem dX0_write_82 : decode cX0_write 82 = .ok (.aload_n 0, 1) := by decide +kernel
theorem dX0_write_83 : decode cX0_write 83 = .ok (.dup, 1) := by decide +kernel
theorem dX0_write_84 : decode cX0_write 84 = .ok (.getfield 28, 3) := by decide +kernel
theorem dX0_write_87 : decode cX0_write 87 = .ok (.iconst 1, 1) := by decide +kernel
theorem dX0_write_88 : decode cX0_write 88 = .ok (.iadd, 1) := by decide +kernel
theorem dX0_write_89 : decode cX0_write 89 = .ok (.putfield 28, 3) := by decide +kernel
theorem dX0_write_92 : decode cX0_write 92 = .ok (.aload_n 0, 1) := by decide +kernel
theorem dX0_write_93 : decode cX0_write 93 = .ok (.getfield 21, 3) := by decide +kernel
theorem dX0_write_96 : decode cX0_write 96 = .ok (.ireturn, 1) := by decide +kernel
theorem dX0_nightNumber_0 : decode cX0_nightNumber 0 = .ok (.iload_n 1, 1) := by decide +kernel
theorem dX0_nightNumber_1 : decode cX0_nightNumber 1 = .ok (.aload_n 0, 1) := by decide +kernel
theorem dX0_nightNumber_2 : decode cX0_nightNumber 2 = .ok (.getfield 21, 3) := by decide +kernel
theorem dX0_nightNumber_5 : decode cX0_nightNumber 5 = .ok (.if_icmp .ge 16, 3) := by decide +kernel
theorem dX0_nightNumber_8 : decode cX0_nightNumber 8 = .ok (.aload_n 0, 1) := by decide +kernel
theorem dX0_nightNumber_9 : decode cX0_nightNumber 9 = .ok (.getfield 9, 3) := by decide +kernel
theorem dX0_nightNumber_12 : decode cX0_nightNumber 12 = .ok (.iload_n 1, 1) := by decide +kernel
theorem dX0_nightNumber_13 : decode cX0_nightNumber 13 = .ok (.iconst 4, 1) := by decide +kernel
theorem dX0_nightNumber_14 : decode cX0_nightNumber 14 = .ok (.imul, 1) := by decide +kernel
theorem dX0_nightNumber_15 : decode cX0_nightNumber 15 = .ok (.iload_n 2, 1) := by decide +kernel
theorem dX0_nightNumber_16 : decode cX0_nightNumber 16 = .ok (.iadd, 1) := by decide +kernel
theorem dX0_nightNumber_17 : decode cX0_nightNumber 17 = .ok (.iaload, 1) := by decide +kernel
theorem dX0_nightNumber_18 : decode cX0_nightNumber 18 = .ok (.goto 5, 3) := by decide +kernel
theorem dX0_nightNumber_21 : decode cX0_nightNumber 21 = .ok (.ldc 37, 2) := by decide +kernel
theorem dX0_nightNumber_23 : decode cX0_nightNumber 23 = .ok (.ireturn, 1) := by decide +kernel
set_option maxRecDepth 20000 in
theorem ggX0_meanSizeOfErrors_X0_nightNumber : GoodIn wsX0_meanSizeOfErrors wsX0_nightNumber := goodIn_r _ [11, 1, 12, 2, 13, 14, 15, 16] (by decide +kernel) (by decide +kernel)
set_option maxRecDepth 20000 in
theorem gX0_meanSizeOfErrors_X0_nightNumber : GoodIn wsX0_meanSizeOfErrors (wsV RX0 38 RX0 yX0_nightNumber wsX0_nightNumber) := goodIn_app (goodIn_of _ (by decide +kernel)) ggX0_meanSizeOfErrors_X0_nightNumber
theorem dX0_meanSizeOfErrors_0 : decode cX0_meanSizeOfErrors 0 = .ok (.iconst 0, 1) := by decide +kernel
theorem dX0_meanSizeOfErrors_1 : decode cX0_meanSizeOfErrors 1 = .ok (.istore_n 1, 1) := by decide +kernel
theorem dX0_meanSizeOfErrors_2 : decode cX0_meanSizeOfErrors 2 = .ok (.iconst 0, 1) := by decide +kernel
theorem dX0_meanSizeOfErrors_3 : decode cX0_meanSizeOfErrors 3 = .ok (.istore_n 2, 1) := by decide +kernel
theorem dX0_meanSizeOfErrors_4 : decode cX0_meanSizeOfErrors 4 = .ok (.iconst 0, 1) := by decide +kernel
theorem dX0_meanSizeOfErrors_5 : decode cX0_meanSizeOfErrors 5 = .ok (.istore_n 3, 1) := by decide +kernel
theorem dX0_meanSizeOfErrors_6 : decode cX0_meanSizeOfErrors 6 = .ok (.iload_n 3, 1) := by decide +kernel
theorem dX0_meanSizeOfErrors_7 : decode cX0_meanSizeOfErrors 7 = .ok (.aload_n 0, 1) := by decide +kernel
theorem dX0_meanSizeOfErrors_8 : decode cX0_meanSizeOfErrors 8 = .ok (.getfield 21, 3) := by decide +kernel
theorem dX0_meanSizeOfErrors_11 : decode cX0_meanSizeOfErrors 11 = .ok (.if_icmp .ge 35, 3) := by decide +kernel
theorem dX0_meanSizeOfErrors_14 : decode cX0_meanSizeOfErrors 14 = .ok (.aload_n 0, 1) := by decide +kernel
theorem dX0_meanSizeOfErrors_15 : decode cX0_meanSizeOfErrors 15 = .ok (.iload_n 3, 1) := by decide +kernel
theorem dX0_meanSizeOfErrors_16 : decode cX0_meanSizeOfErrors 16 = .ok (.iconst 2, 1) := by decide +kernel
theorem dX0_meanSizeOfErrors_17 : decode cX0_meanSizeOfErrors 17 = .ok (.invokevirtual 38, 3) := by decide +kernel
theorem dX0_meanSizeOfErrors_20 : decode cX0_meanSizeOfErrors 20 = .ok (.istore 4, 2) := by decide +kernel
theorem dX0_meanSizeOfErrors_22 : decode cX0_meanSizeOfErrors 22 = .ok (.iload 4, 2) := by decide +kernel
theorem dX0_meanSizeOfErrors_24 : decode cX0_meanSizeOfErrors 24 = .ok (.ldc 37, 2) := by decide +kernel
theorem dX0_meanSizeOfErrors_26 : decode cX0_meanSizeOfErrors 26 = .ok (.if_icmp .eq 14, 3) := by decide +kernel
theorem dX0_meanSizeOfErrors_29 : decode cX0_meanSizeOfErrors 29 = .ok (.iload_n 1, 1) := by decide +kernel
theorem dX0_meanSizeOfErrors_30 : decode cX0_meanSizeOfErrors 30 = .ok (.iload 4, 2) := by decide +kernel
theorem dX0_meanSizeOfErrors_32 : decode cX0_meanSizeOfErrors 32 = .ok (.invokestatic 41, 3) := by decide +kernel
theorem dX0_meanSizeOfErrors_35 : decode cX0_meanSizeOfErrors 35 = .ok (.iadd, 1) := by decide +kernel
theorem dX0_meanSizeOfErrors_36 : decode cX0_meanSizeOfErrors 36 = .ok (.istore_n 1, 1) := by decide +kernel
theorem dX0_meanSizeOfErrors_37 : decode cX0_meanSizeOfErrors 37 = .ok (.iinc 2 1, 3) := by decide +kernel
theorem dX0_meanSizeOfErrors_40 : decode cX0_meanSizeOfErrors 40 = .ok (.iinc 3 1, 3) := by decide +kernel
theorem dX0_meanSizeOfErrors_43 : decode cX0_meanSizeOfErrors 43 = .ok (.goto (-37), 3) := by decide +kernel
theorem dX0_meanSizeOfErrors_46 : decode cX0_meanSizeOfErrors 46 = .ok (.iload_n 2, 1) := by decide +kernel
theorem dX0_meanSizeOfErrors_47 : decode cX0_meanSizeOfErrors 47 = .ok (.ifCond .le 11, 3) := by decide +kernel
theorem dX0_meanSizeOfErrors_50 : decode cX0_meanSizeOfErrors 50 = .ok (.iload_n 1, 1) := by decide +kernel
theorem dX0_meanSizeOfErrors_51 : decode cX0_meanSizeOfErrors 51 = .ok (.i2f, 1) := by decide +kernel
theorem dX0_meanSizeOfErrors_52 : decode cX0_meanSizeOfErrors 52 = .ok (.iload_n 2, 1) := by decide +kernel
theorem dX0_meanSizeOfErrors_53 : decode cX0_meanSizeOfErrors 53 = .ok (.i2f, 1) := by decide +kernel
theorem dX0_meanSizeOfErrors_54 : decode cX0_meanSizeOfErrors 54 = .ok (.fdiv, 1) := by decide +kernel
theorem dX0_meanSizeOfErrors_55 : decode cX0_meanSizeOfErrors 55 = .ok (.goto 4, 3) := by decide +kernel
theorem dX0_meanSizeOfErrors_58 : decode cX0_meanSizeOfErrors 58 = .ok (.fconst 0, 1) := by decide +kernel
theorem dX0_meanSizeOfErrors_59 : decode cX0_meanSizeOfErrors 59 = .ok (.freturn, 1) := by decide +kernel
theorem dX1_init_0 : decode cX1_init 0 = .ok (.aload_n 0, 1) := by decide +kernel
theorem dX1_init_1 : decode cX1_init 1 = .ok (.invokespecial 3, 3) := by decide +kernel
theorem dX1_init_4 : decode cX1_init 4 = .ok (.aload_n 0, 1) := by decide +kernel
theorem dX1_init_5 : decode cX1_init 5 = .ok (.iconst 0, 1) := by decide +kernel
theorem dX1_init_6 : decode cX1_init 6 = .ok (.putfield 9, 3) := by decide +kernel
theorem dX1_init_9 : decode cX1_init 9 = .ok (.return_, 1) := by decide +kernel
set_option maxRecDepth 20000 in
theorem ggX2_init_X0_init : GoodIn wsX2_init wsX0_init := goodIn_r _ [16, 17, 2, 3, 4, 18, 26, 27, 28, 29] (by decide +kernel) (by decide +kernel)
set_option maxRecDepth 20000 in
theorem gX2_init_X0_init : GoodIn wsX2_init (wsX0_init) := ggX2_init_X0_init
theorem dX2_init_0 : decode cX2_init 0 = .ok (.aload_n 0, 1) := by decide +kernel
theorem dX2_init_1 : decode cX2_init 1 = .ok (.invokespecial 3, 3) := by decide +kernel
theorem dX2_init_4 : decode cX2_init 4 = .ok (.aload_n 0, 1) := by decide +kernel
theorem dX2_init_5 : decode cX2_init 5 = .ok (.bipush 6, 2) := by decide +kernel
theorem dX2_init_7 : decode cX2_init 7 = .ok (.newarray .int, 2) := by decide +kernel
theorem dX2_init_9 : decode cX2_init 9 = .ok (.putfield 9, 3) := by decide +kernel
theorem dX2_init_12 : decode cX2_init 12 = .ok (.aload_n 0, 1) := by decide +kernel
theorem dX2_init_13 : decode cX2_init 13 = .ok (.bipush 6, 2) := by decide +kernel
theorem dX2_init_15 : decode cX2_init 15 = .ok (.newarray .int, 2) := by decide +kernel
theorem dX2_init_17 : decode cX2_init 17 = .ok (.putfield 15, 3) := by decide +kernel
theorem dX2_init_20 : decode cX2_init 20 = .ok (.aload_n 0, 1) := by decide +kernel
theorem dX2_init_21 : decode cX2_init 21 = .ok (.iconst 2, 1) := by decide +kernel
theorem dX2_init_22 : decode cX2_init 22 = .ok (.newarray .int, 2) := by decide +kernel
theorem dX2_init_24 : decode cX2_init 24 = .ok (.putfield 18, 3) := by decide +kernel
theorem dX2_init_27 : decode cX2_init 27 = .ok (.aload_n 0, 1) := by decide +kernel
theorem dX2_init_28 : decode cX2_init 28 = .ok (.getfield 18, 3) := by decide +kernel
theorem dX2_init_31 : decode cX2_init 31 = .ok (.iconst 0, 1) := by decide +kernel
theorem dX2_init_32 : decode cX2_init 32 = .ok (.iconst 5, 1) := by decide +kernel
theorem dX2_init_33 : decode cX2_init 33 = .ok (.iastore, 1) := by decide +kernel
theorem dX2_init_34 : decode cX2_init 34 = .ok (.aload_n 0, 1) := by decide +kernel
theorem dX2_init_35 : decode cX2_init 35 = .ok (.getfield 18, 3) := by decide +kernel
theorem dX2_init_38 : decode cX2_init 38 = .ok (.iconst 1, 1) := by decide +kernel
theorem dX2_init_39 : decode cX2_init 39 = .ok (.bipush (-5), 2) := by decide +kernel
theorem dX2_init_41 : decode cX2_init 41 = .ok (.iastore, 1) := by decide +kernel
theorem dX2_init_42 : decode cX2_init 42 = .ok (.aload_n 0, 1) := by decide +kernel
theorem dX2_init_43 : decode cX2_init 43 = .ok (.iconst 4, 1) := by decide +kernel
theorem dX2_init_44 : decode cX2_init 44 = .ok (.newarray .int, 2) := by decide +kernel
theorem dX2_init_46 : decode cX2_init 46 = .ok (.putfield 21, 3) := by decide +kernel
theorem dX2_init_49 : decode cX2_init 49 = .ok (.aload_n 0, 1) := by decide +kernel
theorem dX2_init_50 : decode cX2_init 50 = .ok (.getfield 21, 3) := by decide +kernel
theorem dX2_init_53 : decode cX2_init 53 = .ok (.iconst 0, 1) := by decide +kernel
theorem dX2_init_54 : decode cX2_init 54 = .ok (.sipush 300, 3) := by decide +kernel
theorem dX2_init_57 : decode cX2_init 57 = .ok (.iastore, 1) := by decide +kernel
theorem dX2_init_58 : decode cX2_init 58 = .ok (.aload_n 0, 1) := by decide +kernel
theorem dX2_init_59 : decode cX2_init 59 = .ok (.getfield 21, 3) := by decide +kernel
theorem dX2_init_62 : decode cX2_init 62 = .ok (.iconst 1, 1) := by decide +kernel
theorem dX2_init_63 : decode cX2_init 63 = .ok (.bipush 100, 2) := by decide +kernel
theorem dX2_init_65 : decode cX2_init 65 = .ok (.iastore, 1) := by decide +kernel
theorem dX2_init_66 : decode cX2_init 66 = .ok (.aload_n 0, 1) := by decide +kernel
theorem dX2_init_67 : decode cX2_init 67 = .ok (.getfield 21, 3) := by decide +kernel
theorem dX2_init_70 : decode cX2_init 70 = .ok (.iconst 2, 1) := by decide +kernel
theorem dX2_init_71 : decode cX2_init 71 = .ok (.bipush 20, 2) := by decide +kernel
theorem dX2_init_73 : decode cX2_init 73 = .ok (.iastore, 1) := by decide +kernel
theorem dX2_init_74 : decode cX2_init 74 = .ok (.aload_n 0, 1) := by decide +kernel
theorem dX2_init_75 : decode cX2_init 75 = .ok (.getfield 21, 3) := by decide +kernel
theorem dX2_init_78 : decode cX2_init 78 = .ok (.iconst 3, 1) := by decide +kernel
theorem dX2_init_79 : decode cX2_init 79 = .ok (.bipush 10, 2) := by decide +kernel
theorem dX2_init_81 : decode cX2_init 81 = .ok (.iastore, 1) := by decide +kernel
theorem dX2_init_82 : decode cX2_init 82 = .ok (.aload_n 0, 1) := by decide +kernel
theorem dX2_init_83 : decode cX2_init 83 = .ok (.iconst 3, 1) := by decide +kernel
theorem dX2_init_84 : decode cX2_init 84 = .ok (.putfield 24, 3) := by decide +kernel
theorem dX2_init_87 : decode cX2_init 87 = .ok (.aload_n 0, 1) := by decide +kernel
theorem dX2_init_88 : decode cX2_init 88 = .ok (.new 28, 3) := by decide +kernel
theorem dX2_init_91 : decode cX2_init 91 = .ok (.dup, 1) := by decide +kernel
theorem dX2_init_92 : decode cX2_init 92 = .ok (.invokespecial 30, 3) := by decide +kernel
theorem dX2_init_95 : decode cX2_init 95 = .ok (.putfield 31, 3) := by decide +kernel
theorem dX2_init_98 : decode cX2_init 98 = .ok (.return_, 1) := by decide +kernel
set_option maxRecDepth 20000 in
theorem ggX2_becomeLike_X0_becomeLike : GoodIn wsX2_becomeLike wsX0_becomeLike := goodIn_r _ [16, 17, 18, 4, 5, 6, 19, 20, 21, 29, 30, 31, 32] (by decide +kernel) (by decide +kernel)
set_option maxRecDepth 20000 in
theorem gX2_becomeLike_X0_becomeLike : GoodIn wsX2_becomeLike (wsV RX2 44 RX0 yX0_becomeLike wsX0_becomeLike) := goodIn_app (goodIn_of _ (by decide +kernel)) ggX2_becomeLike_X0_becomeLike
theorem dX2_becomeLike_0 : decode cX2_becomeLike 0 = .ok (.aload_n 0, 1) := by decide +kernel
theorem dX2_becomeLike_1 : decode cX2_becomeLike 1 = .ok (.aload_n 1, 1) := by decide +kernel
theorem dX2_becomeLike_2 : decode cX2_becomeLike 2 = .ok (.getfield 35, 3) := by decide +kernel
theorem dX2_becomeLike_5 : decode cX2_becomeLike 5 = .ok (.putfield 35, 3) := by decide +kernel
theorem dX2_becomeLike_8 : decode cX2_becomeLike 8 = .ok (.aload_n 1, 1) := by decide +kernel
theorem dX2_becomeLike_9 : decode cX2_becomeLike 9 = .ok (.getfield 9, 3) := by decide +kernel
theorem dX2_becomeLike_12 : decode cX2_becomeLike 12 = .ok (.iconst 0, 1) := by decide +kernel
theorem dX2_becomeLike_13 : decode cX2_becomeLike 13 = .ok (.aload_n 0, 1) := by decide +kernel
theorem dX2_becomeLike_14 : decode cX2_becomeLike 14 = .ok (.getfield 9, 3) := by decide +kernel
theorem dX2_becomeLike_17 : decode cX2_becomeLike 17 = .ok (.iconst 0, 1) := by decide +kernel
theorem dX2_becomeLike_18 : decode cX2_becomeLike 18 = .ok (.bipush 6, 2) := by decide +kernel
theorem dX2_becomeLike_20 : decode cX2_becomeLike 20 = .ok (.invokestatic 38, 3) := by decide +kernel
theorem dX2_becomeLike_23 : decode cX2_becomeLike 23 = .ok (.aload_n 1, 1) := by decide +kernel
theorem dX2_becomeLike_24 : decode cX2_becomeLike 24 = .ok (.getfield 15, 3) := by decide +kernel
theorem dX2_becomeLike_27 : decode cX2_becomeLike 27 = .ok (.iconst 0, 1) := by decide +kernel
theorem dX2_becomeLike_28 : decode cX2_becomeLike 28 = .ok (.aload_n 0, 1) := by decide +kernel
theorem dX2_becomeLike_29 : decode cX2_becomeLike 29 = .ok (.getfield 15, 3) := by decide +kernel
theorem dX2_becomeLike_32 : decode cX2_becomeLike 32 = .ok (.iconst 0, 1) := by decide +kernel
theorem dX2_becomeLike_33 : decode cX2_becomeLike 33 = .ok (.bipush 6, 2) := by decide +kernel
theorem dX2_becomeLike_35 : decode cX2_becomeLike 35 = .ok (.invokestatic 38, 3) := by decide +kernel
theorem dX2_becomeLike_38 : decode cX2_becomeLike 38 = .ok (.aload_n 1, 1) := by decide +kernel
theorem dX2_becomeLike_39 : decode cX2_becomeLike 39 = .ok (.getfield 18, 3) := by decide +kernel
theorem dX2_becomeLike_42 : decode cX2_becomeLike 42 = .ok (.iconst 0, 1) := by decide +kernel
theorem dX2_becomeLike_43 : decode cX2_becomeLike 43 = .ok (.aload_n 0, 1) := by decide +kernel
theorem dX2_becomeLike_44 : decode cX2_becomeLike 44 = .ok (.getfield 18, 3) := by decide +kernel
theorem dX2_becomeLike_47 : decode cX2_becomeLike 47 = .ok (.iconst 0, 1) := by decide +kernel
theorem dX2_becomeLike_48 : decode cX2_becomeLike 48 = .ok (.iconst 2, 1) := by decide +kernel
theorem dX2_becomeLike_49 : decode cX2_becomeLike 49 = .ok (.invokestatic 38, 3) := by decide +kernel
theorem dX2_becomeLike_52 : decode cX2_becomeLike 52 = .ok (.aload_n 1, 1) := by decide +kernel
theorem dX2_becomeLike_53 : decode cX2_becomeLike 53 = .ok (.getfield 21, 3) := by decide +kernel
theorem dX2_becomeLike_56 : decode cX2_becomeLike 56 = .ok (.iconst 0, 1) := by decide +kernel
theorem dX2_becomeLike_57 : decode cX2_becomeLike 57 = .ok (.aload_n 0, 1) := by decide +kernel
theorem dX2_becomeLike_58 : decode cX2_becomeLike 58 = .ok (.getfield 21, 3) := by decide +kernel
theorem dX2_becomeLike_61 : decode cX2_becomeLike 61 = .ok (.iconst 0, 1) := by decide +kernel
theorem dX2_becomeLike_62 : decode cX2_becomeLike 62 = .ok (.iconst 4, 1) := by decide +kernel
theorem dX2_becomeLike_63 : decode cX2_becomeLike 63 = .ok (.invokestatic 38, 3) := by decide +kernel
theorem dX2_becomeLike_66 : decode cX2_becomeLike 66 = .ok (.aload_n 0, 1) := by decide +kernel
theorem dX2_becomeLike_67 : decode cX2_becomeLike 67 = .ok (.aload_n 1, 1) := by decide +kernel
theorem dX2_becomeLike_68 : decode cX2_becomeLike 68 = .ok (.getfield 24, 3) := by decide +kernel
theorem dX2_becomeLike_71 : decode cX2_becomeLike 71 = .ok (.putfield 24, 3) := by decide +kernel
theorem dX2_becomeLike_74 : decode cX2_becomeLike 74 = .ok (.aload_n 0, 1) := by decide +kernel
theorem dX2_becomeLike_75 : decode cX2_becomeLike 75 = .ok (.getfield 31, 3) := by decide +kernel
theorem dX2_becomeLike_78 : decode cX2_becomeLike 78 = .ok (.aload_n 1, 1) := by decide +kernel
theorem dX2_becomeLike_79 : decode cX2_becomeLike 79 = .ok (.getfield 31, 3) := by decide +kernel
theorem dX2_becomeLike_82 : decode cX2_becomeLike 82 = .ok (.invokevirtual 44, 3) := by decide +kernel
theorem dX2_becomeLike_85 : decode cX2_becomeLike 85 = .ok (.return_, 1) := by decide +kernel
theorem dX2_hasLayer_0 : decode cX2_hasLayer 0 = .ok (.iload_n 1, 1) := by decide +kernel
theorem dX2_hasLayer_1 : decode cX2_hasLayer 1 = .ok (.ifCond .lt 15, 3) := by decide +kernel
theorem dX2_hasLayer_4 : decode cX2_hasLayer 4 = .ok (.iload_n 1, 1) := by decide +kernel
theorem dX2_hasLayer_5 : decode cX2_hasLayer 5 = .ok (.aload_n 0, 1) := by decide +kernel
theorem dX2_hasLayer_6 : decode cX2_hasLayer 6 = .ok (.getfield 35, 3) := by decide +kernel
theorem dX2_hasLayer_9 : decode cX2_hasLayer 9 = .ok (.if_icmp .ge 7, 3) := by decide +kernel
theorem dX2_hasLayer_12 : decode cX2_hasLayer 12 = .ok (.iconst 1, 1) := by decide +kernel
theorem dX2_hasLayer_13 : decode cX2_hasLayer 13 = .ok (.goto 4, 3) := by decide +kernel
theorem dX2_hasLayer_16 : decode cX2_hasLayer 16 = .ok (.iconst 0, 1) := by decide +kernel
theorem dX2_hasLayer_17 : decode cX2_hasLayer 17 = .ok (.ireturn, 1) := by decide +kernel
theorem dX2_takesLayer_0 : decode cX2_takesLayer 0 = .ok (.iconst 0, 1) := by decide +kernel
theorem dX2_takesLayer_1 : decode cX2_takesLayer 1 = .ok (.istore_n 2, 1) := by decide +kernel
theorem dX2_takesLayer_2 : decode cX2_takesLayer 2 = .ok (.iload_n 2, 1) := by decide +kernel
theorem dX2_takesLayer_3 : decode cX2_takesLayer 3 = .ok (.aload_n 0, 1) := by decide +kernel
theorem dX2_takesLayer_4 : decode cX2_takesLayer 4 = .ok (.getfield 35, 3) := by decide +kernel
theorem dX2_takesLayer_7 : decode cX2_takesLayer 7 = .ok (.if_icmp .ge 21, 3) := by decide +kernel
theorem dX2_takesLayer_10 : decode cX2_takesLayer 10 = .ok (.aload_n 0, 1) := by decide +kernel
theorem dX2_takesLayer_11 : decode cX2_takesLayer 11 = .ok (.getfield 9, 3) := by decide +kernel
theorem dX2_takesLayer_14 : decode cX2_takesLayer 14 = .ok (.iload_n 2, 1) := by decide +kernel
theorem dX2_takesLayer_15 : decode cX2_takesLayer 15 = .ok (.iaload, 1) := by decide +kernel
theorem dX2_takesLayer_16 : decode cX2_takesLayer 16 = .ok (.iload_n 1, 1) := by decide +kernel
theorem dX2_takesLayer_17 : decode cX2_takesLayer 17 = .ok (.if_icmp .ne 5, 3) := by decide +kernel
theorem dX2_takesLayer_20 : decode cX2_takesLayer 20 = .ok (.iconst 0, 1) := by decide +kernel
theorem dX2_takesLayer_21 : decode cX2_takesLayer 21 = .ok (.ireturn, 1) := by decide +kernel
theorem dX2_takesLayer_22 : decode cX2_takesLayer 22 = .ok (.iinc 2 1, 3) := by decide +kernel
theorem dX2_takesLayer_25 : decode cX2_takesLayer 25 = .ok (.goto (-23), 3) := by decide +kernel
theorem dX2_takesLayer_28 : decode cX2_takesLayer 28 = .ok (.aload_n 0, 1) := by decide +kernel
theorem dX2_takesLayer_29 : decode cX2_takesLayer 29 = .ok (.getfield 35, 3) := by decide +kernel
theorem dX2_takesLayer_32 : decode cX2_takesLayer 32 = .ok (.bipush 6, 2) := by decide +kernel
theorem dX2_takesLayer_34 : decode cX2_takesLayer 34 = .ok (.if_icmp .ge 7, 3) := by decide +kernel
theorem dX2_takesLayer_37 : decode cX2_takesLayer 37 = .ok (.iconst 1, 1) := by decide +kernel
theorem dX2_takesLayer_38 : decode cX2_takesLayer 38 = .ok (.goto 4, 3) := by decide +kernel
theorem dX2_takesLayer_41 : decode cX2_takesLayer 41 = .ok (.iconst 0, 1) := by decide +kernel
theorem dX2_takesLayer_42 : decode cX2_takesLayer 42 = .ok (.ireturn, 1) := by decide +kernel
theorem dX2_addLayer_0 : decode cX2_addLayer 0 = .ok (.aload_n 0, 1) := by decide +kernel
theorem dX2_addLayer_1 : decode cX2_addLayer 1 = .ok (.getfield 35, 3) := by decide +kernel
theorem dX2_addLayer_4 : decode cX2_addLayer 4 = .ok (.istore_n 3, 1) := by decide +kernel
theorem dX2_addLayer_5 : decode cX2_addLayer 5 = .ok (.iload_n 3, 1) := by decide +kernel
theorem dX2_addLayer_6 : decode cX2_addLayer 6 = .ok (.ifCond .le 49, 3) := by decide +kernel
theorem dX2_addLayer_9 : decode cX2_addLayer 9 = .ok (.aload_n 0, 1) := by decide +kernel
theorem dX2_addLayer_10 : decode cX2_addLayer 10 = .ok (.getfield 9, 3) := by decide +kernel
theorem dX2_addLayer_13 : decode cX2_addLayer 13 = .ok (.iload_n 3, 1) := by decide +kernel
theorem dX2_addLayer_14 : decode cX2_addLayer 14 = .ok (.iconst 1, 1) := by decide +kernel
theorem dX2_addLayer_15 : decode cX2_addLayer 15 = .ok (.isub, 1) := by decide +kernel
theorem dX2_addLayer_16 : decode cX2_addLayer 16 = .ok (.iaload, 1) := by decide +kernel
theorem dX2_addLayer_17 : decode cX2_addLayer 17 = .ok (.iload_n 1, 1) := by decide +kernel
theorem dX2_addLayer_18 : decode cX2_addLayer 18 = .ok (.if_icmp .le 37, 3) := by decide +kernel
theorem dX2_addLayer_21 : decode cX2_addLayer 21 = .ok (.aload_n 0, 1) := by decide +kernel
theorem dX2_addLayer_22 : decode cX2_addLayer 22 = .ok (.getfield 9, 3) := by decide +kernel
theorem dX2_addLayer_25 : decode cX2_addLayer 25 = .ok (.iload_n 3, 1) := by decide +kernel
theorem dX2_addLayer_26 : decode cX2_addLayer 26 = .ok (.aload_n 0, 1) := by decide +kernel
theorem dX2_addLayer_27 : decode cX2_addLayer 27 = .ok (.getfield 9, 3) := by decide +kernel
theorem dX2_addLayer_30 : decode cX2_addLayer 30 = .ok (.iload_n 3, 1) := by decide +kernel
theorem dX2_addLayer_31 : decode cX2_addLayer 31 = .ok (.iconst 1, 1) := by decide +kernel
theorem dX2_addLayer_32 : decode cX2_addLayer 32 = .ok (.isub, 1) := by decide +kernel
theorem dX2_addLayer_33 : decode cX2_addLayer 33 = .ok (.iaload, 1) := by decide +kernel
theorem dX2_addLayer_34 : decode cX2_addLayer 34 = .ok (.iastore, 1) := by decide +kernel
theorem dX2_addLayer_35 : decode cX2_addLayer 35 = .ok (.aload_n 0, 1) := by decide +kernel
theorem dX2_addLayer_36 : decode cX2_addLayer 36 = .ok (.getfield 15, 3) := by decide +kernel
theorem dX2_addLayer_39 : decode cX2_addLayer 39 = .ok (.iload_n 3, 1) := by decide +kernel
theorem dX2_addLayer_40 : decode cX2_addLayer 40 = .ok (.aload_n 0, 1) := by decide +kernel
theorem dX2_addLayer_41 : decode cX2_addLayer 41 = .ok (.getfield 15, 3) := by decide +kernel
theorem dX2_addLayer_44 : decode cX2_addLayer 44 = .ok (.iload_n 3, 1) := by decide +kernel
theorem dX2_addLayer_45 : decode cX2_addLayer 45 = .ok (.iconst 1, 1) := by decide +kernel
theorem dX2_addLayer_46 : decode cX2_addLayer 46 = .ok (.isub, 1) := by decide +kernel
theorem dX2_addLayer_47 : decode cX2_addLayer 47 = .ok (.iaload, 1) := by decide +kernel
theorem dX2_addLayer_48 : decode cX2_addLayer 48 = .ok (.iastore, 1) := by decide +kernel
theorem dX2_addLayer_49 : decode cX2_addLayer 49 = .ok (.iinc 3 (-1), 3) := by decide +kernel
theorem dX2_addLayer_52 : decode cX2_addLayer 52 = .ok (.goto (-47), 3) := by decide +kernel
theorem dX2_addLayer_55 : decode cX2_addLayer 55 = .ok (.aload_n 0, 1) := by decide +kernel
theorem dX2_addLayer_56 : decode cX2_addLayer 56 = .ok (.getfield 9, 3) := by decide +kernel
theorem dX2_addLayer_59 : decode cX2_addLayer 59 = .ok (.iload_n 3, 1) := by decide +kernel
theorem dX2_addLayer_60 : decode cX2_addLayer 60 = .ok (.iload_n 1, 1) := by decide +kernel
theorem dX2_addLayer_61 : decode cX2_addLayer 61 = .ok (.iastore, 1) := by decide +kernel
theorem dX2_addLayer_62 : decode cX2_addLayer 62 = .ok (.aload_n 0, 1) := by decide +kernel
theorem dX2_addLayer_63 : decode cX2_addLayer 63 = .ok (.getfield 15, 3) := by decide +kernel
theorem dX2_addLayer_66 : decode cX2_addLayer 66 = .ok (.iload_n 3, 1) := by decide +kernel
theorem dX2_addLayer_67 : decode cX2_addLayer 67 = .ok (.iload_n 2, 1) := by decide +kernel
theorem dX2_addLayer_68 : decode cX2_addLayer 68 = .ok (.iastore, 1) := by decide +kernel
theorem dX2_addLayer_69 : decode cX2_addLayer 69 = .ok (.aload_n 0, 1) := by decide +kernel
theorem dX2_addLayer_70 : decode cX2_addLayer 70 = .ok (.dup, 1) := by decide +kernel
theorem dX2_addLayer_71 : decode cX2_addLayer 71 = .ok (.getfield 35, 3) := by decide +kernel
theorem dX2_addLayer_74 : decode cX2_addLayer 74 = .ok (.iconst 1, 1) := by decide +kernel
theorem dX2_addLayer_75 : decode cX2_addLayer 75 = .ok (.iadd, 1) := by decide +kernel
theorem dX2_addLayer_76 : decode cX2_addLayer 76 = .ok (.putfield 35, 3) := by decide +kernel
theorem dX2_addLayer_79 : decode cX2_addLayer 79 = .ok (.iload_n 3, 1) := by decide +kernel
theorem dX2_addLayer_80 : decode cX2_addLayer 80 = .ok (.ireturn, 1) := by decide +kernel
theorem dX2_removeLayer_0 : decode cX2_removeLayer 0 = .ok (.aload_n 0, 1) := by decide +kernel
theorem dX2_removeLayer_1 : decode cX2_removeLayer 1 = .ok (.getfield 9, 3) := by decide +kernel
theorem dX2_removeLayer_4 : decode cX2_removeLayer 4 = .ok (.iload_n 1, 1) := by decide +kernel
theorem dX2_removeLayer_5 : decode cX2_removeLayer 5 = .ok (.iaload, 1) := by decide +kernel
theorem dX2_removeLayer_6 : decode cX2_removeLayer 6 = .ok (.istore_n 2, 1) := by decide +kernel
theorem dX2_removeLayer_7 : decode cX2_removeLayer 7 = .ok (.iload_n 1, 1) := by decide +kernel
theorem dX2_removeLayer_8 : decode cX2_removeLayer 8 = .ok (.iconst 1, 1) := by decide +kernel
theorem dX2_removeLayer_9 : decode cX2_removeLayer 9 = .ok (.iadd, 1) := by decide +kernel
theorem dX2_removeLayer_10 : decode cX2_removeLayer 10 = .ok (.istore_n 3, 1) := by decide +kernel
theorem dX2_removeLayer_11 : decode cX2_removeLayer 11 = .ok (.iload_n 3, 1) := by decide +kernel
theorem dX2_removeLayer_12 : decode cX2_removeLayer 12 = .ok (.aload_n 0, 1) := by decide +kernel
theorem dX2_removeLayer_13 : decode cX2_removeLayer 13 = .ok (.getfield 35, 3) := by decide +kernel
theorem dX2_removeLayer_16 : decode cX2_removeLayer 16 = .ok (.if_icmp .ge 37, 3) := by decide +kernel
theorem dX2_removeLayer_19 : decode cX2_removeLayer 19 = .ok (.aload_n 0, 1) := by decide +kernel
theorem dX2_removeLayer_20 : decode cX2_removeLayer 20 = .ok (.getfield 9, 3) := by decide +kernel
theorem dX2_removeLayer_23 : decode cX2_removeLayer 23 = .ok (.iload_n 3, 1) := by decide +kernel
theorem dX2_removeLayer_24 : decode cX2_removeLayer 24 = .ok (.iconst 1, 1) := by decide +kernel
theorem dX2_removeLayer_25 : decode cX2_removeLayer 25 = .ok (.isub, 1) := by decide +kernel
theorem dX2_removeLayer_26 : decode cX2_removeLayer 26 = .ok (.aload_n 0, 1) := by decide +kernel
theorem dX2_removeLayer_27 : decode cX2_removeLayer 27 = .ok (.getfield 9, 3) := by decide +kernel
theorem dX2_removeLayer_30 : decode cX2_removeLayer 30 = .ok (.iload_n 3, 1) := by decide +kernel
theorem dX2_removeLayer_31 : decode cX2_removeLayer 31 = .ok (.iaload, 1) := by decide +kernel
theorem dX2_removeLayer_32 : decode cX2_removeLayer 32 = .ok (.iastore, 1) := by decide +kernel
theorem dX2_removeLayer_33 : decode cX2_removeLayer 33 = .ok (.aload_n 0, 1) := by decide +kernel
theorem dX2_removeLayer_34 : decode cX2_removeLayer 34 = .ok (.getfield 15, 3) := by decide +kernel
theorem dX2_removeLayer_37 : decode cX2_removeLayer 37 = .ok (.iload_n 3, 1) := by decide +kernel
theorem dX2_removeLayer_38 : decode cX2_removeLayer 38 = .ok (.iconst 1, 1) := by decide +kernel
theorem dX2_removeLayer_39 : decode cX2_removeLayer 39 = .ok (.isub, 1) := by decide +kernel
theorem dX2_removeLayer_40 : decode cX2_removeLayer 40 = .ok (.aload_n 0, 1) := by decide +kernel
theorem dX2_removeLayer_41 : decode cX2_removeLayer 41 = .ok (.getfield 15, 3) := by decide +kernel
theorem dX2_removeLayer_44 : decode cX2_removeLayer 44 = .ok (.iload_n 3, 1) := by decide +kernel
theorem dX2_removeLayer_45 : decode cX2_removeLayer 45 = .ok (.iaload, 1) := by decide +kernel
theorem dX2_removeLayer_46 : decode cX2_removeLayer 46 = .ok (.iastore, 1) := by decide +kernel
theorem dX2_removeLayer_47 : decode cX2_removeLayer 47 = .ok (.iinc 3 1, 3) := by decide +kernel
theorem dX2_removeLayer_50 : decode cX2_removeLayer 50 = .ok (.goto (-39), 3) := by decide +kernel
theorem dX2_removeLayer_53 : decode cX2_removeLayer 53 = .ok (.aload_n 0, 1) := by decide +kernel
theorem dX2_removeLayer_54 : decode cX2_removeLayer 54 = .ok (.dup, 1) := by decide +kernel
theorem dX2_removeLayer_55 : decode cX2_removeLayer 55 = .ok (.getfield 35, 3) := by decide +kernel
theorem dX2_removeLayer_58 : decode cX2_removeLayer 58 = .ok (.iconst 1, 1) := by decide +kernel
theorem dX2_removeLayer_59 : decode cX2_removeLayer 59 = .ok (.isub, 1) := by decide +kernel
theorem dX2_removeLayer_60 : decode cX2_removeLayer 60 = .ok (.putfield 35, 3) := by decide +kernel
theorem dX2_removeLayer_63 : decode cX2_removeLayer 63 = .ok (.iload_n 2, 1) := by decide +kernel
theorem dX2_removeLayer_64 : decode cX2_removeLayer 64 = .ok (.ireturn, 1) := by decide +kernel
theorem dX2_removeThinLayers_0 : decode cX2_removeThinLayers 0 = .ok (.iconst 0, 1) := by decide +kernel
theorem dX2_removeThinLayers_1 : decode cX2_removeThinLayers 1 = .ok (.istore_n 2, 1) := by decide +kernel
theorem dX2_removeThinLayers_2 : decode cX2_removeThinLayers 2 = .ok (.iconst 0, 1) := by decide +kernel
theorem dX2_removeThinLayers_3 : decode cX2_removeThinLayers 3 = .ok (.istore_n 3, 1) := by decide +kernel
theorem dX2_removeThinLayers_4 : decode cX2_removeThinLayers 4 = .ok (.iload_n 3, 1) := by decide +kernel
theorem dX2_removeThinLayers_5 : decode cX2_removeThinLayers 5 = .ok (.aload_n 0, 1) := by decide +kernel
theorem dX2_removeThinLayers_6 : decode cX2_removeThinLayers 6 = .ok (.getfield 35, 3) := by decide +kernel
theorem dX2_removeThinLayers_9 : decode cX2_removeThinLayers 9 = .ok (.if_icmp .ge 46, 3) := by decide +kernel
theorem dX2_removeThinLayers_12 : decode cX2_removeThinLayers 12 = .ok (.aload_n 0, 1) := by decide +kernel
theorem dX2_removeThinLayers_13 : decode cX2_removeThinLayers 13 = .ok (.getfield 15, 3) := by decide +kernel
theorem dX2_removeThinLayers_16 : decode cX2_removeThinLayers 16 = .ok (.iload_n 3, 1) := by decide +kernel
theorem dX2_removeThinLayers_17 : decode cX2_removeThinLayers 17 = .ok (.iaload, 1) := by decide +kernel
theorem dX2_removeThinLayers_18 : decode cX2_removeThinLayers 18 = .ok (.iload_n 1, 1) := by decide +kernel
theorem dX2_removeThinLayers_19 : decode cX2_removeThinLayers 19 = .ok (.if_icmp .le 30, 3) := by decide +kernel
theorem dX2_removeThinLayers_22 : decode cX2_removeThinLayers 22 = .ok (.aload_n 0, 1) := by decide +kernel
theorem dX2_removeThinLayers_23 : decode cX2_removeThinLayers 23 = .ok (.getfield 9, 3) := by decide +kernel
theorem dX2_removeThinLayers_26 : decode cX2_removeThinLayers 26 = .ok (.iload_n 2, 1) := by decide +kernel
theorem dX2_removeThinLayers_27 : decode cX2_removeThinLayers 27 = .ok (.aload_n 0, 1) := by decide +kernel
theorem dX2_removeThinLayers_28 : decode cX2_removeThinLayers 28 = .ok (.getfield 9, 3) := by decide +kernel
theorem dX2_removeThinLayers_31 : decode cX2_removeThinLayers 31 = .ok (.iload_n 3, 1) := by decide +kernel
theorem dX2_removeThinLayers_32 : decode cX2_removeThinLayers 32 = .ok (.iaload, 1) := by decide +kernel
theorem dX2_removeThinLayers_33 : decode cX2_removeThinLayers 33 = .ok (.iastore, 1) := by decide +kernel
theorem dX2_removeThinLayers_34 : decode cX2_removeThinLayers 34 = .ok (.aload_n 0, 1) := by decide +kernel
theorem dX2_removeThinLayers_35 : decode cX2_removeThinLayers 35 = .ok (.getfield 15, 3) := by decide +kernel
theorem dX2_removeThinLayers_38 : decode cX2_removeThinLayers 38 = .ok (.iload_n 2, 1) := by decide +kernel
theorem dX2_removeThinLayers_39 : decode cX2_removeThinLayers 39 = .ok (.aload_n 0, 1) := by decide +kernel
theorem dX2_removeThinLayers_40 : decode cX2_removeThinLayers 40 = .ok (.getfield 15, 3) := by decide +kernel
theorem dX2_removeThinLayers_43 : decode cX2_removeThinLayers 43 = .ok (.iload_n 3, 1) := by decide +kernel
theorem dX2_removeThinLayers_44 : decode cX2_removeThinLayers 44 = .ok (.iaload, 1) := by decide +kernel
theorem dX2_removeThinLayers_45 : decode cX2_removeThinLayers 45 = .ok (.iastore, 1) := by decide +kernel
theorem dX2_removeThinLayers_46 : decode cX2_removeThinLayers 46 = .ok (.iinc 2 1, 3) := by decide +kernel
theorem dX2_removeThinLayers_49 : decode cX2_removeThinLayers 49 = .ok (.iinc 3 1, 3) := by decide +kernel
theorem dX2_removeThinLayers_52 : decode cX2_removeThinLayers 52 = .ok (.goto (-48), 3) := by decide +kernel
theorem dX2_removeThinLayers_55 : decode cX2_removeThinLayers 55 = .ok (.aload_n 0, 1) := by decide +kernel
theorem dX2_removeThinLayers_56 : decode cX2_removeThinLayers 56 = .ok (.getfield 35, 3) := by decide +kernel
theorem dX2_removeThinLayers_59 : decode cX2_removeThinLayers 59 = .ok (.iload_n 2, 1) := by decide +kernel
theorem dX2_removeThinLayers_60 : decode cX2_removeThinLayers 60 = .ok (.isub, 1) := by decide +kernel
theorem dX2_removeThinLayers_61 : decode cX2_removeThinLayers 61 = .ok (.istore_n 3, 1) := by decide +kernel
theorem dX2_removeThinLayers_62 : decode cX2_removeThinLayers 62 = .ok (.aload_n 0, 1) := by decide +kernel
theorem dX2_removeThinLayers_63 : decode cX2_removeThinLayers 63 = .ok (.iload_n 2, 1) := by decide +kernel
theorem dX2_removeThinLayers_64 : decode cX2_removeThinLayers 64 = .ok (.putfield 35, 3) := by decide +kernel
theorem dX2_removeThinLayers_67 : decode cX2_removeThinLayers 67 = .ok (.iload_n 3, 1) := by decide +kernel
theorem dX2_removeThinLayers_68 : decode cX2_removeThinLayers 68 = .ok (.ireturn, 1) := by decide +kernel
theorem dX2_giveSlope_0 : decode cX2_giveSlope 0 = .ok (.aload_n 0, 1) := by decide +kernel
theorem dX2_giveSlope_1 : decode cX2_giveSlope 1 = .ok (.getfield 18, 3) := by decide +kernel
theorem dX2_giveSlope_4 : decode cX2_giveSlope 4 = .ok (.iload_n 1, 1) := by decide +kernel
theorem dX2_giveSlope_5 : decode cX2_giveSlope 5 = .ok (.iaload, 1) := by decide +kernel
theorem dX2_giveSlope_6 : decode cX2_giveSlope 6 = .ok (.istore_n 3, 1) := by decide +kernel
theorem dX2_giveSlope_7 : decode cX2_giveSlope 7 = .ok (.aload_n 0, 1) := by decide +kernel
theorem dX2_giveSlope_8 : decode cX2_giveSlope 8 = .ok (.getfield 18, 3) := by decide +kernel
theorem dX2_giveSlope_11 : decode cX2_giveSlope 11 = .ok (.iload_n 1, 1) := by decide +kernel
theorem dX2_giveSlope_12 : decode cX2_giveSlope 12 = .ok (.iload_n 2, 1) := by decide +kernel
theorem dX2_giveSlope_13 : decode cX2_giveSlope 13 = .ok (.iastore, 1) := by decide +kernel
theorem dX2_giveSlope_14 : decode cX2_giveSlope 14 = .ok (.iload_n 3, 1) := by decide +kernel
theorem dX2_giveSlope_15 : decode cX2_giveSlope 15 = .ok (.ireturn, 1) := by decide +kernel
theorem dX2_isLit_0 : decode cX2_isLit 0 = .ok (.aload_n 0, 1) := by decide +kernel
theorem dX2_isLit_1 : decode cX2_isLit 1 = .ok (.getfield 24, 3) := by decide +kernel
theorem dX2_isLit_4 : decode cX2_isLit 4 = .ok (.iload_n 1, 1) := by decide +kernel
theorem dX2_isLit_5 : decode cX2_isLit 5 = .ok (.ishr, 1) := by decide +kernel
theorem dX2_isLit_6 : decode cX2_isLit 6 = .ok (.iconst 1, 1) := by decide +kernel
theorem dX2_isLit_7 : decode cX2_isLit 7 = .ok (.iand, 1) := by decide +kernel
theorem dX2_isLit_8 : decode cX2_isLit 8 = .ok (.iconst 1, 1) := by decide +kernel
theorem dX2_isLit_9 : decode cX2_isLit 9 = .ok (.if_icmp .ne 7, 3) := by decide +kernel
theorem dX2_isLit_12 : decode cX2_isLit 12 = .ok (.iconst 1, 1) := by decide +kernel
theorem dX2_isLit_13 : decode cX2_isLit 13 = .ok (.goto 4, 3) := by decide +kernel
theorem dX2_isLit_16 : decode cX2_isLit 16 = .ok (.iconst 0, 1) := by decide +kernel
theorem dX2_isLit_17 : decode cX2_isLit 17 = .ok (.ireturn, 1) := by decide +kernel
set_option maxRecDepth 20000 in
theorem ggX2_switchLight_X2_isLit : GoodIn wsX2_switchLight wsX2_isLit := goodIn_r _ [6, 1, 7, 8, 9, 10, 11, 12, 13] (by decide +kernel) (by decide +kernel)
set_option maxRecDepth 20000 in
theorem gX2_switchLight_X2_isLit : GoodIn wsX2_switchLight (wsV RX2 48 RX2 yX2_isLit wsX2_isLit) := goodIn_app (goodIn_of _ (by decide +kernel)) ggX2_switchLight_X2_isLit
theorem dX2_switchLight_0 : decode cX2_switchLight 0 = .ok (.aload_n 0, 1) := by decide +kernel
theorem dX2_switchLight_1 : decode cX2_switchLight 1 = .ok (.dup, 1) := by decide +kernel
theorem dX2_switchLight_2 : decode cX2_switchLight 2 = .ok (.getfield 24, 3) := by decide +kernel
theorem dX2_switchLight_5 : decode cX2_switchLight 5 = .ok (.iconst 1, 1) := by decide +kernel
theorem dX2_switchLight_6 : decode cX2_switchLight 6 = .ok (.iload_n 1, 1) := by decide +kernel
theorem dX2_switchLight_7 : decode cX2_switchLight 7 = .ok (.ishl, 1) := by decide +kernel
theorem dX2_switchLight_8 : decode cX2_switchLight 8 = .ok (.ixor, 1) := by decide +kernel
theorem dX2_switchLight_9 : decode cX2_switchLight 9 = .ok (.putfield 24, 3) := by decide +kernel
theorem dX2_switchLight_12 : decode cX2_switchLight 12 = .ok (.aload_n 0, 1) := by decide +kernel
theorem dX2_switchLight_13 : decode cX2_switchLight 13 = .ok (.iload_n 1, 1) := by decide +kernel
theorem dX2_switchLight_14 : decode cX2_switchLight 14 = .ok (.invokevirtual 48, 3) := by decide +kernel
theorem dX2_switchLight_17 : decode cX2_switchLight 17 = .ok (.ifCond .eq 7, 3) := by decide +kernel
theorem dX2_switchLight_20 : decode cX2_switchLight 20 = .ok (.iconst 1, 1) := by decide +kernel
theorem dX2_switchLight_21 : decode cX2_switchLight 21 = .ok (.goto 4, 3) := by decide +kernel
theorem dX2_switchLight_24 : decode cX2_switchLight 24 = .ok (.iconst 0, 1) := by decide +kernel
theorem dX2_switchLight_25 : decode cX2_switchLight 25 = .ok (.ireturn, 1) := by decide +kernel
theorem dX2_place_0 : decode cX2_place 0 = .ok (.iload_n 1, 1) := by decide +kernel
theorem dX2_place_1 : decode cX2_place 1 = .ok (.ifCond .ne 7, 3) := by decide +kernel
theorem dX2_place_4 : decode cX2_place 4 = .ok (.iconst 0, 1) := by decide +kernel
theorem dX2_place_5 : decode cX2_place 5 = .ok (.goto 9, 3) := by decide +kernel
theorem dX2_place_8 : decode cX2_place 8 = .ok (.aload_n 0, 1) := by decide +kernel
theorem dX2_place_9 : decode cX2_place 9 = .ok (.getfield 21, 3) := by decide +kernel
theorem dX2_place_12 : decode cX2_place 12 = .ok (.iconst 0, 1) := by decide +kernel
theorem dX2_place_13 : decode cX2_place 13 = .ok (.iaload, 1) := by decide +kernel
theorem dX2_place_14 : decode cX2_place 14 = .ok (.istore 4, 2) := by decide +kernel
theorem dX2_place_16 : decode cX2_place 16 = .ok (.iload 4, 2) := by decide +kernel
theorem dX2_place_18 : decode cX2_place 18 = .ok (.iload_n 2, 1) := by decide +kernel
theorem dX2_place_19 : decode cX2_place 19 = .ok (.iload_n 3, 1) := by decide +kernel
theorem dX2_place_20 : decode cX2_place 20 = .ok (.imul, 1) := by decide +kernel
theorem dX2_place_21 : decode cX2_place 21 = .ok (.bipush 10, 2) := by decide +kernel
theorem dX2_place_23 : decode cX2_place 23 = .ok (.idiv, 1) := by decide +kernel
theorem dX2_place_24 : decode cX2_place 24 = .ok (.iadd, 1) := by decide +kernel
theorem dX2_place_25 : decode cX2_place 25 = .ok (.ireturn, 1) := by decide +kernel
set_option maxRecDepth 20000 in
theorem ggX2_distance_X2_distanceWith : GoodIn wsX2_distance wsX2_distanceWith := goodIn_r _ [6, 7, 8, 9, 10, 5, 11, 12, 13, 14, 15, 16, 17, 18, 19] (by decide +kernel) (by decide +kernel)
set_option maxRecDepth 20000 in
theorem gX2_distance_X2_distanceWith : GoodIn wsX2_distance (wsV RX2 52 RX2 yX2_distanceWith wsX2_distanceWith) := goodIn_app (goodIn_of _ (by decide +kernel)) ggX2_distance_X2_distanceWith
theorem dX2_distance_0 : decode cX2_distance 0 = .ok (.aload_n 0, 1) := by decide +kernel
theorem dX2_distance_1 : decode cX2_distance 1 = .ok (.iload_n 1, 1) := by decide +kernel
theorem dX2_distance_2 : decode cX2_distance 2 = .ok (.aload_n 0, 1) := by decide +kernel
theorem dX2_distance_3 : decode cX2_distance 3 = .ok (.getfield 18, 3) := by decide +kernel
theorem dX2_distance_6 : decode cX2_distance 6 = .ok (.iconst 0, 1) := by decide +kernel
theorem dX2_distance_7 : decode cX2_distance 7 = .ok (.iaload, 1) := by decide +kernel
theorem dX2_distance_8 : decode cX2_distance 8 = .ok (.aload_n 0, 1) := by decide +kernel
theorem dX2_distance_9 : decode cX2_distance 9 = .ok (.getfield 18, 3) := by decide +kernel
theorem dX2_distance_12 : decode cX2_distance 12 = .ok (.iconst 1, 1) := by decide +kernel
theorem dX2_distance_13 : decode cX2_distance 13 = .ok (.iaload, 1) := by decide +kernel
theorem dX2_distance_14 : decode cX2_distance 14 = .ok (.invokevirtual 52, 3) := by decide +kernel
theorem dX2_distance_17 : decode cX2_distance 17 = .ok (.ireturn, 1) := by decide +kernel
set_option maxRecDepth 20000 in
theorem ggX2_distanceWith_X2_place : GoodIn wsX2_distanceWith wsX2_place := goodIn_r _ [6, 7, 8, 9, 10, 11, 12, 13, 14] (by decide +kernel) (by decide +kernel)
set_option maxRecDepth 20000 in
theorem gX2_distanceWith_X2_place : GoodIn wsX2_distanceWith (wsV RX2 56 RX2 yX2_place wsX2_place) := goodIn_app (goodIn_of _ (by decide +kernel)) ggX2_distanceWith_X2_place
theorem dX2_distanceWith_0 : decode cX2_distanceWith 0 = .ok (.aload_n 0, 1) := by decide +kernel
theorem dX2_distanceWith_1 : decode cX2_distanceWith 1 = .ok (.iconst 1, 1) := by decide +kernel
theorem dX2_distanceWith_2 : decode cX2_distanceWith 2 = .ok (.iload_n 3, 1) := by decide +kernel
theorem dX2_distanceWith_3 : decode cX2_distanceWith 3 = .ok (.aload_n 0, 1) := by decide +kernel
theorem dX2_distanceWith_4 : decode cX2_distanceWith 4 = .ok (.getfield 9, 3) := by decide +kernel
theorem dX2_distanceWith_7 : decode cX2_distanceWith 7 = .ok (.iload_n 1, 1) := by decide +kernel
theorem dX2_distanceWith_8 : decode cX2_distanceWith 8 = .ok (.iaload, 1) := by decide +kernel
theorem dX2_distanceWith_9 : decode cX2_distanceWith 9 = .ok (.invokevirtual 56, 3) := by decide +kernel
theorem dX2_distanceWith_12 : decode cX2_distanceWith 12 = .ok (.aload_n 0, 1) := by decide +kernel
theorem dX2_distanceWith_13 : decode cX2_distanceWith 13 = .ok (.iconst 0, 1) := by decide +kernel
theorem dX2_distanceWith_14 : decode cX2_distanceWith 14 = .ok (.iload_n 2, 1) := by decide +kernel
theorem dX2_distanceWith_15 : decode cX2_distanceWith 15 = .ok (.aload_n 0, 1) := by decide +kernel
theorem dX2_distanceWith_16 : decode cX2_distanceWith 16 = .ok (.getfield 9, 3) := by decide +kernel
theorem dX2_distanceWith_19 : decode cX2_distanceWith 19 = .ok (.iload_n 1, 1) := by decide +kernel
theorem dX2_distanceWith_20 : decode cX2_distanceWith 20 = .ok (.iaload, 1) := by decide +kernel
theorem dX2_distanceWith_21 : decode cX2_distanceWith 21 = .ok (.invokevirtual 56, 3) := by decide +kernel
theorem dX2_distanceWith_24 : decode cX2_distanceWith 24 = .ok (.isub, 1) := by decide +kernel
theorem dX2_distanceWith_25 : decode cX2_distanceWith 25 = .ok (.ireturn, 1) := by decide +kernel
theorem dX2_meetingHeight_0 : decode cX2_meetingHeight 0 = .ok (.iload_n 1, 1) := by decide +kernel
theorem dX2_meetingHeight_1 : decode cX2_meetingHeight 1 = .ok (.iload_n 2, 1) := by decide +kernel
theorem dX2_meetingHeight_2 : decode cX2_meetingHeight 2 = .ok (.if_icmp .le 19, 3) := by decide +kernel
theorem dX2_meetingHeight_5 : decode cX2_meetingHeight 5 = .ok (.bipush 10, 2) := by decide +kernel
theorem dX2_meetingHeight_7 : decode cX2_meetingHeight 7 = .ok (.aload_n 0, 1) := by decide +kernel
theorem dX2_meetingHeight_8 : decode cX2_meetingHeight 8 = .ok (.getfield 21, 3) := by decide +kernel
theorem dX2_meetingHeight_11 : decode cX2_meetingHeight 11 = .ok (.iconst 0, 1) := by decide +kernel
theorem dX2_meetingHeight_12 : decode cX2_meetingHeight 12 = .ok (.iaload, 1) := by decide +kernel
theorem dX2_meetingHeight_13 : decode cX2_meetingHeight 13 = .ok (.imul, 1) := by decide +kernel
theorem dX2_meetingHeight_14 : decode cX2_meetingHeight 14 = .ok (.iload_n 1, 1) := by decide +kernel
theorem dX2_meetingHeight_15 : decode cX2_meetingHeight 15 = .ok (.iload_n 2, 1) := by decide +kernel
theorem dX2_meetingHeight_16 : decode cX2_meetingHeight 16 = .ok (.isub, 1) := by decide +kernel
theorem dX2_meetingHeight_17 : decode cX2_meetingHeight 17 = .ok (.idiv, 1) := by decide +kernel
theorem dX2_meetingHeight_18 : decode cX2_meetingHeight 18 = .ok (.goto 5, 3) := by decide +kernel
theorem dX2_meetingHeight_21 : decode cX2_meetingHeight 21 = .ok (.ldc 59, 2) := by decide +kernel
theorem dX2_meetingHeight_23 : decode cX2_meetingHeight 23 = .ok (.ireturn, 1) := by decide +kernel
theorem dX2_throughHaze_0 : decode cX2_throughHaze 0 = .ok (.iload_n 0, 1) := by decide +kernel
theorem dX2_throughHaze_1 : decode cX2_throughHaze 1 = .ok (.i2l, 1) := by decide +kernel
theorem dX2_throughHaze_2 : decode cX2_throughHaze 2 = .ok (.iload_n 1, 1) := by decide +kernel
theorem dX2_throughHaze_3 : decode cX2_throughHaze 3 = .ok (.i2l, 1) := by decide +kernel
theorem dX2_throughHaze_4 : decode cX2_throughHaze 4 = .ok (.lmul, 1) := by decide +kernel
theorem dX2_throughHaze_5 : decode cX2_throughHaze 5 = .ok (.iload_n 2, 1) := by decide +kernel
theorem dX2_throughHaze_6 : decode cX2_throughHaze 6 = .ok (.i2l, 1) := by decide +kernel
theorem dX2_throughHaze_7 : decode cX2_throughHaze 7 = .ok (.lmul, 1) := by decide +kernel
theorem dX2_throughHaze_8 : decode cX2_throughHaze 8 = .ok (.ldc2_w 60, 3) := by decide +kernel
theorem dX2_throughHaze_11 : decode cX2_throughHaze 11 = .ok (.ldiv, 1) := by decide +kernel
theorem dX2_throughHaze_12 : decode cX2_throughHaze 12 = .ok (.lstore_n 3, 1) := by decide +kernel
theorem dX2_throughHaze_13 : decode cX2_throughHaze 13 = .ok (.lload_n 3, 1) := by decide +kernel
theorem dX2_throughHaze_14 : decode cX2_throughHaze 14 = .ok (.iload_n 0, 1) := by decide +kernel
theorem dX2_throughHaze_15 : decode cX2_throughHaze 15 = .ok (.i2l, 1) := by decide +kernel
theorem dX2_throughHaze_16 : decode cX2_throughHaze 16 = .ok (.lcmp, 1) := by decide +kernel
theorem dX2_throughHaze_17 : decode cX2_throughHaze 17 = .ok (.ifCond .ge 10, 3) := by decide +kernel
theorem dX2_throughHaze_20 : decode cX2_throughHaze 20 = .ok (.iload_n 0, 1) := by decide +kernel
theorem dX2_throughHaze_21 : decode cX2_throughHaze 21 = .ok (.lload_n 3, 1) := by decide +kernel
theorem dX2_throughHaze_22 : decode cX2_throughHaze 22 = .ok (.l2i, 1) := by decide +kernel
theorem dX2_throughHaze_23 : decode cX2_throughHaze 23 = .ok (.isub, 1) := by decide +kernel
theorem dX2_throughHaze_24 : decode cX2_throughHaze 24 = .ok (.goto 4, 3) := by decide +kernel
theorem dX2_throughHaze_27 : decode cX2_throughHaze 27 = .ok (.iconst 0, 1) := by decide +kernel
theorem dX2_throughHaze_28 : decode cX2_throughHaze 28 = .ok (.ireturn, 1) := by decide +kernel
theorem dX2_brightness_0 : decode cX2_brightness 0 = .ok (.iload_n 0, 1) := by decide +kernel
theorem dX2_brightness_1 : decode cX2_brightness 1 = .ok (.iload_n 1, 1) := by decide +kernel
theorem dX2_brightness_2 : decode cX2_brightness 2 = .ok (.imul, 1) := by decide +kernel
theorem dX2_brightness_3 : decode cX2_brightness 3 = .ok (.bipush 100, 2) := by decide +kernel
theorem dX2_brightness_5 : decode cX2_brightness 5 = .ok (.idiv, 1) := by decide +kernel
theorem dX2_brightness_6 : decode cX2_brightness 6 = .ok (.ireturn, 1) := by decide +kernel
set_option maxRecDepth 20000 in
theorem ggX2_strengthAt_X2_throughHaze : GoodIn wsX2_strengthAt wsX2_throughHaze := goodIn_r _ [7, 8] (by decide +kernel) (by decide +kernel)
set_option maxRecDepth 20000 in
theorem gX2_strengthAt_X2_throughHaze : GoodIn wsX2_strengthAt (va_wsS RX2 62 yX2_throughHaze wsX2_throughHaze) := goodIn_app (goodIn_of _ (by decide +kernel)) ggX2_strengthAt_X2_throughHaze
set_option maxRecDepth 20000 in
theorem ggX2_strengthAt_X2_brightness : GoodIn wsX2_strengthAt wsX2_brightness := goodIn_r _ [11] (by decide +kernel) (by decide +kernel)
set_option maxRecDepth 20000 in
theorem gX2_strengthAt_X2_brightness : GoodIn wsX2_strengthAt (va_wsS RX2 65 yX2_brightness wsX2_brightness) := goodIn_app (goodIn_of _ (by decide +kernel)) ggX2_strengthAt_X2_brightness
theorem dX2_strengthAt_0 : decode cX2_strengthAt 0 = .ok (.sipush 1000, 3) := by decide +kernel
theorem dX2_strengthAt_3 : decode cX2_strengthAt 3 = .ok (.istore_n 2, 1) := by decide +kernel
theorem dX2_strengthAt_4 : decode cX2_strengthAt 4 = .ok (.iconst 0, 1) := by decide +kernel
theorem dX2_strengthAt_5 : decode cX2_strengthAt 5 = .ok (.istore_n 3, 1) := by decide +kernel
theorem dX2_strengthAt_6 : decode cX2_strengthAt 6 = .ok (.iconst 0, 1) := by decide +kernel
theorem dX2_strengthAt_7 : decode cX2_strengthAt 7 = .ok (.istore 4, 2) := by decide +kernel
theorem dX2_strengthAt_9 : decode cX2_strengthAt 9 = .ok (.iload 4, 2) := by decide +kernel
theorem dX2_strengthAt_11 : decode cX2_strengthAt 11 = .ok (.iload_n 1, 1) := by decide +kernel
theorem dX2_strengthAt_12 : decode cX2_strengthAt 12 = .ok (.if_icmp .ge 51, 3) := by decide +kernel
theorem dX2_strengthAt_15 : decode cX2_strengthAt 15 = .ok (.iload_n 2, 1) := by decide +kernel
theorem dX2_strengthAt_16 : decode cX2_strengthAt 16 = .ok (.aload_n 0, 1) := by decide +kernel
theorem dX2_strengthAt_17 : decode cX2_strengthAt 17 = .ok (.getfield 21, 3) := by decide +kernel
theorem dX2_strengthAt_20 : decode cX2_strengthAt 20 = .ok (.iconst 1, 1) := by decide +kernel
theorem dX2_strengthAt_21 : decode cX2_strengthAt 21 = .ok (.iaload, 1) := by decide +kernel
theorem dX2_strengthAt_22 : decode cX2_strengthAt 22 = .ok (.aload_n 0, 1) := by decide +kernel
theorem dX2_strengthAt_23 : decode cX2_strengthAt 23 = .ok (.getfield 9, 3) := by decide +kernel
theorem dX2_strengthAt_26 : decode cX2_strengthAt 26 = .ok (.iload 4, 2) := by decide +kernel
theorem dX2_strengthAt_28 : decode cX2_strengthAt 28 = .ok (.iaload, 1) := by decide +kernel
theorem dX2_strengthAt_29 : decode cX2_strengthAt 29 = .ok (.iload_n 3, 1) := by decide +kernel
theorem dX2_strengthAt_30 : decode cX2_strengthAt 30 = .ok (.isub, 1) := by decide +kernel
theorem dX2_strengthAt_31 : decode cX2_strengthAt 31 = .ok (.invokestatic 62, 3) := by decide +kernel
theorem dX2_strengthAt_34 : decode cX2_strengthAt 34 = .ok (.istore_n 2, 1) := by decide +kernel
theorem dX2_strengthAt_35 : decode cX2_strengthAt 35 = .ok (.iload_n 2, 1) := by decide +kernel
theorem dX2_strengthAt_36 : decode cX2_strengthAt 36 = .ok (.iload_n 2, 1) := by decide +kernel
theorem dX2_strengthAt_37 : decode cX2_strengthAt 37 = .ok (.aload_n 0, 1) := by decide +kernel
theorem dX2_strengthAt_38 : decode cX2_strengthAt 38 = .ok (.getfield 15, 3) := by decide +kernel
theorem dX2_strengthAt_41 : decode cX2_strengthAt 41 = .ok (.iload 4, 2) := by decide +kernel
theorem dX2_strengthAt_43 : decode cX2_strengthAt 43 = .ok (.iaload, 1) := by decide +kernel
theorem dX2_strengthAt_44 : decode cX2_strengthAt 44 = .ok (.invokestatic 65, 3) := by decide +kernel
theorem dX2_strengthAt_47 : decode cX2_strengthAt 47 = .ok (.isub, 1) := by decide +kernel
theorem dX2_strengthAt_48 : decode cX2_strengthAt 48 = .ok (.istore_n 2, 1) := by decide +kernel
theorem dX2_strengthAt_49 : decode cX2_strengthAt 49 = .ok (.aload_n 0, 1) := by decide +kernel
theorem dX2_strengthAt_50 : decode cX2_strengthAt 50 = .ok (.getfield 9, 3) := by decide +kernel
theorem dX2_strengthAt_53 : decode cX2_strengthAt 53 = .ok (.iload 4, 2) := by decide +kernel
theorem dX2_strengthAt_55 : decode cX2_strengthAt 55 = .ok (.iaload, 1) := by decide +kernel
theorem dX2_strengthAt_56 : decode cX2_strengthAt 56 = .ok (.istore_n 3, 1) := by decide +kernel
theorem dX2_strengthAt_57 : decode cX2_strengthAt 57 = .ok (.iinc 4 1, 3) := by decide +kernel
theorem dX2_strengthAt_60 : decode cX2_strengthAt 60 = .ok (.goto (-51), 3) := by decide +kernel
theorem dX2_strengthAt_63 : decode cX2_strengthAt 63 = .ok (.iload_n 2, 1) := by decide +kernel
theorem dX2_strengthAt_64 : decode cX2_strengthAt 64 = .ok (.aload_n 0, 1) := by decide +kernel
theorem dX2_strengthAt_65 : decode cX2_strengthAt 65 = .ok (.getfield 21, 3) := by decide +kernel
theorem dX2_strengthAt_68 : decode cX2_strengthAt 68 = .ok (.iconst 1, 1) := by decide +kernel
theorem dX2_strengthAt_69 : decode cX2_strengthAt 69 = .ok (.iaload, 1) := by decide +kernel
theorem dX2_strengthAt_70 : decode cX2_strengthAt 70 = .ok (.aload_n 0, 1) := by decide +kernel
theorem dX2_strengthAt_71 : decode cX2_strengthAt 71 = .ok (.getfield 9, 3) := by decide +kernel
theorem dX2_strengthAt_74 : decode cX2_strengthAt 74 = .ok (.iload_n 1, 1) := by decide +kernel
theorem dX2_strengthAt_75 : decode cX2_strengthAt 75 = .ok (.iaload, 1) := by decide +kernel
theorem dX2_strengthAt_76 : decode cX2_strengthAt 76 = .ok (.iload_n 3, 1) := by decide +kernel
theorem dX2_strengthAt_77 : decode cX2_strengthAt 77 = .ok (.isub, 1) := by decide +kernel
theorem dX2_strengthAt_78 : decode cX2_strengthAt 78 = .ok (.invokestatic 62, 3) := by decide +kernel
theorem dX2_strengthAt_81 : decode cX2_strengthAt 81 = .ok (.ireturn, 1) := by decide +kernel
set_option maxRecDepth 20000 in
theorem ggX2_seenLayers_X2_throughHaze : GoodIn wsX2_seenLayers wsX2_throughHaze := goodIn_r _ [8, 9] (by decide +kernel) (by decide +kernel)
set_option maxRecDepth 20000 in
theorem gX2_seenLayers_X2_throughHaze : GoodIn wsX2_seenLayers (va_wsS RX2 62 yX2_throughHaze wsX2_throughHaze) := goodIn_app (goodIn_of _ (by decide +kernel)) ggX2_seenLayers_X2_throughHaze
set_option maxRecDepth 20000 in
theorem ggX2_seenLayers_X2_brightness : GoodIn wsX2_seenLayers wsX2_brightness := goodIn_r _ [12] (by decide +kernel) (by decide +kernel)
set_option maxRecDepth 20000 in
theorem gX2_seenLayers_X2_brightness : GoodIn wsX2_seenLayers (va_wsS RX2 65 yX2_brightness wsX2_brightness) := goodIn_app (goodIn_of _ (by decide +kernel)) ggX2_seenLayers_X2_brightness
theorem dX2_seenLayers_0 : decode cX2_seenLayers 0 = .ok (.sipush 1000, 3) := by decide +kernel
theorem dX2_seenLayers_3 : decode cX2_seenLayers 3 = .ok (.istore_n 2, 1) := by decide +kernel
theorem dX2_seenLayers_4 : decode cX2_seenLayers 4 = .ok (.iconst 0, 1) := by decide +kernel
theorem dX2_seenLayers_5 : decode cX2_seenLayers 5 = .ok (.istore_n 3, 1) := by decide +kernel
theorem dX2_seenLayers_6 : decode cX2_seenLayers 6 = .ok (.iconst 0, 1) := by decide +kernel
theorem dX2_seenLayers_7 : decode cX2_seenLayers 7 = .ok (.istore 4, 2) := by decide +kernel
theorem dX2_seenLayers_9 : decode cX2_seenLayers 9 = .ok (.iconst 0, 1) := by decide +kernel
theorem dX2_seenLayers_10 : decode cX2_seenLayers 10 = .ok (.istore 5, 2) := by decide +kernel
theorem dX2_seenLayers_12 : decode cX2_seenLayers 12 = .ok (.iload 5, 2) := by decide +kernel
theorem dX2_seenLayers_14 : decode cX2_seenLayers 14 = .ok (.aload_n 0, 1) := by decide +kernel
theorem dX2_seenLayers_15 : decode cX2_seenLayers 15 = .ok (.getfield 35, 3) := by decide +kernel
theorem dX2_seenLayers_18 : decode cX2_seenLayers 18 = .ok (.if_icmp .ge 70, 3) := by decide +kernel
theorem dX2_seenLayers_21 : decode cX2_seenLayers 21 = .ok (.iload_n 2, 1) := by decide +kernel
theorem dX2_seenLayers_22 : decode cX2_seenLayers 22 = .ok (.iload_n 1, 1) := by decide +kernel
theorem dX2_seenLayers_23 : decode cX2_seenLayers 23 = .ok (.aload_n 0, 1) := by decide +kernel
theorem dX2_seenLayers_24 : decode cX2_seenLayers 24 = .ok (.getfield 9, 3) := by decide +kernel
theorem dX2_seenLayers_27 : decode cX2_seenLayers 27 = .ok (.iload 5, 2) := by decide +kernel
theorem dX2_seenLayers_29 : decode cX2_seenLayers 29 = .ok (.iaload, 1) := by decide +kernel
theorem dX2_seenLayers_30 : decode cX2_seenLayers 30 = .ok (.iload_n 3, 1) := by decide +kernel
theorem dX2_seenLayers_31 : decode cX2_seenLayers 31 = .ok (.isub, 1) := by decide +kernel
theorem dX2_seenLayers_32 : decode cX2_seenLayers 32 = .ok (.invokestatic 62, 3) := by decide +kernel
theorem dX2_seenLayers_35 : decode cX2_seenLayers 35 = .ok (.istore_n 2, 1) := by decide +kernel
theorem dX2_seenLayers_36 : decode cX2_seenLayers 36 = .ok (.iload_n 2, 1) := by decide +kernel
theorem dX2_seenLayers_37 : decode cX2_seenLayers 37 = .ok (.aload_n 0, 1) := by decide +kernel
theorem dX2_seenLayers_38 : decode cX2_seenLayers 38 = .ok (.getfield 15, 3) := by decide +kernel
theorem dX2_seenLayers_41 : decode cX2_seenLayers 41 = .ok (.iload 5, 2) := by decide +kernel
theorem dX2_seenLayers_43 : decode cX2_seenLayers 43 = .ok (.iaload, 1) := by decide +kernel
theorem dX2_seenLayers_44 : decode cX2_seenLayers 44 = .ok (.invokestatic 65, 3) := by decide +kernel
theorem dX2_seenLayers_47 : decode cX2_seenLayers 47 = .ok (.istore 6, 2) := by decide +kernel
theorem dX2_seenLayers_49 : decode cX2_seenLayers 49 = .ok (.iload 6, 2) := by decide +kernel
theorem dX2_seenLayers_51 : decode cX2_seenLayers 51 = .ok (.aload_n 0, 1) := by decide +kernel
theorem dX2_seenLayers_52 : decode cX2_seenLayers 52 = .ok (.getfield 21, 3) := by decide +kernel
theorem dX2_seenLayers_55 : decode cX2_seenLayers 55 = .ok (.iconst 2, 1) := by decide +kernel
theorem dX2_seenLayers_56 : decode cX2_seenLayers 56 = .ok (.iaload, 1) := by decide +kernel
theorem dX2_seenLayers_57 : decode cX2_seenLayers 57 = .ok (.if_icmp .lt 12, 3) := by decide +kernel
theorem dX2_seenLayers_60 : decode cX2_seenLayers 60 = .ok (.iload 4, 2) := by decide +kernel
theorem dX2_seenLayers_62 : decode cX2_seenLayers 62 = .ok (.iconst 1, 1) := by decide +kernel
theorem dX2_seenLayers_63 : decode cX2_seenLayers 63 = .ok (.iload 5, 2) := by decide +kernel
theorem dX2_seenLayers_65 : decode cX2_seenLayers 65 = .ok (.ishl, 1) := by decide +kernel
theorem dX2_seenLayers_66 : decode cX2_seenLayers 66 = .ok (.ior, 1) := by decide +kernel
theorem dX2_seenLayers_67 : decode cX2_seenLayers 67 = .ok (.istore 4, 2) := by decide +kernel
theorem dX2_seenLayers_69 : decode cX2_seenLayers 69 = .ok (.iload_n 2, 1) := by decide +kernel
theorem dX2_seenLayers_70 : decode cX2_seenLayers 70 = .ok (.iload 6, 2) := by decide +kernel
theorem dX2_seenLayers_72 : decode cX2_seenLayers 72 = .ok (.isub, 1) := by decide +kernel
theorem dX2_seenLayers_73 : decode cX2_seenLayers 73 = .ok (.istore_n 2, 1) := by decide +kernel
theorem dX2_seenLayers_74 : decode cX2_seenLayers 74 = .ok (.aload_n 0, 1) := by decide +kernel
theorem dX2_seenLayers_75 : decode cX2_seenLayers 75 = .ok (.getfield 9, 3) := by decide +kernel
theorem dX2_seenLayers_78 : decode cX2_seenLayers 78 = .ok (.iload 5, 2) := by decide +kernel
theorem dX2_seenLayers_80 : decode cX2_seenLayers 80 = .ok (.iaload, 1) := by decide +kernel
theorem dX2_seenLayers_81 : decode cX2_seenLayers 81 = .ok (.istore_n 3, 1) := by decide +kernel
theorem dX2_seenLayers_82 : decode cX2_seenLayers 82 = .ok (.iinc 5 1, 3) := by decide +kernel
theorem dX2_seenLayers_85 : decode cX2_seenLayers 85 = .ok (.goto (-73), 3) := by decide +kernel
theorem dX2_seenLayers_88 : decode cX2_seenLayers 88 = .ok (.iload 4, 2) := by decide +kernel
theorem dX2_seenLayers_90 : decode cX2_seenLayers 90 = .ok (.ireturn, 1) := by decide +kernel
set_option maxRecDepth 20000 in
theorem ggX2_seenSpots_X2_seenLayers : GoodIn wsX2_seenSpots wsX2_seenLayers := goodIn_r _ [6, 7, 8, 9, 10, 11, 12, 5, 13, 14, 15, 16, 17, 25, 26, 27, 28, 29, 30, 31] (by decide +kernel) (by decide +kernel)
set_option maxRecDepth 20000 in
theorem gX2_seenSpots_X2_seenLayers : GoodIn wsX2_seenSpots (wsV RX2 69 RX2 yX2_seenLayers wsX2_seenLayers) := goodIn_app (goodIn_of _ (by decide +kernel)) ggX2_seenSpots_X2_seenLayers
set_option maxRecDepth 20000 in
theorem ggX2_seenSpots_J6_bitCount_0f7a4 : GoodIn wsX2_seenSpots wsJ6_bitCount_0f7a4 := goodIn_r _ [21, 22, 23, 24] (by decide +kernel) (by decide +kernel)
set_option maxRecDepth 20000 in
theorem gX2_seenSpots_J6_bitCount_0f7a4 : GoodIn wsX2_seenSpots (va_wsS RX2 73 yJ6_bitCount_0f7a4 wsJ6_bitCount_0f7a4) := goodIn_app (goodIn_of _ (by decide +kernel)) ggX2_seenSpots_J6_bitCount_0f7a4
theorem dX2_seenSpots_0 : decode cX2_seenSpots 0 = .ok (.aload_n 0, 1) := by decide +kernel
theorem dX2_seenSpots_1 : decode cX2_seenSpots 1 = .ok (.iload_n 1, 1) := by decide +kernel
theorem dX2_seenSpots_2 : decode cX2_seenSpots 2 = .ok (.invokevirtual 69, 3) := by decide +kernel
theorem dX2_seenSpots_5 : decode cX2_seenSpots 5 = .ok (.invokestatic 73, 3) := by decide +kernel
theorem dX2_seenSpots_8 : decode cX2_seenSpots 8 = .ok (.aload_n 0, 1) := by decide +kernel
theorem dX2_seenSpots_9 : decode cX2_seenSpots 9 = .ok (.getfield 24, 3) := by decide +kernel
theorem dX2_seenSpots_12 : decode cX2_seenSpots 12 = .ok (.invokestatic 73, 3) := by decide +kernel
theorem dX2_seenSpots_15 : decode cX2_seenSpots 15 = .ok (.imul, 1) := by decide +kernel
theorem dX2_seenSpots_16 : decode cX2_seenSpots 16 = .ok (.ireturn, 1) := by decide +kernel
set_option maxRecDepth 20000 in
theorem ggX2_spotNumber_X2_strengthAt : GoodIn wsX2_spotNumber wsX2_strengthAt := goodIn_r _ [9, 4, 3, 1, 10, 11, 8, 12, 13, 14, 15, 16, 21, 22, 23, 24, 25, 26, 27] (by decide +kernel) (by decide +kernel)
set_option maxRecDepth 20000 in
theorem gX2_spotNumber_X2_strengthAt : GoodIn wsX2_spotNumber (wsV RX2 78 RX2 yX2_strengthAt wsX2_strengthAt) := goodIn_app (goodIn_of _ (by decide +kernel)) ggX2_spotNumber_X2_strengthAt
set_option maxRecDepth 20000 in
theorem ggX2_spotNumber_X2_brightness : GoodIn wsX2_spotNumber wsX2_brightness := goodIn_r _ [16] (by decide +kernel) (by decide +kernel)
set_option maxRecDepth 20000 in
theorem gX2_spotNumber_X2_brightness : GoodIn wsX2_spotNumber (va_wsS RX2 65 yX2_brightness wsX2_brightness) := goodIn_app (goodIn_of _ (by decide +kernel)) ggX2_spotNumber_X2_brightness
set_option maxRecDepth 20000 in
theorem ggX2_spotNumber_X2_place : GoodIn wsX2_spotNumber wsX2_place := goodIn_r _ [20, 4, 21, 22, 23, 24, 25, 26, 27] (by decide +kernel) (by decide +kernel)
set_option maxRecDepth 20000 in
theorem gX2_spotNumber_X2_place : GoodIn wsX2_spotNumber (wsV RX2 56 RX2 yX2_place wsX2_place) := goodIn_app (goodIn_of _ (by decide +kernel)) ggX2_spotNumber_X2_place
theorem dX2_spotNumber_0 : decode cX2_spotNumber 0 = .ok (.aload_n 0, 1) := by decide +kernel
theorem dX2_spotNumber_1 : decode cX2_spotNumber 1 = .ok (.iload_n 2, 1) := by decide +kernel
theorem dX2_spotNumber_2 : decode cX2_spotNumber 2 = .ok (.invokevirtual 78, 3) := by decide +kernel
theorem dX2_spotNumber_5 : decode cX2_spotNumber 5 = .ok (.istore 4, 2) := by decide +kernel
theorem dX2_spotNumber_7 : decode cX2_spotNumber 7 = .ok (.iload 4, 2) := by decide +kernel
theorem dX2_spotNumber_9 : decode cX2_spotNumber 9 = .ok (.aload_n 0, 1) := by decide +kernel
theorem dX2_spotNumber_10 : decode cX2_spotNumber 10 = .ok (.getfield 15, 3) := by decide +kernel
theorem dX2_spotNumber_13 : decode cX2_spotNumber 13 = .ok (.iload_n 2, 1) := by decide +kernel
theorem dX2_spotNumber_14 : decode cX2_spotNumber 14 = .ok (.iaload, 1) := by decide +kernel
theorem dX2_spotNumber_15 : decode cX2_spotNumber 15 = .ok (.invokestatic 65, 3) := by decide +kernel
theorem dX2_spotNumber_18 : decode cX2_spotNumber 18 = .ok (.istore 5, 2) := by decide +kernel
theorem dX2_spotNumber_20 : decode cX2_spotNumber 20 = .ok (.iload_n 3, 1) := by decide +kernel
theorem dX2_spotNumber_21 : decode cX2_spotNumber 21 = .ok (.tableswitch 72 0 3 #[31, 49, 52, 69], 31) := by decide +kernel
theorem dX2_spotNumber_52 : decode cX2_spotNumber 52 = .ok (.aload_n 0, 1) := by decide +kernel
theorem dX2_spotNumber_53 : decode cX2_spotNumber 53 = .ok (.iload_n 1, 1) := by decide +kernel
theorem dX2_spotNumber_54 : decode cX2_spotNumber 54 = .ok (.aload_n 0, 1) := by decide +kernel
theorem dX2_spotNumber_55 : decode cX2_spotNumber 55 = .ok (.getfield 18, 3) := by decide +kernel
theorem dX2_spotNumber_58 : decode cX2_spotNumber 58 = .ok (.iload_n 1, 1) := by decide +kernel
theorem dX2_spotNumber_59 : decode cX2_spotNumber 59 = .ok (.iaload, 1) := by decide +kernel
theorem dX2_spotNumber_60 : decode cX2_spotNumber 60 = .ok (.aload_n 0, 1) := by decide +kernel
theorem dX2_spotNumber_61 : decode cX2_spotNumber 61 = .ok (.getfield 9, 3) := by decide +kernel
theorem dX2_spotNumber_64 : decode cX2_spotNumber 64 = .ok (.iload_n 2, 1) := by decide +kernel
theorem dX2_spotNumber_65 : decode cX2_spotNumber 65 = .ok (.iaload, 1) := by decide +kernel
theorem dX2_spotNumber_66 : decode cX2_spotNumber 66 = .ok (.invokevirtual 56, 3) := by decide +kernel
theorem dX2_spotNumber_69 : decode cX2_spotNumber 69 = .ok (.ireturn, 1) := by decide +kernel
theorem dX2_spotNumber_70 : decode cX2_spotNumber 70 = .ok (.iload 5, 2) := by decide +kernel
theorem dX2_spotNumber_72 : decode cX2_spotNumber 72 = .ok (.ireturn, 1) := by decide +kernel
theorem dX2_spotNumber_73 : decode cX2_spotNumber 73 = .ok (.iload 5, 2) := by decide +kernel
theorem dX2_spotNumber_75 : decode cX2_spotNumber 75 = .ok (.aload_n 0, 1) := by decide +kernel
theorem dX2_spotNumber_76 : decode cX2_spotNumber 76 = .ok (.getfield 21, 3) := by decide +kernel
theorem dX2_spotNumber_79 : decode cX2_spotNumber 79 = .ok (.iconst 2, 1) := by decide +kernel
theorem dX2_spotNumber_80 : decode cX2_spotNumber 80 = .ok (.iaload, 1) := by decide +kernel
theorem dX2_spotNumber_81 : decode cX2_spotNumber 81 = .ok (.if_icmp .lt 7, 3) := by decide +kernel
theorem dX2_spotNumber_84 : decode cX2_spotNumber 84 = .ok (.iconst 1, 1) := by decide +kernel
theorem dX2_spotNumber_85 : decode cX2_spotNumber 85 = .ok (.goto 4, 3) := by decide +kernel
theorem dX2_spotNumber_88 : decode cX2_spotNumber 88 = .ok (.iconst 0, 1) := by decide +kernel
theorem dX2_spotNumber_89 : decode cX2_spotNumber 89 = .ok (.ireturn, 1) := by decide +kernel
theorem dX2_spotNumber_90 : decode cX2_spotNumber 90 = .ok (.iload 4, 2) := by decide +kernel
theorem dX2_spotNumber_92 : decode cX2_spotNumber 92 = .ok (.ireturn, 1) := by decide +kernel
theorem dX2_spotNumber_93 : decode cX2_spotNumber 93 = .ok (.iload 4, 2) := by decide +kernel
theorem dX2_spotNumber_95 : decode cX2_spotNumber 95 = .ok (.iload 5, 2) := by decide +kernel
theorem dX2_spotNumber_97 : decode cX2_spotNumber 97 = .ok (.isub, 1) := by decide +kernel
theorem dX2_spotNumber_98 : decode cX2_spotNumber 98 = .ok (.ireturn, 1) := by decide +kernel
set_option maxRecDepth 20000 in
theorem ggX2_pairLayers_X2_seenLayers : GoodIn wsX2_pairLayers wsX2_seenLayers := goodIn_r _ [7, 8, 9, 10, 2, 11, 12, 6, 13, 14, 15, 16, 17, 18, 19, 20, 21, 22, 23, 24] (by decide +kernel) (by decide +kernel)
set_option maxRecDepth 20000 in
theorem gX2_pairLayers_X2_seenLayers : GoodIn wsX2_pairLayers (wsV RX2 69 RX2 yX2_seenLayers wsX2_seenLayers) := goodIn_app (goodIn_of _ (by decide +kernel)) ggX2_pairLayers_X2_seenLayers
theorem dX2_pairLayers_0 : decode cX2_pairLayers 0 = .ok (.aload_n 0, 1) := by decide +kernel
theorem dX2_pairLayers_1 : decode cX2_pairLayers 1 = .ok (.getfield 24, 3) := by decide +kernel
theorem dX2_pairLayers_4 : decode cX2_pairLayers 4 = .ok (.iconst 3, 1) := by decide +kernel
theorem dX2_pairLayers_5 : decode cX2_pairLayers 5 = .ok (.if_icmp .ne 16, 3) := by decide +kernel
theorem dX2_pairLayers_8 : decode cX2_pairLayers 8 = .ok (.aload_n 0, 1) := by decide +kernel
theorem dX2_pairLayers_9 : decode cX2_pairLayers 9 = .ok (.aload_n 0, 1) := by decide +kernel
theorem dX2_pairLayers_10 : decode cX2_pairLayers 10 = .ok (.getfield 21, 3) := by decide +kernel
theorem dX2_pairLayers_13 : decode cX2_pairLayers 13 = .ok (.iconst 1, 1) := by decide +kernel
theorem dX2_pairLayers_14 : decode cX2_pairLayers 14 = .ok (.iaload, 1) := by decide +kernel
theorem dX2_pairLayers_15 : decode cX2_pairLayers 15 = .ok (.invokevirtual 69, 3) := by decide +kernel
theorem dX2_pairLayers_18 : decode cX2_pairLayers 18 = .ok (.goto 4, 3) := by decide +kernel
theorem dX2_pairLayers_21 : decode cX2_pairLayers 21 = .ok (.iconst 0, 1) := by decide +kernel
theorem dX2_pairLayers_22 : decode cX2_pairLayers 22 = .ok (.ireturn, 1) := by decide +kernel
set_option maxRecDepth 20000 in
theorem ggX2_hasPair_X2_pairLayers : GoodIn wsX2_hasPair wsX2_pairLayers := goodIn_r _ [5, 6, 7, 8, 9, 10, 4, 11, 12, 13, 14, 15, 16, 17, 18, 19, 20, 21, 22, 23, 24, 25, 26, 27, 28] (by decide +kernel) (by decide +kernel)
set_option maxRecDepth 20000 in
theorem gX2_hasPair_X2_pairLayers : GoodIn wsX2_hasPair (wsV RX2 81 RX2 yX2_pairLayers wsX2_pairLayers) := goodIn_app (goodIn_of _ (by decide +kernel)) ggX2_hasPair_X2_pairLayers
theorem dX2_hasPair_0 : decode cX2_hasPair 0 = .ok (.aload_n 0, 1) := by decide +kernel
theorem dX2_hasPair_1 : decode cX2_hasPair 1 = .ok (.invokevirtual 81, 3) := by decide +kernel
theorem dX2_hasPair_4 : decode cX2_hasPair 4 = .ok (.iload_n 1, 1) := by decide +kernel
theorem dX2_hasPair_5 : decode cX2_hasPair 5 = .ok (.ishr, 1) := by decide +kernel
theorem dX2_hasPair_6 : decode cX2_hasPair 6 = .ok (.iconst 1, 1) := by decide +kernel
theorem dX2_hasPair_7 : decode cX2_hasPair 7 = .ok (.iand, 1) := by decide +kernel
theorem dX2_hasPair_8 : decode cX2_hasPair 8 = .ok (.iconst 1, 1) := by decide +kernel
theorem dX2_hasPair_9 : decode cX2_hasPair 9 = .ok (.if_icmp .ne 7, 3) := by decide +kernel
theorem dX2_hasPair_12 : decode cX2_hasPair 12 = .ok (.iconst 1, 1) := by decide +kernel
theorem dX2_hasPair_13 : decode cX2_hasPair 13 = .ok (.goto 4, 3) := by decide +kernel
theorem dX2_hasPair_16 : decode cX2_hasPair 16 = .ok (.iconst 0, 1) := by decide +kernel
theorem dX2_hasPair_17 : decode cX2_hasPair 17 = .ok (.ireturn, 1) := by decide +kernel
set_option maxRecDepth 20000 in
theorem ggX2_hasClosePair_X2_hasPair : GoodIn wsX2_hasClosePair wsX2_hasPair := goodIn_r _ [10, 11, 12, 13, 9, 14, 15, 5, 16, 17, 18, 19, 20, 21, 22, 23, 24, 25, 26, 27, 28, 29, 43, 44, 45, 46, 47, 48, 49] (by decide +kernel) (by decide +kernel)
set_option maxRecDepth 20000 in
theorem gX2_hasClosePair_X2_hasPair : GoodIn wsX2_hasClosePair (wsV RX2 85 RX2 yX2_hasPair wsX2_hasPair) := goodIn_app (goodIn_of _ (by decide +kernel)) ggX2_hasClosePair_X2_hasPair
set_option maxRecDepth 20000 in
theorem ggX2_hasClosePair_X2_distance : GoodIn wsX2_hasClosePair wsX2_distance := goodIn_r _ [33, 34, 35, 36, 37, 9, 38, 21, 39, 40, 41, 42, 5, 43, 44, 45, 46, 47, 48, 49] (by decide +kernel) (by decide +kernel)
set_option maxRecDepth 20000 in
theorem gX2_hasClosePair_X2_distance : GoodIn wsX2_hasClosePair (wsV RX2 88 RX2 yX2_distance wsX2_distance) := goodIn_app (goodIn_of _ (by decide +kernel)) ggX2_hasClosePair_X2_distance
theorem dX2_hasClosePair_0 : decode cX2_hasClosePair 0 = .ok (.aload_n 0, 1) := by decide +kernel
theorem dX2_hasClosePair_1 : decode cX2_hasClosePair 1 = .ok (.iload_n 1, 1) := by decide +kernel
theorem dX2_hasClosePair_2 : decode cX2_hasClosePair 2 = .ok (.invokevirtual 85, 3) := by decide +kernel
theorem dX2_hasClosePair_5 : decode cX2_hasClosePair 5 = .ok (.ifCond .eq 24, 3) := by decide +kernel
theorem dX2_hasClosePair_8 : decode cX2_hasClosePair 8 = .ok (.aload_n 0, 1) := by decide +kernel
theorem dX2_hasClosePair_9 : decode cX2_hasClosePair 9 = .ok (.iload_n 1, 1) := by decide +kernel
theorem dX2_hasClosePair_10 : decode cX2_hasClosePair 10 = .ok (.invokevirtual 88, 3) := by decide +kernel
theorem dX2_hasClosePair_13 : decode cX2_hasClosePair 13 = .ok (.invokestatic 91, 3) := by decide +kernel
theorem dX2_hasClosePair_16 : decode cX2_hasClosePair 16 = .ok (.aload_n 0, 1) := by decide +kernel
theorem dX2_hasClosePair_17 : decode cX2_hasClosePair 17 = .ok (.getfield 21, 3) := by decide +kernel
theorem dX2_hasClosePair_20 : decode cX2_hasClosePair 20 = .ok (.iconst 3, 1) := by decide +kernel
theorem dX2_hasClosePair_21 : decode cX2_hasClosePair 21 = .ok (.iaload, 1) := by decide +kernel
theorem dX2_hasClosePair_22 : decode cX2_hasClosePair 22 = .ok (.if_icmp .gt 7, 3) := by decide +kernel
theorem dX2_hasClosePair_25 : decode cX2_hasClosePair 25 = .ok (.iconst 1, 1) := by decide +kernel
theorem dX2_hasClosePair_26 : decode cX2_hasClosePair 26 = .ok (.goto 4, 3) := by decide +kernel
theorem dX2_hasClosePair_29 : decode cX2_hasClosePair 29 = .ok (.iconst 0, 1) := by decide +kernel
theorem dX2_hasClosePair_30 : decode cX2_hasClosePair 30 = .ok (.ireturn, 1) := by decide +kernel
set_option maxRecDepth 20000 in
theorem ggX2_closePairs_X2_hasClosePair : GoodIn wsX2_closePairs wsX2_hasClosePair := goodIn_r _ [6, 7, 8, 9, 10, 11, 12, 13, 14, 5, 15, 16, 17, 18, 19, 20, 21, 22, 23, 24, 1, 25, 26, 27, 28, 29, 30, 31, 32, 33, 34, 35, 36, 37, 38, 39, 40, 41, 42, 43, 44, 45, 46, 47, 48, 49, 50, 51, 52, 53] (by decide +kernel) (by decide +kernel)
set_option maxRecDepth 20000 in
theorem gX2_closePairs_X2_hasClosePair : GoodIn wsX2_closePairs (wsV RX2 96 RX2 yX2_hasClosePair wsX2_hasClosePair) := goodIn_app (goodIn_of _ (by decide +kernel)) ggX2_closePairs_X2_hasClosePair
theorem dX2_closePairs_0 : decode cX2_closePairs 0 = .ok (.iconst 0, 1) := by decide +kernel
theorem dX2_closePairs_1 : decode cX2_closePairs 1 = .ok (.istore_n 1, 1) := by decide +kernel
theorem dX2_closePairs_2 : decode cX2_closePairs 2 = .ok (.iconst 0, 1) := by decide +kernel
theorem dX2_closePairs_3 : decode cX2_closePairs 3 = .ok (.istore_n 2, 1) := by decide +kernel
theorem dX2_closePairs_4 : decode cX2_closePairs 4 = .ok (.iload_n 2, 1) := by decide +kernel
theorem dX2_closePairs_5 : decode cX2_closePairs 5 = .ok (.aload_n 0, 1) := by decide +kernel
theorem dX2_closePairs_6 : decode cX2_closePairs 6 = .ok (.getfield 35, 3) := by decide +kernel
theorem dX2_closePairs_9 : decode cX2_closePairs 9 = .ok (.if_icmp .ge 20, 3) := by decide +kernel
theorem dX2_closePairs_12 : decode cX2_closePairs 12 = .ok (.aload_n 0, 1) := by decide +kernel
theorem dX2_closePairs_13 : decode cX2_closePairs 13 = .ok (.iload_n 2, 1) := by decide +kernel
theorem dX2_closePairs_14 : decode cX2_closePairs 14 = .ok (.invokevirtual 96, 3) := by decide +kernel
theorem dX2_closePairs_17 : decode cX2_closePairs 17 = .ok (.ifCond .eq 6, 3) := by decide +kernel
theorem dX2_closePairs_20 : decode cX2_closePairs 20 = .ok (.iinc 1 1, 3) := by decide +kernel
theorem dX2_closePairs_23 : decode cX2_closePairs 23 = .ok (.iinc 2 1, 3) := by decide +kernel
theorem dX2_closePairs_26 : decode cX2_closePairs 26 = .ok (.goto (-22), 3) := by decide +kernel
theorem dX2_closePairs_29 : decode cX2_closePairs 29 = .ok (.iload_n 1, 1) := by decide +kernel
theorem dX2_closePairs_30 : decode cX2_closePairs 30 = .ok (.ireturn, 1) := by decide +kernel
set_option maxRecDepth 20000 in
theorem ggX2_layerOfReading_X2_seenLayers : GoodIn wsX2_layerOfReading wsX2_seenLayers := goodIn_r _ [12, 3, 13, 14, 2, 15, 16, 11, 17, 18, 19, 20, 21, 30, 31, 32, 33, 34, 35, 36] (by decide +kernel) (by decide +kernel)
set_option maxRecDepth 20000 in
theorem gX2_layerOfReading_X2_seenLayers : GoodIn wsX2_layerOfReading (wsV RX2 69 RX2 yX2_seenLayers wsX2_seenLayers) := goodIn_app (goodIn_of _ (by decide +kernel)) ggX2_layerOfReading_X2_seenLayers
set_option maxRecDepth 20000 in
theorem ggX2_layerOfReading_X2_distanceWith : GoodIn wsX2_layerOfReading wsX2_distanceWith := goodIn_r _ [25, 13, 26, 27, 28, 11, 29, 2, 30, 31, 32, 33, 34, 35, 36] (by decide +kernel) (by decide +kernel)
set_option maxRecDepth 20000 in
theorem gX2_layerOfReading_X2_distanceWith : GoodIn wsX2_layerOfReading (wsV RX2 52 RX2 yX2_distanceWith wsX2_distanceWith) := goodIn_app (goodIn_of _ (by decide +kernel)) ggX2_layerOfReading_X2_distanceWith
theorem dX2_layerOfReading_0 : decode cX2_layerOfReading 0 = .ok (.iload_n 1, 1) := by decide +kernel
theorem dX2_layerOfReading_1 : decode cX2_layerOfReading 1 = .ok (.iload_n 2, 1) := by decide +kernel
theorem dX2_layerOfReading_2 : decode cX2_layerOfReading 2 = .ok (.if_icmp .le 11, 3) := by decide +kernel
theorem dX2_layerOfReading_5 : decode cX2_layerOfReading 5 = .ok (.aload_n 0, 1) := by decide +kernel
theorem dX2_layerOfReading_6 : decode cX2_layerOfReading 6 = .ok (.getfield 24, 3) := by decide +kernel
theorem dX2_layerOfReading_9 : decode cX2_layerOfReading 9 = .ok (.iconst 3, 1) := by decide +kernel
theorem dX2_layerOfReading_10 : decode cX2_layerOfReading 10 = .ok (.if_icmp .eq 5, 3) := by decide +kernel
theorem dX2_layerOfReading_13 : decode cX2_layerOfReading 13 = .ok (.iconst (-1), 1) := by decide +kernel
theorem dX2_layerOfReading_14 : decode cX2_layerOfReading 14 = .ok (.ireturn, 1) := by decide +kernel
theorem dX2_layerOfReading_15 : decode cX2_layerOfReading 15 = .ok (.aload_n 0, 1) := by decide +kernel
theorem dX2_layerOfReading_16 : decode cX2_layerOfReading 16 = .ok (.aload_n 0, 1) := by decide +kernel
theorem dX2_layerOfReading_17 : decode cX2_layerOfReading 17 = .ok (.getfield 21, 3) := by decide +kernel
theorem dX2_layerOfReading_20 : decode cX2_layerOfReading 20 = .ok (.iconst 1, 1) := by decide +kernel
theorem dX2_layerOfReading_21 : decode cX2_layerOfReading 21 = .ok (.iaload, 1) := by decide +kernel
theorem dX2_layerOfReading_22 : decode cX2_layerOfReading 22 = .ok (.invokevirtual 69, 3) := by decide +kernel
theorem dX2_layerOfReading_25 : decode cX2_layerOfReading 25 = .ok (.istore_n 3, 1) := by decide +kernel
theorem dX2_layerOfReading_26 : decode cX2_layerOfReading 26 = .ok (.iconst (-1), 1) := by decide +kernel
theorem dX2_layerOfReading_27 : decode cX2_layerOfReading 27 = .ok (.istore 4, 2) := by decide +kernel
theorem dX2_layerOfReading_29 : decode cX2_layerOfReading 29 = .ok (.aload_n 0, 1) := by decide +kernel
theorem dX2_layerOfReading_30 : decode cX2_layerOfReading 30 = .ok (.getfield 21, 3) := by decide +kernel
theorem dX2_layerOfReading_33 : decode cX2_layerOfReading 33 = .ok (.iconst 3, 1) := by decide +kernel
theorem dX2_layerOfReading_34 : decode cX2_layerOfReading 34 = .ok (.iaload, 1) := by decide +kernel
theorem dX2_layerOfReading_35 : decode cX2_layerOfReading 35 = .ok (.iconst 1, 1) := by decide +kernel
theorem dX2_layerOfReading_36 : decode cX2_layerOfReading 36 = .ok (.iadd, 1) := by decide +kernel
theorem dX2_layerOfReading_37 : decode cX2_layerOfReading 37 = .ok (.istore 5, 2) := by decide +kernel
theorem dX2_layerOfReading_39 : decode cX2_layerOfReading 39 = .ok (.iconst 0, 1) := by decide +kernel
theorem dX2_layerOfReading_40 : decode cX2_layerOfReading 40 = .ok (.istore 6, 2) := by decide +kernel
theorem dX2_layerOfReading_42 : decode cX2_layerOfReading 42 = .ok (.iload 6, 2) := by decide +kernel
theorem dX2_layerOfReading_44 : decode cX2_layerOfReading 44 = .ok (.aload_n 0, 1) := by decide +kernel
theorem dX2_layerOfReading_45 : decode cX2_layerOfReading 45 = .ok (.getfield 35, 3) := by decide +kernel
theorem dX2_layerOfReading_48 : decode cX2_layerOfReading 48 = .ok (.if_icmp .ge 47, 3) := by decide +kernel
theorem dX2_layerOfReading_51 : decode cX2_layerOfReading 51 = .ok (.aload_n 0, 1) := by decide +kernel
theorem dX2_layerOfReading_52 : decode cX2_layerOfReading 52 = .ok (.iload 6, 2) := by decide +kernel
theorem dX2_layerOfReading_54 : decode cX2_layerOfReading 54 = .ok (.iload_n 1, 1) := by decide +kernel
theorem dX2_layerOfReading_55 : decode cX2_layerOfReading 55 = .ok (.iload_n 2, 1) := by decide +kernel
theorem dX2_layerOfReading_56 : decode cX2_layerOfReading 56 = .ok (.invokevirtual 52, 3) := by decide +kernel
theorem dX2_layerOfReading_59 : decode cX2_layerOfReading 59 = .ok (.invokestatic 91, 3) := by decide +kernel
theorem dX2_layerOfReading_62 : decode cX2_layerOfReading 62 = .ok (.istore 7, 2) := by decide +kernel
theorem dX2_layerOfReading_64 : decode cX2_layerOfReading 64 = .ok (.iload 7, 2) := by decide +kernel
theorem dX2_layerOfReading_66 : decode cX2_layerOfReading 66 = .ok (.iload 5, 2) := by decide +kernel
theorem dX2_layerOfReading_68 : decode cX2_layerOfReading 68 = .ok (.if_icmp .ge 21, 3) := by decide +kernel
theorem dX2_layerOfReading_71 : decode cX2_layerOfReading 71 = .ok (.iload_n 3, 1) := by decide +kernel
theorem dX2_layerOfReading_72 : decode cX2_layerOfReading 72 = .ok (.iload 6, 2) := by decide +kernel
theorem dX2_layerOfReading_74 : decode cX2_layerOfReading 74 = .ok (.ishr, 1) := by decide +kernel
theorem dX2_layerOfReading_75 : decode cX2_layerOfReading 75 = .ok (.iconst 1, 1) := by decide +kernel
theorem dX2_layerOfReading_76 : decode cX2_layerOfReading 76 = .ok (.iand, 1) := by decide +kernel
theorem dX2_layerOfReading_77 : decode cX2_layerOfReading 77 = .ok (.iconst 1, 1) := by decide +kernel
theorem dX2_layerOfReading_78 : decode cX2_layerOfReading 78 = .ok (.if_icmp .ne 11, 3) := by decide +kernel
theorem dX2_layerOfReading_81 : decode cX2_layerOfReading 81 = .ok (.iload 6, 2) := by decide +kernel
theorem dX2_layerOfReading_83 : decode cX2_layerOfReading 83 = .ok (.istore 4, 2) := by decide +kernel
theorem dX2_layerOfReading_85 : decode cX2_layerOfReading 85 = .ok (.iload 7, 2) := by decide +kernel
theorem dX2_layerOfReading_87 : decode cX2_layerOfReading 87 = .ok (.istore 5, 2) := by decide +kernel
theorem dX2_layerOfReading_89 : decode cX2_layerOfReading 89 = .ok (.iinc 6 1, 3) := by decide +kernel
theorem dX2_layerOfReading_92 : decode cX2_layerOfReading 92 = .ok (.goto (-50), 3) := by decide +kernel
theorem dX2_layerOfReading_95 : decode cX2_layerOfReading 95 = .ok (.iload 4, 2) := by decide +kernel
theorem dX2_layerOfReading_97 : decode cX2_layerOfReading 97 = .ok (.ireturn, 1) := by decide +kernel
theorem dX2_isFalse_0 : decode cX2_isFalse 0 = .ok (.iload_n 1, 1) := by decide +kernel
theorem dX2_isFalse_1 : decode cX2_isFalse 1 = .ok (.aload_n 0, 1) := by decide +kernel
theorem dX2_isFalse_2 : decode cX2_isFalse 2 = .ok (.getfield 9, 3) := by decide +kernel
theorem dX2_isFalse_5 : decode cX2_isFalse 5 = .ok (.iload_n 2, 1) := by decide +kernel
theorem dX2_isFalse_6 : decode cX2_isFalse 6 = .ok (.iaload, 1) := by decide +kernel
theorem dX2_isFalse_7 : decode cX2_isFalse 7 = .ok (.isub, 1) := by decide +kernel
theorem dX2_isFalse_8 : decode cX2_isFalse 8 = .ok (.invokestatic 91, 3) := by decide +kernel
theorem dX2_isFalse_11 : decode cX2_isFalse 11 = .ok (.istore_n 3, 1) := by decide +kernel
theorem dX2_isFalse_12 : decode cX2_isFalse 12 = .ok (.iconst 0, 1) := by decide +kernel
theorem dX2_isFalse_13 : decode cX2_isFalse 13 = .ok (.istore 4, 2) := by decide +kernel
theorem dX2_isFalse_15 : decode cX2_isFalse 15 = .ok (.iload 4, 2) := by decide +kernel
theorem dX2_isFalse_17 : decode cX2_isFalse 17 = .ok (.aload_n 0, 1) := by decide +kernel
theorem dX2_isFalse_18 : decode cX2_isFalse 18 = .ok (.getfield 35, 3) := by decide +kernel
theorem dX2_isFalse_21 : decode cX2_isFalse 21 = .ok (.if_icmp .ge 27, 3) := by decide +kernel
theorem dX2_isFalse_24 : decode cX2_isFalse 24 = .ok (.iload_n 1, 1) := by decide +kernel
theorem dX2_isFalse_25 : decode cX2_isFalse 25 = .ok (.aload_n 0, 1) := by decide +kernel
theorem dX2_isFalse_26 : decode cX2_isFalse 26 = .ok (.getfield 9, 3) := by decide +kernel
theorem dX2_isFalse_29 : decode cX2_isFalse 29 = .ok (.iload 4, 2) := by decide +kernel
theorem dX2_isFalse_31 : decode cX2_isFalse 31 = .ok (.iaload, 1) := by decide +kernel
theorem dX2_isFalse_32 : decode cX2_isFalse 32 = .ok (.isub, 1) := by decide +kernel
theorem dX2_isFalse_33 : decode cX2_isFalse 33 = .ok (.invokestatic 91, 3) := by decide +kernel
theorem dX2_isFalse_36 : decode cX2_isFalse 36 = .ok (.iload_n 3, 1) := by decide +kernel
theorem dX2_isFalse_37 : decode cX2_isFalse 37 = .ok (.if_icmp .ge 5, 3) := by decide +kernel
theorem dX2_isFalse_40 : decode cX2_isFalse 40 = .ok (.iconst 1, 1) := by decide +kernel
theorem dX2_isFalse_41 : decode cX2_isFalse 41 = .ok (.ireturn, 1) := by decide +kernel
theorem dX2_isFalse_42 : decode cX2_isFalse 42 = .ok (.iinc 4 1, 3) := by decide +kernel
theorem dX2_isFalse_45 : decode cX2_isFalse 45 = .ok (.goto (-30), 3) := by decide +kernel
theorem dX2_isFalse_48 : decode cX2_isFalse 48 = .ok (.iconst 0, 1) := by decide +kernel
theorem dX2_isFalse_49 : decode cX2_isFalse 49 = .ok (.ireturn, 1) := by decide +kernel
set_option maxRecDepth 20000 in
theorem ggX2_readingNumber_X2_layerOfReading : GoodIn wsX2_readingNumber wsX2_layerOfReading := goodIn_r _ [8, 9, 10, 11, 12, 13, 14, 15, 16, 17, 18, 7, 19, 3, 20, 21, 22, 23, 24, 25, 26, 27, 28, 29, 30, 31, 32, 33, 34, 35, 44, 45, 46, 47, 48, 49, 50] (by decide +kernel) (by decide +kernel)
set_option maxRecDepth 20000 in
theorem gX2_readingNumber_X2_layerOfReading : GoodIn wsX2_readingNumber (wsV RX2 99 RX2 yX2_layerOfReading wsX2_layerOfReading) := goodIn_app (goodIn_of _ (by decide +kernel)) ggX2_readingNumber_X2_layerOfReading
set_option maxRecDepth 20000 in
theorem ggX2_readingNumber_X2_meetingHeight : GoodIn wsX2_readingNumber wsX2_meetingHeight := goodIn_r _ [39, 10, 2, 44, 45, 46, 47, 48, 49, 50] (by decide +kernel) (by decide +kernel)
set_option maxRecDepth 20000 in
theorem gX2_readingNumber_X2_meetingHeight : GoodIn wsX2_readingNumber (wsV RX2 102 RX2 yX2_meetingHeight wsX2_meetingHeight) := goodIn_app (goodIn_of _ (by decide +kernel)) ggX2_readingNumber_X2_meetingHeight
set_option maxRecDepth 20000 in
theorem ggX2_readingNumber_X2_isFalse : GoodIn wsX2_readingNumber wsX2_isFalse := goodIn_r _ [43, 3, 12, 13, 14, 15, 11, 44, 45, 46, 47, 48, 49, 50] (by decide +kernel) (by decide +kernel)
set_option maxRecDepth 20000 in
theorem gX2_readingNumber_X2_isFalse : GoodIn wsX2_readingNumber (wsV RX2 105 RX2 yX2_isFalse wsX2_isFalse) := goodIn_app (goodIn_of _ (by decide +kernel)) ggX2_readingNumber_X2_isFalse
theorem dX2_readingNumber_0 : decode cX2_readingNumber 0 = .ok (.aload_n 0, 1) := by decide +kernel
theorem dX2_readingNumber_1 : decode cX2_readingNumber 1 = .ok (.aload_n 0, 1) := by decide +kernel
theorem dX2_readingNumber_2 : decode cX2_readingNumber 2 = .ok (.getfield 18, 3) := by decide +kernel
theorem dX2_readingNumber_5 : decode cX2_readingNumber 5 = .ok (.iconst 0, 1) := by decide +kernel
theorem dX2_readingNumber_6 : decode cX2_readingNumber 6 = .ok (.iaload, 1) := by decide +kernel
theorem dX2_readingNumber_7 : decode cX2_readingNumber 7 = .ok (.aload_n 0, 1) := by decide +kernel
theorem dX2_readingNumber_8 : decode cX2_readingNumber 8 = .ok (.getfield 18, 3) := by decide +kernel
theorem dX2_readingNumber_11 : decode cX2_readingNumber 11 = .ok (.iconst 1, 1) := by decide +kernel
theorem dX2_readingNumber_12 : decode cX2_readingNumber 12 = .ok (.iaload, 1) := by decide +kernel
theorem dX2_readingNumber_13 : decode cX2_readingNumber 13 = .ok (.invokevirtual 99, 3) := by decide +kernel
theorem dX2_readingNumber_16 : decode cX2_readingNumber 16 = .ok (.istore_n 2, 1) := by decide +kernel
theorem dX2_readingNumber_17 : decode cX2_readingNumber 17 = .ok (.iload_n 2, 1) := by decide +kernel
theorem dX2_readingNumber_18 : decode cX2_readingNumber 18 = .ok (.iconst (-1), 1) := by decide +kernel
theorem dX2_readingNumber_19 : decode cX2_readingNumber 19 = .ok (.if_icmp .ne 6, 3) := by decide +kernel
theorem dX2_readingNumber_22 : decode cX2_readingNumber 22 = .ok (.ldc 59, 2) := by decide +kernel
theorem dX2_readingNumber_24 : decode cX2_readingNumber 24 = .ok (.ireturn, 1) := by decide +kernel
theorem dX2_readingNumber_25 : decode cX2_readingNumber 25 = .ok (.aload_n 0, 1) := by decide +kernel
theorem dX2_readingNumber_26 : decode cX2_readingNumber 26 = .ok (.aload_n 0, 1) := by decide +kernel
theorem dX2_readingNumber_27 : decode cX2_readingNumber 27 = .ok (.getfield 18, 3) := by decide +kernel
theorem dX2_readingNumber_30 : decode cX2_readingNumber 30 = .ok (.iconst 0, 1) := by decide +kernel
theorem dX2_readingNumber_31 : decode cX2_readingNumber 31 = .ok (.iaload, 1) := by decide +kernel
theorem dX2_readingNumber_32 : decode cX2_readingNumber 32 = .ok (.aload_n 0, 1) := by decide +kernel
theorem dX2_readingNumber_33 : decode cX2_readingNumber 33 = .ok (.getfield 18, 3) := by decide +kernel
theorem dX2_readingNumber_36 : decode cX2_readingNumber 36 = .ok (.iconst 1, 1) := by decide +kernel
theorem dX2_readingNumber_37 : decode cX2_readingNumber 37 = .ok (.iaload, 1) := by decide +kernel
theorem dX2_readingNumber_38 : decode cX2_readingNumber 38 = .ok (.invokevirtual 102, 3) := by decide +kernel
theorem dX2_readingNumber_41 : decode cX2_readingNumber 41 = .ok (.istore_n 3, 1) := by decide +kernel
theorem dX2_readingNumber_42 : decode cX2_readingNumber 42 = .ok (.iload_n 1, 1) := by decide +kernel
theorem dX2_readingNumber_43 : decode cX2_readingNumber 43 = .ok (.tableswitch 38 0 2 #[25, 27, 29], 25) := by decide +kernel
theorem dX2_readingNumber_68 : decode cX2_readingNumber 68 = .ok (.iload_n 3, 1) := by decide +kernel
theorem dX2_readingNumber_69 : decode cX2_readingNumber 69 = .ok (.ireturn, 1) := by decide +kernel
theorem dX2_readingNumber_70 : decode cX2_readingNumber 70 = .ok (.iload_n 2, 1) := by decide +kernel
theorem dX2_readingNumber_71 : decode cX2_readingNumber 71 = .ok (.ireturn, 1) := by decide +kernel
theorem dX2_readingNumber_72 : decode cX2_readingNumber 72 = .ok (.iload_n 3, 1) := by decide +kernel
theorem dX2_readingNumber_73 : decode cX2_readingNumber 73 = .ok (.aload_n 0, 1) := by decide +kernel
theorem dX2_readingNumber_74 : decode cX2_readingNumber 74 = .ok (.getfield 9, 3) := by decide +kernel
theorem dX2_readingNumber_77 : decode cX2_readingNumber 77 = .ok (.iload_n 2, 1) := by decide +kernel
theorem dX2_readingNumber_78 : decode cX2_readingNumber 78 = .ok (.iaload, 1) := by decide +kernel
theorem dX2_readingNumber_79 : decode cX2_readingNumber 79 = .ok (.isub, 1) := by decide +kernel
theorem dX2_readingNumber_80 : decode cX2_readingNumber 80 = .ok (.ireturn, 1) := by decide +kernel
theorem dX2_readingNumber_81 : decode cX2_readingNumber 81 = .ok (.aload_n 0, 1) := by decide +kernel
theorem dX2_readingNumber_82 : decode cX2_readingNumber 82 = .ok (.iload_n 3, 1) := by decide +kernel
theorem dX2_readingNumber_83 : decode cX2_readingNumber 83 = .ok (.iload_n 2, 1) := by decide +kernel
theorem dX2_readingNumber_84 : decode cX2_readingNumber 84 = .ok (.invokevirtual 105, 3) := by decide +kernel
theorem dX2_readingNumber_87 : decode cX2_readingNumber 87 = .ok (.ifCond .eq 7, 3) := by decide +kernel
theorem dX2_readingNumber_90 : decode cX2_readingNumber 90 = .ok (.iconst 1, 1) := by decide +kernel
theorem dX2_readingNumber_91 : decode cX2_readingNumber 91 = .ok (.goto 4, 3) := by decide +kernel
theorem dX2_readingNumber_94 : decode cX2_readingNumber 94 = .ok (.iconst 0, 1) := by decide +kernel
theorem dX2_readingNumber_95 : decode cX2_readingNumber 95 = .ok (.ireturn, 1) := by decide +kernel
set_option maxRecDepth 20000 in
theorem ggX2_logNight_X2_layerOfReading : GoodIn wsX2_logNight wsX2_layerOfReading := goodIn_r _ [9, 10, 11, 12, 13, 14, 15, 16, 17, 18, 19, 8, 20, 4, 21, 22, 23, 24, 25, 26, 27, 28, 29, 30, 31, 32, 33, 34, 35, 36, 61, 62, 63, 64, 65, 66, 67] (by decide +kernel) (by decide +kernel)
set_option maxRecDepth 20000 in
theorem gX2_logNight_X2_layerOfReading : GoodIn wsX2_logNight (wsV RX2 99 RX2 yX2_layerOfReading wsX2_layerOfReading) := goodIn_app (goodIn_of _ (by decide +kernel)) ggX2_logNight_X2_layerOfReading
set_option maxRecDepth 20000 in
theorem ggX2_logNight_X0_write : GoodIn wsX2_logNight wsX0_write := goodIn_r _ [41, 42, 43, 44, 45, 46, 47, 48, 49, 15, 50, 51, 52, 68, 69, 70, 71] (by decide +kernel) (by decide +kernel)
set_option maxRecDepth 20000 in
theorem gX2_logNight_X0_write : GoodIn wsX2_logNight (wsV RX2 109 RX0 yX0_write wsX0_write) := goodIn_app (goodIn_of _ (by decide +kernel)) ggX2_logNight_X0_write
set_option maxRecDepth 20000 in
theorem ggX2_logNight_X2_meetingHeight : GoodIn wsX2_logNight wsX2_meetingHeight := goodIn_r _ [56, 11, 3, 61, 62, 63, 64, 65, 66, 67] (by decide +kernel) (by decide +kernel)
set_option maxRecDepth 20000 in
theorem gX2_logNight_X2_meetingHeight : GoodIn wsX2_logNight (wsV RX2 102 RX2 yX2_meetingHeight wsX2_meetingHeight) := goodIn_app (goodIn_of _ (by decide +kernel)) ggX2_logNight_X2_meetingHeight
set_option maxRecDepth 20000 in
theorem ggX2_logNight_X2_isFalse : GoodIn wsX2_logNight wsX2_isFalse := goodIn_r _ [60, 4, 13, 14, 15, 16, 12, 61, 62, 63, 64, 65, 66, 67] (by decide +kernel) (by decide +kernel)
set_option maxRecDepth 20000 in
theorem gX2_logNight_X2_isFalse : GoodIn wsX2_logNight (wsV RX2 105 RX2 yX2_isFalse wsX2_isFalse) := goodIn_app (goodIn_of _ (by decide +kernel)) ggX2_logNight_X2_isFalse
theorem dX2_logNight_0 : decode cX2_logNight 0 = .ok (.aload_n 0, 1) := by decide +kernel
theorem dX2_logNight_1 : decode cX2_logNight 1 = .ok (.aload_n 0, 1) := by decide +kernel
theorem dX2_logNight_2 : decode cX2_logNight 2 = .ok (.getfield 18, 3) := by decide +kernel
theorem dX2_logNight_5 : decode cX2_logNight 5 = .ok (.iconst 0, 1) := by decide +kernel
theorem dX2_logNight_6 : decode cX2_logNight 6 = .ok (.iaload, 1) := by decide +kernel
theorem dX2_logNight_7 : decode cX2_logNight 7 = .ok (.aload_n 0, 1) := by decide +kernel
theorem dX2_logNight_8 : decode cX2_logNight 8 = .ok (.getfield 18, 3) := by decide +kernel
theorem dX2_logNight_11 : decode cX2_logNight 11 = .ok (.iconst 1, 1) := by decide +kernel
theorem dX2_logNight_12 : decode cX2_logNight 12 = .ok (.iaload, 1) := by decide +kernel
theorem dX2_logNight_13 : decode cX2_logNight 13 = .ok (.invokevirtual 99, 3) := by decide +kernel
theorem dX2_logNight_16 : decode cX2_logNight 16 = .ok (.istore_n 1, 1) := by decide +kernel
theorem dX2_logNight_17 : decode cX2_logNight 17 = .ok (.iload_n 1, 1) := by decide +kernel
theorem dX2_logNight_18 : decode cX2_logNight 18 = .ok (.iconst (-1), 1) := by decide +kernel
theorem dX2_logNight_19 : decode cX2_logNight 19 = .ok (.if_icmp .ne 18, 3) := by decide +kernel
theorem dX2_logNight_22 : decode cX2_logNight 22 = .ok (.aload_n 0, 1) := by decide +kernel
theorem dX2_logNight_23 : decode cX2_logNight 23 = .ok (.getfield 31, 3) := by decide +kernel
theorem dX2_logNight_26 : decode cX2_logNight 26 = .ok (.ldc 59, 2) := by decide +kernel
theorem dX2_logNight_28 : decode cX2_logNight 28 = .ok (.ldc 59, 2) := by decide +kernel
theorem dX2_logNight_30 : decode cX2_logNight 30 = .ok (.ldc 59, 2) := by decide +kernel
theorem dX2_logNight_32 : decode cX2_logNight 32 = .ok (.iconst 0, 1) := by decide +kernel
theorem dX2_logNight_33 : decode cX2_logNight 33 = .ok (.invokevirtual 109, 3) := by decide +kernel
theorem dX2_logNight_36 : decode cX2_logNight 36 = .ok (.ireturn, 1) := by decide +kernel
theorem dX2_logNight_37 : decode cX2_logNight 37 = .ok (.aload_n 0, 1) := by decide +kernel
theorem dX2_logNight_38 : decode cX2_logNight 38 = .ok (.aload_n 0, 1) := by decide +kernel
theorem dX2_logNight_39 : decode cX2_logNight 39 = .ok (.getfield 18, 3) := by decide +kernel
theorem dX2_logNight_42 : decode cX2_logNight 42 = .ok (.iconst 0, 1) := by decide +kernel
theorem dX2_logNight_43 : decode cX2_logNight 43 = .ok (.iaload, 1) := by decide +kernel
theorem dX2_logNight_44 : decode cX2_logNight 44 = .ok (.aload_n 0, 1) := by decide +kernel
theorem dX2_logNight_45 : decode cX2_logNight 45 = .ok (.getfield 18, 3) := by decide +kernel
theorem dX2_logNight_48 : decode cX2_logNight 48 = .ok (.iconst 1, 1) := by decide +kernel
theorem dX2_logNight_49 : decode cX2_logNight 49 = .ok (.iaload, 1) := by decide +kernel
theorem dX2_logNight_50 : decode cX2_logNight 50 = .ok (.invokevirtual 102, 3) := by decide +kernel
theorem dX2_logNight_53 : decode cX2_logNight 53 = .ok (.istore_n 2, 1) := by decide +kernel
theorem dX2_logNight_54 : decode cX2_logNight 54 = .ok (.aload_n 0, 1) := by decide +kernel
theorem dX2_logNight_55 : decode cX2_logNight 55 = .ok (.getfield 31, 3) := by decide +kernel
theorem dX2_logNight_58 : decode cX2_logNight 58 = .ok (.iload_n 2, 1) := by decide +kernel
theorem dX2_logNight_59 : decode cX2_logNight 59 = .ok (.aload_n 0, 1) := by decide +kernel
theorem dX2_logNight_60 : decode cX2_logNight 60 = .ok (.getfield 9, 3) := by decide +kernel
theorem dX2_logNight_63 : decode cX2_logNight 63 = .ok (.iload_n 1, 1) := by decide +kernel
theorem dX2_logNight_64 : decode cX2_logNight 64 = .ok (.iaload, 1) := by decide +kernel
theorem dX2_logNight_65 : decode cX2_logNight 65 = .ok (.iload_n 2, 1) := by decide +kernel
theorem dX2_logNight_66 : decode cX2_logNight 66 = .ok (.aload_n 0, 1) := by decide +kernel
theorem dX2_logNight_67 : decode cX2_logNight 67 = .ok (.getfield 9, 3) := by decide +kernel
theorem dX2_logNight_70 : decode cX2_logNight 70 = .ok (.iload_n 1, 1) := by decide +kernel
theorem dX2_logNight_71 : decode cX2_logNight 71 = .ok (.iaload, 1) := by decide +kernel
theorem dX2_logNight_72 : decode cX2_logNight 72 = .ok (.isub, 1) := by decide +kernel
theorem dX2_logNight_73 : decode cX2_logNight 73 = .ok (.aload_n 0, 1) := by decide +kernel
theorem dX2_logNight_74 : decode cX2_logNight 74 = .ok (.iload_n 2, 1) := by decide +kernel
theorem dX2_logNight_75 : decode cX2_logNight 75 = .ok (.iload_n 1, 1) := by decide +kernel
theorem dX2_logNight_76 : decode cX2_logNight 76 = .ok (.invokevirtual 105, 3) := by decide +kernel
theorem dX2_logNight_79 : decode cX2_logNight 79 = .ok (.invokevirtual 109, 3) := by decide +kernel
theorem dX2_logNight_82 : decode cX2_logNight 82 = .ok (.ireturn, 1) := by decide +kernel
set_option maxRecDepth 20000 in
theorem ggX2_slopeFoundByTrying_X2_bestSlope : GoodIn wsX2_slopeFoundByTrying wsX2_bestSlope := goodIn_r _ [5, 6, 7, 8, 9, 10, 11, 12, 13, 14, 4, 15, 16, 17, 18, 19, 20, 21, 22, 23] (by decide +kernel) (by decide +kernel)
set_option maxRecDepth 20000 in
theorem gX2_slopeFoundByTrying_X2_bestSlope : GoodIn wsX2_slopeFoundByTrying (wsV RX2 113 RX2 yX2_bestSlope wsX2_bestSlope) := goodIn_app (goodIn_of _ (by decide +kernel)) ggX2_slopeFoundByTrying_X2_bestSlope
theorem dX2_slopeFoundByTrying_0 : decode cX2_slopeFoundByTrying 0 = .ok (.aload_n 0, 1) := by decide +kernel
theorem dX2_slopeFoundByTrying_1 : decode cX2_slopeFoundByTrying 1 = .ok (.iload_n 1, 1) := by decide +kernel
theorem dX2_slopeFoundByTrying_2 : decode cX2_slopeFoundByTrying 2 = .ok (.iload_n 2, 1) := by decide +kernel
theorem dX2_slopeFoundByTrying_3 : decode cX2_slopeFoundByTrying 3 = .ok (.bipush (-30), 2) := by decide +kernel
theorem dX2_slopeFoundByTrying_5 : decode cX2_slopeFoundByTrying 5 = .ok (.bipush 30, 2) := by decide +kernel
theorem dX2_slopeFoundByTrying_7 : decode cX2_slopeFoundByTrying 7 = .ok (.invokevirtual 113, 3) := by decide +kernel
theorem dX2_slopeFoundByTrying_10 : decode cX2_slopeFoundByTrying 10 = .ok (.ireturn, 1) := by decide +kernel
set_option maxRecDepth 20000 in
theorem ggX2_slopeFoundByComputing_X2_place : GoodIn wsX2_slopeFoundByComputing wsX2_place := goodIn_r _ [14, 15, 23, 24, 25, 26, 27, 28, 29] (by decide +kernel) (by decide +kernel)
set_option maxRecDepth 20000 in
theorem gX2_slopeFoundByComputing_X2_place : GoodIn wsX2_slopeFoundByComputing (wsV RX2 56 RX2 yX2_place wsX2_place) := goodIn_app (goodIn_of _ (by decide +kernel)) ggX2_slopeFoundByComputing_X2_place
set_option maxRecDepth 20000 in
theorem ggX2_slopeFoundByComputing_X2_bestSlope : GoodIn wsX2_slopeFoundByComputing wsX2_bestSlope := goodIn_r _ [19, 1, 2, 20, 21, 5, 22, 10, 11, 12, 13, 14, 15, 23, 24, 25, 26, 27, 28, 29] (by decide +kernel) (by decide +kernel)
set_option maxRecDepth 20000 in
theorem gX2_slopeFoundByComputing_X2_bestSlope : GoodIn wsX2_slopeFoundByComputing (wsV RX2 113 RX2 yX2_bestSlope wsX2_bestSlope) := goodIn_app (goodIn_of _ (by decide +kernel)) ggX2_slopeFoundByComputing_X2_bestSlope
theorem dX2_slopeFoundByComputing_0 : decode cX2_slopeFoundByComputing 0 = .ok (.aload_n 0, 1) := by decide +kernel
theorem dX2_slopeFoundByComputing_1 : decode cX2_slopeFoundByComputing 1 = .ok (.getfield 9, 3) := by decide +kernel
theorem dX2_slopeFoundByComputing_4 : decode cX2_slopeFoundByComputing 4 = .ok (.iload_n 2, 1) := by decide +kernel
theorem dX2_slopeFoundByComputing_5 : decode cX2_slopeFoundByComputing 5 = .ok (.iaload, 1) := by decide +kernel
theorem dX2_slopeFoundByComputing_6 : decode cX2_slopeFoundByComputing 6 = .ok (.istore_n 3, 1) := by decide +kernel
theorem dX2_slopeFoundByComputing_7 : decode cX2_slopeFoundByComputing 7 = .ok (.iload_n 3, 1) := by decide +kernel
theorem dX2_slopeFoundByComputing_8 : decode cX2_slopeFoundByComputing 8 = .ok (.ifCond .gt 6, 3) := by decide +kernel
theorem dX2_slopeFoundByComputing_11 : decode cX2_slopeFoundByComputing 11 = .ok (.bipush (-30), 2) := by decide +kernel
theorem dX2_slopeFoundByComputing_13 : decode cX2_slopeFoundByComputing 13 = .ok (.ireturn, 1) := by decide +kernel
theorem dX2_slopeFoundByComputing_14 : decode cX2_slopeFoundByComputing 14 = .ok (.aload_n 0, 1) := by decide +kernel
theorem dX2_slopeFoundByComputing_15 : decode cX2_slopeFoundByComputing 15 = .ok (.iconst 1, 1) := by decide +kernel
theorem dX2_slopeFoundByComputing_16 : decode cX2_slopeFoundByComputing 16 = .ok (.iload_n 1, 1) := by decide +kernel
theorem dX2_slopeFoundByComputing_17 : decode cX2_slopeFoundByComputing 17 = .ok (.isub, 1) := by decide +kernel
theorem dX2_slopeFoundByComputing_18 : decode cX2_slopeFoundByComputing 18 = .ok (.aload_n 0, 1) := by decide +kernel
theorem dX2_slopeFoundByComputing_19 : decode cX2_slopeFoundByComputing 19 = .ok (.getfield 18, 3) := by decide +kernel
theorem dX2_slopeFoundByComputing_22 : decode cX2_slopeFoundByComputing 22 = .ok (.iconst 1, 1) := by decide +kernel
theorem dX2_slopeFoundByComputing_23 : decode cX2_slopeFoundByComputing 23 = .ok (.iload_n 1, 1) := by decide +kernel
theorem dX2_slopeFoundByComputing_24 : decode cX2_slopeFoundByComputing 24 = .ok (.isub, 1) := by decide +kernel
theorem dX2_slopeFoundByComputing_25 : decode cX2_slopeFoundByComputing 25 = .ok (.iaload, 1) := by decide +kernel
theorem dX2_slopeFoundByComputing_26 : decode cX2_slopeFoundByComputing 26 = .ok (.iload_n 3, 1) := by decide +kernel
theorem dX2_slopeFoundByComputing_27 : decode cX2_slopeFoundByComputing 27 = .ok (.invokevirtual 56, 3) := by decide +kernel
theorem dX2_slopeFoundByComputing_30 : decode cX2_slopeFoundByComputing 30 = .ok (.aload_n 0, 1) := by decide +kernel
theorem dX2_slopeFoundByComputing_31 : decode cX2_slopeFoundByComputing 31 = .ok (.iload_n 1, 1) := by decide +kernel
theorem dX2_slopeFoundByComputing_32 : decode cX2_slopeFoundByComputing 32 = .ok (.iconst 0, 1) := by decide +kernel
theorem dX2_slopeFoundByComputing_33 : decode cX2_slopeFoundByComputing 33 = .ok (.iload_n 3, 1) := by decide +kernel
theorem dX2_slopeFoundByComputing_34 : decode cX2_slopeFoundByComputing 34 = .ok (.invokevirtual 56, 3) := by decide +kernel
theorem dX2_slopeFoundByComputing_37 : decode cX2_slopeFoundByComputing 37 = .ok (.isub, 1) := by decide +kernel
theorem dX2_slopeFoundByComputing_38 : decode cX2_slopeFoundByComputing 38 = .ok (.istore 4, 2) := by decide +kernel
theorem dX2_slopeFoundByComputing_40 : decode cX2_slopeFoundByComputing 40 = .ok (.bipush (-30), 2) := by decide +kernel
theorem dX2_slopeFoundByComputing_42 : decode cX2_slopeFoundByComputing 42 = .ok (.bipush 30, 2) := by decide +kernel
theorem dX2_slopeFoundByComputing_44 : decode cX2_slopeFoundByComputing 44 = .ok (.bipush 10, 2) := by decide +kernel
theorem dX2_slopeFoundByComputing_46 : decode cX2_slopeFoundByComputing 46 = .ok (.iload 4, 2) := by decide +kernel
theorem dX2_slopeFoundByComputing_48 : decode cX2_slopeFoundByComputing 48 = .ok (.imul, 1) := by decide +kernel
theorem dX2_slopeFoundByComputing_49 : decode cX2_slopeFoundByComputing 49 = .ok (.iload_n 3, 1) := by decide +kernel
theorem dX2_slopeFoundByComputing_50 : decode cX2_slopeFoundByComputing 50 = .ok (.idiv, 1) := by decide +kernel
theorem dX2_slopeFoundByComputing_51 : decode cX2_slopeFoundByComputing 51 = .ok (.invokestatic 117, 3) := by decide +kernel
theorem dX2_slopeFoundByComputing_54 : decode cX2_slopeFoundByComputing 54 = .ok (.invokestatic 120, 3) := by decide +kernel
theorem dX2_slopeFoundByComputing_57 : decode cX2_slopeFoundByComputing 57 = .ok (.istore 5, 2) := by decide +kernel
theorem dX2_slopeFoundByComputing_59 : decode cX2_slopeFoundByComputing 59 = .ok (.aload_n 0, 1) := by decide +kernel
theorem dX2_slopeFoundByComputing_60 : decode cX2_slopeFoundByComputing 60 = .ok (.iload_n 1, 1) := by decide +kernel
theorem dX2_slopeFoundByComputing_61 : decode cX2_slopeFoundByComputing 61 = .ok (.iload_n 2, 1) := by decide +kernel
theorem dX2_slopeFoundByComputing_62 : decode cX2_slopeFoundByComputing 62 = .ok (.bipush (-30), 2) := by decide +kernel
theorem dX2_slopeFoundByComputing_64 : decode cX2_slopeFoundByComputing 64 = .ok (.iload 5, 2) := by decide +kernel
theorem dX2_slopeFoundByComputing_66 : decode cX2_slopeFoundByComputing 66 = .ok (.iconst 1, 1) := by decide +kernel
theorem dX2_slopeFoundByComputing_67 : decode cX2_slopeFoundByComputing 67 = .ok (.isub, 1) := by decide +kernel
theorem dX2_slopeFoundByComputing_68 : decode cX2_slopeFoundByComputing 68 = .ok (.invokestatic 120, 3) := by decide +kernel
theorem dX2_slopeFoundByComputing_71 : decode cX2_slopeFoundByComputing 71 = .ok (.bipush 30, 2) := by decide +kernel
theorem dX2_slopeFoundByComputing_73 : decode cX2_slopeFoundByComputing 73 = .ok (.iload 5, 2) := by decide +kernel
theorem dX2_slopeFoundByComputing_75 : decode cX2_slopeFoundByComputing 75 = .ok (.iconst 1, 1) := by decide +kernel
theorem dX2_slopeFoundByComputing_76 : decode cX2_slopeFoundByComputing 76 = .ok (.iadd, 1) := by decide +kernel
theorem dX2_slopeFoundByComputing_77 : decode cX2_slopeFoundByComputing 77 = .ok (.invokestatic 117, 3) := by decide +kernel
theorem dX2_slopeFoundByComputing_80 : decode cX2_slopeFoundByComputing 80 = .ok (.invokevirtual 113, 3) := by decide +kernel
theorem dX2_slopeFoundByComputing_83 : decode cX2_slopeFoundByComputing 83 = .ok (.ireturn, 1) := by decide +kernel
set_option maxRecDepth 20000 in
theorem ggX2_bestSlope_X2_place : GoodIn wsX2_bestSlope wsX2_place := goodIn_r _ [11, 12, 13, 14, 15, 16, 17, 18, 19] (by decide +kernel) (by decide +kernel)
set_option maxRecDepth 20000 in
theorem gX2_bestSlope_X2_place : GoodIn wsX2_bestSlope (wsV RX2 56 RX2 yX2_place wsX2_place) := goodIn_app (goodIn_of _ (by decide +kernel)) ggX2_bestSlope_X2_place
