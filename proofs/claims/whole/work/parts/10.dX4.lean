set_option maxRecDepth 20000 in
theorem ggX4_isPackable_X4_pack : GoodIn wsX4_isPackable wsX4_pack := goodIn_r _ [8, 9, 10, 2, 11, 3, 12, 13, 14, 15, 16, 17, 18, 19, 7, 20, 21, 22, 23, 24, 25, 26, 27, 28, 29, 30, 31, 32, 33, 34, 35, 36, 37, 38, 39, 40, 41, 42] (by decide +kernel) (by decide +kernel)
set_option maxRecDepth 20000 in
theorem gX4_isPackable_X4_pack : GoodIn wsX4_isPackable (wsV RX4 77 RX4 yX4_pack wsX4_pack) := goodIn_app (goodIn_of _ (by decide +kernel)) ggX4_isPackable_X4_pack
theorem dX4_isPackable_0 : decode cX4_isPackable 0 = .ok (.aload_n 0, 1) := by decide +kernel
theorem dX4_isPackable_1 : decode cX4_isPackable 1 = .ok (.invokevirtual 77, 3) := by decide +kernel
theorem dX4_isPackable_4 : decode cX4_isPackable 4 = .ok (.aload_n 0, 1) := by decide +kernel
theorem dX4_isPackable_5 : decode cX4_isPackable 5 = .ok (.getfield 60, 3) := by decide +kernel
theorem dX4_isPackable_8 : decode cX4_isPackable 8 = .ok (.aload_n 0, 1) := by decide +kernel
theorem dX4_isPackable_9 : decode cX4_isPackable 9 = .ok (.getfield 47, 3) := by decide +kernel
theorem dX4_isPackable_12 : decode cX4_isPackable 12 = .ok (.iadd, 1) := by decide +kernel
theorem dX4_isPackable_13 : decode cX4_isPackable 13 = .ok (.aload_n 0, 1) := by decide +kernel
theorem dX4_isPackable_14 : decode cX4_isPackable 14 = .ok (.getfield 71, 3) := by decide +kernel
theorem dX4_isPackable_17 : decode cX4_isPackable 17 = .ok (.iadd, 1) := by decide +kernel
theorem dX4_isPackable_18 : decode cX4_isPackable 18 = .ok (.bipush 60, 2) := by decide +kernel
theorem dX4_isPackable_20 : decode cX4_isPackable 20 = .ok (.iadd, 1) := by decide +kernel
theorem dX4_isPackable_21 : decode cX4_isPackable 21 = .ok (.sipush 256, 3) := by decide +kernel
theorem dX4_isPackable_24 : decode cX4_isPackable 24 = .ok (.if_icmp .gt 7, 3) := by decide +kernel
theorem dX4_isPackable_27 : decode cX4_isPackable 27 = .ok (.iconst 1, 1) := by decide +kernel
theorem dX4_isPackable_28 : decode cX4_isPackable 28 = .ok (.goto 4, 3) := by decide +kernel
theorem dX4_isPackable_31 : decode cX4_isPackable 31 = .ok (.iconst 0, 1) := by decide +kernel
theorem dX4_isPackable_32 : decode cX4_isPackable 32 = .ok (.ireturn, 1) := by decide +kernel
set_option maxRecDepth 20000 in
theorem ggX4_loadPacked_X4_isPackable : GoodIn wsX4_loadPacked wsX4_isPackable := goodIn_r _ [12, 2, 3, 4, 13, 14, 15, 11, 16, 17, 18, 19, 5, 20, 7, 21, 22, 23, 24, 25, 26, 27, 58, 59, 60, 61, 62, 63, 64, 65, 66, 67, 68, 69, 70, 71, 72, 73, 74, 75, 76, 77, 78] (by decide +kernel) (by decide +kernel)
set_option maxRecDepth 20000 in
theorem gX4_loadPacked_X4_isPackable : GoodIn wsX4_loadPacked (wsV RX4 121 RX4 yX4_isPackable wsX4_isPackable) := goodIn_app (goodIn_of _ (by decide +kernel)) ggX4_loadPacked_X4_isPackable
set_option maxRecDepth 20000 in
theorem ggX4_loadPacked_X4_clear : GoodIn wsX4_loadPacked wsX4_clear := goodIn_r _ [31, 6, 32, 33, 34, 35, 36, 58, 59, 60, 61, 62, 63, 64, 65, 66, 67, 68, 69, 70, 71, 72, 73, 74, 75, 76, 77, 78] (by decide +kernel) (by decide +kernel)
set_option maxRecDepth 20000 in
theorem gX4_loadPacked_X4_clear : GoodIn wsX4_loadPacked (wsV RX4 97 RX4 yX4_clear wsX4_clear) := goodIn_app (goodIn_of _ (by decide +kernel)) ggX4_loadPacked_X4_clear
set_option maxRecDepth 20000 in
theorem ggX4_loadPacked_X4_first : GoodIn wsX4_loadPacked wsX4_first := goodIn_r _ [39, 40, 41, 42, 43, 44, 45, 11, 46, 47] (by decide +kernel) (by decide +kernel)
set_option maxRecDepth 20000 in
theorem gX4_loadPacked_X4_first : GoodIn wsX4_loadPacked (va_wsS RX4 125 yX4_first wsX4_first) := goodIn_app (goodIn_of _ (by decide +kernel)) ggX4_loadPacked_X4_first
set_option maxRecDepth 20000 in
theorem ggX4_loadPacked_X4_second : GoodIn wsX4_loadPacked wsX4_second := goodIn_r _ [51, 52, 53, 54, 55, 56, 5, 2, 57, 44, 45, 11, 46, 47, 58, 59, 60, 61, 62, 63, 64, 65, 66, 67, 68, 69, 70, 71, 72, 73, 74, 75, 76, 77, 78] (by decide +kernel) (by decide +kernel)
set_option maxRecDepth 20000 in
theorem gX4_loadPacked_X4_second : GoodIn wsX4_loadPacked (wsV RX4 128 RX4 yX4_second wsX4_second) := goodIn_app (goodIn_of _ (by decide +kernel)) ggX4_loadPacked_X4_second
theorem dX4_loadPacked_0 : decode cX4_loadPacked 0 = .ok (.aload_n 0, 1) := by decide +kernel
theorem dX4_loadPacked_1 : decode cX4_loadPacked 1 = .ok (.aload_n 0, 1) := by decide +kernel
theorem dX4_loadPacked_2 : decode cX4_loadPacked 2 = .ok (.invokevirtual 121, 3) := by decide +kernel
theorem dX4_loadPacked_5 : decode cX4_loadPacked 5 = .ok (.ifCond .eq 7, 3) := by decide +kernel
theorem dX4_loadPacked_8 : decode cX4_loadPacked 8 = .ok (.iconst 0, 1) := by decide +kernel
theorem dX4_loadPacked_9 : decode cX4_loadPacked 9 = .ok (.goto 4, 3) := by decide +kernel
theorem dX4_loadPacked_12 : decode cX4_loadPacked 12 = .ok (.iconst 1, 1) := by decide +kernel
theorem dX4_loadPacked_13 : decode cX4_loadPacked 13 = .ok (.putfield 44, 3) := by decide +kernel
theorem dX4_loadPacked_16 : decode cX4_loadPacked 16 = .ok (.aload_n 0, 1) := by decide +kernel
theorem dX4_loadPacked_17 : decode cX4_loadPacked 17 = .ok (.getfield 44, 3) := by decide +kernel
theorem dX4_loadPacked_20 : decode cX4_loadPacked 20 = .ok (.ifCond .le 5, 3) := by decide +kernel
theorem dX4_loadPacked_23 : decode cX4_loadPacked 23 = .ok (.iconst 0, 1) := by decide +kernel
theorem dX4_loadPacked_24 : decode cX4_loadPacked 24 = .ok (.ireturn, 1) := by decide +kernel
theorem dX4_loadPacked_25 : decode cX4_loadPacked 25 = .ok (.aload_n 0, 1) := by decide +kernel
theorem dX4_loadPacked_26 : decode cX4_loadPacked 26 = .ok (.getfield 60, 3) := by decide +kernel
theorem dX4_loadPacked_29 : decode cX4_loadPacked 29 = .ok (.aload_n 0, 1) := by decide +kernel
theorem dX4_loadPacked_30 : decode cX4_loadPacked 30 = .ok (.getfield 47, 3) := by decide +kernel
theorem dX4_loadPacked_33 : decode cX4_loadPacked 33 = .ok (.iadd, 1) := by decide +kernel
theorem dX4_loadPacked_34 : decode cX4_loadPacked 34 = .ok (.aload_n 0, 1) := by decide +kernel
theorem dX4_loadPacked_35 : decode cX4_loadPacked 35 = .ok (.getfield 71, 3) := by decide +kernel
theorem dX4_loadPacked_38 : decode cX4_loadPacked 38 = .ok (.iadd, 1) := by decide +kernel
theorem dX4_loadPacked_39 : decode cX4_loadPacked 39 = .ok (.istore_n 1, 1) := by decide +kernel
theorem dX4_loadPacked_40 : decode cX4_loadPacked 40 = .ok (.aload_n 0, 1) := by decide +kernel
theorem dX4_loadPacked_41 : decode cX4_loadPacked 41 = .ok (.iload_n 1, 1) := by decide +kernel
theorem dX4_loadPacked_42 : decode cX4_loadPacked 42 = .ok (.invokevirtual 97, 3) := by decide +kernel
theorem dX4_loadPacked_45 : decode cX4_loadPacked 45 = .ok (.iconst 0, 1) := by decide +kernel
theorem dX4_loadPacked_46 : decode cX4_loadPacked 46 = .ok (.istore_n 2, 1) := by decide +kernel
theorem dX4_loadPacked_47 : decode cX4_loadPacked 47 = .ok (.iload_n 2, 1) := by decide +kernel
theorem dX4_loadPacked_48 : decode cX4_loadPacked 48 = .ok (.aload_n 0, 1) := by decide +kernel
theorem dX4_loadPacked_49 : decode cX4_loadPacked 49 = .ok (.getfield 74, 3) := by decide +kernel
theorem dX4_loadPacked_52 : decode cX4_loadPacked 52 = .ok (.if_icmp .ge 28, 3) := by decide +kernel
theorem dX4_loadPacked_55 : decode cX4_loadPacked 55 = .ok (.aload_n 0, 1) := by decide +kernel
theorem dX4_loadPacked_56 : decode cX4_loadPacked 56 = .ok (.getfield 31, 3) := by decide +kernel
theorem dX4_loadPacked_59 : decode cX4_loadPacked 59 = .ok (.iload_n 1, 1) := by decide +kernel
theorem dX4_loadPacked_60 : decode cX4_loadPacked 60 = .ok (.aload_n 0, 1) := by decide +kernel
theorem dX4_loadPacked_61 : decode cX4_loadPacked 61 = .ok (.getfield 74, 3) := by decide +kernel
theorem dX4_loadPacked_64 : decode cX4_loadPacked 64 = .ok (.isub, 1) := by decide +kernel
theorem dX4_loadPacked_65 : decode cX4_loadPacked 65 = .ok (.iload_n 2, 1) := by decide +kernel
theorem dX4_loadPacked_66 : decode cX4_loadPacked 66 = .ok (.iadd, 1) := by decide +kernel
theorem dX4_loadPacked_67 : decode cX4_loadPacked 67 = .ok (.aload_n 0, 1) := by decide +kernel
theorem dX4_loadPacked_68 : decode cX4_loadPacked 68 = .ok (.getfield 13, 3) := by decide +kernel
theorem dX4_loadPacked_71 : decode cX4_loadPacked 71 = .ok (.iload_n 2, 1) := by decide +kernel
theorem dX4_loadPacked_72 : decode cX4_loadPacked 72 = .ok (.iaload, 1) := by decide +kernel
theorem dX4_loadPacked_73 : decode cX4_loadPacked 73 = .ok (.iastore, 1) := by decide +kernel
theorem dX4_loadPacked_74 : decode cX4_loadPacked 74 = .ok (.iinc 2 1, 3) := by decide +kernel
theorem dX4_loadPacked_77 : decode cX4_loadPacked 77 = .ok (.goto (-30), 3) := by decide +kernel
theorem dX4_loadPacked_80 : decode cX4_loadPacked 80 = .ok (.iconst 0, 1) := by decide +kernel
theorem dX4_loadPacked_81 : decode cX4_loadPacked 81 = .ok (.istore_n 2, 1) := by decide +kernel
theorem dX4_loadPacked_82 : decode cX4_loadPacked 82 = .ok (.iload_n 2, 1) := by decide +kernel
theorem dX4_loadPacked_83 : decode cX4_loadPacked 83 = .ok (.bipush 30, 2) := by decide +kernel
theorem dX4_loadPacked_85 : decode cX4_loadPacked 85 = .ok (.if_icmp .ge 41, 3) := by decide +kernel
theorem dX4_loadPacked_88 : decode cX4_loadPacked 88 = .ok (.aload_n 0, 1) := by decide +kernel
theorem dX4_loadPacked_89 : decode cX4_loadPacked 89 = .ok (.getfield 31, 3) := by decide +kernel
theorem dX4_loadPacked_92 : decode cX4_loadPacked 92 = .ok (.iload_n 1, 1) := by decide +kernel
theorem dX4_loadPacked_93 : decode cX4_loadPacked 93 = .ok (.iconst 2, 1) := by decide +kernel
theorem dX4_loadPacked_94 : decode cX4_loadPacked 94 = .ok (.iload_n 2, 1) := by decide +kernel
theorem dX4_loadPacked_95 : decode cX4_loadPacked 95 = .ok (.imul, 1) := by decide +kernel
theorem dX4_loadPacked_96 : decode cX4_loadPacked 96 = .ok (.iadd, 1) := by decide +kernel
theorem dX4_loadPacked_97 : decode cX4_loadPacked 97 = .ok (.iload_n 2, 1) := by decide +kernel
theorem dX4_loadPacked_98 : decode cX4_loadPacked 98 = .ok (.invokestatic 125, 3) := by decide +kernel
theorem dX4_loadPacked_101 : decode cX4_loadPacked 101 = .ok (.iastore, 1) := by decide +kernel
theorem dX4_loadPacked_102 : decode cX4_loadPacked 102 = .ok (.aload_n 0, 1) := by decide +kernel
theorem dX4_loadPacked_103 : decode cX4_loadPacked 103 = .ok (.getfield 31, 3) := by decide +kernel
theorem dX4_loadPacked_106 : decode cX4_loadPacked 106 = .ok (.iload_n 1, 1) := by decide +kernel
theorem dX4_loadPacked_107 : decode cX4_loadPacked 107 = .ok (.iconst 2, 1) := by decide +kernel
theorem dX4_loadPacked_108 : decode cX4_loadPacked 108 = .ok (.iload_n 2, 1) := by decide +kernel
theorem dX4_loadPacked_109 : decode cX4_loadPacked 109 = .ok (.imul, 1) := by decide +kernel
theorem dX4_loadPacked_110 : decode cX4_loadPacked 110 = .ok (.iadd, 1) := by decide +kernel
theorem dX4_loadPacked_111 : decode cX4_loadPacked 111 = .ok (.iconst 1, 1) := by decide +kernel
theorem dX4_loadPacked_112 : decode cX4_loadPacked 112 = .ok (.iadd, 1) := by decide +kernel
theorem dX4_loadPacked_113 : decode cX4_loadPacked 113 = .ok (.aload_n 0, 1) := by decide +kernel
theorem dX4_loadPacked_114 : decode cX4_loadPacked 114 = .ok (.iload_n 2, 1) := by decide +kernel
theorem dX4_loadPacked_115 : decode cX4_loadPacked 115 = .ok (.iload_n 1, 1) := by decide +kernel
theorem dX4_loadPacked_116 : decode cX4_loadPacked 116 = .ok (.invokevirtual 128, 3) := by decide +kernel
theorem dX4_loadPacked_119 : decode cX4_loadPacked 119 = .ok (.iastore, 1) := by decide +kernel
theorem dX4_loadPacked_120 : decode cX4_loadPacked 120 = .ok (.iinc 2 1, 3) := by decide +kernel
theorem dX4_loadPacked_123 : decode cX4_loadPacked 123 = .ok (.goto (-41), 3) := by decide +kernel
theorem dX4_loadPacked_126 : decode cX4_loadPacked 126 = .ok (.aload_n 0, 1) := by decide +kernel
theorem dX4_loadPacked_127 : decode cX4_loadPacked 127 = .ok (.getfield 47, 3) := by decide +kernel
theorem dX4_loadPacked_130 : decode cX4_loadPacked 130 = .ok (.aload_n 0, 1) := by decide +kernel
theorem dX4_loadPacked_131 : decode cX4_loadPacked 131 = .ok (.getfield 71, 3) := by decide +kernel
theorem dX4_loadPacked_134 : decode cX4_loadPacked 134 = .ok (.iadd, 1) := by decide +kernel
theorem dX4_loadPacked_135 : decode cX4_loadPacked 135 = .ok (.bipush 60, 2) := by decide +kernel
theorem dX4_loadPacked_137 : decode cX4_loadPacked 137 = .ok (.iadd, 1) := by decide +kernel
theorem dX4_loadPacked_138 : decode cX4_loadPacked 138 = .ok (.ireturn, 1) := by decide +kernel
theorem dX4_putOut_0 : decode cX4_putOut 0 = .ok (.aload_n 0, 1) := by decide +kernel
theorem dX4_putOut_1 : decode cX4_putOut 1 = .ok (.getfield 41, 3) := by decide +kernel
theorem dX4_putOut_4 : decode cX4_putOut 4 = .ok (.aload_n 0, 1) := by decide +kernel
theorem dX4_putOut_5 : decode cX4_putOut 5 = .ok (.getfield 94, 3) := by decide +kernel
theorem dX4_putOut_8 : decode cX4_putOut 8 = .ok (.bipush 32, 2) := by decide +kernel
theorem dX4_putOut_10 : decode cX4_putOut 10 = .ok (.irem, 1) := by decide +kernel
theorem dX4_putOut_11 : decode cX4_putOut 11 = .ok (.iload_n 1, 1) := by decide +kernel
theorem dX4_putOut_12 : decode cX4_putOut 12 = .ok (.iastore, 1) := by decide +kernel
theorem dX4_putOut_13 : decode cX4_putOut 13 = .ok (.aload_n 0, 1) := by decide +kernel
theorem dX4_putOut_14 : decode cX4_putOut 14 = .ok (.dup, 1) := by decide +kernel
theorem dX4_putOut_15 : decode cX4_putOut 15 = .ok (.getfield 94, 3) := by decide +kernel
theorem dX4_putOut_18 : decode cX4_putOut 18 = .ok (.iconst 1, 1) := by decide +kernel
theorem dX4_putOut_19 : decode cX4_putOut 19 = .ok (.iadd, 1) := by decide +kernel
theorem dX4_putOut_20 : decode cX4_putOut 20 = .ok (.putfield 94, 3) := by decide +kernel
theorem dX4_putOut_23 : decode cX4_putOut 23 = .ok (.return_, 1) := by decide +kernel
set_option maxRecDepth 20000 in
theorem ggX4_step_X4_putOut : GoodIn wsX4_step wsX4_putOut := goodIn_r _ [10, 11, 12, 13, 14, 15, 16, 17, 18, 19, 20, 21, 22, 23, 24, 25, 26, 27, 28, 29, 30, 31, 32, 33] (by decide +kernel) (by decide +kernel)
set_option maxRecDepth 20000 in
theorem gX4_step_X4_putOut : GoodIn wsX4_step (wsV RX4 131 RX4 yX4_putOut wsX4_putOut) := goodIn_app (goodIn_of _ (by decide +kernel)) ggX4_step_X4_putOut
theorem dX4_step_0 : decode cX4_step 0 = .ok (.aload_n 0, 1) := by decide +kernel
theorem dX4_step_1 : decode cX4_step 1 = .ok (.getfield 31, 3) := by decide +kernel
theorem dX4_step_4 : decode cX4_step 4 = .ok (.aload_n 0, 1) := by decide +kernel
theorem dX4_step_5 : decode cX4_step 5 = .ok (.getfield 88, 3) := by decide +kernel
theorem dX4_step_8 : decode cX4_step 8 = .ok (.iaload, 1) := by decide +kernel
theorem dX4_step_9 : decode cX4_step 9 = .ok (.istore_n 1, 1) := by decide +kernel
theorem dX4_step_10 : decode cX4_step 10 = .ok (.aload_n 0, 1) := by decide +kernel
theorem dX4_step_11 : decode cX4_step 11 = .ok (.getfield 31, 3) := by decide +kernel
theorem dX4_step_14 : decode cX4_step 14 = .ok (.aload_n 0, 1) := by decide +kernel
theorem dX4_step_15 : decode cX4_step 15 = .ok (.getfield 88, 3) := by decide +kernel
theorem dX4_step_18 : decode cX4_step 18 = .ok (.iconst 1, 1) := by decide +kernel
theorem dX4_step_19 : decode cX4_step 19 = .ok (.iadd, 1) := by decide +kernel
theorem dX4_step_20 : decode cX4_step 20 = .ok (.sipush 255, 3) := by decide +kernel
theorem dX4_step_23 : decode cX4_step 23 = .ok (.iand, 1) := by decide +kernel
theorem dX4_step_24 : decode cX4_step 24 = .ok (.iaload, 1) := by decide +kernel
theorem dX4_step_25 : decode cX4_step 25 = .ok (.istore_n 2, 1) := by decide +kernel
theorem dX4_step_26 : decode cX4_step 26 = .ok (.iload_n 1, 1) := by decide +kernel
theorem dX4_step_27 : decode cX4_step 27 = .ok (.bipush 7, 2) := by decide +kernel
theorem dX4_step_29 : decode cX4_step 29 = .ok (.iand, 1) := by decide +kernel
theorem dX4_step_30 : decode cX4_step 30 = .ok (.istore_n 3, 1) := by decide +kernel
theorem dX4_step_31 : decode cX4_step 31 = .ok (.aload_n 0, 1) := by decide +kernel
theorem dX4_step_32 : decode cX4_step 32 = .ok (.getfield 34, 3) := by decide +kernel
theorem dX4_step_35 : decode cX4_step 35 = .ok (.iload_n 2, 1) := by decide +kernel
theorem dX4_step_36 : decode cX4_step 36 = .ok (.bipush 7, 2) := by decide +kernel
theorem dX4_step_38 : decode cX4_step 38 = .ok (.iand, 1) := by decide +kernel
theorem dX4_step_39 : decode cX4_step 39 = .ok (.iaload, 1) := by decide +kernel
theorem dX4_step_40 : decode cX4_step 40 = .ok (.istore 4, 2) := by decide +kernel
theorem dX4_step_42 : decode cX4_step 42 = .ok (.aload_n 0, 1) := by decide +kernel
theorem dX4_step_43 : decode cX4_step 43 = .ok (.getfield 34, 3) := by decide +kernel
theorem dX4_step_46 : decode cX4_step 46 = .ok (.iload_n 3, 1) := by decide +kernel
theorem dX4_step_47 : decode cX4_step 47 = .ok (.iaload, 1) := by decide +kernel
theorem dX4_step_48 : decode cX4_step 48 = .ok (.istore 5, 2) := by decide +kernel
theorem dX4_step_50 : decode cX4_step 50 = .ok (.aload_n 0, 1) := by decide +kernel
theorem dX4_step_51 : decode cX4_step 51 = .ok (.aload_n 0, 1) := by decide +kernel
theorem dX4_step_52 : decode cX4_step 52 = .ok (.getfield 88, 3) := by decide +kernel
theorem dX4_step_55 : decode cX4_step 55 = .ok (.iconst 2, 1) := by decide +kernel
theorem dX4_step_56 : decode cX4_step 56 = .ok (.iadd, 1) := by decide +kernel
theorem dX4_step_57 : decode cX4_step 57 = .ok (.sipush 255, 3) := by decide +kernel
theorem dX4_step_60 : decode cX4_step 60 = .ok (.iand, 1) := by decide +kernel
theorem dX4_step_61 : decode cX4_step 61 = .ok (.putfield 88, 3) := by decide +kernel
theorem dX4_step_64 : decode cX4_step 64 = .ok (.aload_n 0, 1) := by decide +kernel
theorem dX4_step_65 : decode cX4_step 65 = .ok (.dup, 1) := by decide +kernel
theorem dX4_step_66 : decode cX4_step 66 = .ok (.getfield 91, 3) := by decide +kernel
theorem dX4_step_69 : decode cX4_step 69 = .ok (.iconst 1, 1) := by decide +kernel
theorem dX4_step_70 : decode cX4_step 70 = .ok (.iadd, 1) := by decide +kernel
theorem dX4_step_71 : decode cX4_step 71 = .ok (.putfield 91, 3) := by decide +kernel
theorem dX4_step_74 : decode cX4_step 74 = .ok (.iload_n 1, 1) := by decide +kernel
theorem dX4_step_75 : decode cX4_step 75 = .ok (.iconst 4, 1) := by decide +kernel
theorem dX4_step_76 : decode cX4_step 76 = .ok (.ishr, 1) := by decide +kernel
theorem dX4_step_77 : decode cX4_step 77 = .ok (.tableswitch 283 0 14 #[75, 83, 93, 104, 122, 139, 155, 167, 185, 193, 213, 235, 244, 258, 274], 75) := by decide +kernel
theorem dX4_step_152 : decode cX4_step 152 = .ok (.aload_n 0, 1) := by decide +kernel
theorem dX4_step_153 : decode cX4_step 153 = .ok (.iconst 1, 1) := by decide +kernel
theorem dX4_step_154 : decode cX4_step 154 = .ok (.putfield 37, 3) := by decide +kernel
theorem dX4_step_157 : decode cX4_step 157 = .ok (.goto 208, 3) := by decide +kernel
theorem dX4_step_160 : decode cX4_step 160 = .ok (.aload_n 0, 1) := by decide +kernel
theorem dX4_step_161 : decode cX4_step 161 = .ok (.getfield 34, 3) := by decide +kernel
theorem dX4_step_164 : decode cX4_step 164 = .ok (.iload_n 3, 1) := by decide +kernel
theorem dX4_step_165 : decode cX4_step 165 = .ok (.iload_n 2, 1) := by decide +kernel
theorem dX4_step_166 : decode cX4_step 166 = .ok (.iastore, 1) := by decide +kernel
theorem dX4_step_167 : decode cX4_step 167 = .ok (.goto 198, 3) := by decide +kernel
theorem dX4_step_170 : decode cX4_step 170 = .ok (.aload_n 0, 1) := by decide +kernel
theorem dX4_step_171 : decode cX4_step 171 = .ok (.getfield 34, 3) := by decide +kernel
theorem dX4_step_174 : decode cX4_step 174 = .ok (.iload_n 3, 1) := by decide +kernel
theorem dX4_step_175 : decode cX4_step 175 = .ok (.iload 4, 2) := by decide +kernel
theorem dX4_step_177 : decode cX4_step 177 = .ok (.iastore, 1) := by decide +kernel
theorem dX4_step_178 : decode cX4_step 178 = .ok (.goto 187, 3) := by decide +kernel
theorem dX4_step_181 : decode cX4_step 181 = .ok (.aload_n 0, 1) := by decide +kernel
theorem dX4_step_182 : decode cX4_step 182 = .ok (.getfield 34, 3) := by decide +kernel
theorem dX4_step_185 : decode cX4_step 185 = .ok (.iload_n 3, 1) := by decide +kernel
theorem dX4_step_186 : decode cX4_step 186 = .ok (.iload 5, 2) := by decide +kernel
theorem dX4_step_188 : decode cX4_step 188 = .ok (.iload 4, 2) := by decide +kernel
theorem dX4_step_190 : decode cX4_step 190 = .ok (.iadd, 1) := by decide +kernel
theorem dX4_step_191 : decode cX4_step 191 = .ok (.sipush 255, 3) := by decide +kernel
theorem dX4_step_194 : decode cX4_step 194 = .ok (.iand, 1) := by decide +kernel
theorem dX4_step_195 : decode cX4_step 195 = .ok (.iastore, 1) := by decide +kernel
theorem dX4_step_196 : decode cX4_step 196 = .ok (.goto 169, 3) := by decide +kernel
theorem dX4_step_199 : decode cX4_step 199 = .ok (.aload_n 0, 1) := by decide +kernel
theorem dX4_step_200 : decode cX4_step 200 = .ok (.getfield 34, 3) := by decide +kernel
theorem dX4_step_203 : decode cX4_step 203 = .ok (.iload_n 3, 1) := by decide +kernel
theorem dX4_step_204 : decode cX4_step 204 = .ok (.iload 5, 2) := by decide +kernel
theorem dX4_step_206 : decode cX4_step 206 = .ok (.iload_n 2, 1) := by decide +kernel
theorem dX4_step_207 : decode cX4_step 207 = .ok (.iadd, 1) := by decide +kernel
theorem dX4_step_208 : decode cX4_step 208 = .ok (.sipush 255, 3) := by decide +kernel
theorem dX4_step_211 : decode cX4_step 211 = .ok (.iand, 1) := by decide +kernel
theorem dX4_step_212 : decode cX4_step 212 = .ok (.iastore, 1) := by decide +kernel
theorem dX4_step_213 : decode cX4_step 213 = .ok (.goto 152, 3) := by decide +kernel
theorem dX4_step_216 : decode cX4_step 216 = .ok (.aload_n 0, 1) := by decide +kernel
theorem dX4_step_217 : decode cX4_step 217 = .ok (.getfield 34, 3) := by decide +kernel
theorem dX4_step_220 : decode cX4_step 220 = .ok (.iload_n 3, 1) := by decide +kernel
theorem dX4_step_221 : decode cX4_step 221 = .ok (.aload_n 0, 1) := by decide +kernel
theorem dX4_step_222 : decode cX4_step 222 = .ok (.getfield 31, 3) := by decide +kernel
theorem dX4_step_225 : decode cX4_step 225 = .ok (.iload 4, 2) := by decide +kernel
theorem dX4_step_227 : decode cX4_step 227 = .ok (.iaload, 1) := by decide +kernel
theorem dX4_step_228 : decode cX4_step 228 = .ok (.iastore, 1) := by decide +kernel
theorem dX4_step_229 : decode cX4_step 229 = .ok (.goto 136, 3) := by decide +kernel
theorem dX4_step_232 : decode cX4_step 232 = .ok (.aload_n 0, 1) := by decide +kernel
theorem dX4_step_233 : decode cX4_step 233 = .ok (.getfield 31, 3) := by decide +kernel
theorem dX4_step_236 : decode cX4_step 236 = .ok (.iload 4, 2) := by decide +kernel
theorem dX4_step_238 : decode cX4_step 238 = .ok (.iload 5, 2) := by decide +kernel
theorem dX4_step_240 : decode cX4_step 240 = .ok (.iastore, 1) := by decide +kernel
theorem dX4_step_241 : decode cX4_step 241 = .ok (.goto 124, 3) := by decide +kernel
theorem dX4_step_244 : decode cX4_step 244 = .ok (.aload_n 0, 1) := by decide +kernel
theorem dX4_step_245 : decode cX4_step 245 = .ok (.getfield 34, 3) := by decide +kernel
theorem dX4_step_248 : decode cX4_step 248 = .ok (.iload_n 3, 1) := by decide +kernel
theorem dX4_step_249 : decode cX4_step 249 = .ok (.iload 5, 2) := by decide +kernel
theorem dX4_step_251 : decode cX4_step 251 = .ok (.iload 4, 2) := by decide +kernel
theorem dX4_step_253 : decode cX4_step 253 = .ok (.isub, 1) := by decide +kernel
theorem dX4_step_254 : decode cX4_step 254 = .ok (.sipush 255, 3) := by decide +kernel
theorem dX4_step_257 : decode cX4_step 257 = .ok (.iand, 1) := by decide +kernel
theorem dX4_step_258 : decode cX4_step 258 = .ok (.iastore, 1) := by decide +kernel
theorem dX4_step_259 : decode cX4_step 259 = .ok (.goto 106, 3) := by decide +kernel
theorem dX4_step_262 : decode cX4_step 262 = .ok (.aload_n 0, 1) := by decide +kernel
theorem dX4_step_263 : decode cX4_step 263 = .ok (.iload_n 2, 1) := by decide +kernel
theorem dX4_step_264 : decode cX4_step 264 = .ok (.putfield 88, 3) := by decide +kernel
theorem dX4_step_267 : decode cX4_step 267 = .ok (.goto 98, 3) := by decide +kernel
theorem dX4_step_270 : decode cX4_step 270 = .ok (.aload_n 0, 1) := by decide +kernel
theorem dX4_step_271 : decode cX4_step 271 = .ok (.iload 5, 2) := by decide +kernel
theorem dX4_step_273 : decode cX4_step 273 = .ok (.ifCond .ne 7, 3) := by decide +kernel
theorem dX4_step_276 : decode cX4_step 276 = .ok (.iload_n 2, 1) := by decide +kernel
theorem dX4_step_277 : decode cX4_step 277 = .ok (.goto 7, 3) := by decide +kernel
theorem dX4_step_280 : decode cX4_step 280 = .ok (.aload_n 0, 1) := by decide +kernel
theorem dX4_step_281 : decode cX4_step 281 = .ok (.getfield 88, 3) := by decide +kernel
theorem dX4_step_284 : decode cX4_step 284 = .ok (.putfield 88, 3) := by decide +kernel
theorem dX4_step_287 : decode cX4_step 287 = .ok (.goto 78, 3) := by decide +kernel
theorem dX4_step_290 : decode cX4_step 290 = .ok (.aload_n 0, 1) := by decide +kernel
theorem dX4_step_291 : decode cX4_step 291 = .ok (.iload 5, 2) := by decide +kernel
theorem dX4_step_293 : decode cX4_step 293 = .ok (.bipush 127, 2) := by decide +kernel
theorem dX4_step_295 : decode cX4_step 295 = .ok (.if_icmp .le 7, 3) := by decide +kernel
theorem dX4_step_298 : decode cX4_step 298 = .ok (.iload_n 2, 1) := by decide +kernel
theorem dX4_step_299 : decode cX4_step 299 = .ok (.goto 7, 3) := by decide +kernel
theorem dX4_step_302 : decode cX4_step 302 = .ok (.aload_n 0, 1) := by decide +kernel
theorem dX4_step_303 : decode cX4_step 303 = .ok (.getfield 88, 3) := by decide +kernel
theorem dX4_step_306 : decode cX4_step 306 = .ok (.putfield 88, 3) := by decide +kernel
theorem dX4_step_309 : decode cX4_step 309 = .ok (.goto 56, 3) := by decide +kernel
theorem dX4_step_312 : decode cX4_step 312 = .ok (.aload_n 0, 1) := by decide +kernel
theorem dX4_step_313 : decode cX4_step 313 = .ok (.iload 5, 2) := by decide +kernel
theorem dX4_step_315 : decode cX4_step 315 = .ok (.putfield 88, 3) := by decide +kernel
theorem dX4_step_318 : decode cX4_step 318 = .ok (.goto 47, 3) := by decide +kernel
theorem dX4_step_321 : decode cX4_step 321 = .ok (.aload_n 0, 1) := by decide +kernel
theorem dX4_step_322 : decode cX4_step 322 = .ok (.getfield 34, 3) := by decide +kernel
theorem dX4_step_325 : decode cX4_step 325 = .ok (.iload_n 3, 1) := by decide +kernel
theorem dX4_step_326 : decode cX4_step 326 = .ok (.iload 5, 2) := by decide +kernel
theorem dX4_step_328 : decode cX4_step 328 = .ok (.iload 4, 2) := by decide +kernel
theorem dX4_step_330 : decode cX4_step 330 = .ok (.iand, 1) := by decide +kernel
theorem dX4_step_331 : decode cX4_step 331 = .ok (.iastore, 1) := by decide +kernel
theorem dX4_step_332 : decode cX4_step 332 = .ok (.goto 33, 3) := by decide +kernel
theorem dX4_step_335 : decode cX4_step 335 = .ok (.aload_n 0, 1) := by decide +kernel
theorem dX4_step_336 : decode cX4_step 336 = .ok (.getfield 34, 3) := by decide +kernel
theorem dX4_step_339 : decode cX4_step 339 = .ok (.iload_n 3, 1) := by decide +kernel
theorem dX4_step_340 : decode cX4_step 340 = .ok (.iload 5, 2) := by decide +kernel
theorem dX4_step_342 : decode cX4_step 342 = .ok (.iload_n 2, 1) := by decide +kernel
theorem dX4_step_343 : decode cX4_step 343 = .ok (.bipush 7, 2) := by decide +kernel
theorem dX4_step_345 : decode cX4_step 345 = .ok (.iand, 1) := by decide +kernel
theorem dX4_step_346 : decode cX4_step 346 = .ok (.ishr, 1) := by decide +kernel
theorem dX4_step_347 : decode cX4_step 347 = .ok (.iastore, 1) := by decide +kernel
theorem dX4_step_348 : decode cX4_step 348 = .ok (.goto 17, 3) := by decide +kernel
theorem dX4_step_351 : decode cX4_step 351 = .ok (.aload_n 0, 1) := by decide +kernel
theorem dX4_step_352 : decode cX4_step 352 = .ok (.iload 5, 2) := by decide +kernel
theorem dX4_step_354 : decode cX4_step 354 = .ok (.invokevirtual 131, 3) := by decide +kernel
theorem dX4_step_357 : decode cX4_step 357 = .ok (.goto 8, 3) := by decide +kernel
theorem dX4_step_360 : decode cX4_step 360 = .ok (.aload_n 0, 1) := by decide +kernel
theorem dX4_step_361 : decode cX4_step 361 = .ok (.iconst 2, 1) := by decide +kernel
theorem dX4_step_362 : decode cX4_step 362 = .ok (.putfield 37, 3) := by decide +kernel
theorem dX4_step_365 : decode cX4_step 365 = .ok (.return_, 1) := by decide +kernel
set_option maxRecDepth 20000 in
theorem ggX4_run_X4_step : GoodIn wsX4_run wsX4_step := goodIn_r _ [8, 9, 3, 10, 11, 2, 12, 13, 14, 7, 15, 16, 17, 18, 19, 20, 21, 22, 23, 24, 25, 26, 27, 28, 29, 30, 31, 32, 33, 34, 35, 36, 37, 38] (by decide +kernel) (by decide +kernel)
set_option maxRecDepth 20000 in
theorem gX4_run_X4_step : GoodIn wsX4_run (wsV RX4 134 RX4 yX4_step wsX4_step) := goodIn_app (goodIn_of _ (by decide +kernel)) ggX4_run_X4_step
theorem dX4_run_0 : decode cX4_run 0 = .ok (.aload_n 0, 1) := by decide +kernel
theorem dX4_run_1 : decode cX4_run 1 = .ok (.iload_n 1, 1) := by decide +kernel
theorem dX4_run_2 : decode cX4_run 2 = .ok (.ifCond .lt 22, 3) := by decide +kernel
theorem dX4_run_5 : decode cX4_run 5 = .ok (.iload_n 1, 1) := by decide +kernel
theorem dX4_run_6 : decode cX4_run 6 = .ok (.sipush 4000, 3) := by decide +kernel
theorem dX4_run_9 : decode cX4_run 9 = .ok (.if_icmp .gt 15, 3) := by decide +kernel
theorem dX4_run_12 : decode cX4_run 12 = .ok (.iload_n 2, 1) := by decide +kernel
theorem dX4_run_13 : decode cX4_run 13 = .ok (.iconst (-1), 1) := by decide +kernel
theorem dX4_run_14 : decode cX4_run 14 = .ok (.if_icmp .lt 10, 3) := by decide +kernel
theorem dX4_run_17 : decode cX4_run 17 = .ok (.iload_n 2, 1) := by decide +kernel
theorem dX4_run_18 : decode cX4_run 18 = .ok (.sipush 255, 3) := by decide +kernel
theorem dX4_run_21 : decode cX4_run 21 = .ok (.if_icmp .le 7, 3) := by decide +kernel
theorem dX4_run_24 : decode cX4_run 24 = .ok (.iconst 1, 1) := by decide +kernel
theorem dX4_run_25 : decode cX4_run 25 = .ok (.goto 4, 3) := by decide +kernel
theorem dX4_run_28 : decode cX4_run 28 = .ok (.iconst 0, 1) := by decide +kernel
theorem dX4_run_29 : decode cX4_run 29 = .ok (.putfield 44, 3) := by decide +kernel
theorem dX4_run_32 : decode cX4_run 32 = .ok (.aload_n 0, 1) := by decide +kernel
theorem dX4_run_33 : decode cX4_run 33 = .ok (.getfield 44, 3) := by decide +kernel
theorem dX4_run_36 : decode cX4_run 36 = .ok (.ifCond .le 5, 3) := by decide +kernel
theorem dX4_run_39 : decode cX4_run 39 = .ok (.iconst 0, 1) := by decide +kernel
theorem dX4_run_40 : decode cX4_run 40 = .ok (.ireturn, 1) := by decide +kernel
theorem dX4_run_41 : decode cX4_run 41 = .ok (.iconst 0, 1) := by decide +kernel
theorem dX4_run_42 : decode cX4_run 42 = .ok (.istore_n 3, 1) := by decide +kernel
theorem dX4_run_43 : decode cX4_run 43 = .ok (.iload_n 3, 1) := by decide +kernel
theorem dX4_run_44 : decode cX4_run 44 = .ok (.iload_n 1, 1) := by decide +kernel
theorem dX4_run_45 : decode cX4_run 45 = .ok (.if_icmp .ge 28, 3) := by decide +kernel
theorem dX4_run_48 : decode cX4_run 48 = .ok (.aload_n 0, 1) := by decide +kernel
theorem dX4_run_49 : decode cX4_run 49 = .ok (.getfield 37, 3) := by decide +kernel
theorem dX4_run_52 : decode cX4_run 52 = .ok (.ifCond .ne 21, 3) := by decide +kernel
theorem dX4_run_55 : decode cX4_run 55 = .ok (.aload_n 0, 1) := by decide +kernel
theorem dX4_run_56 : decode cX4_run 56 = .ok (.getfield 88, 3) := by decide +kernel
theorem dX4_run_59 : decode cX4_run 59 = .ok (.iload_n 2, 1) := by decide +kernel
theorem dX4_run_60 : decode cX4_run 60 = .ok (.if_icmp .eq 13, 3) := by decide +kernel
theorem dX4_run_63 : decode cX4_run 63 = .ok (.aload_n 0, 1) := by decide +kernel
theorem dX4_run_64 : decode cX4_run 64 = .ok (.invokevirtual 134, 3) := by decide +kernel
theorem dX4_run_67 : decode cX4_run 67 = .ok (.iinc 3 1, 3) := by decide +kernel
theorem dX4_run_70 : decode cX4_run 70 = .ok (.goto (-27), 3) := by decide +kernel
theorem dX4_run_73 : decode cX4_run 73 = .ok (.iload_n 3, 1) := by decide +kernel
theorem dX4_run_74 : decode cX4_run 74 = .ok (.ireturn, 1) := by decide +kernel
theorem dX4_look_0 : decode cX4_look 0 = .ok (.aload_n 0, 1) := by decide +kernel
theorem dX4_look_1 : decode cX4_look 1 = .ok (.iload_n 1, 1) := by decide +kernel
theorem dX4_look_2 : decode cX4_look 2 = .ok (.ifCond .lt 9, 3) := by decide +kernel
theorem dX4_look_5 : decode cX4_look 5 = .ok (.iload_n 1, 1) := by decide +kernel
theorem dX4_look_6 : decode cX4_look 6 = .ok (.bipush 11, 2) := by decide +kernel
theorem dX4_look_8 : decode cX4_look 8 = .ok (.if_icmp .le 7, 3) := by decide +kernel
theorem dX4_look_11 : decode cX4_look 11 = .ok (.iconst 1, 1) := by decide +kernel
theorem dX4_look_12 : decode cX4_look 12 = .ok (.goto 4, 3) := by decide +kernel
theorem dX4_look_15 : decode cX4_look 15 = .ok (.iconst 0, 1) := by decide +kernel
theorem dX4_look_16 : decode cX4_look 16 = .ok (.putfield 44, 3) := by decide +kernel
theorem dX4_look_19 : decode cX4_look 19 = .ok (.aload_n 0, 1) := by decide +kernel
theorem dX4_look_20 : decode cX4_look 20 = .ok (.getfield 44, 3) := by decide +kernel
theorem dX4_look_23 : decode cX4_look 23 = .ok (.ifCond .le 5, 3) := by decide +kernel
theorem dX4_look_26 : decode cX4_look 26 = .ok (.iconst 0, 1) := by decide +kernel
theorem dX4_look_27 : decode cX4_look 27 = .ok (.ireturn, 1) := by decide +kernel
theorem dX4_look_28 : decode cX4_look 28 = .ok (.iload_n 1, 1) := by decide +kernel
theorem dX4_look_29 : decode cX4_look 29 = .ok (.bipush 8, 2) := by decide +kernel
theorem dX4_look_31 : decode cX4_look 31 = .ok (.if_icmp .ge 12, 3) := by decide +kernel
theorem dX4_look_34 : decode cX4_look 34 = .ok (.aload_n 0, 1) := by decide +kernel
theorem dX4_look_35 : decode cX4_look 35 = .ok (.getfield 34, 3) := by decide +kernel
theorem dX4_look_38 : decode cX4_look 38 = .ok (.iload_n 1, 1) := by decide +kernel
theorem dX4_look_39 : decode cX4_look 39 = .ok (.iaload, 1) := by decide +kernel
theorem dX4_look_40 : decode cX4_look 40 = .ok (.goto 46, 3) := by decide +kernel
theorem dX4_look_43 : decode cX4_look 43 = .ok (.iload_n 1, 1) := by decide +kernel
theorem dX4_look_44 : decode cX4_look 44 = .ok (.bipush 8, 2) := by decide +kernel
theorem dX4_look_46 : decode cX4_look 46 = .ok (.if_icmp .ne 10, 3) := by decide +kernel
theorem dX4_look_49 : decode cX4_look 49 = .ok (.aload_n 0, 1) := by decide +kernel
theorem dX4_look_50 : decode cX4_look 50 = .ok (.getfield 88, 3) := by decide +kernel
theorem dX4_look_53 : decode cX4_look 53 = .ok (.goto 33, 3) := by decide +kernel
theorem dX4_look_56 : decode cX4_look 56 = .ok (.iload_n 1, 1) := by decide +kernel
theorem dX4_look_57 : decode cX4_look 57 = .ok (.bipush 9, 2) := by decide +kernel
theorem dX4_look_59 : decode cX4_look 59 = .ok (.if_icmp .ne 10, 3) := by decide +kernel
theorem dX4_look_62 : decode cX4_look 62 = .ok (.aload_n 0, 1) := by decide +kernel
theorem dX4_look_63 : decode cX4_look 63 = .ok (.getfield 37, 3) := by decide +kernel
theorem dX4_look_66 : decode cX4_look 66 = .ok (.goto 20, 3) := by decide +kernel
theorem dX4_look_69 : decode cX4_look 69 = .ok (.iload_n 1, 1) := by decide +kernel
theorem dX4_look_70 : decode cX4_look 70 = .ok (.bipush 10, 2) := by decide +kernel
theorem dX4_look_72 : decode cX4_look 72 = .ok (.if_icmp .ne 10, 3) := by decide +kernel
theorem dX4_look_75 : decode cX4_look 75 = .ok (.aload_n 0, 1) := by decide +kernel
theorem dX4_look_76 : decode cX4_look 76 = .ok (.getfield 91, 3) := by decide +kernel
theorem dX4_look_79 : decode cX4_look 79 = .ok (.goto 7, 3) := by decide +kernel
theorem dX4_look_82 : decode cX4_look 82 = .ok (.aload_n 0, 1) := by decide +kernel
theorem dX4_look_83 : decode cX4_look 83 = .ok (.getfield 94, 3) := by decide +kernel
theorem dX4_look_86 : decode cX4_look 86 = .ok (.ireturn, 1) := by decide +kernel
set_option maxRecDepth 20000 in
theorem ggX4_memory_X4_isByte : GoodIn wsX4_memory wsX4_isByte := goodIn_r _ [6] (by decide +kernel) (by decide +kernel)
set_option maxRecDepth 20000 in
theorem gX4_memory_X4_isByte : GoodIn wsX4_memory (va_wsS RX4 56 yX4_isByte wsX4_isByte) := goodIn_app (goodIn_of _ (by decide +kernel)) ggX4_memory_X4_isByte
theorem dX4_memory_0 : decode cX4_memory 0 = .ok (.aload_n 0, 1) := by decide +kernel
theorem dX4_memory_1 : decode cX4_memory 1 = .ok (.iload_n 1, 1) := by decide +kernel
theorem dX4_memory_2 : decode cX4_memory 2 = .ok (.invokestatic 56, 3) := by decide +kernel
theorem dX4_memory_5 : decode cX4_memory 5 = .ok (.ifCond .eq 7, 3) := by decide +kernel
theorem dX4_memory_8 : decode cX4_memory 8 = .ok (.iconst 0, 1) := by decide +kernel
theorem dX4_memory_9 : decode cX4_memory 9 = .ok (.goto 4, 3) := by decide +kernel
theorem dX4_memory_12 : decode cX4_memory 12 = .ok (.iconst 1, 1) := by decide +kernel
theorem dX4_memory_13 : decode cX4_memory 13 = .ok (.putfield 44, 3) := by decide +kernel
theorem dX4_memory_16 : decode cX4_memory 16 = .ok (.aload_n 0, 1) := by decide +kernel
theorem dX4_memory_17 : decode cX4_memory 17 = .ok (.getfield 44, 3) := by decide +kernel
theorem dX4_memory_20 : decode cX4_memory 20 = .ok (.ifCond .le 7, 3) := by decide +kernel
theorem dX4_memory_23 : decode cX4_memory 23 = .ok (.iconst 0, 1) := by decide +kernel
theorem dX4_memory_24 : decode cX4_memory 24 = .ok (.goto 9, 3) := by decide +kernel
theorem dX4_memory_27 : decode cX4_memory 27 = .ok (.aload_n 0, 1) := by decide +kernel
theorem dX4_memory_28 : decode cX4_memory 28 = .ok (.getfield 31, 3) := by decide +kernel
theorem dX4_memory_31 : decode cX4_memory 31 = .ok (.iload_n 1, 1) := by decide +kernel
theorem dX4_memory_32 : decode cX4_memory 32 = .ok (.iaload, 1) := by decide +kernel
theorem dX4_memory_33 : decode cX4_memory 33 = .ok (.ireturn, 1) := by decide +kernel
theorem dX4_out_0 : decode cX4_out 0 = .ok (.aload_n 0, 1) := by decide +kernel
theorem dX4_out_1 : decode cX4_out 1 = .ok (.iload_n 1, 1) := by decide +kernel
theorem dX4_out_2 : decode cX4_out 2 = .ok (.ifCond .lt 22, 3) := by decide +kernel
theorem dX4_out_5 : decode cX4_out 5 = .ok (.iload_n 1, 1) := by decide +kernel
theorem dX4_out_6 : decode cX4_out 6 = .ok (.aload_n 0, 1) := by decide +kernel
theorem dX4_out_7 : decode cX4_out 7 = .ok (.getfield 94, 3) := by decide +kernel
theorem dX4_out_10 : decode cX4_out 10 = .ok (.if_icmp .ge 14, 3) := by decide +kernel
theorem dX4_out_13 : decode cX4_out 13 = .ok (.iload_n 1, 1) := by decide +kernel
theorem dX4_out_14 : decode cX4_out 14 = .ok (.aload_n 0, 1) := by decide +kernel
theorem dX4_out_15 : decode cX4_out 15 = .ok (.getfield 94, 3) := by decide +kernel
theorem dX4_out_18 : decode cX4_out 18 = .ok (.bipush 32, 2) := by decide +kernel
theorem dX4_out_20 : decode cX4_out 20 = .ok (.isub, 1) := by decide +kernel
theorem dX4_out_21 : decode cX4_out 21 = .ok (.if_icmp .ge 7, 3) := by decide +kernel
theorem dX4_out_24 : decode cX4_out 24 = .ok (.iconst 1, 1) := by decide +kernel
theorem dX4_out_25 : decode cX4_out 25 = .ok (.goto 4, 3) := by decide +kernel
theorem dX4_out_28 : decode cX4_out 28 = .ok (.iconst 0, 1) := by decide +kernel
theorem dX4_out_29 : decode cX4_out 29 = .ok (.putfield 44, 3) := by decide +kernel
theorem dX4_out_32 : decode cX4_out 32 = .ok (.aload_n 0, 1) := by decide +kernel
theorem dX4_out_33 : decode cX4_out 33 = .ok (.getfield 44, 3) := by decide +kernel
theorem dX4_out_36 : decode cX4_out 36 = .ok (.ifCond .le 7, 3) := by decide +kernel
theorem dX4_out_39 : decode cX4_out 39 = .ok (.iconst 0, 1) := by decide +kernel
theorem dX4_out_40 : decode cX4_out 40 = .ok (.goto 12, 3) := by decide +kernel
theorem dX4_out_43 : decode cX4_out 43 = .ok (.aload_n 0, 1) := by decide +kernel
theorem dX4_out_44 : decode cX4_out 44 = .ok (.getfield 41, 3) := by decide +kernel
theorem dX4_out_47 : decode cX4_out 47 = .ok (.iload_n 1, 1) := by decide +kernel
theorem dX4_out_48 : decode cX4_out 48 = .ok (.bipush 32, 2) := by decide +kernel
theorem dX4_out_50 : decode cX4_out 50 = .ok (.irem, 1) := by decide +kernel
theorem dX4_out_51 : decode cX4_out 51 = .ok (.iaload, 1) := by decide +kernel
theorem dX4_out_52 : decode cX4_out 52 = .ok (.ireturn, 1) := by decide +kernel
