set_option maxRecDepth 20000 in
theorem ggX3_memory_X3_isByte : GoodIn wsX3_memory wsX3_isByte := goodIn_r _ [8] (by decide +kernel) (by decide +kernel)
set_option maxRecDepth 20000 in
theorem gX3_memory_X3_isByte : GoodIn wsX3_memory (va_wsS RX3 51 yX3_isByte wsX3_isByte) := goodIn_app (goodIn_of _ (by decide +kernel)) ggX3_memory_X3_isByte
theorem dX3_memory_0 : decode cX3_memory 0 = .ok (.iload_n 1, 1) := by decide +kernel
theorem dX3_memory_1 : decode cX3_memory 1 = .ok (.invokestatic 51, 3) := by decide +kernel
theorem dX3_memory_4 : decode cX3_memory 4 = .ok (.ifCond .ne 11, 3) := by decide +kernel
theorem dX3_memory_7 : decode cX3_memory 7 = .ok (.new 48, 3) := by decide +kernel
theorem dX3_memory_10 : decode cX3_memory 10 = .ok (.dup, 1) := by decide +kernel
theorem dX3_memory_11 : decode cX3_memory 11 = .ok (.invokespecial 50, 3) := by decide +kernel
theorem dX3_memory_14 : decode cX3_memory 14 = .ok (.athrow, 1) := by decide +kernel
theorem dX3_memory_15 : decode cX3_memory 15 = .ok (.aload_n 0, 1) := by decide +kernel
theorem dX3_memory_16 : decode cX3_memory 16 = .ok (.getfield 24, 3) := by decide +kernel
theorem dX3_memory_19 : decode cX3_memory 19 = .ok (.getfield 135, 3) := by decide +kernel
theorem dX3_memory_22 : decode cX3_memory 22 = .ok (.iload_n 1, 1) := by decide +kernel
theorem dX3_memory_23 : decode cX3_memory 23 = .ok (.iaload, 1) := by decide +kernel
theorem dX3_memory_24 : decode cX3_memory 24 = .ok (.ireturn, 1) := by decide +kernel
set_option maxRecDepth 20000 in
theorem ggX3_out_X0_keeps : GoodIn wsX3_out wsX0_keeps := goodIn_r _ [9, 10, 14, 15, 16, 17, 18, 19, 20] (by decide +kernel) (by decide +kernel)
set_option maxRecDepth 20000 in
theorem gX3_out_X0_keeps : GoodIn wsX3_out (wsV RX3 138 RX0 yX0_keeps wsX0_keeps) := goodIn_app (goodIn_of _ (by decide +kernel)) ggX3_out_X0_keeps
theorem dX3_out_0 : decode cX3_out 0 = .ok (.aload_n 0, 1) := by decide +kernel
theorem dX3_out_1 : decode cX3_out 1 = .ok (.getfield 24, 3) := by decide +kernel
theorem dX3_out_4 : decode cX3_out 4 = .ok (.iload_n 1, 1) := by decide +kernel
theorem dX3_out_5 : decode cX3_out 5 = .ok (.invokevirtual 138, 3) := by decide +kernel
theorem dX3_out_8 : decode cX3_out 8 = .ok (.ifCond .ne 11, 3) := by decide +kernel
theorem dX3_out_11 : decode cX3_out 11 = .ok (.new 48, 3) := by decide +kernel
theorem dX3_out_14 : decode cX3_out 14 = .ok (.dup, 1) := by decide +kernel
theorem dX3_out_15 : decode cX3_out 15 = .ok (.invokespecial 50, 3) := by decide +kernel
theorem dX3_out_18 : decode cX3_out 18 = .ok (.athrow, 1) := by decide +kernel
theorem dX3_out_19 : decode cX3_out 19 = .ok (.aload_n 0, 1) := by decide +kernel
theorem dX3_out_20 : decode cX3_out 20 = .ok (.getfield 24, 3) := by decide +kernel
theorem dX3_out_23 : decode cX3_out 23 = .ok (.getfield 141, 3) := by decide +kernel
theorem dX3_out_26 : decode cX3_out 26 = .ok (.iload_n 1, 1) := by decide +kernel
theorem dX3_out_27 : decode cX3_out 27 = .ok (.bipush 32, 2) := by decide +kernel
theorem dX3_out_29 : decode cX3_out 29 = .ok (.irem, 1) := by decide +kernel
theorem dX3_out_30 : decode cX3_out 30 = .ok (.iaload, 1) := by decide +kernel
theorem dX3_out_31 : decode cX3_out 31 = .ok (.ireturn, 1) := by decide +kernel
set_option maxRecDepth 20000 in
theorem ggX3_apart_X2_fits : GoodIn wsX3_apart wsX2_fits := goodIn_r _ [15, 16, 17, 80, 81, 82, 83, 84, 85] (by decide +kernel) (by decide +kernel)
set_option maxRecDepth 20000 in
theorem gX3_apart_X2_fits : GoodIn wsX3_apart (wsV RX3 85 RX2 yX2_fits wsX2_fits) := goodIn_app (goodIn_of _ (by decide +kernel)) ggX3_apart_X2_fits
set_option maxRecDepth 20000 in
theorem ggX3_apart_X1_refresh : GoodIn wsX3_apart wsX1_refresh := goodIn_r _ [22, 23, 24, 25, 26, 27, 28, 29, 30, 31, 32, 21, 33, 34, 35, 36, 37, 38, 39, 40, 41, 42, 43, 44, 45, 46, 47, 48, 49, 50, 51, 52, 53, 54, 55, 56, 57, 93, 94, 95, 96, 97, 98, 99, 100, 101, 80, 81, 82, 83, 84, 85] (by decide +kernel) (by decide +kernel)
set_option maxRecDepth 20000 in
theorem gX3_apart_X1_refresh : GoodIn wsX3_apart (wsV RX3 70 RX1 yX1_refresh wsX1_refresh) := goodIn_app (goodIn_of _ (by decide +kernel)) ggX3_apart_X1_refresh
set_option maxRecDepth 20000 in
theorem ggX3_apart_X1_fits : GoodIn wsX3_apart wsX1_fits := goodIn_r _ [61, 62, 63, 64, 21, 65, 66, 67, 68, 69, 24, 70, 26, 52, 93, 94, 95, 96, 97, 98, 99, 100, 101, 80, 81, 82, 83, 84, 85] (by decide +kernel) (by decide +kernel)
set_option maxRecDepth 20000 in
theorem gX3_apart_X1_fits : GoodIn wsX3_apart (wsV RX3 99 RX1 yX1_fits wsX1_fits) := goodIn_app (goodIn_of _ (by decide +kernel)) ggX3_apart_X1_fits
set_option maxRecDepth 20000 in
theorem ggX3_apart_X1_layoutEnd : GoodIn wsX3_apart wsX1_layoutEnd := goodIn_r _ [65, 66, 67, 68, 21, 69, 24, 70, 26, 52, 93, 94, 95, 96, 97, 98, 99, 100, 101, 80, 81, 82, 83, 84, 85] (by decide +kernel) (by decide +kernel)
set_option maxRecDepth 20000 in
theorem gX3_apart_X1_layoutEnd : GoodIn wsX3_apart (wsV RX3 111 RX1 yX1_layoutEnd wsX1_layoutEnd) := goodIn_app (goodIn_of _ (by decide +kernel)) ggX3_apart_X1_layoutEnd
set_option maxRecDepth 20000 in
theorem ggX3_apart_X2_loadedAt : GoodIn wsX3_apart wsX2_loadedAt := goodIn_r _ [75, 16, 17, 76, 80, 81, 82, 83, 84, 85] (by decide +kernel) (by decide +kernel)
set_option maxRecDepth 20000 in
theorem gX3_apart_X2_loadedAt : GoodIn wsX3_apart (wsV RX3 144 RX2 yX2_loadedAt wsX2_loadedAt) := goodIn_app (goodIn_of _ (by decide +kernel)) ggX3_apart_X2_loadedAt
theorem dX3_apart_0 : decode cX3_apart 0 = .ok (.aload_n 0, 1) := by decide +kernel
theorem dX3_apart_1 : decode cX3_apart 1 = .ok (.getfield 20, 3) := by decide +kernel
theorem dX3_apart_4 : decode cX3_apart 4 = .ok (.invokevirtual 85, 3) := by decide +kernel
theorem dX3_apart_7 : decode cX3_apart 7 = .ok (.ifCond .ne 11, 3) := by decide +kernel
theorem dX3_apart_10 : decode cX3_apart 10 = .ok (.new 89, 3) := by decide +kernel
theorem dX3_apart_13 : decode cX3_apart 13 = .ok (.dup, 1) := by decide +kernel
theorem dX3_apart_14 : decode cX3_apart 14 = .ok (.invokespecial 91, 3) := by decide +kernel
theorem dX3_apart_17 : decode cX3_apart 17 = .ok (.athrow, 1) := by decide +kernel
theorem dX3_apart_18 : decode cX3_apart 18 = .ok (.aload_n 0, 1) := by decide +kernel
theorem dX3_apart_19 : decode cX3_apart 19 = .ok (.getfield 10, 3) := by decide +kernel
theorem dX3_apart_22 : decode cX3_apart 22 = .ok (.invokevirtual 70, 3) := by decide +kernel
theorem dX3_apart_25 : decode cX3_apart 25 = .ok (.aload_n 0, 1) := by decide +kernel
theorem dX3_apart_26 : decode cX3_apart 26 = .ok (.getfield 10, 3) := by decide +kernel
theorem dX3_apart_29 : decode cX3_apart 29 = .ok (.invokevirtual 99, 3) := by decide +kernel
theorem dX3_apart_32 : decode cX3_apart 32 = .ok (.ifCond .ne 11, 3) := by decide +kernel
theorem dX3_apart_35 : decode cX3_apart 35 = .ok (.new 100, 3) := by decide +kernel
theorem dX3_apart_38 : decode cX3_apart 38 = .ok (.dup, 1) := by decide +kernel
theorem dX3_apart_39 : decode cX3_apart 39 = .ok (.invokespecial 102, 3) := by decide +kernel
theorem dX3_apart_42 : decode cX3_apart 42 = .ok (.athrow, 1) := by decide +kernel
theorem dX3_apart_43 : decode cX3_apart 43 = .ok (.aload_n 0, 1) := by decide +kernel
theorem dX3_apart_44 : decode cX3_apart 44 = .ok (.getfield 20, 3) := by decide +kernel
theorem dX3_apart_47 : decode cX3_apart 47 = .ok (.getfield 64, 3) := by decide +kernel
theorem dX3_apart_50 : decode cX3_apart 50 = .ok (.aload_n 0, 1) := by decide +kernel
theorem dX3_apart_51 : decode cX3_apart 51 = .ok (.getfield 20, 3) := by decide +kernel
theorem dX3_apart_54 : decode cX3_apart 54 = .ok (.getfield 40, 3) := by decide +kernel
theorem dX3_apart_57 : decode cX3_apart 57 = .ok (.iadd, 1) := by decide +kernel
theorem dX3_apart_58 : decode cX3_apart 58 = .ok (.istore_n 1, 1) := by decide +kernel
theorem dX3_apart_59 : decode cX3_apart 59 = .ok (.aload_n 0, 1) := by decide +kernel
theorem dX3_apart_60 : decode cX3_apart 60 = .ok (.getfield 10, 3) := by decide +kernel
theorem dX3_apart_63 : decode cX3_apart 63 = .ok (.invokevirtual 111, 3) := by decide +kernel
theorem dX3_apart_66 : decode cX3_apart 66 = .ok (.istore_n 2, 1) := by decide +kernel
theorem dX3_apart_67 : decode cX3_apart 67 = .ok (.iconst 0, 1) := by decide +kernel
theorem dX3_apart_68 : decode cX3_apart 68 = .ok (.istore_n 3, 1) := by decide +kernel
theorem dX3_apart_69 : decode cX3_apart 69 = .ok (.iconst 0, 1) := by decide +kernel
theorem dX3_apart_70 : decode cX3_apart 70 = .ok (.istore 4, 2) := by decide +kernel
theorem dX3_apart_72 : decode cX3_apart 72 = .ok (.iload 4, 2) := by decide +kernel
theorem dX3_apart_74 : decode cX3_apart 74 = .ok (.sipush 256, 3) := by decide +kernel
theorem dX3_apart_77 : decode cX3_apart 77 = .ok (.if_icmp .ge 58, 3) := by decide +kernel
theorem dX3_apart_80 : decode cX3_apart 80 = .ok (.iload 4, 2) := by decide +kernel
theorem dX3_apart_82 : decode cX3_apart 82 = .ok (.iload_n 1, 1) := by decide +kernel
theorem dX3_apart_83 : decode cX3_apart 83 = .ok (.if_icmp .lt 9, 3) := by decide +kernel
theorem dX3_apart_86 : decode cX3_apart 86 = .ok (.iload 4, 2) := by decide +kernel
theorem dX3_apart_88 : decode cX3_apart 88 = .ok (.iload_n 2, 1) := by decide +kernel
theorem dX3_apart_89 : decode cX3_apart 89 = .ok (.if_icmp .lt 7, 3) := by decide +kernel
theorem dX3_apart_92 : decode cX3_apart 92 = .ok (.iconst 1, 1) := by decide +kernel
theorem dX3_apart_93 : decode cX3_apart 93 = .ok (.goto 4, 3) := by decide +kernel
theorem dX3_apart_96 : decode cX3_apart 96 = .ok (.iconst 0, 1) := by decide +kernel
theorem dX3_apart_97 : decode cX3_apart 97 = .ok (.istore 5, 2) := by decide +kernel
theorem dX3_apart_99 : decode cX3_apart 99 = .ok (.iload 5, 2) := by decide +kernel
theorem dX3_apart_101 : decode cX3_apart 101 = .ok (.ifCond .eq 28, 3) := by decide +kernel
theorem dX3_apart_104 : decode cX3_apart 104 = .ok (.aload_n 0, 1) := by decide +kernel
theorem dX3_apart_105 : decode cX3_apart 105 = .ok (.getfield 24, 3) := by decide +kernel
theorem dX3_apart_108 : decode cX3_apart 108 = .ok (.getfield 135, 3) := by decide +kernel
theorem dX3_apart_111 : decode cX3_apart 111 = .ok (.iload 4, 2) := by decide +kernel
theorem dX3_apart_113 : decode cX3_apart 113 = .ok (.iaload, 1) := by decide +kernel
theorem dX3_apart_114 : decode cX3_apart 114 = .ok (.aload_n 0, 1) := by decide +kernel
theorem dX3_apart_115 : decode cX3_apart 115 = .ok (.getfield 20, 3) := by decide +kernel
theorem dX3_apart_118 : decode cX3_apart 118 = .ok (.iload 4, 2) := by decide +kernel
theorem dX3_apart_120 : decode cX3_apart 120 = .ok (.invokevirtual 144, 3) := by decide +kernel
theorem dX3_apart_123 : decode cX3_apart 123 = .ok (.if_icmp .eq 6, 3) := by decide +kernel
theorem dX3_apart_126 : decode cX3_apart 126 = .ok (.iinc 3 1, 3) := by decide +kernel
theorem dX3_apart_129 : decode cX3_apart 129 = .ok (.iinc 4 1, 3) := by decide +kernel
theorem dX3_apart_132 : decode cX3_apart 132 = .ok (.goto (-60), 3) := by decide +kernel
theorem dX3_apart_135 : decode cX3_apart 135 = .ok (.iload_n 3, 1) := by decide +kernel
theorem dX3_apart_136 : decode cX3_apart 136 = .ok (.ireturn, 1) := by decide +kernel
theorem dX3_isByte_0 : decode cX3_isByte 0 = .ok (.iload_n 0, 1) := by decide +kernel
theorem dX3_isByte_1 : decode cX3_isByte 1 = .ok (.ifCond .lt 14, 3) := by decide +kernel
theorem dX3_isByte_4 : decode cX3_isByte 4 = .ok (.iload_n 0, 1) := by decide +kernel
theorem dX3_isByte_5 : decode cX3_isByte 5 = .ok (.sipush 255, 3) := by decide +kernel
theorem dX3_isByte_8 : decode cX3_isByte 8 = .ok (.if_icmp .gt 7, 3) := by decide +kernel
theorem dX3_isByte_11 : decode cX3_isByte 11 = .ok (.iconst 1, 1) := by decide +kernel
theorem dX3_isByte_12 : decode cX3_isByte 12 = .ok (.goto 4, 3) := by decide +kernel
theorem dX3_isByte_15 : decode cX3_isByte 15 = .ok (.iconst 0, 1) := by decide +kernel
theorem dX3_isByte_16 : decode cX3_isByte 16 = .ok (.ireturn, 1) := by decide +kernel
