set_option maxRecDepth 20000 in
theorem ggX4_apart_X4_isPackable : GoodIn wsX4_apart wsX4_isPackable := goodIn_r _ [11, 1, 2, 5, 12, 13, 14, 10, 15, 16, 17, 18, 19, 20, 21, 22, 4, 23, 24, 25, 26, 27, 28, 29, 30, 31, 32, 33, 34, 35, 36, 37, 38, 39, 40, 41, 42, 43, 44, 45, 46, 47, 48] (by decide +kernel) (by decide +kernel)
set_option maxRecDepth 20000 in
theorem gX4_apart_X4_isPackable : GoodIn wsX4_apart (wsV RX4 121 RX4 yX4_isPackable wsX4_isPackable) := goodIn_app (goodIn_of _ (by decide +kernel)) ggX4_apart_X4_isPackable
theorem dX4_apart_0 : decode cX4_apart 0 = .ok (.aload_n 0, 1) := by decide +kernel
theorem dX4_apart_1 : decode cX4_apart 1 = .ok (.aload_n 0, 1) := by decide +kernel
theorem dX4_apart_2 : decode cX4_apart 2 = .ok (.getfield 60, 3) := by decide +kernel
theorem dX4_apart_5 : decode cX4_apart 5 = .ok (.aload_n 0, 1) := by decide +kernel
theorem dX4_apart_6 : decode cX4_apart 6 = .ok (.getfield 47, 3) := by decide +kernel
theorem dX4_apart_9 : decode cX4_apart 9 = .ok (.iadd, 1) := by decide +kernel
theorem dX4_apart_10 : decode cX4_apart 10 = .ok (.sipush 256, 3) := by decide +kernel
theorem dX4_apart_13 : decode cX4_apart 13 = .ok (.if_icmp .le 7, 3) := by decide +kernel
theorem dX4_apart_16 : decode cX4_apart 16 = .ok (.iconst 1, 1) := by decide +kernel
theorem dX4_apart_17 : decode cX4_apart 17 = .ok (.goto 15, 3) := by decide +kernel
theorem dX4_apart_20 : decode cX4_apart 20 = .ok (.aload_n 0, 1) := by decide +kernel
theorem dX4_apart_21 : decode cX4_apart 21 = .ok (.invokevirtual 121, 3) := by decide +kernel
theorem dX4_apart_24 : decode cX4_apart 24 = .ok (.ifCond .ne 7, 3) := by decide +kernel
theorem dX4_apart_27 : decode cX4_apart 27 = .ok (.iconst 2, 1) := by decide +kernel
theorem dX4_apart_28 : decode cX4_apart 28 = .ok (.goto 4, 3) := by decide +kernel
theorem dX4_apart_31 : decode cX4_apart 31 = .ok (.iconst 0, 1) := by decide +kernel
theorem dX4_apart_32 : decode cX4_apart 32 = .ok (.putfield 44, 3) := by decide +kernel
theorem dX4_apart_35 : decode cX4_apart 35 = .ok (.aload_n 0, 1) := by decide +kernel
theorem dX4_apart_36 : decode cX4_apart 36 = .ok (.getfield 44, 3) := by decide +kernel
theorem dX4_apart_39 : decode cX4_apart 39 = .ok (.ifCond .le 5, 3) := by decide +kernel
theorem dX4_apart_42 : decode cX4_apart 42 = .ok (.iconst 0, 1) := by decide +kernel
theorem dX4_apart_43 : decode cX4_apart 43 = .ok (.ireturn, 1) := by decide +kernel
theorem dX4_apart_44 : decode cX4_apart 44 = .ok (.iconst 0, 1) := by decide +kernel
theorem dX4_apart_45 : decode cX4_apart 45 = .ok (.istore_n 1, 1) := by decide +kernel
theorem dX4_apart_46 : decode cX4_apart 46 = .ok (.aload_n 0, 1) := by decide +kernel
theorem dX4_apart_47 : decode cX4_apart 47 = .ok (.getfield 60, 3) := by decide +kernel
theorem dX4_apart_50 : decode cX4_apart 50 = .ok (.aload_n 0, 1) := by decide +kernel
theorem dX4_apart_51 : decode cX4_apart 51 = .ok (.getfield 47, 3) := by decide +kernel
theorem dX4_apart_54 : decode cX4_apart 54 = .ok (.iadd, 1) := by decide +kernel
theorem dX4_apart_55 : decode cX4_apart 55 = .ok (.istore_n 2, 1) := by decide +kernel
theorem dX4_apart_56 : decode cX4_apart 56 = .ok (.iconst 0, 1) := by decide +kernel
theorem dX4_apart_57 : decode cX4_apart 57 = .ok (.istore_n 3, 1) := by decide +kernel
theorem dX4_apart_58 : decode cX4_apart 58 = .ok (.iload_n 3, 1) := by decide +kernel
theorem dX4_apart_59 : decode cX4_apart 59 = .ok (.sipush 256, 3) := by decide +kernel
theorem dX4_apart_62 : decode cX4_apart 62 = .ok (.if_icmp .ge 88, 3) := by decide +kernel
theorem dX4_apart_65 : decode cX4_apart 65 = .ok (.iload_n 3, 1) := by decide +kernel
theorem dX4_apart_66 : decode cX4_apart 66 = .ok (.aload_n 0, 1) := by decide +kernel
theorem dX4_apart_67 : decode cX4_apart 67 = .ok (.getfield 60, 3) := by decide +kernel
theorem dX4_apart_70 : decode cX4_apart 70 = .ok (.if_icmp .lt 22, 3) := by decide +kernel
theorem dX4_apart_73 : decode cX4_apart 73 = .ok (.iload_n 3, 1) := by decide +kernel
theorem dX4_apart_74 : decode cX4_apart 74 = .ok (.iload_n 2, 1) := by decide +kernel
theorem dX4_apart_75 : decode cX4_apart 75 = .ok (.if_icmp .ge 17, 3) := by decide +kernel
theorem dX4_apart_78 : decode cX4_apart 78 = .ok (.aload_n 0, 1) := by decide +kernel
theorem dX4_apart_79 : decode cX4_apart 79 = .ok (.getfield 7, 3) := by decide +kernel
theorem dX4_apart_82 : decode cX4_apart 82 = .ok (.iload_n 3, 1) := by decide +kernel
theorem dX4_apart_83 : decode cX4_apart 83 = .ok (.aload_n 0, 1) := by decide +kernel
theorem dX4_apart_84 : decode cX4_apart 84 = .ok (.getfield 60, 3) := by decide +kernel
theorem dX4_apart_87 : decode cX4_apart 87 = .ok (.isub, 1) := by decide +kernel
theorem dX4_apart_88 : decode cX4_apart 88 = .ok (.iaload, 1) := by decide +kernel
theorem dX4_apart_89 : decode cX4_apart 89 = .ok (.goto 4, 3) := by decide +kernel
theorem dX4_apart_92 : decode cX4_apart 92 = .ok (.iconst 0, 1) := by decide +kernel
theorem dX4_apart_93 : decode cX4_apart 93 = .ok (.istore 4, 2) := by decide +kernel
theorem dX4_apart_95 : decode cX4_apart 95 = .ok (.iload_n 3, 1) := by decide +kernel
theorem dX4_apart_96 : decode cX4_apart 96 = .ok (.iload_n 2, 1) := by decide +kernel
theorem dX4_apart_97 : decode cX4_apart 97 = .ok (.if_icmp .lt 16, 3) := by decide +kernel
theorem dX4_apart_100 : decode cX4_apart 100 = .ok (.iload_n 3, 1) := by decide +kernel
theorem dX4_apart_101 : decode cX4_apart 101 = .ok (.iload_n 2, 1) := by decide +kernel
theorem dX4_apart_102 : decode cX4_apart 102 = .ok (.aload_n 0, 1) := by decide +kernel
theorem dX4_apart_103 : decode cX4_apart 103 = .ok (.getfield 71, 3) := by decide +kernel
theorem dX4_apart_106 : decode cX4_apart 106 = .ok (.iadd, 1) := by decide +kernel
theorem dX4_apart_107 : decode cX4_apart 107 = .ok (.bipush 60, 2) := by decide +kernel
theorem dX4_apart_109 : decode cX4_apart 109 = .ok (.iadd, 1) := by decide +kernel
theorem dX4_apart_110 : decode cX4_apart 110 = .ok (.if_icmp .lt 7, 3) := by decide +kernel
theorem dX4_apart_113 : decode cX4_apart 113 = .ok (.iconst 1, 1) := by decide +kernel
theorem dX4_apart_114 : decode cX4_apart 114 = .ok (.goto 4, 3) := by decide +kernel
theorem dX4_apart_117 : decode cX4_apart 117 = .ok (.iconst 0, 1) := by decide +kernel
theorem dX4_apart_118 : decode cX4_apart 118 = .ok (.istore 5, 2) := by decide +kernel
theorem dX4_apart_120 : decode cX4_apart 120 = .ok (.iload 5, 2) := by decide +kernel
theorem dX4_apart_122 : decode cX4_apart 122 = .ok (.ifCond .eq 20, 3) := by decide +kernel
theorem dX4_apart_125 : decode cX4_apart 125 = .ok (.aload_n 0, 1) := by decide +kernel
theorem dX4_apart_126 : decode cX4_apart 126 = .ok (.getfield 31, 3) := by decide +kernel
theorem dX4_apart_129 : decode cX4_apart 129 = .ok (.iload_n 3, 1) := by decide +kernel
theorem dX4_apart_130 : decode cX4_apart 130 = .ok (.iaload, 1) := by decide +kernel
theorem dX4_apart_131 : decode cX4_apart 131 = .ok (.iload 4, 2) := by decide +kernel
theorem dX4_apart_133 : decode cX4_apart 133 = .ok (.if_icmp .eq 9, 3) := by decide +kernel
theorem dX4_apart_136 : decode cX4_apart 136 = .ok (.iload_n 1, 1) := by decide +kernel
theorem dX4_apart_137 : decode cX4_apart 137 = .ok (.iconst 1, 1) := by decide +kernel
theorem dX4_apart_138 : decode cX4_apart 138 = .ok (.iadd, 1) := by decide +kernel
theorem dX4_apart_139 : decode cX4_apart 139 = .ok (.goto 4, 3) := by decide +kernel
theorem dX4_apart_142 : decode cX4_apart 142 = .ok (.iload_n 1, 1) := by decide +kernel
theorem dX4_apart_143 : decode cX4_apart 143 = .ok (.istore_n 1, 1) := by decide +kernel
theorem dX4_apart_144 : decode cX4_apart 144 = .ok (.iinc 3 1, 3) := by decide +kernel
theorem dX4_apart_147 : decode cX4_apart 147 = .ok (.goto (-89), 3) := by decide +kernel
theorem dX4_apart_150 : decode cX4_apart 150 = .ok (.iload_n 1, 1) := by decide +kernel
theorem dX4_apart_151 : decode cX4_apart 151 = .ok (.ireturn, 1) := by decide +kernel
