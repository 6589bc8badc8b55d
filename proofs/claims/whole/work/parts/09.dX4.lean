set_option maxRecDepth 20000 in
theorem ggX4_packed_X4_pack : GoodIn wsX4_packed wsX4_pack := goodIn_r _ [7, 8, 9, 10, 11, 12, 2, 13, 14, 15, 16, 17, 18, 19, 6, 20, 21, 22, 23, 24, 25, 26, 27, 28, 29, 30, 31, 32, 33, 34, 35, 36, 37, 38, 39, 40, 41, 42] (by decide +kernel) (by decide +kernel)
set_option maxRecDepth 20000 in
theorem gX4_packed_X4_pack : GoodIn wsX4_packed (wsV RX4 77 RX4 yX4_pack wsX4_pack) := goodIn_app (goodIn_of _ (by decide +kernel)) ggX4_packed_X4_pack
theorem dX4_packed_0 : decode cX4_packed 0 = .ok (.aload_n 0, 1) := by decide +kernel
theorem dX4_packed_1 : decode cX4_packed 1 = .ok (.iconst 0, 1) := by decide +kernel
theorem dX4_packed_2 : decode cX4_packed 2 = .ok (.putfield 44, 3) := by decide +kernel
theorem dX4_packed_5 : decode cX4_packed 5 = .ok (.aload_n 0, 1) := by decide +kernel
theorem dX4_packed_6 : decode cX4_packed 6 = .ok (.invokevirtual 77, 3) := by decide +kernel
theorem dX4_packed_9 : decode cX4_packed 9 = .ok (.aload_n 0, 1) := by decide +kernel
theorem dX4_packed_10 : decode cX4_packed 10 = .ok (.getfield 74, 3) := by decide +kernel
theorem dX4_packed_13 : decode cX4_packed 13 = .ok (.ireturn, 1) := by decide +kernel
set_option maxRecDepth 20000 in
theorem ggX4_stream_X4_pack : GoodIn wsX4_stream wsX4_pack := goodIn_r _ [8, 9, 10, 11, 12, 13, 1, 14, 3, 15, 16, 17, 18, 19, 7, 20, 21, 22, 23, 24, 25, 26, 27, 28, 29, 30, 31, 32, 33, 34, 35, 36, 37, 38, 39, 40, 41, 42] (by decide +kernel) (by decide +kernel)
set_option maxRecDepth 20000 in
theorem gX4_stream_X4_pack : GoodIn wsX4_stream (wsV RX4 77 RX4 yX4_pack wsX4_pack) := goodIn_app (goodIn_of _ (by decide +kernel)) ggX4_stream_X4_pack
theorem dX4_stream_0 : decode cX4_stream 0 = .ok (.aload_n 0, 1) := by decide +kernel
theorem dX4_stream_1 : decode cX4_stream 1 = .ok (.invokevirtual 77, 3) := by decide +kernel
theorem dX4_stream_4 : decode cX4_stream 4 = .ok (.aload_n 0, 1) := by decide +kernel
theorem dX4_stream_5 : decode cX4_stream 5 = .ok (.iload_n 1, 1) := by decide +kernel
theorem dX4_stream_6 : decode cX4_stream 6 = .ok (.ifCond .lt 11, 3) := by decide +kernel
theorem dX4_stream_9 : decode cX4_stream 9 = .ok (.iload_n 1, 1) := by decide +kernel
theorem dX4_stream_10 : decode cX4_stream 10 = .ok (.aload_n 0, 1) := by decide +kernel
theorem dX4_stream_11 : decode cX4_stream 11 = .ok (.getfield 74, 3) := by decide +kernel
theorem dX4_stream_14 : decode cX4_stream 14 = .ok (.if_icmp .lt 7, 3) := by decide +kernel
theorem dX4_stream_17 : decode cX4_stream 17 = .ok (.iconst 1, 1) := by decide +kernel
theorem dX4_stream_18 : decode cX4_stream 18 = .ok (.goto 4, 3) := by decide +kernel
theorem dX4_stream_21 : decode cX4_stream 21 = .ok (.iconst 0, 1) := by decide +kernel
theorem dX4_stream_22 : decode cX4_stream 22 = .ok (.putfield 44, 3) := by decide +kernel
theorem dX4_stream_25 : decode cX4_stream 25 = .ok (.aload_n 0, 1) := by decide +kernel
theorem dX4_stream_26 : decode cX4_stream 26 = .ok (.getfield 44, 3) := by decide +kernel
theorem dX4_stream_29 : decode cX4_stream 29 = .ok (.ifCond .le 7, 3) := by decide +kernel
theorem dX4_stream_32 : decode cX4_stream 32 = .ok (.iconst 0, 1) := by decide +kernel
theorem dX4_stream_33 : decode cX4_stream 33 = .ok (.goto 9, 3) := by decide +kernel
theorem dX4_stream_36 : decode cX4_stream 36 = .ok (.aload_n 0, 1) := by decide +kernel
theorem dX4_stream_37 : decode cX4_stream 37 = .ok (.getfield 13, 3) := by decide +kernel
theorem dX4_stream_40 : decode cX4_stream 40 = .ok (.iload_n 1, 1) := by decide +kernel
theorem dX4_stream_41 : decode cX4_stream 41 = .ok (.iaload, 1) := by decide +kernel
theorem dX4_stream_42 : decode cX4_stream 42 = .ok (.ireturn, 1) := by decide +kernel
set_option maxRecDepth 20000 in
theorem ggX4_gap_X4_pack : GoodIn wsX4_gap wsX4_pack := goodIn_r _ [7, 8, 9, 10, 11, 2, 12, 13, 14, 15, 16, 17, 18, 19, 6, 20, 21, 22, 23, 24, 25, 26, 27, 28, 29, 30, 31, 32, 33, 34, 35, 36, 37, 38, 39, 40, 41, 42] (by decide +kernel) (by decide +kernel)
set_option maxRecDepth 20000 in
theorem gX4_gap_X4_pack : GoodIn wsX4_gap (wsV RX4 77 RX4 yX4_pack wsX4_pack) := goodIn_app (goodIn_of _ (by decide +kernel)) ggX4_gap_X4_pack
theorem dX4_gap_0 : decode cX4_gap 0 = .ok (.aload_n 0, 1) := by decide +kernel
theorem dX4_gap_1 : decode cX4_gap 1 = .ok (.iconst 0, 1) := by decide +kernel
theorem dX4_gap_2 : decode cX4_gap 2 = .ok (.putfield 44, 3) := by decide +kernel
theorem dX4_gap_5 : decode cX4_gap 5 = .ok (.aload_n 0, 1) := by decide +kernel
theorem dX4_gap_6 : decode cX4_gap 6 = .ok (.invokevirtual 77, 3) := by decide +kernel
theorem dX4_gap_9 : decode cX4_gap 9 = .ok (.aload_n 0, 1) := by decide +kernel
theorem dX4_gap_10 : decode cX4_gap 10 = .ok (.getfield 71, 3) := by decide +kernel
theorem dX4_gap_13 : decode cX4_gap 13 = .ok (.ireturn, 1) := by decide +kernel
theorem dX4_wrong_0 : decode cX4_wrong 0 = .ok (.aload_n 0, 1) := by decide +kernel
theorem dX4_wrong_1 : decode cX4_wrong 1 = .ok (.getfield 7, 3) := by decide +kernel
theorem dX4_wrong_4 : decode cX4_wrong 4 = .ok (.iload_n 1, 1) := by decide +kernel
theorem dX4_wrong_5 : decode cX4_wrong 5 = .ok (.iaload, 1) := by decide +kernel
theorem dX4_wrong_6 : decode cX4_wrong 6 = .ok (.istore_n 3, 1) := by decide +kernel
theorem dX4_wrong_7 : decode cX4_wrong 7 = .ok (.iload_n 3, 1) := by decide +kernel
theorem dX4_wrong_8 : decode cX4_wrong 8 = .ok (.bipush 127, 2) := by decide +kernel
theorem dX4_wrong_10 : decode cX4_wrong 10 = .ok (.if_icmp .le 7, 3) := by decide +kernel
theorem dX4_wrong_13 : decode cX4_wrong 13 = .ok (.iconst 1, 1) := by decide +kernel
theorem dX4_wrong_14 : decode cX4_wrong 14 = .ok (.goto 4, 3) := by decide +kernel
theorem dX4_wrong_17 : decode cX4_wrong 17 = .ok (.iconst 0, 1) := by decide +kernel
theorem dX4_wrong_18 : decode cX4_wrong 18 = .ok (.istore 4, 2) := by decide +kernel
theorem dX4_wrong_20 : decode cX4_wrong 20 = .ok (.iload_n 1, 1) := by decide +kernel
theorem dX4_wrong_21 : decode cX4_wrong 21 = .ok (.iload 4, 2) := by decide +kernel
theorem dX4_wrong_23 : decode cX4_wrong 23 = .ok (.ifCond .eq 7, 3) := by decide +kernel
theorem dX4_wrong_26 : decode cX4_wrong 26 = .ok (.iconst 2, 1) := by decide +kernel
theorem dX4_wrong_27 : decode cX4_wrong 27 = .ok (.goto 6, 3) := by decide +kernel
theorem dX4_wrong_30 : decode cX4_wrong 30 = .ok (.iconst 1, 1) := by decide +kernel
theorem dX4_wrong_31 : decode cX4_wrong 31 = .ok (.iload_n 3, 1) := by decide +kernel
theorem dX4_wrong_32 : decode cX4_wrong 32 = .ok (.iadd, 1) := by decide +kernel
theorem dX4_wrong_33 : decode cX4_wrong 33 = .ok (.iadd, 1) := by decide +kernel
theorem dX4_wrong_34 : decode cX4_wrong 34 = .ok (.aload_n 0, 1) := by decide +kernel
theorem dX4_wrong_35 : decode cX4_wrong 35 = .ok (.getfield 47, 3) := by decide +kernel
theorem dX4_wrong_38 : decode cX4_wrong 38 = .ok (.if_icmp .le 5, 3) := by decide +kernel
theorem dX4_wrong_41 : decode cX4_wrong 41 = .ok (.iconst 1, 1) := by decide +kernel
theorem dX4_wrong_42 : decode cX4_wrong 42 = .ok (.ireturn, 1) := by decide +kernel
theorem dX4_wrong_43 : decode cX4_wrong 43 = .ok (.iload 4, 2) := by decide +kernel
theorem dX4_wrong_45 : decode cX4_wrong 45 = .ok (.ifCond .eq 28, 3) := by decide +kernel
theorem dX4_wrong_48 : decode cX4_wrong 48 = .ok (.aload_n 0, 1) := by decide +kernel
theorem dX4_wrong_49 : decode cX4_wrong 49 = .ok (.getfield 7, 3) := by decide +kernel
theorem dX4_wrong_52 : decode cX4_wrong 52 = .ok (.iload_n 1, 1) := by decide +kernel
theorem dX4_wrong_53 : decode cX4_wrong 53 = .ok (.iconst 1, 1) := by decide +kernel
theorem dX4_wrong_54 : decode cX4_wrong 54 = .ok (.iadd, 1) := by decide +kernel
theorem dX4_wrong_55 : decode cX4_wrong 55 = .ok (.iaload, 1) := by decide +kernel
theorem dX4_wrong_56 : decode cX4_wrong 56 = .ok (.ifCond .eq 15, 3) := by decide +kernel
theorem dX4_wrong_59 : decode cX4_wrong 59 = .ok (.aload_n 0, 1) := by decide +kernel
theorem dX4_wrong_60 : decode cX4_wrong 60 = .ok (.getfield 7, 3) := by decide +kernel
theorem dX4_wrong_63 : decode cX4_wrong 63 = .ok (.iload_n 1, 1) := by decide +kernel
theorem dX4_wrong_64 : decode cX4_wrong 64 = .ok (.iconst 1, 1) := by decide +kernel
theorem dX4_wrong_65 : decode cX4_wrong 65 = .ok (.iadd, 1) := by decide +kernel
theorem dX4_wrong_66 : decode cX4_wrong 66 = .ok (.iaload, 1) := by decide +kernel
theorem dX4_wrong_67 : decode cX4_wrong 67 = .ok (.iload_n 2, 1) := by decide +kernel
theorem dX4_wrong_68 : decode cX4_wrong 68 = .ok (.if_icmp .le 5, 3) := by decide +kernel
theorem dX4_wrong_71 : decode cX4_wrong 71 = .ok (.iconst 3, 1) := by decide +kernel
theorem dX4_wrong_72 : decode cX4_wrong 72 = .ok (.ireturn, 1) := by decide +kernel
theorem dX4_wrong_73 : decode cX4_wrong 73 = .ok (.iload_n 2, 1) := by decide +kernel
theorem dX4_wrong_74 : decode cX4_wrong 74 = .ok (.iload 4, 2) := by decide +kernel
theorem dX4_wrong_76 : decode cX4_wrong 76 = .ok (.ifCond .eq 10, 3) := by decide +kernel
theorem dX4_wrong_79 : decode cX4_wrong 79 = .ok (.iload_n 3, 1) := by decide +kernel
theorem dX4_wrong_80 : decode cX4_wrong 80 = .ok (.bipush 126, 2) := by decide +kernel
theorem dX4_wrong_82 : decode cX4_wrong 82 = .ok (.isub, 1) := by decide +kernel
theorem dX4_wrong_83 : decode cX4_wrong 83 = .ok (.goto 4, 3) := by decide +kernel
theorem dX4_wrong_86 : decode cX4_wrong 86 = .ok (.iload_n 3, 1) := by decide +kernel
theorem dX4_wrong_87 : decode cX4_wrong 87 = .ok (.iadd, 1) := by decide +kernel
theorem dX4_wrong_88 : decode cX4_wrong 88 = .ok (.sipush 160, 3) := by decide +kernel
theorem dX4_wrong_91 : decode cX4_wrong 91 = .ok (.if_icmp .le 7, 3) := by decide +kernel
theorem dX4_wrong_94 : decode cX4_wrong 94 = .ok (.iconst 4, 1) := by decide +kernel
theorem dX4_wrong_95 : decode cX4_wrong 95 = .ok (.goto 4, 3) := by decide +kernel
theorem dX4_wrong_98 : decode cX4_wrong 98 = .ok (.iconst 0, 1) := by decide +kernel
theorem dX4_wrong_99 : decode cX4_wrong 99 = .ok (.ireturn, 1) := by decide +kernel
set_option maxRecDepth 20000 in
theorem ggX4_unpack_X4_wrong : GoodIn wsX4_unpack wsX4_wrong := goodIn_r _ [10, 3, 2, 15, 16, 17, 18, 19, 20, 21, 22, 23, 24, 25, 26, 27, 28, 29, 30, 31, 32, 33, 34, 35] (by decide +kernel) (by decide +kernel)
set_option maxRecDepth 20000 in
theorem gX4_unpack_X4_wrong : GoodIn wsX4_unpack (wsV RX4 80 RX4 yX4_wrong wsX4_wrong) := goodIn_app (goodIn_of _ (by decide +kernel)) ggX4_unpack_X4_wrong
set_option maxRecDepth 20000 in
theorem ggX4_unpack_X4_fail : GoodIn wsX4_unpack wsX4_fail := goodIn_r _ [14, 1, 15, 16, 17, 18, 19, 20, 21, 22, 23, 24, 25, 26, 27, 28, 29, 30, 31, 32, 33, 34, 35] (by decide +kernel) (by decide +kernel)
set_option maxRecDepth 20000 in
theorem gX4_unpack_X4_fail : GoodIn wsX4_unpack (wsV RX4 84 RX4 yX4_fail wsX4_fail) := goodIn_app (goodIn_of _ (by decide +kernel)) ggX4_unpack_X4_fail
theorem dX4_unpack_0 : decode cX4_unpack 0 = .ok (.aload_n 0, 1) := by decide +kernel
theorem dX4_unpack_1 : decode cX4_unpack 1 = .ok (.iconst 0, 1) := by decide +kernel
theorem dX4_unpack_2 : decode cX4_unpack 2 = .ok (.putfield 44, 3) := by decide +kernel
theorem dX4_unpack_5 : decode cX4_unpack 5 = .ok (.iconst 0, 1) := by decide +kernel
theorem dX4_unpack_6 : decode cX4_unpack 6 = .ok (.istore_n 1, 1) := by decide +kernel
theorem dX4_unpack_7 : decode cX4_unpack 7 = .ok (.iconst 0, 1) := by decide +kernel
theorem dX4_unpack_8 : decode cX4_unpack 8 = .ok (.istore_n 2, 1) := by decide +kernel
theorem dX4_unpack_9 : decode cX4_unpack 9 = .ok (.iload_n 2, 1) := by decide +kernel
theorem dX4_unpack_10 : decode cX4_unpack 10 = .ok (.aload_n 0, 1) := by decide +kernel
theorem dX4_unpack_11 : decode cX4_unpack 11 = .ok (.getfield 47, 3) := by decide +kernel
theorem dX4_unpack_14 : decode cX4_unpack 14 = .ok (.if_icmp .ge 138, 3) := by decide +kernel
theorem dX4_unpack_17 : decode cX4_unpack 17 = .ok (.aload_n 0, 1) := by decide +kernel
theorem dX4_unpack_18 : decode cX4_unpack 18 = .ok (.getfield 7, 3) := by decide +kernel
theorem dX4_unpack_21 : decode cX4_unpack 21 = .ok (.iload_n 2, 1) := by decide +kernel
theorem dX4_unpack_22 : decode cX4_unpack 22 = .ok (.iaload, 1) := by decide +kernel
theorem dX4_unpack_23 : decode cX4_unpack 23 = .ok (.ifCond .le 129, 3) := by decide +kernel
theorem dX4_unpack_26 : decode cX4_unpack 26 = .ok (.aload_n 0, 1) := by decide +kernel
theorem dX4_unpack_27 : decode cX4_unpack 27 = .ok (.iload_n 2, 1) := by decide +kernel
theorem dX4_unpack_28 : decode cX4_unpack 28 = .ok (.iload_n 1, 1) := by decide +kernel
theorem dX4_unpack_29 : decode cX4_unpack 29 = .ok (.invokevirtual 80, 3) := by decide +kernel
theorem dX4_unpack_32 : decode cX4_unpack 32 = .ok (.istore_n 3, 1) := by decide +kernel
theorem dX4_unpack_33 : decode cX4_unpack 33 = .ok (.iload_n 3, 1) := by decide +kernel
theorem dX4_unpack_34 : decode cX4_unpack 34 = .ok (.ifCond .le 9, 3) := by decide +kernel
theorem dX4_unpack_37 : decode cX4_unpack 37 = .ok (.aload_n 0, 1) := by decide +kernel
theorem dX4_unpack_38 : decode cX4_unpack 38 = .ok (.iload_n 3, 1) := by decide +kernel
theorem dX4_unpack_39 : decode cX4_unpack 39 = .ok (.invokevirtual 84, 3) := by decide +kernel
theorem dX4_unpack_42 : decode cX4_unpack 42 = .ok (.ireturn, 1) := by decide +kernel
theorem dX4_unpack_43 : decode cX4_unpack 43 = .ok (.aload_n 0, 1) := by decide +kernel
theorem dX4_unpack_44 : decode cX4_unpack 44 = .ok (.getfield 7, 3) := by decide +kernel
theorem dX4_unpack_47 : decode cX4_unpack 47 = .ok (.iload_n 2, 1) := by decide +kernel
theorem dX4_unpack_48 : decode cX4_unpack 48 = .ok (.iaload, 1) := by decide +kernel
theorem dX4_unpack_49 : decode cX4_unpack 49 = .ok (.istore 4, 2) := by decide +kernel
theorem dX4_unpack_51 : decode cX4_unpack 51 = .ok (.iload 4, 2) := by decide +kernel
theorem dX4_unpack_53 : decode cX4_unpack 53 = .ok (.bipush 127, 2) := by decide +kernel
theorem dX4_unpack_55 : decode cX4_unpack 55 = .ok (.if_icmp .le 11, 3) := by decide +kernel
theorem dX4_unpack_58 : decode cX4_unpack 58 = .ok (.iload 4, 2) := by decide +kernel
theorem dX4_unpack_60 : decode cX4_unpack 60 = .ok (.bipush 126, 2) := by decide +kernel
theorem dX4_unpack_62 : decode cX4_unpack 62 = .ok (.isub, 1) := by decide +kernel
theorem dX4_unpack_63 : decode cX4_unpack 63 = .ok (.goto 5, 3) := by decide +kernel
theorem dX4_unpack_66 : decode cX4_unpack 66 = .ok (.iload 4, 2) := by decide +kernel
theorem dX4_unpack_68 : decode cX4_unpack 68 = .ok (.istore 5, 2) := by decide +kernel
theorem dX4_unpack_70 : decode cX4_unpack 70 = .ok (.iconst 0, 1) := by decide +kernel
theorem dX4_unpack_71 : decode cX4_unpack 71 = .ok (.istore 6, 2) := by decide +kernel
theorem dX4_unpack_73 : decode cX4_unpack 73 = .ok (.iload 6, 2) := by decide +kernel
theorem dX4_unpack_75 : decode cX4_unpack 75 = .ok (.iload 5, 2) := by decide +kernel
theorem dX4_unpack_77 : decode cX4_unpack 77 = .ok (.if_icmp .ge 54, 3) := by decide +kernel
theorem dX4_unpack_80 : decode cX4_unpack 80 = .ok (.aload_n 0, 1) := by decide +kernel
theorem dX4_unpack_81 : decode cX4_unpack 81 = .ok (.getfield 28, 3) := by decide +kernel
theorem dX4_unpack_84 : decode cX4_unpack 84 = .ok (.iload_n 1, 1) := by decide +kernel
theorem dX4_unpack_85 : decode cX4_unpack 85 = .ok (.iload 4, 2) := by decide +kernel
theorem dX4_unpack_87 : decode cX4_unpack 87 = .ok (.bipush 127, 2) := by decide +kernel
theorem dX4_unpack_89 : decode cX4_unpack 89 = .ok (.if_icmp .le 21, 3) := by decide +kernel
theorem dX4_unpack_92 : decode cX4_unpack 92 = .ok (.aload_n 0, 1) := by decide +kernel
theorem dX4_unpack_93 : decode cX4_unpack 93 = .ok (.getfield 28, 3) := by decide +kernel
theorem dX4_unpack_96 : decode cX4_unpack 96 = .ok (.iload_n 1, 1) := by decide +kernel
theorem dX4_unpack_97 : decode cX4_unpack 97 = .ok (.aload_n 0, 1) := by decide +kernel
theorem dX4_unpack_98 : decode cX4_unpack 98 = .ok (.getfield 7, 3) := by decide +kernel
theorem dX4_unpack_101 : decode cX4_unpack 101 = .ok (.iload_n 2, 1) := by decide +kernel
theorem dX4_unpack_102 : decode cX4_unpack 102 = .ok (.iconst 1, 1) := by decide +kernel
theorem dX4_unpack_103 : decode cX4_unpack 103 = .ok (.iadd, 1) := by decide +kernel
theorem dX4_unpack_104 : decode cX4_unpack 104 = .ok (.iaload, 1) := by decide +kernel
theorem dX4_unpack_105 : decode cX4_unpack 105 = .ok (.isub, 1) := by decide +kernel
theorem dX4_unpack_106 : decode cX4_unpack 106 = .ok (.iaload, 1) := by decide +kernel
theorem dX4_unpack_107 : decode cX4_unpack 107 = .ok (.goto 14, 3) := by decide +kernel
theorem dX4_unpack_110 : decode cX4_unpack 110 = .ok (.aload_n 0, 1) := by decide +kernel
theorem dX4_unpack_111 : decode cX4_unpack 111 = .ok (.getfield 7, 3) := by decide +kernel
theorem dX4_unpack_114 : decode cX4_unpack 114 = .ok (.iload_n 2, 1) := by decide +kernel
theorem dX4_unpack_115 : decode cX4_unpack 115 = .ok (.iconst 1, 1) := by decide +kernel
theorem dX4_unpack_116 : decode cX4_unpack 116 = .ok (.iadd, 1) := by decide +kernel
theorem dX4_unpack_117 : decode cX4_unpack 117 = .ok (.iload 6, 2) := by decide +kernel
theorem dX4_unpack_119 : decode cX4_unpack 119 = .ok (.iadd, 1) := by decide +kernel
theorem dX4_unpack_120 : decode cX4_unpack 120 = .ok (.iaload, 1) := by decide +kernel
theorem dX4_unpack_121 : decode cX4_unpack 121 = .ok (.iastore, 1) := by decide +kernel
theorem dX4_unpack_122 : decode cX4_unpack 122 = .ok (.iinc 1 1, 3) := by decide +kernel
theorem dX4_unpack_125 : decode cX4_unpack 125 = .ok (.iinc 6 1, 3) := by decide +kernel
theorem dX4_unpack_128 : decode cX4_unpack 128 = .ok (.goto (-55), 3) := by decide +kernel
theorem dX4_unpack_131 : decode cX4_unpack 131 = .ok (.iload_n 2, 1) := by decide +kernel
theorem dX4_unpack_132 : decode cX4_unpack 132 = .ok (.iload 4, 2) := by decide +kernel
theorem dX4_unpack_134 : decode cX4_unpack 134 = .ok (.bipush 127, 2) := by decide +kernel
theorem dX4_unpack_136 : decode cX4_unpack 136 = .ok (.if_icmp .le 7, 3) := by decide +kernel
theorem dX4_unpack_139 : decode cX4_unpack 139 = .ok (.iconst 2, 1) := by decide +kernel
theorem dX4_unpack_140 : decode cX4_unpack 140 = .ok (.goto 7, 3) := by decide +kernel
theorem dX4_unpack_143 : decode cX4_unpack 143 = .ok (.iconst 1, 1) := by decide +kernel
theorem dX4_unpack_144 : decode cX4_unpack 144 = .ok (.iload 4, 2) := by decide +kernel
theorem dX4_unpack_146 : decode cX4_unpack 146 = .ok (.iadd, 1) := by decide +kernel
theorem dX4_unpack_147 : decode cX4_unpack 147 = .ok (.iadd, 1) := by decide +kernel
theorem dX4_unpack_148 : decode cX4_unpack 148 = .ok (.istore_n 2, 1) := by decide +kernel
theorem dX4_unpack_149 : decode cX4_unpack 149 = .ok (.goto (-140), 3) := by decide +kernel
theorem dX4_unpack_152 : decode cX4_unpack 152 = .ok (.iload_n 2, 1) := by decide +kernel
theorem dX4_unpack_153 : decode cX4_unpack 153 = .ok (.aload_n 0, 1) := by decide +kernel
theorem dX4_unpack_154 : decode cX4_unpack 154 = .ok (.getfield 47, 3) := by decide +kernel
theorem dX4_unpack_157 : decode cX4_unpack 157 = .ok (.if_icmp .ne 9, 3) := by decide +kernel
theorem dX4_unpack_160 : decode cX4_unpack 160 = .ok (.aload_n 0, 1) := by decide +kernel
theorem dX4_unpack_161 : decode cX4_unpack 161 = .ok (.iconst 1, 1) := by decide +kernel
theorem dX4_unpack_162 : decode cX4_unpack 162 = .ok (.invokevirtual 84, 3) := by decide +kernel
theorem dX4_unpack_165 : decode cX4_unpack 165 = .ok (.ireturn, 1) := by decide +kernel
theorem dX4_unpack_166 : decode cX4_unpack 166 = .ok (.iload_n 2, 1) := by decide +kernel
theorem dX4_unpack_167 : decode cX4_unpack 167 = .ok (.iconst 1, 1) := by decide +kernel
theorem dX4_unpack_168 : decode cX4_unpack 168 = .ok (.iadd, 1) := by decide +kernel
theorem dX4_unpack_169 : decode cX4_unpack 169 = .ok (.aload_n 0, 1) := by decide +kernel
theorem dX4_unpack_170 : decode cX4_unpack 170 = .ok (.getfield 47, 3) := by decide +kernel
theorem dX4_unpack_173 : decode cX4_unpack 173 = .ok (.if_icmp .ge 9, 3) := by decide +kernel
theorem dX4_unpack_176 : decode cX4_unpack 176 = .ok (.aload_n 0, 1) := by decide +kernel
theorem dX4_unpack_177 : decode cX4_unpack 177 = .ok (.iconst 2, 1) := by decide +kernel
theorem dX4_unpack_178 : decode cX4_unpack 178 = .ok (.invokevirtual 84, 3) := by decide +kernel
theorem dX4_unpack_181 : decode cX4_unpack 181 = .ok (.ireturn, 1) := by decide +kernel
theorem dX4_unpack_182 : decode cX4_unpack 182 = .ok (.iconst 0, 1) := by decide +kernel
theorem dX4_unpack_183 : decode cX4_unpack 183 = .ok (.istore_n 3, 1) := by decide +kernel
theorem dX4_unpack_184 : decode cX4_unpack 184 = .ok (.iload_n 3, 1) := by decide +kernel
theorem dX4_unpack_185 : decode cX4_unpack 185 = .ok (.iload_n 1, 1) := by decide +kernel
theorem dX4_unpack_186 : decode cX4_unpack 186 = .ok (.if_icmp .ge 21, 3) := by decide +kernel
theorem dX4_unpack_189 : decode cX4_unpack 189 = .ok (.aload_n 0, 1) := by decide +kernel
theorem dX4_unpack_190 : decode cX4_unpack 190 = .ok (.getfield 7, 3) := by decide +kernel
theorem dX4_unpack_193 : decode cX4_unpack 193 = .ok (.iload_n 3, 1) := by decide +kernel
theorem dX4_unpack_194 : decode cX4_unpack 194 = .ok (.aload_n 0, 1) := by decide +kernel
theorem dX4_unpack_195 : decode cX4_unpack 195 = .ok (.getfield 28, 3) := by decide +kernel
theorem dX4_unpack_198 : decode cX4_unpack 198 = .ok (.iload_n 3, 1) := by decide +kernel
theorem dX4_unpack_199 : decode cX4_unpack 199 = .ok (.iaload, 1) := by decide +kernel
theorem dX4_unpack_200 : decode cX4_unpack 200 = .ok (.iastore, 1) := by decide +kernel
theorem dX4_unpack_201 : decode cX4_unpack 201 = .ok (.iinc 3 1, 3) := by decide +kernel
theorem dX4_unpack_204 : decode cX4_unpack 204 = .ok (.goto (-20), 3) := by decide +kernel
theorem dX4_unpack_207 : decode cX4_unpack 207 = .ok (.aload_n 0, 1) := by decide +kernel
theorem dX4_unpack_208 : decode cX4_unpack 208 = .ok (.iload_n 1, 1) := by decide +kernel
theorem dX4_unpack_209 : decode cX4_unpack 209 = .ok (.putfield 47, 3) := by decide +kernel
theorem dX4_unpack_212 : decode cX4_unpack 212 = .ok (.aload_n 0, 1) := by decide +kernel
theorem dX4_unpack_213 : decode cX4_unpack 213 = .ok (.iconst 0, 1) := by decide +kernel
theorem dX4_unpack_214 : decode cX4_unpack 214 = .ok (.putfield 52, 3) := by decide +kernel
theorem dX4_unpack_217 : decode cX4_unpack 217 = .ok (.iload_n 1, 1) := by decide +kernel
theorem dX4_unpack_218 : decode cX4_unpack 218 = .ok (.ireturn, 1) := by decide +kernel
theorem dX4_clear_0 : decode cX4_clear 0 = .ok (.iconst 0, 1) := by decide +kernel
theorem dX4_clear_1 : decode cX4_clear 1 = .ok (.istore_n 2, 1) := by decide +kernel
theorem dX4_clear_2 : decode cX4_clear 2 = .ok (.iload_n 2, 1) := by decide +kernel
theorem dX4_clear_3 : decode cX4_clear 3 = .ok (.sipush 256, 3) := by decide +kernel
theorem dX4_clear_6 : decode cX4_clear 6 = .ok (.if_icmp .ge 16, 3) := by decide +kernel
theorem dX4_clear_9 : decode cX4_clear 9 = .ok (.aload_n 0, 1) := by decide +kernel
theorem dX4_clear_10 : decode cX4_clear 10 = .ok (.getfield 31, 3) := by decide +kernel
theorem dX4_clear_13 : decode cX4_clear 13 = .ok (.iload_n 2, 1) := by decide +kernel
theorem dX4_clear_14 : decode cX4_clear 14 = .ok (.iconst 0, 1) := by decide +kernel
theorem dX4_clear_15 : decode cX4_clear 15 = .ok (.iastore, 1) := by decide +kernel
theorem dX4_clear_16 : decode cX4_clear 16 = .ok (.iinc 2 1, 3) := by decide +kernel
theorem dX4_clear_19 : decode cX4_clear 19 = .ok (.goto (-17), 3) := by decide +kernel
theorem dX4_clear_22 : decode cX4_clear 22 = .ok (.iconst 0, 1) := by decide +kernel
theorem dX4_clear_23 : decode cX4_clear 23 = .ok (.istore_n 2, 1) := by decide +kernel
theorem dX4_clear_24 : decode cX4_clear 24 = .ok (.iload_n 2, 1) := by decide +kernel
theorem dX4_clear_25 : decode cX4_clear 25 = .ok (.bipush 8, 2) := by decide +kernel
theorem dX4_clear_27 : decode cX4_clear 27 = .ok (.if_icmp .ge 16, 3) := by decide +kernel
theorem dX4_clear_30 : decode cX4_clear 30 = .ok (.aload_n 0, 1) := by decide +kernel
theorem dX4_clear_31 : decode cX4_clear 31 = .ok (.getfield 34, 3) := by decide +kernel
theorem dX4_clear_34 : decode cX4_clear 34 = .ok (.iload_n 2, 1) := by decide +kernel
theorem dX4_clear_35 : decode cX4_clear 35 = .ok (.iconst 0, 1) := by decide +kernel
theorem dX4_clear_36 : decode cX4_clear 36 = .ok (.iastore, 1) := by decide +kernel
theorem dX4_clear_37 : decode cX4_clear 37 = .ok (.iinc 2 1, 3) := by decide +kernel
theorem dX4_clear_40 : decode cX4_clear 40 = .ok (.goto (-16), 3) := by decide +kernel
theorem dX4_clear_43 : decode cX4_clear 43 = .ok (.aload_n 0, 1) := by decide +kernel
theorem dX4_clear_44 : decode cX4_clear 44 = .ok (.iload_n 1, 1) := by decide +kernel
theorem dX4_clear_45 : decode cX4_clear 45 = .ok (.putfield 88, 3) := by decide +kernel
theorem dX4_clear_48 : decode cX4_clear 48 = .ok (.aload_n 0, 1) := by decide +kernel
theorem dX4_clear_49 : decode cX4_clear 49 = .ok (.iconst 0, 1) := by decide +kernel
theorem dX4_clear_50 : decode cX4_clear 50 = .ok (.putfield 37, 3) := by decide +kernel
theorem dX4_clear_53 : decode cX4_clear 53 = .ok (.aload_n 0, 1) := by decide +kernel
theorem dX4_clear_54 : decode cX4_clear 54 = .ok (.iconst 0, 1) := by decide +kernel
theorem dX4_clear_55 : decode cX4_clear 55 = .ok (.putfield 91, 3) := by decide +kernel
theorem dX4_clear_58 : decode cX4_clear 58 = .ok (.aload_n 0, 1) := by decide +kernel
theorem dX4_clear_59 : decode cX4_clear 59 = .ok (.iconst 0, 1) := by decide +kernel
theorem dX4_clear_60 : decode cX4_clear 60 = .ok (.putfield 94, 3) := by decide +kernel
theorem dX4_clear_63 : decode cX4_clear 63 = .ok (.return_, 1) := by decide +kernel
set_option maxRecDepth 20000 in
theorem ggX4_load_X4_clear : GoodIn wsX4_load wsX4_clear := goodIn_r _ [11, 5, 12, 13, 14, 15, 16, 17, 18, 19, 20, 21, 22, 23, 24, 25, 26, 27, 28, 29, 30, 31, 32, 33, 34, 35, 36, 37] (by decide +kernel) (by decide +kernel)
set_option maxRecDepth 20000 in
theorem gX4_load_X4_clear : GoodIn wsX4_load (wsV RX4 97 RX4 yX4_clear wsX4_clear) := goodIn_app (goodIn_of _ (by decide +kernel)) ggX4_load_X4_clear
theorem dX4_load_0 : decode cX4_load 0 = .ok (.aload_n 0, 1) := by decide +kernel
theorem dX4_load_1 : decode cX4_load 1 = .ok (.aload_n 0, 1) := by decide +kernel
theorem dX4_load_2 : decode cX4_load 2 = .ok (.getfield 60, 3) := by decide +kernel
theorem dX4_load_5 : decode cX4_load 5 = .ok (.aload_n 0, 1) := by decide +kernel
theorem dX4_load_6 : decode cX4_load 6 = .ok (.getfield 47, 3) := by decide +kernel
theorem dX4_load_9 : decode cX4_load 9 = .ok (.iadd, 1) := by decide +kernel
theorem dX4_load_10 : decode cX4_load 10 = .ok (.sipush 256, 3) := by decide +kernel
theorem dX4_load_13 : decode cX4_load 13 = .ok (.if_icmp .le 7, 3) := by decide +kernel
theorem dX4_load_16 : decode cX4_load 16 = .ok (.iconst 1, 1) := by decide +kernel
theorem dX4_load_17 : decode cX4_load 17 = .ok (.goto 4, 3) := by decide +kernel
theorem dX4_load_20 : decode cX4_load 20 = .ok (.iconst 0, 1) := by decide +kernel
theorem dX4_load_21 : decode cX4_load 21 = .ok (.putfield 44, 3) := by decide +kernel
theorem dX4_load_24 : decode cX4_load 24 = .ok (.aload_n 0, 1) := by decide +kernel
theorem dX4_load_25 : decode cX4_load 25 = .ok (.getfield 44, 3) := by decide +kernel
theorem dX4_load_28 : decode cX4_load 28 = .ok (.ifCond .le 4, 3) := by decide +kernel
theorem dX4_load_31 : decode cX4_load 31 = .ok (.return_, 1) := by decide +kernel
theorem dX4_load_32 : decode cX4_load 32 = .ok (.aload_n 0, 1) := by decide +kernel
theorem dX4_load_33 : decode cX4_load 33 = .ok (.aload_n 0, 1) := by decide +kernel
theorem dX4_load_34 : decode cX4_load 34 = .ok (.getfield 63, 3) := by decide +kernel
theorem dX4_load_37 : decode cX4_load 37 = .ok (.invokevirtual 97, 3) := by decide +kernel
theorem dX4_load_40 : decode cX4_load 40 = .ok (.iconst 0, 1) := by decide +kernel
theorem dX4_load_41 : decode cX4_load 41 = .ok (.istore_n 1, 1) := by decide +kernel
theorem dX4_load_42 : decode cX4_load 42 = .ok (.iload_n 1, 1) := by decide +kernel
theorem dX4_load_43 : decode cX4_load 43 = .ok (.aload_n 0, 1) := by decide +kernel
theorem dX4_load_44 : decode cX4_load 44 = .ok (.getfield 47, 3) := by decide +kernel
theorem dX4_load_47 : decode cX4_load 47 = .ok (.if_icmp .ge 26, 3) := by decide +kernel
theorem dX4_load_50 : decode cX4_load 50 = .ok (.aload_n 0, 1) := by decide +kernel
theorem dX4_load_51 : decode cX4_load 51 = .ok (.getfield 31, 3) := by decide +kernel
theorem dX4_load_54 : decode cX4_load 54 = .ok (.aload_n 0, 1) := by decide +kernel
theorem dX4_load_55 : decode cX4_load 55 = .ok (.getfield 60, 3) := by decide +kernel
theorem dX4_load_58 : decode cX4_load 58 = .ok (.iload_n 1, 1) := by decide +kernel
theorem dX4_load_59 : decode cX4_load 59 = .ok (.iadd, 1) := by decide +kernel
theorem dX4_load_60 : decode cX4_load 60 = .ok (.aload_n 0, 1) := by decide +kernel
theorem dX4_load_61 : decode cX4_load 61 = .ok (.getfield 7, 3) := by decide +kernel
theorem dX4_load_64 : decode cX4_load 64 = .ok (.iload_n 1, 1) := by decide +kernel
theorem dX4_load_65 : decode cX4_load 65 = .ok (.iaload, 1) := by decide +kernel
theorem dX4_load_66 : decode cX4_load 66 = .ok (.iastore, 1) := by decide +kernel
theorem dX4_load_67 : decode cX4_load 67 = .ok (.iinc 1 1, 3) := by decide +kernel
theorem dX4_load_70 : decode cX4_load 70 = .ok (.goto (-28), 3) := by decide +kernel
theorem dX4_load_73 : decode cX4_load 73 = .ok (.return_, 1) := by decide +kernel
theorem dX4_eighth_0 : decode cX4_eighth 0 = .ok (.lload_n 0, 1) := by decide +kernel
theorem dX4_eighth_1 : decode cX4_eighth 1 = .ok (.bipush 8, 2) := by decide +kernel
theorem dX4_eighth_3 : decode cX4_eighth 3 = .ok (.iload_n 2, 1) := by decide +kernel
theorem dX4_eighth_4 : decode cX4_eighth 4 = .ok (.imul, 1) := by decide +kernel
theorem dX4_eighth_5 : decode cX4_eighth 5 = .ok (.lshr, 1) := by decide +kernel
theorem dX4_eighth_6 : decode cX4_eighth 6 = .ok (.ldc2_w 50, 3) := by decide +kernel
theorem dX4_eighth_9 : decode cX4_eighth 9 = .ok (.land, 1) := by decide +kernel
theorem dX4_eighth_10 : decode cX4_eighth 10 = .ok (.l2i, 1) := by decide +kernel
theorem dX4_eighth_11 : decode cX4_eighth 11 = .ok (.ireturn, 1) := by decide +kernel
set_option maxRecDepth 20000 in
theorem ggX4_first_X4_eighth : GoodIn wsX4_first wsX4_eighth := goodIn_r _ [8, 9] (by decide +kernel) (by decide +kernel)
set_option maxRecDepth 20000 in
theorem gX4_first_X4_eighth : GoodIn wsX4_first (va_wsS RX4 108 yX4_eighth wsX4_eighth) := goodIn_app (goodIn_of _ (by decide +kernel)) ggX4_first_X4_eighth
theorem dX4_first_0 : decode cX4_first 0 = .ok (.iload_n 0, 1) := by decide +kernel
theorem dX4_first_1 : decode cX4_first 1 = .ok (.bipush 8, 2) := by decide +kernel
theorem dX4_first_3 : decode cX4_first 3 = .ok (.if_icmp .ge 9, 3) := by decide +kernel
theorem dX4_first_6 : decode cX4_first 6 = .ok (.ldc2_w 100, 3) := by decide +kernel
theorem dX4_first_9 : decode cX4_first 9 = .ok (.goto 30, 3) := by decide +kernel
theorem dX4_first_12 : decode cX4_first 12 = .ok (.iload_n 0, 1) := by decide +kernel
theorem dX4_first_13 : decode cX4_first 13 = .ok (.bipush 16, 2) := by decide +kernel
theorem dX4_first_15 : decode cX4_first 15 = .ok (.if_icmp .ge 9, 3) := by decide +kernel
theorem dX4_first_18 : decode cX4_first 18 = .ok (.ldc2_w 102, 3) := by decide +kernel
theorem dX4_first_21 : decode cX4_first 21 = .ok (.goto 18, 3) := by decide +kernel
theorem dX4_first_24 : decode cX4_first 24 = .ok (.iload_n 0, 1) := by decide +kernel
theorem dX4_first_25 : decode cX4_first 25 = .ok (.bipush 24, 2) := by decide +kernel
theorem dX4_first_27 : decode cX4_first 27 = .ok (.if_icmp .ge 9, 3) := by decide +kernel
theorem dX4_first_30 : decode cX4_first 30 = .ok (.ldc2_w 104, 3) := by decide +kernel
theorem dX4_first_33 : decode cX4_first 33 = .ok (.goto 6, 3) := by decide +kernel
theorem dX4_first_36 : decode cX4_first 36 = .ok (.ldc2_w 106, 3) := by decide +kernel
theorem dX4_first_39 : decode cX4_first 39 = .ok (.lstore_n 1, 1) := by decide +kernel
theorem dX4_first_40 : decode cX4_first 40 = .ok (.lload_n 1, 1) := by decide +kernel
theorem dX4_first_41 : decode cX4_first 41 = .ok (.iload_n 0, 1) := by decide +kernel
theorem dX4_first_42 : decode cX4_first 42 = .ok (.bipush 8, 2) := by decide +kernel
theorem dX4_first_44 : decode cX4_first 44 = .ok (.irem, 1) := by decide +kernel
theorem dX4_first_45 : decode cX4_first 45 = .ok (.invokestatic 108, 3) := by decide +kernel
theorem dX4_first_48 : decode cX4_first 48 = .ok (.ireturn, 1) := by decide +kernel
set_option maxRecDepth 20000 in
theorem ggX4_second_X4_eighth : GoodIn wsX4_second wsX4_eighth := goodIn_r _ [12, 13] (by decide +kernel) (by decide +kernel)
set_option maxRecDepth 20000 in
theorem gX4_second_X4_eighth : GoodIn wsX4_second (va_wsS RX4 108 yX4_eighth wsX4_eighth) := goodIn_app (goodIn_of _ (by decide +kernel)) ggX4_second_X4_eighth
theorem dX4_second_0 : decode cX4_second 0 = .ok (.iload_n 1, 1) := by decide +kernel
theorem dX4_second_1 : decode cX4_second 1 = .ok (.bipush 8, 2) := by decide +kernel
theorem dX4_second_3 : decode cX4_second 3 = .ok (.if_icmp .ge 9, 3) := by decide +kernel
theorem dX4_second_6 : decode cX4_second 6 = .ok (.ldc2_w 112, 3) := by decide +kernel
theorem dX4_second_9 : decode cX4_second 9 = .ok (.goto 30, 3) := by decide +kernel
theorem dX4_second_12 : decode cX4_second 12 = .ok (.iload_n 1, 1) := by decide +kernel
theorem dX4_second_13 : decode cX4_second 13 = .ok (.bipush 16, 2) := by decide +kernel
theorem dX4_second_15 : decode cX4_second 15 = .ok (.if_icmp .ge 9, 3) := by decide +kernel
theorem dX4_second_18 : decode cX4_second 18 = .ok (.ldc2_w 114, 3) := by decide +kernel
theorem dX4_second_21 : decode cX4_second 21 = .ok (.goto 18, 3) := by decide +kernel
theorem dX4_second_24 : decode cX4_second 24 = .ok (.iload_n 1, 1) := by decide +kernel
theorem dX4_second_25 : decode cX4_second 25 = .ok (.bipush 24, 2) := by decide +kernel
theorem dX4_second_27 : decode cX4_second 27 = .ok (.if_icmp .ge 9, 3) := by decide +kernel
theorem dX4_second_30 : decode cX4_second 30 = .ok (.ldc2_w 116, 3) := by decide +kernel
theorem dX4_second_33 : decode cX4_second 33 = .ok (.goto 6, 3) := by decide +kernel
theorem dX4_second_36 : decode cX4_second 36 = .ok (.ldc2_w 118, 3) := by decide +kernel
theorem dX4_second_39 : decode cX4_second 39 = .ok (.lstore_n 3, 1) := by decide +kernel
theorem dX4_second_40 : decode cX4_second 40 = .ok (.lload_n 3, 1) := by decide +kernel
theorem dX4_second_41 : decode cX4_second 41 = .ok (.iload_n 1, 1) := by decide +kernel
theorem dX4_second_42 : decode cX4_second 42 = .ok (.bipush 8, 2) := by decide +kernel
theorem dX4_second_44 : decode cX4_second 44 = .ok (.irem, 1) := by decide +kernel
theorem dX4_second_45 : decode cX4_second 45 = .ok (.invokestatic 108, 3) := by decide +kernel
theorem dX4_second_48 : decode cX4_second 48 = .ok (.istore 5, 2) := by decide +kernel
theorem dX4_second_50 : decode cX4_second 50 = .ok (.ldc 120, 2) := by decide +kernel
theorem dX4_second_52 : decode cX4_second 52 = .ok (.iload_n 1, 1) := by decide +kernel
theorem dX4_second_53 : decode cX4_second 53 = .ok (.ishr, 1) := by decide +kernel
theorem dX4_second_54 : decode cX4_second 54 = .ok (.iconst 1, 1) := by decide +kernel
theorem dX4_second_55 : decode cX4_second 55 = .ok (.iand, 1) := by decide +kernel
theorem dX4_second_56 : decode cX4_second 56 = .ok (.iconst 1, 1) := by decide +kernel
theorem dX4_second_57 : decode cX4_second 57 = .ok (.if_icmp .ne 7, 3) := by decide +kernel
theorem dX4_second_60 : decode cX4_second 60 = .ok (.iconst 1, 1) := by decide +kernel
theorem dX4_second_61 : decode cX4_second 61 = .ok (.goto 4, 3) := by decide +kernel
theorem dX4_second_64 : decode cX4_second 64 = .ok (.iconst 0, 1) := by decide +kernel
theorem dX4_second_65 : decode cX4_second 65 = .ok (.istore 6, 2) := by decide +kernel
theorem dX4_second_67 : decode cX4_second 67 = .ok (.iload_n 1, 1) := by decide +kernel
theorem dX4_second_68 : decode cX4_second 68 = .ok (.ifCond .ne 16, 3) := by decide +kernel
theorem dX4_second_71 : decode cX4_second 71 = .ok (.iload_n 2, 1) := by decide +kernel
theorem dX4_second_72 : decode cX4_second 72 = .ok (.aload_n 0, 1) := by decide +kernel
theorem dX4_second_73 : decode cX4_second 73 = .ok (.getfield 74, 3) := by decide +kernel
theorem dX4_second_76 : decode cX4_second 76 = .ok (.isub, 1) := by decide +kernel
theorem dX4_second_77 : decode cX4_second 77 = .ok (.sipush 255, 3) := by decide +kernel
theorem dX4_second_80 : decode cX4_second 80 = .ok (.iand, 1) := by decide +kernel
theorem dX4_second_81 : decode cX4_second 81 = .ok (.goto 46, 3) := by decide +kernel
theorem dX4_second_84 : decode cX4_second 84 = .ok (.iload_n 1, 1) := by decide +kernel
theorem dX4_second_85 : decode cX4_second 85 = .ok (.iconst 1, 1) := by decide +kernel
theorem dX4_second_86 : decode cX4_second 86 = .ok (.if_icmp .ne 10, 3) := by decide +kernel
theorem dX4_second_89 : decode cX4_second 89 = .ok (.aload_n 0, 1) := by decide +kernel
theorem dX4_second_90 : decode cX4_second 90 = .ok (.getfield 60, 3) := by decide +kernel
theorem dX4_second_93 : decode cX4_second 93 = .ok (.goto 34, 3) := by decide +kernel
theorem dX4_second_96 : decode cX4_second 96 = .ok (.iload_n 1, 1) := by decide +kernel
theorem dX4_second_97 : decode cX4_second 97 = .ok (.bipush 29, 2) := by decide +kernel
theorem dX4_second_99 : decode cX4_second 99 = .ok (.if_icmp .ne 10, 3) := by decide +kernel
theorem dX4_second_102 : decode cX4_second 102 = .ok (.aload_n 0, 1) := by decide +kernel
theorem dX4_second_103 : decode cX4_second 103 = .ok (.getfield 63, 3) := by decide +kernel
theorem dX4_second_106 : decode cX4_second 106 = .ok (.goto 21, 3) := by decide +kernel
theorem dX4_second_109 : decode cX4_second 109 = .ok (.iload 6, 2) := by decide +kernel
theorem dX4_second_111 : decode cX4_second 111 = .ok (.ifCond .eq 14, 3) := by decide +kernel
theorem dX4_second_114 : decode cX4_second 114 = .ok (.iload_n 2, 1) := by decide +kernel
theorem dX4_second_115 : decode cX4_second 115 = .ok (.iload 5, 2) := by decide +kernel
theorem dX4_second_117 : decode cX4_second 117 = .ok (.iadd, 1) := by decide +kernel
theorem dX4_second_118 : decode cX4_second 118 = .ok (.sipush 255, 3) := by decide +kernel
theorem dX4_second_121 : decode cX4_second 121 = .ok (.iand, 1) := by decide +kernel
theorem dX4_second_122 : decode cX4_second 122 = .ok (.goto 5, 3) := by decide +kernel
theorem dX4_second_125 : decode cX4_second 125 = .ok (.iload 5, 2) := by decide +kernel
theorem dX4_second_127 : decode cX4_second 127 = .ok (.ireturn, 1) := by decide +kernel
