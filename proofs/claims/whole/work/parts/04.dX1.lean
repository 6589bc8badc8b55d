set_option maxRecDepth 20000 in
theorem ggX1_init_X2_init : GoodIn wsX1_init wsX2_init := goodIn_r _ [17, 18, 2, 3, 8, 19, 20, 21, 22, 23, 24, 25, 26] (by decide +kernel) (by decide +kernel)
set_option maxRecDepth 20000 in
theorem gX1_init_X2_init : GoodIn wsX1_init (wsX2_init) := ggX1_init_X2_init
theorem dX1_init_0 : decode cX1_init 0 = .ok (.aload_n 0, 1) := by decide +kernel
theorem dX1_init_1 : decode cX1_init 1 = .ok (.invokespecial 3, 3) := by decide +kernel
theorem dX1_init_4 : decode cX1_init 4 = .ok (.aload_n 0, 1) := by decide +kernel
theorem dX1_init_5 : decode cX1_init 5 = .ok (.new 9, 3) := by decide +kernel
theorem dX1_init_8 : decode cX1_init 8 = .ok (.dup, 1) := by decide +kernel
theorem dX1_init_9 : decode cX1_init 9 = .ok (.invokespecial 11, 3) := by decide +kernel
theorem dX1_init_12 : decode cX1_init 12 = .ok (.putfield 12, 3) := by decide +kernel
theorem dX1_init_15 : decode cX1_init 15 = .ok (.aload_n 0, 1) := by decide +kernel
theorem dX1_init_16 : decode cX1_init 16 = .ok (.sipush 163, 3) := by decide +kernel
theorem dX1_init_19 : decode cX1_init 19 = .ok (.newarray .int, 2) := by decide +kernel
theorem dX1_init_21 : decode cX1_init 21 = .ok (.putfield 18, 3) := by decide +kernel
theorem dX1_init_24 : decode cX1_init 24 = .ok (.aload_n 0, 1) := by decide +kernel
theorem dX1_init_25 : decode cX1_init 25 = .ok (.sipush 161, 3) := by decide +kernel
theorem dX1_init_28 : decode cX1_init 28 = .ok (.newarray .int, 2) := by decide +kernel
theorem dX1_init_30 : decode cX1_init 30 = .ok (.putfield 22, 3) := by decide +kernel
theorem dX1_init_33 : decode cX1_init 33 = .ok (.aload_n 0, 1) := by decide +kernel
theorem dX1_init_34 : decode cX1_init 34 = .ok (.sipush 160, 3) := by decide +kernel
theorem dX1_init_37 : decode cX1_init 37 = .ok (.newarray .int, 2) := by decide +kernel
theorem dX1_init_39 : decode cX1_init 39 = .ok (.putfield 25, 3) := by decide +kernel
theorem dX1_init_42 : decode cX1_init 42 = .ok (.aload_n 0, 1) := by decide +kernel
theorem dX1_init_43 : decode cX1_init 43 = .ok (.sipush 160, 3) := by decide +kernel
theorem dX1_init_46 : decode cX1_init 46 = .ok (.newarray .int, 2) := by decide +kernel
theorem dX1_init_48 : decode cX1_init 48 = .ok (.putfield 28, 3) := by decide +kernel
theorem dX1_init_51 : decode cX1_init 51 = .ok (.aload_n 0, 1) := by decide +kernel
theorem dX1_init_52 : decode cX1_init 52 = .ok (.sipush 160, 3) := by decide +kernel
theorem dX1_init_55 : decode cX1_init 55 = .ok (.newarray .int, 2) := by decide +kernel
theorem dX1_init_57 : decode cX1_init 57 = .ok (.putfield 31, 3) := by decide +kernel
theorem dX1_init_60 : decode cX1_init 60 = .ok (.aload_n 0, 1) := by decide +kernel
theorem dX1_init_61 : decode cX1_init 61 = .ok (.iconst (-1), 1) := by decide +kernel
theorem dX1_init_62 : decode cX1_init 62 = .ok (.putfield 34, 3) := by decide +kernel
theorem dX1_init_65 : decode cX1_init 65 = .ok (.return_, 1) := by decide +kernel
theorem dX1_stubAddress_0 : decode cX1_stubAddress 0 = .ok (.aload_n 0, 1) := by decide +kernel
theorem dX1_stubAddress_1 : decode cX1_stubAddress 1 = .ok (.getfield 12, 3) := by decide +kernel
theorem dX1_stubAddress_4 : decode cX1_stubAddress 4 = .ok (.getfield 38, 3) := by decide +kernel
theorem dX1_stubAddress_7 : decode cX1_stubAddress 7 = .ok (.aload_n 0, 1) := by decide +kernel
theorem dX1_stubAddress_8 : decode cX1_stubAddress 8 = .ok (.getfield 12, 3) := by decide +kernel
theorem dX1_stubAddress_11 : decode cX1_stubAddress 11 = .ok (.getfield 41, 3) := by decide +kernel
theorem dX1_stubAddress_14 : decode cX1_stubAddress 14 = .ok (.iadd, 1) := by decide +kernel
theorem dX1_stubAddress_15 : decode cX1_stubAddress 15 = .ok (.aload_n 0, 1) := by decide +kernel
theorem dX1_stubAddress_16 : decode cX1_stubAddress 16 = .ok (.getfield 44, 3) := by decide +kernel
theorem dX1_stubAddress_19 : decode cX1_stubAddress 19 = .ok (.iadd, 1) := by decide +kernel
theorem dX1_stubAddress_20 : decode cX1_stubAddress 20 = .ok (.ireturn, 1) := by decide +kernel
set_option maxRecDepth 20000 in
theorem ggX1_layoutEnd_X1_stubAddress : GoodIn wsX1_layoutEnd wsX1_stubAddress := goodIn_r _ [5, 6, 7, 8, 9, 10, 11, 12, 13, 14, 15, 16, 17, 18, 19, 20, 21, 22, 23, 24] (by decide +kernel) (by decide +kernel)
set_option maxRecDepth 20000 in
theorem gX1_layoutEnd_X1_stubAddress : GoodIn wsX1_layoutEnd (wsV RX1 47 RX1 yX1_stubAddress wsX1_stubAddress) := goodIn_app (goodIn_of _ (by decide +kernel)) ggX1_layoutEnd_X1_stubAddress
theorem dX1_layoutEnd_0 : decode cX1_layoutEnd 0 = .ok (.aload_n 0, 1) := by decide +kernel
theorem dX1_layoutEnd_1 : decode cX1_layoutEnd 1 = .ok (.invokevirtual 47, 3) := by decide +kernel
theorem dX1_layoutEnd_4 : decode cX1_layoutEnd 4 = .ok (.bipush 60, 2) := by decide +kernel
theorem dX1_layoutEnd_6 : decode cX1_layoutEnd 6 = .ok (.iadd, 1) := by decide +kernel
theorem dX1_layoutEnd_7 : decode cX1_layoutEnd 7 = .ok (.ireturn, 1) := by decide +kernel
set_option maxRecDepth 20000 in
theorem ggX1_fits_X1_layoutEnd : GoodIn wsX1_fits wsX1_layoutEnd := goodIn_r _ [5, 6, 7, 8, 4, 9, 10, 11, 12, 13, 14, 15, 16, 17, 18, 19, 20, 21, 22, 23, 24, 25, 26, 27, 28] (by decide +kernel) (by decide +kernel)
set_option maxRecDepth 20000 in
theorem gX1_fits_X1_layoutEnd : GoodIn wsX1_fits (wsV RX1 53 RX1 yX1_layoutEnd wsX1_layoutEnd) := goodIn_app (goodIn_of _ (by decide +kernel)) ggX1_fits_X1_layoutEnd
theorem dX1_fits_0 : decode cX1_fits 0 = .ok (.aload_n 0, 1) := by decide +kernel
theorem dX1_fits_1 : decode cX1_fits 1 = .ok (.invokevirtual 53, 3) := by decide +kernel
theorem dX1_fits_4 : decode cX1_fits 4 = .ok (.sipush 256, 3) := by decide +kernel
theorem dX1_fits_7 : decode cX1_fits 7 = .ok (.if_icmp .gt 7, 3) := by decide +kernel
theorem dX1_fits_10 : decode cX1_fits 10 = .ok (.iconst 1, 1) := by decide +kernel
theorem dX1_fits_11 : decode cX1_fits 11 = .ok (.goto 4, 3) := by decide +kernel
theorem dX1_fits_14 : decode cX1_fits 14 = .ok (.iconst 0, 1) := by decide +kernel
theorem dX1_fits_15 : decode cX1_fits 15 = .ok (.ireturn, 1) := by decide +kernel
set_option maxRecDepth 20000 in
theorem ggX1_refresh_X1_findCopy : GoodIn wsX1_refresh wsX1_findCopy := goodIn_r _ [12, 2, 13, 14, 15, 5, 16, 17, 18, 19, 37, 38, 39, 40, 41, 42, 43, 44, 45, 46, 47, 48, 49, 50, 51] (by decide +kernel) (by decide +kernel)
set_option maxRecDepth 20000 in
theorem gX1_refresh_X1_findCopy : GoodIn wsX1_refresh (wsV RX1 57 RX1 yX1_findCopy wsX1_findCopy) := goodIn_app (goodIn_of _ (by decide +kernel)) ggX1_refresh_X1_findCopy
set_option maxRecDepth 20000 in
theorem ggX1_refresh_X1_chooseToken : GoodIn wsX1_refresh wsX1_chooseToken := goodIn_r _ [23, 15, 6, 14, 2, 4, 16, 17, 18, 19, 37, 38, 39, 40, 41, 42, 43, 44, 45, 46, 47, 48, 49, 50, 51] (by decide +kernel) (by decide +kernel)
set_option maxRecDepth 20000 in
theorem gX1_refresh_X1_chooseToken : GoodIn wsX1_refresh (wsV RX1 61 RX1 yX1_chooseToken wsX1_chooseToken) := goodIn_app (goodIn_of _ (by decide +kernel)) ggX1_refresh_X1_chooseToken
set_option maxRecDepth 20000 in
theorem ggX1_refresh_X1_writeStream : GoodIn wsX1_refresh wsX1_writeStream := goodIn_r _ [27, 2, 4, 7, 28, 29, 18, 30, 31, 14, 15, 32, 13, 33, 34, 35, 36, 37, 38, 39, 40, 41, 42, 43, 44, 45, 46, 47, 48, 49, 50, 51] (by decide +kernel) (by decide +kernel)
set_option maxRecDepth 20000 in
theorem gX1_refresh_X1_writeStream : GoodIn wsX1_refresh (wsV RX1 67 RX1 yX1_writeStream wsX1_writeStream) := goodIn_app (goodIn_of _ (by decide +kernel)) ggX1_refresh_X1_writeStream
theorem dX1_refresh_0 : decode cX1_refresh 0 = .ok (.aload_n 0, 1) := by decide +kernel
theorem dX1_refresh_1 : decode cX1_refresh 1 = .ok (.getfield 34, 3) := by decide +kernel
theorem dX1_refresh_4 : decode cX1_refresh 4 = .ok (.aload_n 0, 1) := by decide +kernel
theorem dX1_refresh_5 : decode cX1_refresh 5 = .ok (.getfield 12, 3) := by decide +kernel
theorem dX1_refresh_8 : decode cX1_refresh 8 = .ok (.getfield 56, 3) := by decide +kernel
theorem dX1_refresh_11 : decode cX1_refresh 11 = .ok (.if_icmp .ne 4, 3) := by decide +kernel
theorem dX1_refresh_14 : decode cX1_refresh 14 = .ok (.return_, 1) := by decide +kernel
theorem dX1_refresh_15 : decode cX1_refresh 15 = .ok (.aload_n 0, 1) := by decide +kernel
theorem dX1_refresh_16 : decode cX1_refresh 16 = .ok (.getfield 12, 3) := by decide +kernel
theorem dX1_refresh_19 : decode cX1_refresh 19 = .ok (.getfield 41, 3) := by decide +kernel
theorem dX1_refresh_22 : decode cX1_refresh 22 = .ok (.istore_n 1, 1) := by decide +kernel
theorem dX1_refresh_23 : decode cX1_refresh 23 = .ok (.iconst 0, 1) := by decide +kernel
theorem dX1_refresh_24 : decode cX1_refresh 24 = .ok (.istore_n 2, 1) := by decide +kernel
theorem dX1_refresh_25 : decode cX1_refresh 25 = .ok (.iload_n 2, 1) := by decide +kernel
theorem dX1_refresh_26 : decode cX1_refresh 26 = .ok (.sipush 160, 3) := by decide +kernel
theorem dX1_refresh_29 : decode cX1_refresh 29 = .ok (.if_icmp .ge 16, 3) := by decide +kernel
theorem dX1_refresh_32 : decode cX1_refresh 32 = .ok (.aload_n 0, 1) := by decide +kernel
theorem dX1_refresh_33 : decode cX1_refresh 33 = .ok (.getfield 31, 3) := by decide +kernel
theorem dX1_refresh_36 : decode cX1_refresh 36 = .ok (.iload_n 2, 1) := by decide +kernel
theorem dX1_refresh_37 : decode cX1_refresh 37 = .ok (.iconst 0, 1) := by decide +kernel
theorem dX1_refresh_38 : decode cX1_refresh 38 = .ok (.iastore, 1) := by decide +kernel
theorem dX1_refresh_39 : decode cX1_refresh 39 = .ok (.iinc 2 1, 3) := by decide +kernel
theorem dX1_refresh_42 : decode cX1_refresh 42 = .ok (.goto (-17), 3) := by decide +kernel
theorem dX1_refresh_45 : decode cX1_refresh 45 = .ok (.aload_n 0, 1) := by decide +kernel
theorem dX1_refresh_46 : decode cX1_refresh 46 = .ok (.getfield 22, 3) := by decide +kernel
theorem dX1_refresh_49 : decode cX1_refresh 49 = .ok (.iload_n 1, 1) := by decide +kernel
theorem dX1_refresh_50 : decode cX1_refresh 50 = .ok (.iconst 1, 1) := by decide +kernel
theorem dX1_refresh_51 : decode cX1_refresh 51 = .ok (.iastore, 1) := by decide +kernel
theorem dX1_refresh_52 : decode cX1_refresh 52 = .ok (.iload_n 1, 1) := by decide +kernel
theorem dX1_refresh_53 : decode cX1_refresh 53 = .ok (.iconst 1, 1) := by decide +kernel
theorem dX1_refresh_54 : decode cX1_refresh 54 = .ok (.isub, 1) := by decide +kernel
theorem dX1_refresh_55 : decode cX1_refresh 55 = .ok (.istore_n 2, 1) := by decide +kernel
theorem dX1_refresh_56 : decode cX1_refresh 56 = .ok (.iload_n 2, 1) := by decide +kernel
theorem dX1_refresh_57 : decode cX1_refresh 57 = .ok (.ifCond .lt 19, 3) := by decide +kernel
theorem dX1_refresh_60 : decode cX1_refresh 60 = .ok (.aload_n 0, 1) := by decide +kernel
theorem dX1_refresh_61 : decode cX1_refresh 61 = .ok (.iload_n 2, 1) := by decide +kernel
theorem dX1_refresh_62 : decode cX1_refresh 62 = .ok (.invokevirtual 57, 3) := by decide +kernel
theorem dX1_refresh_65 : decode cX1_refresh 65 = .ok (.aload_n 0, 1) := by decide +kernel
theorem dX1_refresh_66 : decode cX1_refresh 66 = .ok (.iload_n 2, 1) := by decide +kernel
theorem dX1_refresh_67 : decode cX1_refresh 67 = .ok (.invokevirtual 61, 3) := by decide +kernel
theorem dX1_refresh_70 : decode cX1_refresh 70 = .ok (.iinc 2 (-1), 3) := by decide +kernel
theorem dX1_refresh_73 : decode cX1_refresh 73 = .ok (.goto (-17), 3) := by decide +kernel
theorem dX1_refresh_76 : decode cX1_refresh 76 = .ok (.aload_n 0, 1) := by decide +kernel
theorem dX1_refresh_77 : decode cX1_refresh 77 = .ok (.aload_n 0, 1) := by decide +kernel
theorem dX1_refresh_78 : decode cX1_refresh 78 = .ok (.getfield 22, 3) := by decide +kernel
theorem dX1_refresh_81 : decode cX1_refresh 81 = .ok (.iconst 0, 1) := by decide +kernel
theorem dX1_refresh_82 : decode cX1_refresh 82 = .ok (.iaload, 1) := by decide +kernel
theorem dX1_refresh_83 : decode cX1_refresh 83 = .ok (.putfield 64, 3) := by decide +kernel
theorem dX1_refresh_86 : decode cX1_refresh 86 = .ok (.aload_n 0, 1) := by decide +kernel
theorem dX1_refresh_87 : decode cX1_refresh 87 = .ok (.invokevirtual 67, 3) := by decide +kernel
theorem dX1_refresh_90 : decode cX1_refresh 90 = .ok (.aload_n 0, 1) := by decide +kernel
theorem dX1_refresh_91 : decode cX1_refresh 91 = .ok (.aload_n 0, 1) := by decide +kernel
theorem dX1_refresh_92 : decode cX1_refresh 92 = .ok (.getfield 12, 3) := by decide +kernel
theorem dX1_refresh_95 : decode cX1_refresh 95 = .ok (.getfield 56, 3) := by decide +kernel
theorem dX1_refresh_98 : decode cX1_refresh 98 = .ok (.putfield 34, 3) := by decide +kernel
theorem dX1_refresh_101 : decode cX1_refresh 101 = .ok (.return_, 1) := by decide +kernel
theorem dX1_findCopy_0 : decode cX1_findCopy 0 = .ok (.aload_n 0, 1) := by decide +kernel
theorem dX1_findCopy_1 : decode cX1_findCopy 1 = .ok (.getfield 12, 3) := by decide +kernel
theorem dX1_findCopy_4 : decode cX1_findCopy 4 = .ok (.getfield 70, 3) := by decide +kernel
theorem dX1_findCopy_7 : decode cX1_findCopy 7 = .ok (.astore_n 2, 1) := by decide +kernel
theorem dX1_findCopy_8 : decode cX1_findCopy 8 = .ok (.aload_n 0, 1) := by decide +kernel
theorem dX1_findCopy_9 : decode cX1_findCopy 9 = .ok (.getfield 25, 3) := by decide +kernel
theorem dX1_findCopy_12 : decode cX1_findCopy 12 = .ok (.iload_n 1, 1) := by decide +kernel
theorem dX1_findCopy_13 : decode cX1_findCopy 13 = .ok (.iconst 0, 1) := by decide +kernel
theorem dX1_findCopy_14 : decode cX1_findCopy 14 = .ok (.iastore, 1) := by decide +kernel
theorem dX1_findCopy_15 : decode cX1_findCopy 15 = .ok (.aload_n 0, 1) := by decide +kernel
theorem dX1_findCopy_16 : decode cX1_findCopy 16 = .ok (.getfield 28, 3) := by decide +kernel
theorem dX1_findCopy_19 : decode cX1_findCopy 19 = .ok (.iload_n 1, 1) := by decide +kernel
theorem dX1_findCopy_20 : decode cX1_findCopy 20 = .ok (.iconst 0, 1) := by decide +kernel
theorem dX1_findCopy_21 : decode cX1_findCopy 21 = .ok (.iastore, 1) := by decide +kernel
theorem dX1_findCopy_22 : decode cX1_findCopy 22 = .ok (.iconst 1, 1) := by decide +kernel
theorem dX1_findCopy_23 : decode cX1_findCopy 23 = .ok (.istore_n 3, 1) := by decide +kernel
theorem dX1_findCopy_24 : decode cX1_findCopy 24 = .ok (.iload_n 3, 1) := by decide +kernel
theorem dX1_findCopy_25 : decode cX1_findCopy 25 = .ok (.iload_n 1, 1) := by decide +kernel
theorem dX1_findCopy_26 : decode cX1_findCopy 26 = .ok (.if_icmp .gt 84, 3) := by decide +kernel
theorem dX1_findCopy_29 : decode cX1_findCopy 29 = .ok (.aload_n 0, 1) := by decide +kernel
theorem dX1_findCopy_30 : decode cX1_findCopy 30 = .ok (.getfield 31, 3) := by decide +kernel
theorem dX1_findCopy_33 : decode cX1_findCopy 33 = .ok (.iload_n 3, 1) := by decide +kernel
theorem dX1_findCopy_34 : decode cX1_findCopy 34 = .ok (.aload_n 2, 1) := by decide +kernel
theorem dX1_findCopy_35 : decode cX1_findCopy 35 = .ok (.iload_n 1, 1) := by decide +kernel
theorem dX1_findCopy_36 : decode cX1_findCopy 36 = .ok (.iaload, 1) := by decide +kernel
theorem dX1_findCopy_37 : decode cX1_findCopy 37 = .ok (.aload_n 2, 1) := by decide +kernel
theorem dX1_findCopy_38 : decode cX1_findCopy 38 = .ok (.iload_n 1, 1) := by decide +kernel
theorem dX1_findCopy_39 : decode cX1_findCopy 39 = .ok (.iload_n 3, 1) := by decide +kernel
theorem dX1_findCopy_40 : decode cX1_findCopy 40 = .ok (.isub, 1) := by decide +kernel
theorem dX1_findCopy_41 : decode cX1_findCopy 41 = .ok (.iaload, 1) := by decide +kernel
theorem dX1_findCopy_42 : decode cX1_findCopy 42 = .ok (.if_icmp .ne 14, 3) := by decide +kernel
theorem dX1_findCopy_45 : decode cX1_findCopy 45 = .ok (.aload_n 0, 1) := by decide +kernel
theorem dX1_findCopy_46 : decode cX1_findCopy 46 = .ok (.getfield 31, 3) := by decide +kernel
theorem dX1_findCopy_49 : decode cX1_findCopy 49 = .ok (.iload_n 3, 1) := by decide +kernel
theorem dX1_findCopy_50 : decode cX1_findCopy 50 = .ok (.iaload, 1) := by decide +kernel
theorem dX1_findCopy_51 : decode cX1_findCopy 51 = .ok (.iconst 1, 1) := by decide +kernel
theorem dX1_findCopy_52 : decode cX1_findCopy 52 = .ok (.iadd, 1) := by decide +kernel
theorem dX1_findCopy_53 : decode cX1_findCopy 53 = .ok (.goto 4, 3) := by decide +kernel
theorem dX1_findCopy_56 : decode cX1_findCopy 56 = .ok (.iconst 0, 1) := by decide +kernel
theorem dX1_findCopy_57 : decode cX1_findCopy 57 = .ok (.iastore, 1) := by decide +kernel
theorem dX1_findCopy_58 : decode cX1_findCopy 58 = .ok (.aload_n 0, 1) := by decide +kernel
theorem dX1_findCopy_59 : decode cX1_findCopy 59 = .ok (.getfield 31, 3) := by decide +kernel
theorem dX1_findCopy_62 : decode cX1_findCopy 62 = .ok (.iload_n 3, 1) := by decide +kernel
theorem dX1_findCopy_63 : decode cX1_findCopy 63 = .ok (.iaload, 1) := by decide +kernel
theorem dX1_findCopy_64 : decode cX1_findCopy 64 = .ok (.sipush 129, 3) := by decide +kernel
theorem dX1_findCopy_67 : decode cX1_findCopy 67 = .ok (.invokestatic 73, 3) := by decide +kernel
theorem dX1_findCopy_70 : decode cX1_findCopy 70 = .ok (.istore 4, 2) := by decide +kernel
theorem dX1_findCopy_72 : decode cX1_findCopy 72 = .ok (.iload 4, 2) := by decide +kernel
theorem dX1_findCopy_74 : decode cX1_findCopy 74 = .ok (.iconst 1, 1) := by decide +kernel
theorem dX1_findCopy_75 : decode cX1_findCopy 75 = .ok (.if_icmp .le 29, 3) := by decide +kernel
theorem dX1_findCopy_78 : decode cX1_findCopy 78 = .ok (.iload 4, 2) := by decide +kernel
theorem dX1_findCopy_80 : decode cX1_findCopy 80 = .ok (.aload_n 0, 1) := by decide +kernel
theorem dX1_findCopy_81 : decode cX1_findCopy 81 = .ok (.getfield 25, 3) := by decide +kernel
theorem dX1_findCopy_84 : decode cX1_findCopy 84 = .ok (.iload_n 1, 1) := by decide +kernel
theorem dX1_findCopy_85 : decode cX1_findCopy 85 = .ok (.iaload, 1) := by decide +kernel
theorem dX1_findCopy_86 : decode cX1_findCopy 86 = .ok (.if_icmp .le 18, 3) := by decide +kernel
theorem dX1_findCopy_89 : decode cX1_findCopy 89 = .ok (.aload_n 0, 1) := by decide +kernel
theorem dX1_findCopy_90 : decode cX1_findCopy 90 = .ok (.getfield 25, 3) := by decide +kernel
theorem dX1_findCopy_93 : decode cX1_findCopy 93 = .ok (.iload_n 1, 1) := by decide +kernel
theorem dX1_findCopy_94 : decode cX1_findCopy 94 = .ok (.iload 4, 2) := by decide +kernel
theorem dX1_findCopy_96 : decode cX1_findCopy 96 = .ok (.iastore, 1) := by decide +kernel
theorem dX1_findCopy_97 : decode cX1_findCopy 97 = .ok (.aload_n 0, 1) := by decide +kernel
theorem dX1_findCopy_98 : decode cX1_findCopy 98 = .ok (.getfield 28, 3) := by decide +kernel
theorem dX1_findCopy_101 : decode cX1_findCopy 101 = .ok (.iload_n 1, 1) := by decide +kernel
theorem dX1_findCopy_102 : decode cX1_findCopy 102 = .ok (.iload_n 3, 1) := by decide +kernel
theorem dX1_findCopy_103 : decode cX1_findCopy 103 = .ok (.iastore, 1) := by decide +kernel
theorem dX1_findCopy_104 : decode cX1_findCopy 104 = .ok (.iinc 3 1, 3) := by decide +kernel
theorem dX1_findCopy_107 : decode cX1_findCopy 107 = .ok (.goto (-83), 3) := by decide +kernel
theorem dX1_findCopy_110 : decode cX1_findCopy 110 = .ok (.return_, 1) := by decide +kernel
theorem dX1_chooseToken_0 : decode cX1_chooseToken 0 = .ok (.aload_n 0, 1) := by decide +kernel
theorem dX1_chooseToken_1 : decode cX1_chooseToken 1 = .ok (.getfield 28, 3) := by decide +kernel
theorem dX1_chooseToken_4 : decode cX1_chooseToken 4 = .ok (.iload_n 1, 1) := by decide +kernel
theorem dX1_chooseToken_5 : decode cX1_chooseToken 5 = .ok (.iaload, 1) := by decide +kernel
theorem dX1_chooseToken_6 : decode cX1_chooseToken 6 = .ok (.ifCond .le 21, 3) := by decide +kernel
theorem dX1_chooseToken_9 : decode cX1_chooseToken 9 = .ok (.iconst 2, 1) := by decide +kernel
theorem dX1_chooseToken_10 : decode cX1_chooseToken 10 = .ok (.aload_n 0, 1) := by decide +kernel
theorem dX1_chooseToken_11 : decode cX1_chooseToken 11 = .ok (.getfield 22, 3) := by decide +kernel
theorem dX1_chooseToken_14 : decode cX1_chooseToken 14 = .ok (.iload_n 1, 1) := by decide +kernel
theorem dX1_chooseToken_15 : decode cX1_chooseToken 15 = .ok (.aload_n 0, 1) := by decide +kernel
theorem dX1_chooseToken_16 : decode cX1_chooseToken 16 = .ok (.getfield 25, 3) := by decide +kernel
theorem dX1_chooseToken_19 : decode cX1_chooseToken 19 = .ok (.iload_n 1, 1) := by decide +kernel
theorem dX1_chooseToken_20 : decode cX1_chooseToken 20 = .ok (.iaload, 1) := by decide +kernel
theorem dX1_chooseToken_21 : decode cX1_chooseToken 21 = .ok (.iadd, 1) := by decide +kernel
theorem dX1_chooseToken_22 : decode cX1_chooseToken 22 = .ok (.iaload, 1) := by decide +kernel
theorem dX1_chooseToken_23 : decode cX1_chooseToken 23 = .ok (.iadd, 1) := by decide +kernel
theorem dX1_chooseToken_24 : decode cX1_chooseToken 24 = .ok (.goto 6, 3) := by decide +kernel
theorem dX1_chooseToken_27 : decode cX1_chooseToken 27 = .ok (.sipush 1000, 3) := by decide +kernel
theorem dX1_chooseToken_30 : decode cX1_chooseToken 30 = .ok (.istore_n 2, 1) := by decide +kernel
theorem dX1_chooseToken_31 : decode cX1_chooseToken 31 = .ok (.bipush 127, 2) := by decide +kernel
theorem dX1_chooseToken_33 : decode cX1_chooseToken 33 = .ok (.aload_n 0, 1) := by decide +kernel
theorem dX1_chooseToken_34 : decode cX1_chooseToken 34 = .ok (.getfield 12, 3) := by decide +kernel
theorem dX1_chooseToken_37 : decode cX1_chooseToken 37 = .ok (.getfield 41, 3) := by decide +kernel
theorem dX1_chooseToken_40 : decode cX1_chooseToken 40 = .ok (.iload_n 1, 1) := by decide +kernel
theorem dX1_chooseToken_41 : decode cX1_chooseToken 41 = .ok (.isub, 1) := by decide +kernel
theorem dX1_chooseToken_42 : decode cX1_chooseToken 42 = .ok (.invokestatic 73, 3) := by decide +kernel
theorem dX1_chooseToken_45 : decode cX1_chooseToken 45 = .ok (.istore_n 3, 1) := by decide +kernel
theorem dX1_chooseToken_46 : decode cX1_chooseToken 46 = .ok (.iconst 1, 1) := by decide +kernel
theorem dX1_chooseToken_47 : decode cX1_chooseToken 47 = .ok (.istore 4, 2) := by decide +kernel
theorem dX1_chooseToken_49 : decode cX1_chooseToken 49 = .ok (.iload 4, 2) := by decide +kernel
theorem dX1_chooseToken_51 : decode cX1_chooseToken 51 = .ok (.iload_n 3, 1) := by decide +kernel
theorem dX1_chooseToken_52 : decode cX1_chooseToken 52 = .ok (.if_icmp .gt 49, 3) := by decide +kernel
theorem dX1_chooseToken_55 : decode cX1_chooseToken 55 = .ok (.iconst 1, 1) := by decide +kernel
theorem dX1_chooseToken_56 : decode cX1_chooseToken 56 = .ok (.iload 4, 2) := by decide +kernel
theorem dX1_chooseToken_58 : decode cX1_chooseToken 58 = .ok (.iadd, 1) := by decide +kernel
theorem dX1_chooseToken_59 : decode cX1_chooseToken 59 = .ok (.aload_n 0, 1) := by decide +kernel
theorem dX1_chooseToken_60 : decode cX1_chooseToken 60 = .ok (.getfield 22, 3) := by decide +kernel
theorem dX1_chooseToken_63 : decode cX1_chooseToken 63 = .ok (.iload_n 1, 1) := by decide +kernel
theorem dX1_chooseToken_64 : decode cX1_chooseToken 64 = .ok (.iload 4, 2) := by decide +kernel
theorem dX1_chooseToken_66 : decode cX1_chooseToken 66 = .ok (.iadd, 1) := by decide +kernel
theorem dX1_chooseToken_67 : decode cX1_chooseToken 67 = .ok (.iaload, 1) := by decide +kernel
theorem dX1_chooseToken_68 : decode cX1_chooseToken 68 = .ok (.iadd, 1) := by decide +kernel
theorem dX1_chooseToken_69 : decode cX1_chooseToken 69 = .ok (.istore 5, 2) := by decide +kernel
theorem dX1_chooseToken_71 : decode cX1_chooseToken 71 = .ok (.iload 5, 2) := by decide +kernel
theorem dX1_chooseToken_73 : decode cX1_chooseToken 73 = .ok (.iload_n 2, 1) := by decide +kernel
theorem dX1_chooseToken_74 : decode cX1_chooseToken 74 = .ok (.if_icmp .ge 21, 3) := by decide +kernel
theorem dX1_chooseToken_77 : decode cX1_chooseToken 77 = .ok (.iload 5, 2) := by decide +kernel
theorem dX1_chooseToken_79 : decode cX1_chooseToken 79 = .ok (.istore_n 2, 1) := by decide +kernel
theorem dX1_chooseToken_80 : decode cX1_chooseToken 80 = .ok (.aload_n 0, 1) := by decide +kernel
theorem dX1_chooseToken_81 : decode cX1_chooseToken 81 = .ok (.getfield 25, 3) := by decide +kernel
theorem dX1_chooseToken_84 : decode cX1_chooseToken 84 = .ok (.iload_n 1, 1) := by decide +kernel
theorem dX1_chooseToken_85 : decode cX1_chooseToken 85 = .ok (.iload 4, 2) := by decide +kernel
theorem dX1_chooseToken_87 : decode cX1_chooseToken 87 = .ok (.iastore, 1) := by decide +kernel
theorem dX1_chooseToken_88 : decode cX1_chooseToken 88 = .ok (.aload_n 0, 1) := by decide +kernel
theorem dX1_chooseToken_89 : decode cX1_chooseToken 89 = .ok (.getfield 28, 3) := by decide +kernel
theorem dX1_chooseToken_92 : decode cX1_chooseToken 92 = .ok (.iload_n 1, 1) := by decide +kernel
theorem dX1_chooseToken_93 : decode cX1_chooseToken 93 = .ok (.iconst 0, 1) := by decide +kernel
theorem dX1_chooseToken_94 : decode cX1_chooseToken 94 = .ok (.iastore, 1) := by decide +kernel
theorem dX1_chooseToken_95 : decode cX1_chooseToken 95 = .ok (.iinc 4 1, 3) := by decide +kernel
theorem dX1_chooseToken_98 : decode cX1_chooseToken 98 = .ok (.goto (-49), 3) := by decide +kernel
theorem dX1_chooseToken_101 : decode cX1_chooseToken 101 = .ok (.aload_n 0, 1) := by decide +kernel
theorem dX1_chooseToken_102 : decode cX1_chooseToken 102 = .ok (.getfield 22, 3) := by decide +kernel
theorem dX1_chooseToken_105 : decode cX1_chooseToken 105 = .ok (.iload_n 1, 1) := by decide +kernel
theorem dX1_chooseToken_106 : decode cX1_chooseToken 106 = .ok (.iload_n 2, 1) := by decide +kernel
theorem dX1_chooseToken_107 : decode cX1_chooseToken 107 = .ok (.iastore, 1) := by decide +kernel
theorem dX1_chooseToken_108 : decode cX1_chooseToken 108 = .ok (.return_, 1) := by decide +kernel
theorem dX1_writeStream_0 : decode cX1_writeStream 0 = .ok (.aload_n 0, 1) := by decide +kernel
theorem dX1_writeStream_1 : decode cX1_writeStream 1 = .ok (.getfield 12, 3) := by decide +kernel
theorem dX1_writeStream_4 : decode cX1_writeStream 4 = .ok (.getfield 41, 3) := by decide +kernel
theorem dX1_writeStream_7 : decode cX1_writeStream 7 = .ok (.istore_n 1, 1) := by decide +kernel
theorem dX1_writeStream_8 : decode cX1_writeStream 8 = .ok (.iconst 0, 1) := by decide +kernel
theorem dX1_writeStream_9 : decode cX1_writeStream 9 = .ok (.istore_n 2, 1) := by decide +kernel
theorem dX1_writeStream_10 : decode cX1_writeStream 10 = .ok (.iconst 0, 1) := by decide +kernel
theorem dX1_writeStream_11 : decode cX1_writeStream 11 = .ok (.istore_n 3, 1) := by decide +kernel
theorem dX1_writeStream_12 : decode cX1_writeStream 12 = .ok (.aload_n 0, 1) := by decide +kernel
theorem dX1_writeStream_13 : decode cX1_writeStream 13 = .ok (.iconst 0, 1) := by decide +kernel
theorem dX1_writeStream_14 : decode cX1_writeStream 14 = .ok (.aload_n 0, 1) := by decide +kernel
theorem dX1_writeStream_15 : decode cX1_writeStream 15 = .ok (.getfield 64, 3) := by decide +kernel
theorem dX1_writeStream_18 : decode cX1_writeStream 18 = .ok (.iload_n 1, 1) := by decide +kernel
theorem dX1_writeStream_19 : decode cX1_writeStream 19 = .ok (.isub, 1) := by decide +kernel
theorem dX1_writeStream_20 : decode cX1_writeStream 20 = .ok (.invokestatic 79, 3) := by decide +kernel
theorem dX1_writeStream_23 : decode cX1_writeStream 23 = .ok (.putfield 44, 3) := by decide +kernel
theorem dX1_writeStream_26 : decode cX1_writeStream 26 = .ok (.iconst 0, 1) := by decide +kernel
theorem dX1_writeStream_27 : decode cX1_writeStream 27 = .ok (.istore 4, 2) := by decide +kernel
theorem dX1_writeStream_29 : decode cX1_writeStream 29 = .ok (.iload 4, 2) := by decide +kernel
theorem dX1_writeStream_31 : decode cX1_writeStream 31 = .ok (.iload_n 1, 1) := by decide +kernel
theorem dX1_writeStream_32 : decode cX1_writeStream 32 = .ok (.if_icmp .ge 123, 3) := by decide +kernel
theorem dX1_writeStream_35 : decode cX1_writeStream 35 = .ok (.iload_n 3, 1) := by decide +kernel
theorem dX1_writeStream_36 : decode cX1_writeStream 36 = .ok (.iload_n 1, 1) := by decide +kernel
theorem dX1_writeStream_37 : decode cX1_writeStream 37 = .ok (.if_icmp .ge 118, 3) := by decide +kernel
theorem dX1_writeStream_40 : decode cX1_writeStream 40 = .ok (.aload_n 0, 1) := by decide +kernel
theorem dX1_writeStream_41 : decode cX1_writeStream 41 = .ok (.getfield 25, 3) := by decide +kernel
theorem dX1_writeStream_44 : decode cX1_writeStream 44 = .ok (.iload_n 3, 1) := by decide +kernel
theorem dX1_writeStream_45 : decode cX1_writeStream 45 = .ok (.iaload, 1) := by decide +kernel
theorem dX1_writeStream_46 : decode cX1_writeStream 46 = .ok (.istore 5, 2) := by decide +kernel
theorem dX1_writeStream_48 : decode cX1_writeStream 48 = .ok (.aload_n 0, 1) := by decide +kernel
theorem dX1_writeStream_49 : decode cX1_writeStream 49 = .ok (.getfield 28, 3) := by decide +kernel
theorem dX1_writeStream_52 : decode cX1_writeStream 52 = .ok (.iload_n 3, 1) := by decide +kernel
theorem dX1_writeStream_53 : decode cX1_writeStream 53 = .ok (.iaload, 1) := by decide +kernel
theorem dX1_writeStream_54 : decode cX1_writeStream 54 = .ok (.ifCond .le 34, 3) := by decide +kernel
theorem dX1_writeStream_57 : decode cX1_writeStream 57 = .ok (.aload_n 0, 1) := by decide +kernel
theorem dX1_writeStream_58 : decode cX1_writeStream 58 = .ok (.getfield 18, 3) := by decide +kernel
theorem dX1_writeStream_61 : decode cX1_writeStream 61 = .ok (.iload_n 2, 1) := by decide +kernel
theorem dX1_writeStream_62 : decode cX1_writeStream 62 = .ok (.iload 5, 2) := by decide +kernel
theorem dX1_writeStream_64 : decode cX1_writeStream 64 = .ok (.bipush 126, 2) := by decide +kernel
theorem dX1_writeStream_66 : decode cX1_writeStream 66 = .ok (.iadd, 1) := by decide +kernel
theorem dX1_writeStream_67 : decode cX1_writeStream 67 = .ok (.iastore, 1) := by decide +kernel
theorem dX1_writeStream_68 : decode cX1_writeStream 68 = .ok (.aload_n 0, 1) := by decide +kernel
theorem dX1_writeStream_69 : decode cX1_writeStream 69 = .ok (.getfield 18, 3) := by decide +kernel
theorem dX1_writeStream_72 : decode cX1_writeStream 72 = .ok (.iload_n 2, 1) := by decide +kernel
theorem dX1_writeStream_73 : decode cX1_writeStream 73 = .ok (.iconst 1, 1) := by decide +kernel
theorem dX1_writeStream_74 : decode cX1_writeStream 74 = .ok (.iadd, 1) := by decide +kernel
theorem dX1_writeStream_75 : decode cX1_writeStream 75 = .ok (.aload_n 0, 1) := by decide +kernel
theorem dX1_writeStream_76 : decode cX1_writeStream 76 = .ok (.getfield 28, 3) := by decide +kernel
theorem dX1_writeStream_79 : decode cX1_writeStream 79 = .ok (.iload_n 3, 1) := by decide +kernel
theorem dX1_writeStream_80 : decode cX1_writeStream 80 = .ok (.iaload, 1) := by decide +kernel
theorem dX1_writeStream_81 : decode cX1_writeStream 81 = .ok (.iastore, 1) := by decide +kernel
theorem dX1_writeStream_82 : decode cX1_writeStream 82 = .ok (.iinc 2 2, 3) := by decide +kernel
theorem dX1_writeStream_85 : decode cX1_writeStream 85 = .ok (.goto 38, 3) := by decide +kernel
theorem dX1_writeStream_88 : decode cX1_writeStream 88 = .ok (.aload_n 0, 1) := by decide +kernel
theorem dX1_writeStream_89 : decode cX1_writeStream 89 = .ok (.getfield 18, 3) := by decide +kernel
theorem dX1_writeStream_92 : decode cX1_writeStream 92 = .ok (.iload_n 2, 1) := by decide +kernel
theorem dX1_writeStream_93 : decode cX1_writeStream 93 = .ok (.iload 5, 2) := by decide +kernel
theorem dX1_writeStream_95 : decode cX1_writeStream 95 = .ok (.iastore, 1) := by decide +kernel
theorem dX1_writeStream_96 : decode cX1_writeStream 96 = .ok (.aload_n 0, 1) := by decide +kernel
theorem dX1_writeStream_97 : decode cX1_writeStream 97 = .ok (.getfield 12, 3) := by decide +kernel
theorem dX1_writeStream_100 : decode cX1_writeStream 100 = .ok (.getfield 70, 3) := by decide +kernel
theorem dX1_writeStream_103 : decode cX1_writeStream 103 = .ok (.iload_n 3, 1) := by decide +kernel
theorem dX1_writeStream_104 : decode cX1_writeStream 104 = .ok (.aload_n 0, 1) := by decide +kernel
theorem dX1_writeStream_105 : decode cX1_writeStream 105 = .ok (.getfield 18, 3) := by decide +kernel
theorem dX1_writeStream_108 : decode cX1_writeStream 108 = .ok (.iload_n 2, 1) := by decide +kernel
theorem dX1_writeStream_109 : decode cX1_writeStream 109 = .ok (.iconst 1, 1) := by decide +kernel
theorem dX1_writeStream_110 : decode cX1_writeStream 110 = .ok (.iadd, 1) := by decide +kernel
theorem dX1_writeStream_111 : decode cX1_writeStream 111 = .ok (.iload 5, 2) := by decide +kernel
theorem dX1_writeStream_113 : decode cX1_writeStream 113 = .ok (.invokestatic 82, 3) := by decide +kernel
theorem dX1_writeStream_116 : decode cX1_writeStream 116 = .ok (.iload_n 2, 1) := by decide +kernel
theorem dX1_writeStream_117 : decode cX1_writeStream 117 = .ok (.iconst 1, 1) := by decide +kernel
theorem dX1_writeStream_118 : decode cX1_writeStream 118 = .ok (.iload 5, 2) := by decide +kernel
theorem dX1_writeStream_120 : decode cX1_writeStream 120 = .ok (.iadd, 1) := by decide +kernel
theorem dX1_writeStream_121 : decode cX1_writeStream 121 = .ok (.iadd, 1) := by decide +kernel
theorem dX1_writeStream_122 : decode cX1_writeStream 122 = .ok (.istore_n 2, 1) := by decide +kernel
theorem dX1_writeStream_123 : decode cX1_writeStream 123 = .ok (.iload_n 3, 1) := by decide +kernel
theorem dX1_writeStream_124 : decode cX1_writeStream 124 = .ok (.iload 5, 2) := by decide +kernel
theorem dX1_writeStream_126 : decode cX1_writeStream 126 = .ok (.iadd, 1) := by decide +kernel
theorem dX1_writeStream_127 : decode cX1_writeStream 127 = .ok (.istore_n 3, 1) := by decide +kernel
theorem dX1_writeStream_128 : decode cX1_writeStream 128 = .ok (.aload_n 0, 1) := by decide +kernel
theorem dX1_writeStream_129 : decode cX1_writeStream 129 = .ok (.aload_n 0, 1) := by decide +kernel
theorem dX1_writeStream_130 : decode cX1_writeStream 130 = .ok (.getfield 44, 3) := by decide +kernel
theorem dX1_writeStream_133 : decode cX1_writeStream 133 = .ok (.iload_n 3, 1) := by decide +kernel
theorem dX1_writeStream_134 : decode cX1_writeStream 134 = .ok (.iload_n 1, 1) := by decide +kernel
theorem dX1_writeStream_135 : decode cX1_writeStream 135 = .ok (.isub, 1) := by decide +kernel
theorem dX1_writeStream_136 : decode cX1_writeStream 136 = .ok (.aload_n 0, 1) := by decide +kernel
theorem dX1_writeStream_137 : decode cX1_writeStream 137 = .ok (.getfield 64, 3) := by decide +kernel
theorem dX1_writeStream_140 : decode cX1_writeStream 140 = .ok (.iadd, 1) := by decide +kernel
theorem dX1_writeStream_141 : decode cX1_writeStream 141 = .ok (.iload_n 2, 1) := by decide +kernel
theorem dX1_writeStream_142 : decode cX1_writeStream 142 = .ok (.isub, 1) := by decide +kernel
theorem dX1_writeStream_143 : decode cX1_writeStream 143 = .ok (.invokestatic 79, 3) := by decide +kernel
theorem dX1_writeStream_146 : decode cX1_writeStream 146 = .ok (.putfield 44, 3) := by decide +kernel
theorem dX1_writeStream_149 : decode cX1_writeStream 149 = .ok (.iinc 4 1, 3) := by decide +kernel
theorem dX1_writeStream_152 : decode cX1_writeStream 152 = .ok (.goto (-123), 3) := by decide +kernel
theorem dX1_writeStream_155 : decode cX1_writeStream 155 = .ok (.aload_n 0, 1) := by decide +kernel
theorem dX1_writeStream_156 : decode cX1_writeStream 156 = .ok (.getfield 18, 3) := by decide +kernel
theorem dX1_writeStream_159 : decode cX1_writeStream 159 = .ok (.iload_n 2, 1) := by decide +kernel
theorem dX1_writeStream_160 : decode cX1_writeStream 160 = .ok (.iconst 0, 1) := by decide +kernel
theorem dX1_writeStream_161 : decode cX1_writeStream 161 = .ok (.iastore, 1) := by decide +kernel
theorem dX1_writeStream_162 : decode cX1_writeStream 162 = .ok (.return_, 1) := by decide +kernel
