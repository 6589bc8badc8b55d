theorem dX2_init_0 : decode cX2_init 0 = .ok (.aload_n 0, 1) := by decide +kernel
theorem dX2_init_1 : decode cX2_init 1 = .ok (.invokespecial 3, 3) := by decide +kernel
theorem dX2_init_4 : decode cX2_init 4 = .ok (.aload_n 0, 1) := by decide +kernel
theorem dX2_init_5 : decode cX2_init 5 = .ok (.sipush 160, 3) := by decide +kernel
theorem dX2_init_8 : decode cX2_init 8 = .ok (.newarray .int, 2) := by decide +kernel
theorem dX2_init_10 : decode cX2_init 10 = .ok (.putfield 9, 3) := by decide +kernel
theorem dX2_init_13 : decode cX2_init 13 = .ok (.aload_n 0, 1) := by decide +kernel
theorem dX2_init_14 : decode cX2_init 14 = .ok (.sipush 160, 3) := by decide +kernel
theorem dX2_init_17 : decode cX2_init 17 = .ok (.newarray .int, 2) := by decide +kernel
theorem dX2_init_19 : decode cX2_init 19 = .ok (.putfield 15, 3) := by decide +kernel
theorem dX2_init_22 : decode cX2_init 22 = .ok (.return_, 1) := by decide +kernel
theorem dX2_hasRoom_0 : decode cX2_hasRoom 0 = .ok (.iload_n 1, 1) := by decide +kernel
theorem dX2_hasRoom_1 : decode cX2_hasRoom 1 = .ok (.sipush 160, 3) := by decide +kernel
theorem dX2_hasRoom_4 : decode cX2_hasRoom 4 = .ok (.aload_n 0, 1) := by decide +kernel
theorem dX2_hasRoom_5 : decode cX2_hasRoom 5 = .ok (.getfield 18, 3) := by decide +kernel
theorem dX2_hasRoom_8 : decode cX2_hasRoom 8 = .ok (.isub, 1) := by decide +kernel
theorem dX2_hasRoom_9 : decode cX2_hasRoom 9 = .ok (.if_icmp .gt 7, 3) := by decide +kernel
theorem dX2_hasRoom_12 : decode cX2_hasRoom 12 = .ok (.iconst 1, 1) := by decide +kernel
theorem dX2_hasRoom_13 : decode cX2_hasRoom 13 = .ok (.goto 4, 3) := by decide +kernel
theorem dX2_hasRoom_16 : decode cX2_hasRoom 16 = .ok (.iconst 0, 1) := by decide +kernel
theorem dX2_hasRoom_17 : decode cX2_hasRoom 17 = .ok (.ireturn, 1) := by decide +kernel
theorem dX2_fits_0 : decode cX2_fits 0 = .ok (.aload_n 0, 1) := by decide +kernel
theorem dX2_fits_1 : decode cX2_fits 1 = .ok (.getfield 22, 3) := by decide +kernel
theorem dX2_fits_4 : decode cX2_fits 4 = .ok (.aload_n 0, 1) := by decide +kernel
theorem dX2_fits_5 : decode cX2_fits 5 = .ok (.getfield 18, 3) := by decide +kernel
theorem dX2_fits_8 : decode cX2_fits 8 = .ok (.iadd, 1) := by decide +kernel
theorem dX2_fits_9 : decode cX2_fits 9 = .ok (.sipush 256, 3) := by decide +kernel
theorem dX2_fits_12 : decode cX2_fits 12 = .ok (.if_icmp .gt 7, 3) := by decide +kernel
theorem dX2_fits_15 : decode cX2_fits 15 = .ok (.iconst 1, 1) := by decide +kernel
theorem dX2_fits_16 : decode cX2_fits 16 = .ok (.goto 4, 3) := by decide +kernel
theorem dX2_fits_19 : decode cX2_fits 19 = .ok (.iconst 0, 1) := by decide +kernel
theorem dX2_fits_20 : decode cX2_fits 20 = .ok (.ireturn, 1) := by decide +kernel
theorem dX2_append_0 : decode cX2_append 0 = .ok (.aload_n 0, 1) := by decide +kernel
theorem dX2_append_1 : decode cX2_append 1 = .ok (.getfield 9, 3) := by decide +kernel
theorem dX2_append_4 : decode cX2_append 4 = .ok (.aload_n 0, 1) := by decide +kernel
theorem dX2_append_5 : decode cX2_append 5 = .ok (.getfield 18, 3) := by decide +kernel
theorem dX2_append_8 : decode cX2_append 8 = .ok (.iload_n 1, 1) := by decide +kernel
theorem dX2_append_9 : decode cX2_append 9 = .ok (.iastore, 1) := by decide +kernel
theorem dX2_append_10 : decode cX2_append 10 = .ok (.aload_n 0, 1) := by decide +kernel
theorem dX2_append_11 : decode cX2_append 11 = .ok (.dup, 1) := by decide +kernel
theorem dX2_append_12 : decode cX2_append 12 = .ok (.getfield 18, 3) := by decide +kernel
theorem dX2_append_15 : decode cX2_append 15 = .ok (.iconst 1, 1) := by decide +kernel
theorem dX2_append_16 : decode cX2_append 16 = .ok (.iadd, 1) := by decide +kernel
theorem dX2_append_17 : decode cX2_append 17 = .ok (.putfield 18, 3) := by decide +kernel
theorem dX2_append_20 : decode cX2_append 20 = .ok (.aload_n 0, 1) := by decide +kernel
theorem dX2_append_21 : decode cX2_append 21 = .ok (.dup, 1) := by decide +kernel
theorem dX2_append_22 : decode cX2_append 22 = .ok (.getfield 25, 3) := by decide +kernel
theorem dX2_append_25 : decode cX2_append 25 = .ok (.iconst 1, 1) := by decide +kernel
theorem dX2_append_26 : decode cX2_append 26 = .ok (.iadd, 1) := by decide +kernel
theorem dX2_append_27 : decode cX2_append 27 = .ok (.putfield 25, 3) := by decide +kernel
theorem dX2_append_30 : decode cX2_append 30 = .ok (.return_, 1) := by decide +kernel
theorem dX2_set_0 : decode cX2_set 0 = .ok (.aload_n 0, 1) := by decide +kernel
theorem dX2_set_1 : decode cX2_set 1 = .ok (.getfield 9, 3) := by decide +kernel
theorem dX2_set_4 : decode cX2_set 4 = .ok (.iload_n 1, 1) := by decide +kernel
theorem dX2_set_5 : decode cX2_set 5 = .ok (.iload_n 2, 1) := by decide +kernel
theorem dX2_set_6 : decode cX2_set 6 = .ok (.iastore, 1) := by decide +kernel
theorem dX2_set_7 : decode cX2_set 7 = .ok (.aload_n 0, 1) := by decide +kernel
theorem dX2_set_8 : decode cX2_set 8 = .ok (.dup, 1) := by decide +kernel
theorem dX2_set_9 : decode cX2_set 9 = .ok (.getfield 25, 3) := by decide +kernel
theorem dX2_set_12 : decode cX2_set 12 = .ok (.iconst 1, 1) := by decide +kernel
theorem dX2_set_13 : decode cX2_set 13 = .ok (.iadd, 1) := by decide +kernel
theorem dX2_set_14 : decode cX2_set 14 = .ok (.putfield 25, 3) := by decide +kernel
theorem dX2_set_17 : decode cX2_set 17 = .ok (.return_, 1) := by decide +kernel
theorem dX2_shorten_0 : decode cX2_shorten 0 = .ok (.aload_n 0, 1) := by decide +kernel
theorem dX2_shorten_1 : decode cX2_shorten 1 = .ok (.iload_n 1, 1) := by decide +kernel
theorem dX2_shorten_2 : decode cX2_shorten 2 = .ok (.putfield 18, 3) := by decide +kernel
theorem dX2_shorten_5 : decode cX2_shorten 5 = .ok (.aload_n 0, 1) := by decide +kernel
theorem dX2_shorten_6 : decode cX2_shorten 6 = .ok (.dup, 1) := by decide +kernel
theorem dX2_shorten_7 : decode cX2_shorten 7 = .ok (.getfield 25, 3) := by decide +kernel
theorem dX2_shorten_10 : decode cX2_shorten 10 = .ok (.iconst 1, 1) := by decide +kernel
theorem dX2_shorten_11 : decode cX2_shorten 11 = .ok (.iadd, 1) := by decide +kernel
theorem dX2_shorten_12 : decode cX2_shorten 12 = .ok (.putfield 25, 3) := by decide +kernel
theorem dX2_shorten_15 : decode cX2_shorten 15 = .ok (.return_, 1) := by decide +kernel
theorem dX2_loadedAt_0 : decode cX2_loadedAt 0 = .ok (.iload_n 1, 1) := by decide +kernel
theorem dX2_loadedAt_1 : decode cX2_loadedAt 1 = .ok (.aload_n 0, 1) := by decide +kernel
theorem dX2_loadedAt_2 : decode cX2_loadedAt 2 = .ok (.getfield 22, 3) := by decide +kernel
theorem dX2_loadedAt_5 : decode cX2_loadedAt 5 = .ok (.isub, 1) := by decide +kernel
theorem dX2_loadedAt_6 : decode cX2_loadedAt 6 = .ok (.istore_n 2, 1) := by decide +kernel
theorem dX2_loadedAt_7 : decode cX2_loadedAt 7 = .ok (.iload_n 2, 1) := by decide +kernel
theorem dX2_loadedAt_8 : decode cX2_loadedAt 8 = .ok (.ifCond .lt 20, 3) := by decide +kernel
theorem dX2_loadedAt_11 : decode cX2_loadedAt 11 = .ok (.iload_n 2, 1) := by decide +kernel
theorem dX2_loadedAt_12 : decode cX2_loadedAt 12 = .ok (.aload_n 0, 1) := by decide +kernel
theorem dX2_loadedAt_13 : decode cX2_loadedAt 13 = .ok (.getfield 18, 3) := by decide +kernel
theorem dX2_loadedAt_16 : decode cX2_loadedAt 16 = .ok (.if_icmp .ge 12, 3) := by decide +kernel
theorem dX2_loadedAt_19 : decode cX2_loadedAt 19 = .ok (.aload_n 0, 1) := by decide +kernel
theorem dX2_loadedAt_20 : decode cX2_loadedAt 20 = .ok (.getfield 9, 3) := by decide +kernel
theorem dX2_loadedAt_23 : decode cX2_loadedAt 23 = .ok (.iload_n 2, 1) := by decide +kernel
theorem dX2_loadedAt_24 : decode cX2_loadedAt 24 = .ok (.iaload, 1) := by decide +kernel
theorem dX2_loadedAt_25 : decode cX2_loadedAt 25 = .ok (.goto 4, 3) := by decide +kernel
theorem dX2_loadedAt_28 : decode cX2_loadedAt 28 = .ok (.iconst 0, 1) := by decide +kernel
theorem dX2_loadedAt_29 : decode cX2_loadedAt 29 = .ok (.ireturn, 1) := by decide +kernel
set_option maxRecDepth 20000 in
theorem ggX2_openAsStream_X2_openRun : GoodIn wsX2_openAsStream wsX2_openRun := goodIn_ca (goodIn_ca (goodIn_r _ [16, 1, 2, 17, 18, 5, 6, 7, 8, 9, 10, 11, 30, 31, 32, 33, 34, 35] (by decide +kernel) (by decide +kernel)) (goodIn_sub (fun _ h => List.mem_cons_of_mem _ (List.mem_append_left _ (List.mem_append_left _ (List.mem_append_left _ (List.mem_append_right _ h))))) (by decide +kernel))) (goodIn_sub (fun _ h => List.mem_cons_of_mem _ (List.mem_append_left _ (List.mem_append_right _ h))) (by decide +kernel))
set_option maxRecDepth 20000 in
theorem gX2_openAsStream_X2_openRun : GoodIn wsX2_openAsStream (wsV RX2 30 RX2 yX2_openRun wsX2_openRun) := goodIn_app (goodIn_of _ (by decide +kernel)) ggX2_openAsStream_X2_openRun
set_option maxRecDepth 20000 in
theorem ggX2_openAsStream_X2_openCopy : GoodIn wsX2_openAsStream wsX2_openCopy := goodIn_ca (goodIn_ca (goodIn_ca (goodIn_r _ [22, 1, 2, 23, 24, 17, 18, 5, 6, 7, 30, 31, 32, 33, 34, 35] (by decide +kernel) (by decide +kernel)) (goodIn_sub (fun _ h => List.mem_cons_of_mem _ (List.mem_append_left _ (List.mem_append_left _ (List.mem_append_left _ (List.mem_append_right _ h))))) (by decide +kernel))) (goodIn_sub (fun _ h => List.mem_cons_of_mem _ (List.mem_append_right _ h)) (by decide +kernel))) (goodIn_sub (fun _ h => List.mem_cons_of_mem _ (List.mem_append_left _ (List.mem_append_right _ h))) (by decide +kernel))
set_option maxRecDepth 20000 in
theorem gX2_openAsStream_X2_openCopy : GoodIn wsX2_openAsStream (wsV RX2 34 RX2 yX2_openCopy wsX2_openCopy) := goodIn_app (goodIn_of _ (by decide +kernel)) ggX2_openAsStream_X2_openCopy
set_option maxRecDepth 20000 in
theorem ggX2_openAsStream_X2_shorten : GoodIn wsX2_openAsStream wsX2_shorten := goodIn_r _ [28, 5, 29, 30, 31, 32, 33, 34, 35] (by decide +kernel) (by decide +kernel)
set_option maxRecDepth 20000 in
theorem gX2_openAsStream_X2_shorten : GoodIn wsX2_openAsStream (wsV RX2 49 RX2 yX2_shorten wsX2_shorten) := goodIn_app (goodIn_of _ (by decide +kernel)) ggX2_openAsStream_X2_shorten
theorem dX2_openAsStream_0 : decode cX2_openAsStream 0 = .ok (.iconst 0, 1) := by decide +kernel
theorem dX2_openAsStream_1 : decode cX2_openAsStream 1 = .ok (.istore_n 1, 1) := by decide +kernel
theorem dX2_openAsStream_2 : decode cX2_openAsStream 2 = .ok (.iconst 0, 1) := by decide +kernel
theorem dX2_openAsStream_3 : decode cX2_openAsStream 3 = .ok (.istore_n 2, 1) := by decide +kernel
theorem dX2_openAsStream_4 : decode cX2_openAsStream 4 = .ok (.iload_n 1, 1) := by decide +kernel
theorem dX2_openAsStream_5 : decode cX2_openAsStream 5 = .ok (.aload_n 0, 1) := by decide +kernel
theorem dX2_openAsStream_6 : decode cX2_openAsStream 6 = .ok (.getfield 18, 3) := by decide +kernel
theorem dX2_openAsStream_9 : decode cX2_openAsStream 9 = .ok (.if_icmp .ge 60, 3) := by decide +kernel
theorem dX2_openAsStream_12 : decode cX2_openAsStream 12 = .ok (.aload_n 0, 1) := by decide +kernel
theorem dX2_openAsStream_13 : decode cX2_openAsStream 13 = .ok (.getfield 9, 3) := by decide +kernel
theorem dX2_openAsStream_16 : decode cX2_openAsStream 16 = .ok (.iload_n 1, 1) := by decide +kernel
theorem dX2_openAsStream_17 : decode cX2_openAsStream 17 = .ok (.iaload, 1) := by decide +kernel
theorem dX2_openAsStream_18 : decode cX2_openAsStream 18 = .ok (.ifCond .eq 51, 3) := by decide +kernel
theorem dX2_openAsStream_21 : decode cX2_openAsStream 21 = .ok (.aload_n 0, 1) := by decide +kernel
theorem dX2_openAsStream_22 : decode cX2_openAsStream 22 = .ok (.getfield 9, 3) := by decide +kernel
theorem dX2_openAsStream_25 : decode cX2_openAsStream 25 = .ok (.iload_n 1, 1) := by decide +kernel
theorem dX2_openAsStream_26 : decode cX2_openAsStream 26 = .ok (.iaload, 1) := by decide +kernel
theorem dX2_openAsStream_27 : decode cX2_openAsStream 27 = .ok (.istore_n 3, 1) := by decide +kernel
theorem dX2_openAsStream_28 : decode cX2_openAsStream 28 = .ok (.iload_n 3, 1) := by decide +kernel
theorem dX2_openAsStream_29 : decode cX2_openAsStream 29 = .ok (.sipush 128, 3) := by decide +kernel
theorem dX2_openAsStream_32 : decode cX2_openAsStream 32 = .ok (.if_icmp .ge 20, 3) := by decide +kernel
theorem dX2_openAsStream_35 : decode cX2_openAsStream 35 = .ok (.aload_n 0, 1) := by decide +kernel
theorem dX2_openAsStream_36 : decode cX2_openAsStream 36 = .ok (.iload_n 1, 1) := by decide +kernel
theorem dX2_openAsStream_37 : decode cX2_openAsStream 37 = .ok (.iload_n 3, 1) := by decide +kernel
theorem dX2_openAsStream_38 : decode cX2_openAsStream 38 = .ok (.iload_n 2, 1) := by decide +kernel
theorem dX2_openAsStream_39 : decode cX2_openAsStream 39 = .ok (.invokevirtual 30, 3) := by decide +kernel
theorem dX2_openAsStream_42 : decode cX2_openAsStream 42 = .ok (.istore_n 2, 1) := by decide +kernel
theorem dX2_openAsStream_43 : decode cX2_openAsStream 43 = .ok (.iload_n 1, 1) := by decide +kernel
theorem dX2_openAsStream_44 : decode cX2_openAsStream 44 = .ok (.iconst 1, 1) := by decide +kernel
theorem dX2_openAsStream_45 : decode cX2_openAsStream 45 = .ok (.iload_n 3, 1) := by decide +kernel
theorem dX2_openAsStream_46 : decode cX2_openAsStream 46 = .ok (.iadd, 1) := by decide +kernel
theorem dX2_openAsStream_47 : decode cX2_openAsStream 47 = .ok (.iadd, 1) := by decide +kernel
theorem dX2_openAsStream_48 : decode cX2_openAsStream 48 = .ok (.istore_n 1, 1) := by decide +kernel
theorem dX2_openAsStream_49 : decode cX2_openAsStream 49 = .ok (.goto 17, 3) := by decide +kernel
theorem dX2_openAsStream_52 : decode cX2_openAsStream 52 = .ok (.aload_n 0, 1) := by decide +kernel
theorem dX2_openAsStream_53 : decode cX2_openAsStream 53 = .ok (.iload_n 1, 1) := by decide +kernel
theorem dX2_openAsStream_54 : decode cX2_openAsStream 54 = .ok (.iload_n 3, 1) := by decide +kernel
theorem dX2_openAsStream_55 : decode cX2_openAsStream 55 = .ok (.bipush 126, 2) := by decide +kernel
theorem dX2_openAsStream_57 : decode cX2_openAsStream 57 = .ok (.isub, 1) := by decide +kernel
theorem dX2_openAsStream_58 : decode cX2_openAsStream 58 = .ok (.iload_n 2, 1) := by decide +kernel
theorem dX2_openAsStream_59 : decode cX2_openAsStream 59 = .ok (.invokevirtual 34, 3) := by decide +kernel
theorem dX2_openAsStream_62 : decode cX2_openAsStream 62 = .ok (.istore_n 2, 1) := by decide +kernel
theorem dX2_openAsStream_63 : decode cX2_openAsStream 63 = .ok (.iinc 1 2, 3) := by decide +kernel
theorem dX2_openAsStream_66 : decode cX2_openAsStream 66 = .ok (.goto (-62), 3) := by decide +kernel
theorem dX2_openAsStream_69 : decode cX2_openAsStream 69 = .ok (.iload_n 1, 1) := by decide +kernel
theorem dX2_openAsStream_70 : decode cX2_openAsStream 70 = .ok (.aload_n 0, 1) := by decide +kernel
theorem dX2_openAsStream_71 : decode cX2_openAsStream 71 = .ok (.getfield 18, 3) := by decide +kernel
theorem dX2_openAsStream_74 : decode cX2_openAsStream 74 = .ok (.if_icmp .lt 11, 3) := by decide +kernel
theorem dX2_openAsStream_77 : decode cX2_openAsStream 77 = .ok (.new 37, 3) := by decide +kernel
theorem dX2_openAsStream_80 : decode cX2_openAsStream 80 = .ok (.dup, 1) := by decide +kernel
theorem dX2_openAsStream_81 : decode cX2_openAsStream 81 = .ok (.invokespecial 39, 3) := by decide +kernel
theorem dX2_openAsStream_84 : decode cX2_openAsStream 84 = .ok (.athrow, 1) := by decide +kernel
theorem dX2_openAsStream_85 : decode cX2_openAsStream 85 = .ok (.iload_n 1, 1) := by decide +kernel
theorem dX2_openAsStream_86 : decode cX2_openAsStream 86 = .ok (.aload_n 0, 1) := by decide +kernel
theorem dX2_openAsStream_87 : decode cX2_openAsStream 87 = .ok (.getfield 18, 3) := by decide +kernel
theorem dX2_openAsStream_90 : decode cX2_openAsStream 90 = .ok (.iconst 1, 1) := by decide +kernel
theorem dX2_openAsStream_91 : decode cX2_openAsStream 91 = .ok (.isub, 1) := by decide +kernel
theorem dX2_openAsStream_92 : decode cX2_openAsStream 92 = .ok (.if_icmp .ge 11, 3) := by decide +kernel
theorem dX2_openAsStream_95 : decode cX2_openAsStream 95 = .ok (.new 40, 3) := by decide +kernel
theorem dX2_openAsStream_98 : decode cX2_openAsStream 98 = .ok (.dup, 1) := by decide +kernel
theorem dX2_openAsStream_99 : decode cX2_openAsStream 99 = .ok (.invokespecial 42, 3) := by decide +kernel
theorem dX2_openAsStream_102 : decode cX2_openAsStream 102 = .ok (.athrow, 1) := by decide +kernel
theorem dX2_openAsStream_103 : decode cX2_openAsStream 103 = .ok (.aload_n 0, 1) := by decide +kernel
theorem dX2_openAsStream_104 : decode cX2_openAsStream 104 = .ok (.getfield 15, 3) := by decide +kernel
theorem dX2_openAsStream_107 : decode cX2_openAsStream 107 = .ok (.iconst 0, 1) := by decide +kernel
theorem dX2_openAsStream_108 : decode cX2_openAsStream 108 = .ok (.aload_n 0, 1) := by decide +kernel
theorem dX2_openAsStream_109 : decode cX2_openAsStream 109 = .ok (.getfield 9, 3) := by decide +kernel
theorem dX2_openAsStream_112 : decode cX2_openAsStream 112 = .ok (.iconst 0, 1) := by decide +kernel
theorem dX2_openAsStream_113 : decode cX2_openAsStream 113 = .ok (.iload_n 2, 1) := by decide +kernel
theorem dX2_openAsStream_114 : decode cX2_openAsStream 114 = .ok (.invokestatic 43, 3) := by decide +kernel
theorem dX2_openAsStream_117 : decode cX2_openAsStream 117 = .ok (.aload_n 0, 1) := by decide +kernel
theorem dX2_openAsStream_118 : decode cX2_openAsStream 118 = .ok (.iload_n 2, 1) := by decide +kernel
theorem dX2_openAsStream_119 : decode cX2_openAsStream 119 = .ok (.invokevirtual 49, 3) := by decide +kernel
theorem dX2_openAsStream_122 : decode cX2_openAsStream 122 = .ok (.return_, 1) := by decide +kernel
theorem dX2_openRun_0 : decode cX2_openRun 0 = .ok (.iload_n 2, 1) := by decide +kernel
theorem dX2_openRun_1 : decode cX2_openRun 1 = .ok (.aload_n 0, 1) := by decide +kernel
theorem dX2_openRun_2 : decode cX2_openRun 2 = .ok (.getfield 18, 3) := by decide +kernel
theorem dX2_openRun_5 : decode cX2_openRun 5 = .ok (.iload_n 1, 1) := by decide +kernel
theorem dX2_openRun_6 : decode cX2_openRun 6 = .ok (.isub, 1) := by decide +kernel
theorem dX2_openRun_7 : decode cX2_openRun 7 = .ok (.iconst 1, 1) := by decide +kernel
theorem dX2_openRun_8 : decode cX2_openRun 8 = .ok (.isub, 1) := by decide +kernel
theorem dX2_openRun_9 : decode cX2_openRun 9 = .ok (.if_icmp .le 11, 3) := by decide +kernel
theorem dX2_openRun_12 : decode cX2_openRun 12 = .ok (.new 37, 3) := by decide +kernel
theorem dX2_openRun_15 : decode cX2_openRun 15 = .ok (.dup, 1) := by decide +kernel
theorem dX2_openRun_16 : decode cX2_openRun 16 = .ok (.invokespecial 39, 3) := by decide +kernel
theorem dX2_openRun_19 : decode cX2_openRun 19 = .ok (.athrow, 1) := by decide +kernel
theorem dX2_openRun_20 : decode cX2_openRun 20 = .ok (.iload_n 2, 1) := by decide +kernel
theorem dX2_openRun_21 : decode cX2_openRun 21 = .ok (.sipush 160, 3) := by decide +kernel
theorem dX2_openRun_24 : decode cX2_openRun 24 = .ok (.iload_n 3, 1) := by decide +kernel
theorem dX2_openRun_25 : decode cX2_openRun 25 = .ok (.isub, 1) := by decide +kernel
theorem dX2_openRun_26 : decode cX2_openRun 26 = .ok (.if_icmp .le 11, 3) := by decide +kernel
theorem dX2_openRun_29 : decode cX2_openRun 29 = .ok (.new 53, 3) := by decide +kernel
theorem dX2_openRun_32 : decode cX2_openRun 32 = .ok (.dup, 1) := by decide +kernel
theorem dX2_openRun_33 : decode cX2_openRun 33 = .ok (.invokespecial 55, 3) := by decide +kernel
theorem dX2_openRun_36 : decode cX2_openRun 36 = .ok (.athrow, 1) := by decide +kernel
theorem dX2_openRun_37 : decode cX2_openRun 37 = .ok (.aload_n 0, 1) := by decide +kernel
theorem dX2_openRun_38 : decode cX2_openRun 38 = .ok (.getfield 9, 3) := by decide +kernel
theorem dX2_openRun_41 : decode cX2_openRun 41 = .ok (.iload_n 1, 1) := by decide +kernel
theorem dX2_openRun_42 : decode cX2_openRun 42 = .ok (.iconst 1, 1) := by decide +kernel
theorem dX2_openRun_43 : decode cX2_openRun 43 = .ok (.iadd, 1) := by decide +kernel
theorem dX2_openRun_44 : decode cX2_openRun 44 = .ok (.aload_n 0, 1) := by decide +kernel
theorem dX2_openRun_45 : decode cX2_openRun 45 = .ok (.getfield 15, 3) := by decide +kernel
theorem dX2_openRun_48 : decode cX2_openRun 48 = .ok (.iload_n 3, 1) := by decide +kernel
theorem dX2_openRun_49 : decode cX2_openRun 49 = .ok (.iload_n 2, 1) := by decide +kernel
theorem dX2_openRun_50 : decode cX2_openRun 50 = .ok (.invokestatic 43, 3) := by decide +kernel
theorem dX2_openRun_53 : decode cX2_openRun 53 = .ok (.iload_n 3, 1) := by decide +kernel
theorem dX2_openRun_54 : decode cX2_openRun 54 = .ok (.iload_n 2, 1) := by decide +kernel
theorem dX2_openRun_55 : decode cX2_openRun 55 = .ok (.iadd, 1) := by decide +kernel
theorem dX2_openRun_56 : decode cX2_openRun 56 = .ok (.ireturn, 1) := by decide +kernel
theorem dX2_openCopy_0 : decode cX2_openCopy 0 = .ok (.iload_n 1, 1) := by decide +kernel
theorem dX2_openCopy_1 : decode cX2_openCopy 1 = .ok (.iconst 1, 1) := by decide +kernel
theorem dX2_openCopy_2 : decode cX2_openCopy 2 = .ok (.iadd, 1) := by decide +kernel
theorem dX2_openCopy_3 : decode cX2_openCopy 3 = .ok (.aload_n 0, 1) := by decide +kernel
theorem dX2_openCopy_4 : decode cX2_openCopy 4 = .ok (.getfield 18, 3) := by decide +kernel
theorem dX2_openCopy_7 : decode cX2_openCopy 7 = .ok (.if_icmp .lt 11, 3) := by decide +kernel
theorem dX2_openCopy_10 : decode cX2_openCopy 10 = .ok (.new 37, 3) := by decide +kernel
theorem dX2_openCopy_13 : decode cX2_openCopy 13 = .ok (.dup, 1) := by decide +kernel
theorem dX2_openCopy_14 : decode cX2_openCopy 14 = .ok (.invokespecial 39, 3) := by decide +kernel
theorem dX2_openCopy_17 : decode cX2_openCopy 17 = .ok (.athrow, 1) := by decide +kernel
theorem dX2_openCopy_18 : decode cX2_openCopy 18 = .ok (.aload_n 0, 1) := by decide +kernel
theorem dX2_openCopy_19 : decode cX2_openCopy 19 = .ok (.getfield 9, 3) := by decide +kernel
theorem dX2_openCopy_22 : decode cX2_openCopy 22 = .ok (.iload_n 1, 1) := by decide +kernel
theorem dX2_openCopy_23 : decode cX2_openCopy 23 = .ok (.iconst 1, 1) := by decide +kernel
theorem dX2_openCopy_24 : decode cX2_openCopy 24 = .ok (.iadd, 1) := by decide +kernel
theorem dX2_openCopy_25 : decode cX2_openCopy 25 = .ok (.iaload, 1) := by decide +kernel
theorem dX2_openCopy_26 : decode cX2_openCopy 26 = .ok (.istore 4, 2) := by decide +kernel
theorem dX2_openCopy_28 : decode cX2_openCopy 28 = .ok (.iload 4, 2) := by decide +kernel
theorem dX2_openCopy_30 : decode cX2_openCopy 30 = .ok (.ifCond .eq 9, 3) := by decide +kernel
theorem dX2_openCopy_33 : decode cX2_openCopy 33 = .ok (.iload 4, 2) := by decide +kernel
theorem dX2_openCopy_35 : decode cX2_openCopy 35 = .ok (.iload_n 3, 1) := by decide +kernel
theorem dX2_openCopy_36 : decode cX2_openCopy 36 = .ok (.if_icmp .le 11, 3) := by decide +kernel
theorem dX2_openCopy_39 : decode cX2_openCopy 39 = .ok (.new 56, 3) := by decide +kernel
theorem dX2_openCopy_42 : decode cX2_openCopy 42 = .ok (.dup, 1) := by decide +kernel
theorem dX2_openCopy_43 : decode cX2_openCopy 43 = .ok (.invokespecial 58, 3) := by decide +kernel
theorem dX2_openCopy_46 : decode cX2_openCopy 46 = .ok (.athrow, 1) := by decide +kernel
theorem dX2_openCopy_47 : decode cX2_openCopy 47 = .ok (.iload_n 2, 1) := by decide +kernel
theorem dX2_openCopy_48 : decode cX2_openCopy 48 = .ok (.sipush 160, 3) := by decide +kernel
theorem dX2_openCopy_51 : decode cX2_openCopy 51 = .ok (.iload_n 3, 1) := by decide +kernel
theorem dX2_openCopy_52 : decode cX2_openCopy 52 = .ok (.isub, 1) := by decide +kernel
theorem dX2_openCopy_53 : decode cX2_openCopy 53 = .ok (.if_icmp .le 11, 3) := by decide +kernel
theorem dX2_openCopy_56 : decode cX2_openCopy 56 = .ok (.new 53, 3) := by decide +kernel
theorem dX2_openCopy_59 : decode cX2_openCopy 59 = .ok (.dup, 1) := by decide +kernel
theorem dX2_openCopy_60 : decode cX2_openCopy 60 = .ok (.invokespecial 55, 3) := by decide +kernel
theorem dX2_openCopy_63 : decode cX2_openCopy 63 = .ok (.athrow, 1) := by decide +kernel
theorem dX2_openCopy_64 : decode cX2_openCopy 64 = .ok (.iload_n 3, 1) := by decide +kernel
theorem dX2_openCopy_65 : decode cX2_openCopy 65 = .ok (.istore 5, 2) := by decide +kernel
theorem dX2_openCopy_67 : decode cX2_openCopy 67 = .ok (.iload 5, 2) := by decide +kernel
theorem dX2_openCopy_69 : decode cX2_openCopy 69 = .ok (.iload_n 3, 1) := by decide +kernel
theorem dX2_openCopy_70 : decode cX2_openCopy 70 = .ok (.iload_n 2, 1) := by decide +kernel
theorem dX2_openCopy_71 : decode cX2_openCopy 71 = .ok (.iadd, 1) := by decide +kernel
theorem dX2_openCopy_72 : decode cX2_openCopy 72 = .ok (.if_icmp .ge 26, 3) := by decide +kernel
theorem dX2_openCopy_75 : decode cX2_openCopy 75 = .ok (.aload_n 0, 1) := by decide +kernel
theorem dX2_openCopy_76 : decode cX2_openCopy 76 = .ok (.getfield 15, 3) := by decide +kernel
theorem dX2_openCopy_79 : decode cX2_openCopy 79 = .ok (.iload 5, 2) := by decide +kernel
theorem dX2_openCopy_81 : decode cX2_openCopy 81 = .ok (.aload_n 0, 1) := by decide +kernel
theorem dX2_openCopy_82 : decode cX2_openCopy 82 = .ok (.getfield 15, 3) := by decide +kernel
theorem dX2_openCopy_85 : decode cX2_openCopy 85 = .ok (.iload 5, 2) := by decide +kernel
theorem dX2_openCopy_87 : decode cX2_openCopy 87 = .ok (.iload 4, 2) := by decide +kernel
theorem dX2_openCopy_89 : decode cX2_openCopy 89 = .ok (.isub, 1) := by decide +kernel
theorem dX2_openCopy_90 : decode cX2_openCopy 90 = .ok (.iaload, 1) := by decide +kernel
theorem dX2_openCopy_91 : decode cX2_openCopy 91 = .ok (.iastore, 1) := by decide +kernel
theorem dX2_openCopy_92 : decode cX2_openCopy 92 = .ok (.iinc 5 1, 3) := by decide +kernel
theorem dX2_openCopy_95 : decode cX2_openCopy 95 = .ok (.goto (-28), 3) := by decide +kernel
theorem dX2_openCopy_98 : decode cX2_openCopy 98 = .ok (.iload_n 3, 1) := by decide +kernel
theorem dX2_openCopy_99 : decode cX2_openCopy 99 = .ok (.iload_n 2, 1) := by decide +kernel
theorem dX2_openCopy_100 : decode cX2_openCopy 100 = .ok (.iadd, 1) := by decide +kernel
theorem dX2_openCopy_101 : decode cX2_openCopy 101 = .ok (.ireturn, 1) := by decide +kernel
