set_option maxRecDepth 20000 in
theorem ggX3_init_X1_init : GoodIn wsX3_init wsX1_init := goodIn_r _ [16, 17, 2, 3, 18, 19, 20, 21, 22, 23, 24, 25, 26, 27, 28, 29, 30, 31, 32, 33, 34, 62, 63, 64, 65, 66, 67, 43, 44, 45, 46, 47, 48, 49, 50, 51] (by decide +kernel) (by decide +kernel)
set_option maxRecDepth 20000 in
theorem gX3_init_X1_init : GoodIn wsX3_init (wsX1_init) := ggX3_init_X1_init
set_option maxRecDepth 20000 in
theorem ggX3_init_X0_init : GoodIn wsX3_init wsX0_init := goodIn_r _ [37, 38, 2, 3, 22, 39, 40, 41, 42, 55, 56, 57, 58, 59, 60, 61] (by decide +kernel) (by decide +kernel)
set_option maxRecDepth 20000 in
theorem gX3_init_X0_init : GoodIn wsX3_init (wsX0_init) := ggX3_init_X0_init
theorem dX3_init_0 : decode cX3_init 0 = .ok (.aload_n 0, 1) := by decide +kernel
theorem dX3_init_1 : decode cX3_init 1 = .ok (.invokespecial 1, 3) := by decide +kernel
theorem dX3_init_4 : decode cX3_init 4 = .ok (.aload_n 0, 1) := by decide +kernel
theorem dX3_init_5 : decode cX3_init 5 = .ok (.new 7, 3) := by decide +kernel
theorem dX3_init_8 : decode cX3_init 8 = .ok (.dup, 1) := by decide +kernel
theorem dX3_init_9 : decode cX3_init 9 = .ok (.invokespecial 9, 3) := by decide +kernel
theorem dX3_init_12 : decode cX3_init 12 = .ok (.putfield 10, 3) := by decide +kernel
theorem dX3_init_15 : decode cX3_init 15 = .ok (.aload_n 0, 1) := by decide +kernel
theorem dX3_init_16 : decode cX3_init 16 = .ok (.aload_n 0, 1) := by decide +kernel
theorem dX3_init_17 : decode cX3_init 17 = .ok (.getfield 10, 3) := by decide +kernel
theorem dX3_init_20 : decode cX3_init 20 = .ok (.getfield 16, 3) := by decide +kernel
theorem dX3_init_23 : decode cX3_init 23 = .ok (.putfield 20, 3) := by decide +kernel
theorem dX3_init_26 : decode cX3_init 26 = .ok (.aload_n 0, 1) := by decide +kernel
theorem dX3_init_27 : decode cX3_init 27 = .ok (.new 21, 3) := by decide +kernel
theorem dX3_init_30 : decode cX3_init 30 = .ok (.dup, 1) := by decide +kernel
theorem dX3_init_31 : decode cX3_init 31 = .ok (.invokespecial 23, 3) := by decide +kernel
theorem dX3_init_34 : decode cX3_init 34 = .ok (.putfield 24, 3) := by decide +kernel
theorem dX3_init_37 : decode cX3_init 37 = .ok (.return_, 1) := by decide +kernel
set_option maxRecDepth 20000 in
theorem ggX3_put_X2_hasRoom : GoodIn wsX3_put wsX2_hasRoom := goodIn_r _ [7, 8, 18, 19, 20, 21, 22, 23] (by decide +kernel) (by decide +kernel)
set_option maxRecDepth 20000 in
theorem gX3_put_X2_hasRoom : GoodIn wsX3_put (wsV RX3 28 RX2 yX2_hasRoom wsX2_hasRoom) := goodIn_app (goodIn_of _ (by decide +kernel)) ggX3_put_X2_hasRoom
set_option maxRecDepth 20000 in
theorem ggX3_put_X2_append : GoodIn wsX3_put wsX2_append := goodIn_r _ [12, 13, 8, 14, 18, 19, 20, 21, 22, 23] (by decide +kernel) (by decide +kernel)
set_option maxRecDepth 20000 in
theorem gX3_put_X2_append : GoodIn wsX3_put (wsV RX3 36 RX2 yX2_append wsX2_append) := goodIn_app (goodIn_of _ (by decide +kernel)) ggX3_put_X2_append
theorem dX3_put_0 : decode cX3_put 0 = .ok (.iload_n 3, 1) := by decide +kernel
theorem dX3_put_1 : decode cX3_put 1 = .ok (.iconst 1, 1) := by decide +kernel
theorem dX3_put_2 : decode cX3_put 2 = .ok (.if_icmp .lt 20, 3) := by decide +kernel
theorem dX3_put_5 : decode cX3_put 5 = .ok (.iload_n 3, 1) := by decide +kernel
theorem dX3_put_6 : decode cX3_put 6 = .ok (.bipush 8, 2) := by decide +kernel
theorem dX3_put_8 : decode cX3_put 8 = .ok (.if_icmp .gt 14, 3) := by decide +kernel
theorem dX3_put_11 : decode cX3_put 11 = .ok (.aload_n 0, 1) := by decide +kernel
theorem dX3_put_12 : decode cX3_put 12 = .ok (.getfield 20, 3) := by decide +kernel
theorem dX3_put_15 : decode cX3_put 15 = .ok (.iload_n 3, 1) := by decide +kernel
theorem dX3_put_16 : decode cX3_put 16 = .ok (.invokevirtual 28, 3) := by decide +kernel
theorem dX3_put_19 : decode cX3_put 19 = .ok (.ifCond .ne 5, 3) := by decide +kernel
theorem dX3_put_22 : decode cX3_put 22 = .ok (.iconst 0, 1) := by decide +kernel
theorem dX3_put_23 : decode cX3_put 23 = .ok (.ireturn, 1) := by decide +kernel
theorem dX3_put_24 : decode cX3_put 24 = .ok (.lload_n 1, 1) := by decide +kernel
theorem dX3_put_25 : decode cX3_put 25 = .ok (.lstore 4, 2) := by decide +kernel
theorem dX3_put_27 : decode cX3_put 27 = .ok (.iconst 0, 1) := by decide +kernel
theorem dX3_put_28 : decode cX3_put 28 = .ok (.istore 6, 2) := by decide +kernel
theorem dX3_put_30 : decode cX3_put 30 = .ok (.iload 6, 2) := by decide +kernel
theorem dX3_put_32 : decode cX3_put 32 = .ok (.iload_n 3, 1) := by decide +kernel
theorem dX3_put_33 : decode cX3_put 33 = .ok (.if_icmp .ge 30, 3) := by decide +kernel
theorem dX3_put_36 : decode cX3_put 36 = .ok (.aload_n 0, 1) := by decide +kernel
theorem dX3_put_37 : decode cX3_put 37 = .ok (.getfield 20, 3) := by decide +kernel
theorem dX3_put_40 : decode cX3_put 40 = .ok (.lload 4, 2) := by decide +kernel
theorem dX3_put_42 : decode cX3_put 42 = .ok (.ldc2_w 34, 3) := by decide +kernel
theorem dX3_put_45 : decode cX3_put 45 = .ok (.land, 1) := by decide +kernel
theorem dX3_put_46 : decode cX3_put 46 = .ok (.l2i, 1) := by decide +kernel
theorem dX3_put_47 : decode cX3_put 47 = .ok (.invokevirtual 36, 3) := by decide +kernel
theorem dX3_put_50 : decode cX3_put 50 = .ok (.lload 4, 2) := by decide +kernel
theorem dX3_put_52 : decode cX3_put 52 = .ok (.bipush 8, 2) := by decide +kernel
theorem dX3_put_54 : decode cX3_put 54 = .ok (.lushr, 1) := by decide +kernel
theorem dX3_put_55 : decode cX3_put 55 = .ok (.lstore 4, 2) := by decide +kernel
theorem dX3_put_57 : decode cX3_put 57 = .ok (.iinc 6 1, 3) := by decide +kernel
theorem dX3_put_60 : decode cX3_put 60 = .ok (.goto (-30), 3) := by decide +kernel
theorem dX3_put_63 : decode cX3_put 63 = .ok (.iconst 1, 1) := by decide +kernel
theorem dX3_put_64 : decode cX3_put 64 = .ok (.ireturn, 1) := by decide +kernel
set_option maxRecDepth 20000 in
theorem ggX3_again_X2_hasRoom : GoodIn wsX3_again wsX2_hasRoom := goodIn_r _ [8, 9, 19, 20, 21, 22, 23, 24] (by decide +kernel) (by decide +kernel)
set_option maxRecDepth 20000 in
theorem gX3_again_X2_hasRoom : GoodIn wsX3_again (wsV RX3 28 RX2 yX2_hasRoom wsX2_hasRoom) := goodIn_app (goodIn_of _ (by decide +kernel)) ggX3_again_X2_hasRoom
set_option maxRecDepth 20000 in
theorem ggX3_again_X2_append : GoodIn wsX3_again wsX2_append := goodIn_r _ [13, 14, 9, 15, 19, 20, 21, 22, 23, 24] (by decide +kernel) (by decide +kernel)
set_option maxRecDepth 20000 in
theorem gX3_again_X2_append : GoodIn wsX3_again (wsV RX3 36 RX2 yX2_append wsX2_append) := goodIn_app (goodIn_of _ (by decide +kernel)) ggX3_again_X2_append
theorem dX3_again_0 : decode cX3_again 0 = .ok (.iload_n 1, 1) := by decide +kernel
theorem dX3_again_1 : decode cX3_again 1 = .ok (.iconst 1, 1) := by decide +kernel
theorem dX3_again_2 : decode cX3_again 2 = .ok (.if_icmp .lt 29, 3) := by decide +kernel
theorem dX3_again_5 : decode cX3_again 5 = .ok (.iload_n 1, 1) := by decide +kernel
theorem dX3_again_6 : decode cX3_again 6 = .ok (.aload_n 0, 1) := by decide +kernel
theorem dX3_again_7 : decode cX3_again 7 = .ok (.getfield 20, 3) := by decide +kernel
theorem dX3_again_10 : decode cX3_again 10 = .ok (.getfield 40, 3) := by decide +kernel
theorem dX3_again_13 : decode cX3_again 13 = .ok (.if_icmp .gt 18, 3) := by decide +kernel
theorem dX3_again_16 : decode cX3_again 16 = .ok (.iload_n 2, 1) := by decide +kernel
theorem dX3_again_17 : decode cX3_again 17 = .ok (.ifCond .lt 14, 3) := by decide +kernel
theorem dX3_again_20 : decode cX3_again 20 = .ok (.aload_n 0, 1) := by decide +kernel
theorem dX3_again_21 : decode cX3_again 21 = .ok (.getfield 20, 3) := by decide +kernel
theorem dX3_again_24 : decode cX3_again 24 = .ok (.iload_n 2, 1) := by decide +kernel
theorem dX3_again_25 : decode cX3_again 25 = .ok (.invokevirtual 28, 3) := by decide +kernel
theorem dX3_again_28 : decode cX3_again 28 = .ok (.ifCond .ne 5, 3) := by decide +kernel
theorem dX3_again_31 : decode cX3_again 31 = .ok (.iconst 0, 1) := by decide +kernel
theorem dX3_again_32 : decode cX3_again 32 = .ok (.ireturn, 1) := by decide +kernel
theorem dX3_again_33 : decode cX3_again 33 = .ok (.iconst 0, 1) := by decide +kernel
theorem dX3_again_34 : decode cX3_again 34 = .ok (.istore_n 3, 1) := by decide +kernel
theorem dX3_again_35 : decode cX3_again 35 = .ok (.iload_n 3, 1) := by decide +kernel
theorem dX3_again_36 : decode cX3_again 36 = .ok (.iload_n 2, 1) := by decide +kernel
theorem dX3_again_37 : decode cX3_again 37 = .ok (.if_icmp .ge 33, 3) := by decide +kernel
theorem dX3_again_40 : decode cX3_again 40 = .ok (.aload_n 0, 1) := by decide +kernel
theorem dX3_again_41 : decode cX3_again 41 = .ok (.getfield 20, 3) := by decide +kernel
theorem dX3_again_44 : decode cX3_again 44 = .ok (.aload_n 0, 1) := by decide +kernel
theorem dX3_again_45 : decode cX3_again 45 = .ok (.getfield 20, 3) := by decide +kernel
theorem dX3_again_48 : decode cX3_again 48 = .ok (.getfield 44, 3) := by decide +kernel
theorem dX3_again_51 : decode cX3_again 51 = .ok (.aload_n 0, 1) := by decide +kernel
theorem dX3_again_52 : decode cX3_again 52 = .ok (.getfield 20, 3) := by decide +kernel
theorem dX3_again_55 : decode cX3_again 55 = .ok (.getfield 40, 3) := by decide +kernel
theorem dX3_again_58 : decode cX3_again 58 = .ok (.iload_n 1, 1) := by decide +kernel
theorem dX3_again_59 : decode cX3_again 59 = .ok (.isub, 1) := by decide +kernel
theorem dX3_again_60 : decode cX3_again 60 = .ok (.iaload, 1) := by decide +kernel
theorem dX3_again_61 : decode cX3_again 61 = .ok (.invokevirtual 36, 3) := by decide +kernel
theorem dX3_again_64 : decode cX3_again 64 = .ok (.iinc 3 1, 3) := by decide +kernel
theorem dX3_again_67 : decode cX3_again 67 = .ok (.goto (-32), 3) := by decide +kernel
theorem dX3_again_70 : decode cX3_again 70 = .ok (.iconst 1, 1) := by decide +kernel
theorem dX3_again_71 : decode cX3_again 71 = .ok (.ireturn, 1) := by decide +kernel
set_option maxRecDepth 20000 in
theorem ggX3_change_X3_isByte : GoodIn wsX3_change wsX3_isByte := goodIn_r _ [10] (by decide +kernel) (by decide +kernel)
set_option maxRecDepth 20000 in
theorem gX3_change_X3_isByte : GoodIn wsX3_change (va_wsS RX3 51 yX3_isByte wsX3_isByte) := goodIn_app (goodIn_of _ (by decide +kernel)) ggX3_change_X3_isByte
set_option maxRecDepth 20000 in
theorem ggX3_change_X2_set : GoodIn wsX3_change wsX2_set := goodIn_r _ [15, 16, 17, 21, 22, 23, 24, 25, 26] (by decide +kernel) (by decide +kernel)
set_option maxRecDepth 20000 in
theorem gX3_change_X2_set : GoodIn wsX3_change (wsV RX3 57 RX2 yX2_set wsX2_set) := goodIn_app (goodIn_of _ (by decide +kernel)) ggX3_change_X2_set
theorem dX3_change_0 : decode cX3_change 0 = .ok (.iload_n 1, 1) := by decide +kernel
theorem dX3_change_1 : decode cX3_change 1 = .ok (.ifCond .lt 14, 3) := by decide +kernel
theorem dX3_change_4 : decode cX3_change 4 = .ok (.iload_n 1, 1) := by decide +kernel
theorem dX3_change_5 : decode cX3_change 5 = .ok (.aload_n 0, 1) := by decide +kernel
theorem dX3_change_6 : decode cX3_change 6 = .ok (.getfield 20, 3) := by decide +kernel
theorem dX3_change_9 : decode cX3_change 9 = .ok (.getfield 40, 3) := by decide +kernel
theorem dX3_change_12 : decode cX3_change 12 = .ok (.if_icmp .lt 11, 3) := by decide +kernel
theorem dX3_change_15 : decode cX3_change 15 = .ok (.new 48, 3) := by decide +kernel
theorem dX3_change_18 : decode cX3_change 18 = .ok (.dup, 1) := by decide +kernel
theorem dX3_change_19 : decode cX3_change 19 = .ok (.invokespecial 50, 3) := by decide +kernel
theorem dX3_change_22 : decode cX3_change 22 = .ok (.athrow, 1) := by decide +kernel
theorem dX3_change_23 : decode cX3_change 23 = .ok (.iload_n 2, 1) := by decide +kernel
theorem dX3_change_24 : decode cX3_change 24 = .ok (.invokestatic 51, 3) := by decide +kernel
theorem dX3_change_27 : decode cX3_change 27 = .ok (.ifCond .ne 11, 3) := by decide +kernel
theorem dX3_change_30 : decode cX3_change 30 = .ok (.new 54, 3) := by decide +kernel
theorem dX3_change_33 : decode cX3_change 33 = .ok (.dup, 1) := by decide +kernel
theorem dX3_change_34 : decode cX3_change 34 = .ok (.invokespecial 56, 3) := by decide +kernel
theorem dX3_change_37 : decode cX3_change 37 = .ok (.athrow, 1) := by decide +kernel
theorem dX3_change_38 : decode cX3_change 38 = .ok (.aload_n 0, 1) := by decide +kernel
theorem dX3_change_39 : decode cX3_change 39 = .ok (.getfield 20, 3) := by decide +kernel
theorem dX3_change_42 : decode cX3_change 42 = .ok (.iload_n 1, 1) := by decide +kernel
theorem dX3_change_43 : decode cX3_change 43 = .ok (.iload_n 2, 1) := by decide +kernel
theorem dX3_change_44 : decode cX3_change 44 = .ok (.invokevirtual 57, 3) := by decide +kernel
theorem dX3_change_47 : decode cX3_change 47 = .ok (.return_, 1) := by decide +kernel
set_option maxRecDepth 20000 in
theorem ggX3_cut_X2_shorten : GoodIn wsX3_cut wsX2_shorten := goodIn_r _ [9, 10, 11, 15, 16, 17, 18, 19, 20] (by decide +kernel) (by decide +kernel)
set_option maxRecDepth 20000 in
theorem gX3_cut_X2_shorten : GoodIn wsX3_cut (wsV RX3 61 RX2 yX2_shorten wsX2_shorten) := goodIn_app (goodIn_of _ (by decide +kernel)) ggX3_cut_X2_shorten
theorem dX3_cut_0 : decode cX3_cut 0 = .ok (.iload_n 1, 1) := by decide +kernel
theorem dX3_cut_1 : decode cX3_cut 1 = .ok (.ifCond .lt 14, 3) := by decide +kernel
theorem dX3_cut_4 : decode cX3_cut 4 = .ok (.iload_n 1, 1) := by decide +kernel
theorem dX3_cut_5 : decode cX3_cut 5 = .ok (.aload_n 0, 1) := by decide +kernel
theorem dX3_cut_6 : decode cX3_cut 6 = .ok (.getfield 20, 3) := by decide +kernel
theorem dX3_cut_9 : decode cX3_cut 9 = .ok (.getfield 40, 3) := by decide +kernel
theorem dX3_cut_12 : decode cX3_cut 12 = .ok (.if_icmp .le 11, 3) := by decide +kernel
theorem dX3_cut_15 : decode cX3_cut 15 = .ok (.new 54, 3) := by decide +kernel
theorem dX3_cut_18 : decode cX3_cut 18 = .ok (.dup, 1) := by decide +kernel
theorem dX3_cut_19 : decode cX3_cut 19 = .ok (.invokespecial 56, 3) := by decide +kernel
theorem dX3_cut_22 : decode cX3_cut 22 = .ok (.athrow, 1) := by decide +kernel
theorem dX3_cut_23 : decode cX3_cut 23 = .ok (.aload_n 0, 1) := by decide +kernel
theorem dX3_cut_24 : decode cX3_cut 24 = .ok (.getfield 20, 3) := by decide +kernel
theorem dX3_cut_27 : decode cX3_cut 27 = .ok (.iload_n 1, 1) := by decide +kernel
theorem dX3_cut_28 : decode cX3_cut 28 = .ok (.invokevirtual 61, 3) := by decide +kernel
theorem dX3_cut_31 : decode cX3_cut 31 = .ok (.return_, 1) := by decide +kernel
set_option maxRecDepth 20000 in
theorem ggX3_place_X3_isByte : GoodIn wsX3_place wsX3_isByte := goodIn_r _ [9] (by decide +kernel) (by decide +kernel)
set_option maxRecDepth 20000 in
theorem gX3_place_X3_isByte : GoodIn wsX3_place (va_wsS RX3 51 yX3_isByte wsX3_isByte) := goodIn_app (goodIn_of _ (by decide +kernel)) ggX3_place_X3_isByte
theorem dX3_place_0 : decode cX3_place 0 = .ok (.iload_n 1, 1) := by decide +kernel
theorem dX3_place_1 : decode cX3_place 1 = .ok (.invokestatic 51, 3) := by decide +kernel
theorem dX3_place_4 : decode cX3_place 4 = .ok (.ifCond .eq 10, 3) := by decide +kernel
theorem dX3_place_7 : decode cX3_place 7 = .ok (.iload_n 2, 1) := by decide +kernel
theorem dX3_place_8 : decode cX3_place 8 = .ok (.invokestatic 51, 3) := by decide +kernel
theorem dX3_place_11 : decode cX3_place 11 = .ok (.ifCond .ne 11, 3) := by decide +kernel
theorem dX3_place_14 : decode cX3_place 14 = .ok (.new 54, 3) := by decide +kernel
theorem dX3_place_17 : decode cX3_place 17 = .ok (.dup, 1) := by decide +kernel
theorem dX3_place_18 : decode cX3_place 18 = .ok (.invokespecial 56, 3) := by decide +kernel
theorem dX3_place_21 : decode cX3_place 21 = .ok (.athrow, 1) := by decide +kernel
theorem dX3_place_22 : decode cX3_place 22 = .ok (.aload_n 0, 1) := by decide +kernel
theorem dX3_place_23 : decode cX3_place 23 = .ok (.getfield 20, 3) := by decide +kernel
theorem dX3_place_26 : decode cX3_place 26 = .ok (.iload_n 1, 1) := by decide +kernel
theorem dX3_place_27 : decode cX3_place 27 = .ok (.putfield 64, 3) := by decide +kernel
theorem dX3_place_30 : decode cX3_place 30 = .ok (.aload_n 0, 1) := by decide +kernel
theorem dX3_place_31 : decode cX3_place 31 = .ok (.getfield 20, 3) := by decide +kernel
theorem dX3_place_34 : decode cX3_place 34 = .ok (.iload_n 2, 1) := by decide +kernel
theorem dX3_place_35 : decode cX3_place 35 = .ok (.putfield 67, 3) := by decide +kernel
theorem dX3_place_38 : decode cX3_place 38 = .ok (.return_, 1) := by decide +kernel
theorem dX3_size_0 : decode cX3_size 0 = .ok (.aload_n 0, 1) := by decide +kernel
theorem dX3_size_1 : decode cX3_size 1 = .ok (.getfield 20, 3) := by decide +kernel
theorem dX3_size_4 : decode cX3_size 4 = .ok (.getfield 40, 3) := by decide +kernel
theorem dX3_size_7 : decode cX3_size 7 = .ok (.ireturn, 1) := by decide +kernel
set_option maxRecDepth 20000 in
theorem ggX3_packed_X1_refresh : GoodIn wsX3_packed wsX1_refresh := goodIn_r _ [7, 8, 9, 10, 11, 12, 13, 14, 15, 16, 17, 6, 18, 19, 20, 21, 22, 23, 24, 25, 26, 27, 28, 29, 30, 31, 32, 33, 34, 35, 36, 37, 38, 39, 40, 41, 42, 46, 47, 48, 49, 50, 51, 52, 53, 54, 55, 56, 57, 58, 59, 60] (by decide +kernel) (by decide +kernel)
set_option maxRecDepth 20000 in
theorem gX3_packed_X1_refresh : GoodIn wsX3_packed (wsV RX3 70 RX1 yX1_refresh wsX1_refresh) := goodIn_app (goodIn_of _ (by decide +kernel)) ggX3_packed_X1_refresh
theorem dX3_packed_0 : decode cX3_packed 0 = .ok (.aload_n 0, 1) := by decide +kernel
theorem dX3_packed_1 : decode cX3_packed 1 = .ok (.getfield 10, 3) := by decide +kernel
theorem dX3_packed_4 : decode cX3_packed 4 = .ok (.invokevirtual 70, 3) := by decide +kernel
theorem dX3_packed_7 : decode cX3_packed 7 = .ok (.aload_n 0, 1) := by decide +kernel
theorem dX3_packed_8 : decode cX3_packed 8 = .ok (.getfield 10, 3) := by decide +kernel
theorem dX3_packed_11 : decode cX3_packed 11 = .ok (.getfield 73, 3) := by decide +kernel
theorem dX3_packed_14 : decode cX3_packed 14 = .ok (.ireturn, 1) := by decide +kernel
set_option maxRecDepth 20000 in
theorem ggX3_stream_X1_refresh : GoodIn wsX3_stream wsX1_refresh := goodIn_r _ [10, 11, 12, 13, 14, 15, 16, 17, 18, 19, 20, 9, 21, 22, 23, 24, 25, 26, 27, 28, 29, 30, 31, 32, 33, 34, 35, 36, 37, 38, 39, 40, 41, 42, 43, 44, 45, 49, 50, 51, 52, 53, 54, 55, 56, 57, 58, 59, 60, 61, 62, 63] (by decide +kernel) (by decide +kernel)
set_option maxRecDepth 20000 in
theorem gX3_stream_X1_refresh : GoodIn wsX3_stream (wsV RX3 70 RX1 yX1_refresh wsX1_refresh) := goodIn_app (goodIn_of _ (by decide +kernel)) ggX3_stream_X1_refresh
theorem dX3_stream_0 : decode cX3_stream 0 = .ok (.aload_n 0, 1) := by decide +kernel
theorem dX3_stream_1 : decode cX3_stream 1 = .ok (.getfield 10, 3) := by decide +kernel
theorem dX3_stream_4 : decode cX3_stream 4 = .ok (.invokevirtual 70, 3) := by decide +kernel
theorem dX3_stream_7 : decode cX3_stream 7 = .ok (.iload_n 1, 1) := by decide +kernel
theorem dX3_stream_8 : decode cX3_stream 8 = .ok (.ifCond .lt 14, 3) := by decide +kernel
theorem dX3_stream_11 : decode cX3_stream 11 = .ok (.iload_n 1, 1) := by decide +kernel
theorem dX3_stream_12 : decode cX3_stream 12 = .ok (.aload_n 0, 1) := by decide +kernel
theorem dX3_stream_13 : decode cX3_stream 13 = .ok (.getfield 10, 3) := by decide +kernel
theorem dX3_stream_16 : decode cX3_stream 16 = .ok (.getfield 73, 3) := by decide +kernel
theorem dX3_stream_19 : decode cX3_stream 19 = .ok (.if_icmp .lt 11, 3) := by decide +kernel
theorem dX3_stream_22 : decode cX3_stream 22 = .ok (.new 48, 3) := by decide +kernel
theorem dX3_stream_25 : decode cX3_stream 25 = .ok (.dup, 1) := by decide +kernel
theorem dX3_stream_26 : decode cX3_stream 26 = .ok (.invokespecial 50, 3) := by decide +kernel
theorem dX3_stream_29 : decode cX3_stream 29 = .ok (.athrow, 1) := by decide +kernel
theorem dX3_stream_30 : decode cX3_stream 30 = .ok (.aload_n 0, 1) := by decide +kernel
theorem dX3_stream_31 : decode cX3_stream 31 = .ok (.getfield 10, 3) := by decide +kernel
theorem dX3_stream_34 : decode cX3_stream 34 = .ok (.getfield 76, 3) := by decide +kernel
theorem dX3_stream_37 : decode cX3_stream 37 = .ok (.iload_n 1, 1) := by decide +kernel
theorem dX3_stream_38 : decode cX3_stream 38 = .ok (.iaload, 1) := by decide +kernel
theorem dX3_stream_39 : decode cX3_stream 39 = .ok (.ireturn, 1) := by decide +kernel
set_option maxRecDepth 20000 in
theorem ggX3_gap_X1_refresh : GoodIn wsX3_gap wsX1_refresh := goodIn_r _ [7, 8, 9, 10, 11, 12, 13, 14, 15, 16, 17, 6, 18, 19, 20, 21, 22, 23, 24, 25, 26, 27, 28, 29, 30, 31, 32, 33, 34, 35, 36, 37, 38, 39, 40, 41, 42, 46, 47, 48, 49, 50, 51, 52, 53, 54, 55, 56, 57, 58, 59, 60] (by decide +kernel) (by decide +kernel)
set_option maxRecDepth 20000 in
theorem gX3_gap_X1_refresh : GoodIn wsX3_gap (wsV RX3 70 RX1 yX1_refresh wsX1_refresh) := goodIn_app (goodIn_of _ (by decide +kernel)) ggX3_gap_X1_refresh
theorem dX3_gap_0 : decode cX3_gap 0 = .ok (.aload_n 0, 1) := by decide +kernel
theorem dX3_gap_1 : decode cX3_gap 1 = .ok (.getfield 10, 3) := by decide +kernel
theorem dX3_gap_4 : decode cX3_gap 4 = .ok (.invokevirtual 70, 3) := by decide +kernel
theorem dX3_gap_7 : decode cX3_gap 7 = .ok (.aload_n 0, 1) := by decide +kernel
theorem dX3_gap_8 : decode cX3_gap 8 = .ok (.getfield 10, 3) := by decide +kernel
theorem dX3_gap_11 : decode cX3_gap 11 = .ok (.getfield 79, 3) := by decide +kernel
theorem dX3_gap_14 : decode cX3_gap 14 = .ok (.ireturn, 1) := by decide +kernel
set_option maxRecDepth 20000 in
theorem ggX3_unpack_X2_openAsStream : GoodIn wsX3_unpack wsX2_openAsStream := goodIn_ca (goodIn_ca (goodIn_ca (goodIn_ca (goodIn_r _ [7, 8, 9, 10, 11, 12, 13, 14, 15, 16, 17, 18, 19, 20, 21, 6, 22, 23, 24, 25, 26, 27, 28, 29, 30, 31, 32, 33, 34, 35, 39, 40, 41, 42, 43, 44] (by decide +kernel) (by decide +kernel)) (goodIn_sub (fun _ h => List.mem_cons_of_mem _ (List.mem_append_left _ (List.mem_append_left _ (List.mem_append_left _ (List.mem_append_right _ h))))) (by decide +kernel))) (goodIn_sub (fun _ h => List.mem_cons_of_mem _ (List.mem_append_left _ (List.mem_append_left _ (List.mem_append_right _ h)))) (by decide +kernel))) (goodIn_sub (fun _ h => List.mem_cons_of_mem _ (List.mem_append_left _ (List.mem_append_right _ h))) (by decide +kernel))) (goodIn_sub (fun _ h => List.mem_cons_of_mem _ (List.mem_append_right _ h)) (by decide +kernel))
set_option maxRecDepth 20000 in
theorem gX3_unpack_X2_openAsStream : GoodIn wsX3_unpack (wsV RX3 82 RX2 yX2_openAsStream wsX2_openAsStream) := goodIn_app (goodIn_of _ (by decide +kernel)) ggX3_unpack_X2_openAsStream
theorem dX3_unpack_0 : decode cX3_unpack 0 = .ok (.aload_n 0, 1) := by decide +kernel
theorem dX3_unpack_1 : decode cX3_unpack 1 = .ok (.getfield 20, 3) := by decide +kernel
theorem dX3_unpack_4 : decode cX3_unpack 4 = .ok (.invokevirtual 82, 3) := by decide +kernel
theorem dX3_unpack_7 : decode cX3_unpack 7 = .ok (.aload_n 0, 1) := by decide +kernel
theorem dX3_unpack_8 : decode cX3_unpack 8 = .ok (.getfield 20, 3) := by decide +kernel
theorem dX3_unpack_11 : decode cX3_unpack 11 = .ok (.getfield 40, 3) := by decide +kernel
theorem dX3_unpack_14 : decode cX3_unpack 14 = .ok (.ireturn, 1) := by decide +kernel
set_option maxRecDepth 20000 in
theorem ggX3_load_X2_fits : GoodIn wsX3_load wsX2_fits := goodIn_r _ [13, 14, 15, 38, 39, 40, 41, 42, 43] (by decide +kernel) (by decide +kernel)
set_option maxRecDepth 20000 in
theorem gX3_load_X2_fits : GoodIn wsX3_load (wsV RX3 85 RX2 yX2_fits wsX2_fits) := goodIn_app (goodIn_of _ (by decide +kernel)) ggX3_load_X2_fits
set_option maxRecDepth 20000 in
theorem ggX3_load_X0_clear : GoodIn wsX3_load wsX0_clear := goodIn_r _ [20, 21, 22, 23, 24, 25, 26, 44, 45, 46, 47, 48, 49, 50] (by decide +kernel) (by decide +kernel)
set_option maxRecDepth 20000 in
theorem gX3_load_X0_clear : GoodIn wsX3_load (wsV RX3 92 RX0 yX0_clear wsX0_clear) := goodIn_app (goodIn_of _ (by decide +kernel)) ggX3_load_X0_clear
set_option maxRecDepth 20000 in
theorem ggX3_load_X0_write : GoodIn wsX3_load wsX0_write := goodIn_r _ [30, 21, 31, 32, 33, 34, 44, 45, 46, 47, 48, 49, 50] (by decide +kernel) (by decide +kernel)
set_option maxRecDepth 20000 in
theorem gX3_load_X0_write : GoodIn wsX3_load (wsV RX3 95 RX0 yX0_write wsX0_write) := goodIn_app (goodIn_of _ (by decide +kernel)) ggX3_load_X0_write
theorem dX3_load_0 : decode cX3_load 0 = .ok (.aload_n 0, 1) := by decide +kernel
theorem dX3_load_1 : decode cX3_load 1 = .ok (.getfield 20, 3) := by decide +kernel
theorem dX3_load_4 : decode cX3_load 4 = .ok (.invokevirtual 85, 3) := by decide +kernel
theorem dX3_load_7 : decode cX3_load 7 = .ok (.ifCond .ne 11, 3) := by decide +kernel
theorem dX3_load_10 : decode cX3_load 10 = .ok (.new 89, 3) := by decide +kernel
theorem dX3_load_13 : decode cX3_load 13 = .ok (.dup, 1) := by decide +kernel
theorem dX3_load_14 : decode cX3_load 14 = .ok (.invokespecial 91, 3) := by decide +kernel
theorem dX3_load_17 : decode cX3_load 17 = .ok (.athrow, 1) := by decide +kernel
theorem dX3_load_18 : decode cX3_load 18 = .ok (.aload_n 0, 1) := by decide +kernel
theorem dX3_load_19 : decode cX3_load 19 = .ok (.getfield 24, 3) := by decide +kernel
theorem dX3_load_22 : decode cX3_load 22 = .ok (.aload_n 0, 1) := by decide +kernel
theorem dX3_load_23 : decode cX3_load 23 = .ok (.getfield 20, 3) := by decide +kernel
theorem dX3_load_26 : decode cX3_load 26 = .ok (.getfield 67, 3) := by decide +kernel
theorem dX3_load_29 : decode cX3_load 29 = .ok (.invokevirtual 92, 3) := by decide +kernel
theorem dX3_load_32 : decode cX3_load 32 = .ok (.aload_n 0, 1) := by decide +kernel
theorem dX3_load_33 : decode cX3_load 33 = .ok (.getfield 24, 3) := by decide +kernel
theorem dX3_load_36 : decode cX3_load 36 = .ok (.aload_n 0, 1) := by decide +kernel
theorem dX3_load_37 : decode cX3_load 37 = .ok (.getfield 20, 3) := by decide +kernel
theorem dX3_load_40 : decode cX3_load 40 = .ok (.getfield 64, 3) := by decide +kernel
theorem dX3_load_43 : decode cX3_load 43 = .ok (.aload_n 0, 1) := by decide +kernel
theorem dX3_load_44 : decode cX3_load 44 = .ok (.getfield 20, 3) := by decide +kernel
theorem dX3_load_47 : decode cX3_load 47 = .ok (.getfield 44, 3) := by decide +kernel
theorem dX3_load_50 : decode cX3_load 50 = .ok (.aload_n 0, 1) := by decide +kernel
theorem dX3_load_51 : decode cX3_load 51 = .ok (.getfield 20, 3) := by decide +kernel
theorem dX3_load_54 : decode cX3_load 54 = .ok (.getfield 40, 3) := by decide +kernel
theorem dX3_load_57 : decode cX3_load 57 = .ok (.invokevirtual 95, 3) := by decide +kernel
theorem dX3_load_60 : decode cX3_load 60 = .ok (.return_, 1) := by decide +kernel
set_option maxRecDepth 20000 in
theorem ggX3_loadPacked_X1_refresh : GoodIn wsX3_loadPacked wsX1_refresh := goodIn_r _ [14, 15, 16, 17, 18, 19, 20, 21, 22, 23, 24, 13, 25, 26, 27, 28, 29, 30, 31, 32, 33, 34, 35, 36, 37, 38, 39, 40, 41, 42, 43, 44, 45, 46, 47, 48, 49, 89, 90, 91, 92, 93, 94, 95, 96, 97, 98, 99, 100, 101, 102, 103] (by decide +kernel) (by decide +kernel)
set_option maxRecDepth 20000 in
theorem gX3_loadPacked_X1_refresh : GoodIn wsX3_loadPacked (wsV RX3 70 RX1 yX1_refresh wsX1_refresh) := goodIn_app (goodIn_of _ (by decide +kernel)) ggX3_loadPacked_X1_refresh
set_option maxRecDepth 20000 in
theorem ggX3_loadPacked_X1_fits : GoodIn wsX3_loadPacked wsX1_fits := goodIn_r _ [53, 54, 55, 56, 13, 57, 58, 59, 60, 61, 16, 62, 18, 44, 89, 90, 91, 92, 93, 94, 95, 96, 97, 98, 99, 100, 101, 102, 103] (by decide +kernel) (by decide +kernel)
set_option maxRecDepth 20000 in
theorem gX3_loadPacked_X1_fits : GoodIn wsX3_loadPacked (wsV RX3 99 RX1 yX1_fits wsX1_fits) := goodIn_app (goodIn_of _ (by decide +kernel)) ggX3_loadPacked_X1_fits
set_option maxRecDepth 20000 in
theorem ggX3_loadPacked_X1_stubAddress : GoodIn wsX3_loadPacked wsX1_stubAddress := goodIn_r _ [61, 16, 62, 18, 44, 89, 90, 91, 92, 93, 94, 95, 96, 97, 98, 99, 100, 101, 102, 103] (by decide +kernel) (by decide +kernel)
set_option maxRecDepth 20000 in
theorem gX3_loadPacked_X1_stubAddress : GoodIn wsX3_loadPacked (wsV RX3 103 RX1 yX1_stubAddress wsX1_stubAddress) := goodIn_app (goodIn_of _ (by decide +kernel)) ggX3_loadPacked_X1_stubAddress
set_option maxRecDepth 20000 in
theorem ggX3_loadPacked_X0_clear : GoodIn wsX3_loadPacked wsX0_clear := goodIn_r _ [68, 69, 70, 71, 72, 73, 74, 104, 105, 106, 107, 108, 109, 110] (by decide +kernel) (by decide +kernel)
set_option maxRecDepth 20000 in
theorem gX3_loadPacked_X0_clear : GoodIn wsX3_loadPacked (wsV RX3 92 RX0 yX0_clear wsX0_clear) := goodIn_app (goodIn_of _ (by decide +kernel)) ggX3_loadPacked_X0_clear
set_option maxRecDepth 20000 in
theorem ggX3_loadPacked_X0_write : GoodIn wsX3_loadPacked wsX0_write := goodIn_r _ [78, 69, 79, 47, 48, 49, 104, 105, 106, 107, 108, 109, 110] (by decide +kernel) (by decide +kernel)
set_option maxRecDepth 20000 in
theorem gX3_loadPacked_X0_write : GoodIn wsX3_loadPacked (wsV RX3 95 RX0 yX0_write wsX0_write) := goodIn_app (goodIn_of _ (by decide +kernel)) ggX3_loadPacked_X0_write
set_option maxRecDepth 20000 in
theorem ggX3_loadPacked_X0_writeStub : GoodIn wsX3_loadPacked wsX0_writeStub := goodIn_r _ [83, 84, 69, 104, 105, 106, 107, 108, 109, 110] (by decide +kernel) (by decide +kernel)
set_option maxRecDepth 20000 in
theorem gX3_loadPacked_X0_writeStub : GoodIn wsX3_loadPacked (wsV RX3 107 RX0 yX0_writeStub wsX0_writeStub) := goodIn_app (goodIn_of _ (by decide +kernel)) ggX3_loadPacked_X0_writeStub
set_option maxRecDepth 20000 in
theorem ggX3_loadPacked_X1_layoutEnd : GoodIn wsX3_loadPacked wsX1_layoutEnd := goodIn_r _ [57, 58, 59, 60, 13, 61, 16, 62, 18, 44, 89, 90, 91, 92, 93, 94, 95, 96, 97, 98, 99, 100, 101, 102, 103] (by decide +kernel) (by decide +kernel)
set_option maxRecDepth 20000 in
theorem gX3_loadPacked_X1_layoutEnd : GoodIn wsX3_loadPacked (wsV RX3 111 RX1 yX1_layoutEnd wsX1_layoutEnd) := goodIn_app (goodIn_of _ (by decide +kernel)) ggX3_loadPacked_X1_layoutEnd
theorem dX3_loadPacked_0 : decode cX3_loadPacked 0 = .ok (.aload_n 0, 1) := by decide +kernel
theorem dX3_loadPacked_1 : decode cX3_loadPacked 1 = .ok (.getfield 10, 3) := by decide +kernel
theorem dX3_loadPacked_4 : decode cX3_loadPacked 4 = .ok (.invokevirtual 70, 3) := by decide +kernel
theorem dX3_loadPacked_7 : decode cX3_loadPacked 7 = .ok (.aload_n 0, 1) := by decide +kernel
theorem dX3_loadPacked_8 : decode cX3_loadPacked 8 = .ok (.getfield 10, 3) := by decide +kernel
theorem dX3_loadPacked_11 : decode cX3_loadPacked 11 = .ok (.invokevirtual 99, 3) := by decide +kernel
theorem dX3_loadPacked_14 : decode cX3_loadPacked 14 = .ok (.ifCond .ne 11, 3) := by decide +kernel
theorem dX3_loadPacked_17 : decode cX3_loadPacked 17 = .ok (.new 100, 3) := by decide +kernel
theorem dX3_loadPacked_20 : decode cX3_loadPacked 20 = .ok (.dup, 1) := by decide +kernel
theorem dX3_loadPacked_21 : decode cX3_loadPacked 21 = .ok (.invokespecial 102, 3) := by decide +kernel
theorem dX3_loadPacked_24 : decode cX3_loadPacked 24 = .ok (.athrow, 1) := by decide +kernel
theorem dX3_loadPacked_25 : decode cX3_loadPacked 25 = .ok (.aload_n 0, 1) := by decide +kernel
theorem dX3_loadPacked_26 : decode cX3_loadPacked 26 = .ok (.getfield 10, 3) := by decide +kernel
theorem dX3_loadPacked_29 : decode cX3_loadPacked 29 = .ok (.invokevirtual 103, 3) := by decide +kernel
theorem dX3_loadPacked_32 : decode cX3_loadPacked 32 = .ok (.istore_n 1, 1) := by decide +kernel
theorem dX3_loadPacked_33 : decode cX3_loadPacked 33 = .ok (.iload_n 1, 1) := by decide +kernel
theorem dX3_loadPacked_34 : decode cX3_loadPacked 34 = .ok (.aload_n 0, 1) := by decide +kernel
theorem dX3_loadPacked_35 : decode cX3_loadPacked 35 = .ok (.getfield 10, 3) := by decide +kernel
theorem dX3_loadPacked_38 : decode cX3_loadPacked 38 = .ok (.getfield 73, 3) := by decide +kernel
theorem dX3_loadPacked_41 : decode cX3_loadPacked 41 = .ok (.isub, 1) := by decide +kernel
theorem dX3_loadPacked_42 : decode cX3_loadPacked 42 = .ok (.istore_n 2, 1) := by decide +kernel
theorem dX3_loadPacked_43 : decode cX3_loadPacked 43 = .ok (.aload_n 0, 1) := by decide +kernel
theorem dX3_loadPacked_44 : decode cX3_loadPacked 44 = .ok (.getfield 24, 3) := by decide +kernel
theorem dX3_loadPacked_47 : decode cX3_loadPacked 47 = .ok (.iload_n 1, 1) := by decide +kernel
theorem dX3_loadPacked_48 : decode cX3_loadPacked 48 = .ok (.invokevirtual 92, 3) := by decide +kernel
theorem dX3_loadPacked_51 : decode cX3_loadPacked 51 = .ok (.aload_n 0, 1) := by decide +kernel
theorem dX3_loadPacked_52 : decode cX3_loadPacked 52 = .ok (.getfield 24, 3) := by decide +kernel
theorem dX3_loadPacked_55 : decode cX3_loadPacked 55 = .ok (.iload_n 2, 1) := by decide +kernel
theorem dX3_loadPacked_56 : decode cX3_loadPacked 56 = .ok (.aload_n 0, 1) := by decide +kernel
theorem dX3_loadPacked_57 : decode cX3_loadPacked 57 = .ok (.getfield 10, 3) := by decide +kernel
theorem dX3_loadPacked_60 : decode cX3_loadPacked 60 = .ok (.getfield 76, 3) := by decide +kernel
theorem dX3_loadPacked_63 : decode cX3_loadPacked 63 = .ok (.aload_n 0, 1) := by decide +kernel
theorem dX3_loadPacked_64 : decode cX3_loadPacked 64 = .ok (.getfield 10, 3) := by decide +kernel
theorem dX3_loadPacked_67 : decode cX3_loadPacked 67 = .ok (.getfield 73, 3) := by decide +kernel
theorem dX3_loadPacked_70 : decode cX3_loadPacked 70 = .ok (.invokevirtual 95, 3) := by decide +kernel
theorem dX3_loadPacked_73 : decode cX3_loadPacked 73 = .ok (.aload_n 0, 1) := by decide +kernel
theorem dX3_loadPacked_74 : decode cX3_loadPacked 74 = .ok (.getfield 24, 3) := by decide +kernel
theorem dX3_loadPacked_77 : decode cX3_loadPacked 77 = .ok (.iload_n 1, 1) := by decide +kernel
theorem dX3_loadPacked_78 : decode cX3_loadPacked 78 = .ok (.iload_n 2, 1) := by decide +kernel
theorem dX3_loadPacked_79 : decode cX3_loadPacked 79 = .ok (.aload_n 0, 1) := by decide +kernel
theorem dX3_loadPacked_80 : decode cX3_loadPacked 80 = .ok (.getfield 20, 3) := by decide +kernel
theorem dX3_loadPacked_83 : decode cX3_loadPacked 83 = .ok (.getfield 64, 3) := by decide +kernel
theorem dX3_loadPacked_86 : decode cX3_loadPacked 86 = .ok (.aload_n 0, 1) := by decide +kernel
theorem dX3_loadPacked_87 : decode cX3_loadPacked 87 = .ok (.getfield 20, 3) := by decide +kernel
theorem dX3_loadPacked_90 : decode cX3_loadPacked 90 = .ok (.getfield 67, 3) := by decide +kernel
theorem dX3_loadPacked_93 : decode cX3_loadPacked 93 = .ok (.invokevirtual 107, 3) := by decide +kernel
theorem dX3_loadPacked_96 : decode cX3_loadPacked 96 = .ok (.aload_n 0, 1) := by decide +kernel
theorem dX3_loadPacked_97 : decode cX3_loadPacked 97 = .ok (.getfield 10, 3) := by decide +kernel
theorem dX3_loadPacked_100 : decode cX3_loadPacked 100 = .ok (.invokevirtual 111, 3) := by decide +kernel
theorem dX3_loadPacked_103 : decode cX3_loadPacked 103 = .ok (.aload_n 0, 1) := by decide +kernel
theorem dX3_loadPacked_104 : decode cX3_loadPacked 104 = .ok (.getfield 20, 3) := by decide +kernel
theorem dX3_loadPacked_107 : decode cX3_loadPacked 107 = .ok (.getfield 64, 3) := by decide +kernel
theorem dX3_loadPacked_110 : decode cX3_loadPacked 110 = .ok (.isub, 1) := by decide +kernel
theorem dX3_loadPacked_111 : decode cX3_loadPacked 111 = .ok (.ireturn, 1) := by decide +kernel
set_option maxRecDepth 20000 in
theorem ggX3_run_X0_runs : GoodIn wsX3_run wsX0_runs := goodIn_r _ [9, 10, 36, 37, 38, 39, 40, 41, 42] (by decide +kernel) (by decide +kernel)
set_option maxRecDepth 20000 in
theorem gX3_run_X0_runs : GoodIn wsX3_run (wsV RX3 114 RX0 yX0_runs wsX0_runs) := goodIn_app (goodIn_of _ (by decide +kernel)) ggX3_run_X0_runs
set_option maxRecDepth 20000 in
theorem ggX3_run_X0_step : GoodIn wsX3_run wsX0_step := goodIn_r _ [14, 15, 16, 17, 18, 19, 20, 8, 21, 22, 10, 23, 24, 25, 26, 27, 28, 29, 30, 31, 32, 36, 37, 38, 39, 40, 41, 42] (by decide +kernel) (by decide +kernel)
set_option maxRecDepth 20000 in
theorem gX3_run_X0_step : GoodIn wsX3_run (wsV RX3 120 RX0 yX0_step wsX0_step) := goodIn_app (goodIn_of _ (by decide +kernel)) ggX3_run_X0_step
theorem dX3_run_0 : decode cX3_run 0 = .ok (.iload_n 1, 1) := by decide +kernel
theorem dX3_run_1 : decode cX3_run 1 = .ok (.ifCond .lt 22, 3) := by decide +kernel
theorem dX3_run_4 : decode cX3_run 4 = .ok (.iload_n 1, 1) := by decide +kernel
theorem dX3_run_5 : decode cX3_run 5 = .ok (.sipush 4000, 3) := by decide +kernel
theorem dX3_run_8 : decode cX3_run 8 = .ok (.if_icmp .gt 15, 3) := by decide +kernel
theorem dX3_run_11 : decode cX3_run 11 = .ok (.iload_n 2, 1) := by decide +kernel
theorem dX3_run_12 : decode cX3_run 12 = .ok (.iconst (-1), 1) := by decide +kernel
theorem dX3_run_13 : decode cX3_run 13 = .ok (.if_icmp .lt 10, 3) := by decide +kernel
theorem dX3_run_16 : decode cX3_run 16 = .ok (.iload_n 2, 1) := by decide +kernel
theorem dX3_run_17 : decode cX3_run 17 = .ok (.sipush 255, 3) := by decide +kernel
theorem dX3_run_20 : decode cX3_run 20 = .ok (.if_icmp .le 11, 3) := by decide +kernel
theorem dX3_run_23 : decode cX3_run 23 = .ok (.new 54, 3) := by decide +kernel
theorem dX3_run_26 : decode cX3_run 26 = .ok (.dup, 1) := by decide +kernel
theorem dX3_run_27 : decode cX3_run 27 = .ok (.invokespecial 56, 3) := by decide +kernel
theorem dX3_run_30 : decode cX3_run 30 = .ok (.athrow, 1) := by decide +kernel
theorem dX3_run_31 : decode cX3_run 31 = .ok (.iconst 0, 1) := by decide +kernel
theorem dX3_run_32 : decode cX3_run 32 = .ok (.istore_n 3, 1) := by decide +kernel
theorem dX3_run_33 : decode cX3_run 33 = .ok (.iload_n 3, 1) := by decide +kernel
theorem dX3_run_34 : decode cX3_run 34 = .ok (.iload_n 1, 1) := by decide +kernel
theorem dX3_run_35 : decode cX3_run 35 = .ok (.if_icmp .ge 37, 3) := by decide +kernel
theorem dX3_run_38 : decode cX3_run 38 = .ok (.aload_n 0, 1) := by decide +kernel
theorem dX3_run_39 : decode cX3_run 39 = .ok (.getfield 24, 3) := by decide +kernel
theorem dX3_run_42 : decode cX3_run 42 = .ok (.invokevirtual 114, 3) := by decide +kernel
theorem dX3_run_45 : decode cX3_run 45 = .ok (.ifCond .eq 27, 3) := by decide +kernel
theorem dX3_run_48 : decode cX3_run 48 = .ok (.aload_n 0, 1) := by decide +kernel
theorem dX3_run_49 : decode cX3_run 49 = .ok (.getfield 24, 3) := by decide +kernel
theorem dX3_run_52 : decode cX3_run 52 = .ok (.getfield 117, 3) := by decide +kernel
theorem dX3_run_55 : decode cX3_run 55 = .ok (.iload_n 2, 1) := by decide +kernel
theorem dX3_run_56 : decode cX3_run 56 = .ok (.if_icmp .eq 16, 3) := by decide +kernel
theorem dX3_run_59 : decode cX3_run 59 = .ok (.aload_n 0, 1) := by decide +kernel
theorem dX3_run_60 : decode cX3_run 60 = .ok (.getfield 24, 3) := by decide +kernel
theorem dX3_run_63 : decode cX3_run 63 = .ok (.invokevirtual 120, 3) := by decide +kernel
theorem dX3_run_66 : decode cX3_run 66 = .ok (.iinc 3 1, 3) := by decide +kernel
theorem dX3_run_69 : decode cX3_run 69 = .ok (.goto (-36), 3) := by decide +kernel
theorem dX3_run_72 : decode cX3_run 72 = .ok (.iload_n 3, 1) := by decide +kernel
theorem dX3_run_73 : decode cX3_run 73 = .ok (.ireturn, 1) := by decide +kernel
theorem dX3_look_0 : decode cX3_look 0 = .ok (.iload_n 1, 1) := by decide +kernel
theorem dX3_look_1 : decode cX3_look 1 = .ok (.ifCond .lt 19, 3) := by decide +kernel
theorem dX3_look_4 : decode cX3_look 4 = .ok (.iload_n 1, 1) := by decide +kernel
theorem dX3_look_5 : decode cX3_look 5 = .ok (.bipush 8, 2) := by decide +kernel
theorem dX3_look_7 : decode cX3_look 7 = .ok (.if_icmp .ge 13, 3) := by decide +kernel
theorem dX3_look_10 : decode cX3_look 10 = .ok (.aload_n 0, 1) := by decide +kernel
theorem dX3_look_11 : decode cX3_look 11 = .ok (.getfield 24, 3) := by decide +kernel
theorem dX3_look_14 : decode cX3_look 14 = .ok (.getfield 123, 3) := by decide +kernel
theorem dX3_look_17 : decode cX3_look 17 = .ok (.iload_n 1, 1) := by decide +kernel
theorem dX3_look_18 : decode cX3_look 18 = .ok (.iaload, 1) := by decide +kernel
theorem dX3_look_19 : decode cX3_look 19 = .ok (.ireturn, 1) := by decide +kernel
theorem dX3_look_20 : decode cX3_look 20 = .ok (.iload_n 1, 1) := by decide +kernel
theorem dX3_look_21 : decode cX3_look 21 = .ok (.tableswitch 63 8 11 #[31, 39, 47, 55], 31) := by decide +kernel
theorem dX3_look_52 : decode cX3_look 52 = .ok (.aload_n 0, 1) := by decide +kernel
theorem dX3_look_53 : decode cX3_look 53 = .ok (.getfield 24, 3) := by decide +kernel
theorem dX3_look_56 : decode cX3_look 56 = .ok (.getfield 117, 3) := by decide +kernel
theorem dX3_look_59 : decode cX3_look 59 = .ok (.ireturn, 1) := by decide +kernel
theorem dX3_look_60 : decode cX3_look 60 = .ok (.aload_n 0, 1) := by decide +kernel
theorem dX3_look_61 : decode cX3_look 61 = .ok (.getfield 24, 3) := by decide +kernel
theorem dX3_look_64 : decode cX3_look 64 = .ok (.getfield 126, 3) := by decide +kernel
theorem dX3_look_67 : decode cX3_look 67 = .ok (.ireturn, 1) := by decide +kernel
theorem dX3_look_68 : decode cX3_look 68 = .ok (.aload_n 0, 1) := by decide +kernel
theorem dX3_look_69 : decode cX3_look 69 = .ok (.getfield 24, 3) := by decide +kernel
theorem dX3_look_72 : decode cX3_look 72 = .ok (.getfield 129, 3) := by decide +kernel
theorem dX3_look_75 : decode cX3_look 75 = .ok (.ireturn, 1) := by decide +kernel
theorem dX3_look_76 : decode cX3_look 76 = .ok (.aload_n 0, 1) := by decide +kernel
theorem dX3_look_77 : decode cX3_look 77 = .ok (.getfield 24, 3) := by decide +kernel
theorem dX3_look_80 : decode cX3_look 80 = .ok (.getfield 132, 3) := by decide +kernel
theorem dX3_look_83 : decode cX3_look 83 = .ok (.ireturn, 1) := by decide +kernel
theorem dX3_look_84 : decode cX3_look 84 = .ok (.new 48, 3) := by decide +kernel
theorem dX3_look_87 : decode cX3_look 87 = .ok (.dup, 1) := by decide +kernel
theorem dX3_look_88 : decode cX3_look 88 = .ok (.invokespecial 50, 3) := by decide +kernel
theorem dX3_look_91 : decode cX3_look 91 = .ok (.athrow, 1) := by decide +kernel
